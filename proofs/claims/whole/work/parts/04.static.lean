/-! ===== the static part of the small machine ===== -/
/-- the static part: what an instruction says is what the tables say -/
def tm_lnk (k pc : Nat) (x : tm_Ins) : Bool :=
  match x with
  | (i, ln, a, b, c, d) => match i with
    | .bipush _ => ln == 2
    | .sipush _ => ln == 3
    | .ldc idx => ln == 2 && ((d == 0 && decide (tm_K[c]? = some (tm_o k, idx, a))) || (d == 1 && ((a == 0 && tm_o k == 4 && idx == 125) || (a == 1 && tm_o k == 10 && idx == 62) || (a == 2 && tm_o k == 6 && idx == 46))))
    | .ldc_w idx => ln == 3 && decide (tm_K[c]? = some (tm_o k, idx, a))
    | .ldc2_w idx => ln == 3 && decide (tm_J[c]? = some (tm_o k, idx, a))
    | .iload _ => ln == 2
    | .aload _ => ln == 2
    | .lload _ => ln == 2
    | .istore _ => ln == 2
    | .astore _ => ln == 2
    | .lstore _ => ln == 2
    | .iinc _ _ => ln == 3
    | .ifCond _ off => ln == 3 && decide (0 ≤ (pc : Int) + off)
    | .if_icmp _ off => ln == 3 && decide (0 ≤ (pc : Int) + off)
    | .goto off => ln == 3 && decide (0 ≤ (pc : Int) + off)
    | .tableswitch df lo hi offs => decide (0 ≤ (pc : Int) + df) && offs.toList.all (fun off => decide (0 ≤ (pc : Int) + off))
    | .lookupswitch df ps => (ps.toList.zip (ps.toList.drop 1)).all (fun (a, next) => a.1 < next.1) && decide (0 ≤ (pc : Int) + df) && ps.toList.all (fun off => decide (0 ≤ (pc : Int) + off.2))
    | .getfield idx => ln == 3 && ((d == 0 && decide (tm_F[c]? = some (tm_o k, idx, a, b, 0))) || (d == 4 && idx == 9 && tm_o k == 13) || (d == 5 && idx == 15 && tm_o k == 13))
    | .putfield idx => ln == 3 && d == 0 && decide (tm_F[c]? = some (tm_o k, idx, a, b, 0)) && (!(tm_T a b).2.2.2 || (tm_kd k == 2 && a == tm_o k))
    | .getstatic idx => ln == 3 && tm_o k == 13 && ((d == 0 && idx == 38) || (d == 1 && idx == 1053))
    | .new idx => ln == 3 && decide (tm_C[c]? = some (tm_o k, idx, a))
    | .newarray _ => ln == 2
    | .anewarray idx => ln == 3 && decide (tm_C[c]? = some (tm_o k, idx, 7))
    | .invokevirtual idx => ln == 3 && (d != 0 || (decide (tm_M[c]? = some (tm_o k, idx, a, 0)) && tm_kd a == 0 && decide (0 < a ∧ a < tm_N ∧ b = tm_p a ∧ tm_f a + 1 ≤ tm_f k ∧ 8 + (tm_x a + 11) + tm_l a ≤ tm_l k)))
    | .invokestatic idx => ln == 3 && (!(d == 1) || ((decide (tm_M[c]? = some (tm_o k, idx, a, 0)) || decide (tm_M[c]? = some (tm_o k, idx, a, 1))) && tm_kd a == 1 && decide (0 < a ∧ a < tm_N ∧ b = tm_p a ∧ tm_f a + 1 ≤ tm_f k ∧ 8 + (tm_x a + 11) + tm_l a ≤ tm_l k))) && (!(d == 9) || decide ((tm_o k, idx) ∈ tm_al)) && (!(d == 6) || decide ((tm_o k, idx) ∈ tm_minl)) && (!(d == 7) || decide ((tm_o k, idx) ∈ tm_maxl))
    | .invokespecial idx => ln == 3 && (!(d == 2) || ((decide (tm_M[c]? = some (tm_o k, idx, a, 0)) || decide (tm_M[c]? = some (tm_o k, idx, a, 1))) && tm_kd a == 2 && decide (0 < a ∧ a < tm_N ∧ b = tm_p a ∧ tm_f a + 1 ≤ tm_f k ∧ 8 + (tm_x a + 11) + tm_l a ≤ tm_l k))) && (!(d == 8) || decide ((tm_o k, idx) ∈ tm_ol))
    | _ => ln == 1
def tm_ok (k pc : Nat) (x : tm_Ins) : Bool := decide (decode (tm_b k) pc = .ok (x.1, x.2.1)) && tm_lnk k pc x
def tm_okm (k : Nat) : Bool := decide (1 ≤ tm_f k ∧ 24 ≤ tm_l k) && (List.range (tm_n k)).all (fun pc => match tm_g k pc with
  | some x => tm_ok k pc x
  | none => true)
