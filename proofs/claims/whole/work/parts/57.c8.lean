/-! ===== the class: how many bits ===== -/
def nq1 (x : Nat) : Nat := x - (x / 2 &&& 1431655765)
def nq2 (x : Nat) : Nat := (x &&& 858993459) + (x / 4 &&& 858993459)
def nq3 (x : Nat) : Nat := (x + x / 16) &&& 252645135
def nq4 (x : Nat) : Nat := x + x / 256
def nq5 (x : Nat) : Nat := x + x / 65536
def nbc (x : Nat) : Nat := nq5 (nq4 (nq3 (nq2 (nq1 x)))) &&& 63
def nct (x : Nat) : Nat := x % 2 + x / 2 % 2 + x / 4 % 2 + x / 8 % 2 + x / 16 % 2 + x / 32 % 2 + x / 64 % 2 + x / 128 % 2
/-- 16 bits, all tried: half by half -/
theorem nbc_try : ∀ a, a < 256 → ∀ b, b < 256 → nbc (256 * a + b) = nct a + nct b := by decide +kernel
