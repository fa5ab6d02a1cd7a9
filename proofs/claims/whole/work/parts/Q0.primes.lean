/-! THE REFERENCE: the numbers of the hash are roots of primes -/
def prmL : List Nat := [2, 3, 5, 7, 11, 13, 17, 19, 23, 29, 31, 37, 41, 43, 47, 53, 59, 61, 67, 71, 73, 79, 83, 89, 97, 101, 103, 107, 109, 113, 127, 131, 137, 139, 149, 151, 157, 163, 167, 173, 179, 181, 191, 193, 197, 199, 211, 223, 227, 229, 233, 239, 241, 251, 257, 263, 269, 271, 277, 281, 283, 293, 307, 311]
theorem prm_start : ∀ i, i < 8 → nI (frL (prmL.getD i 0) false 36 0) = ks_row st_SHA_START i := by decide +kernel
theorem prm_round : ∀ i, i < 64 → nI (frL (prmL.getD i 0) true 36 0) = sh_K i := by decide +kernel
/-- how many primes there are below p, of those up to 311 -/
def prmC (p : Nat) : Nat := (prmL.filter (fun q => decide (q < p))).length
theorem prm_all : ∀ p, p < 312 → 2 ≤ p → piF p p 2 = decide (prmL.getD (prmC p) 0 = p) := by decide +kernel
