/-! The game in natural numbers: a row S of 69 numbers (as the reference lays them), and the generator's x. -/
abbrev gm_S : Type := Nat → Nat
def gm_on (S : gm_S) : Bool := decide (0 < S 3 ∧ S 6 < S 0)
def gm_full (S : gm_S) (q : Nat) : Bool := decide (S 2 ≤ S (45 + 4 * q))
/-- which worker of a place would be bumped; 3: none -/
def gm_bk (S : gm_S) (q : Nat) : Nat := if 0 < S (45 + 4 * q) ∧ S (45 + 4 * q + 1 + 0) ≠ S 4 then 0 else if 1 < S (45 + 4 * q) ∧ S (45 + 4 * q + 1 + 1) ≠ S 4 then 1 else if 2 < S (45 + 4 * q) ∧ S (45 + 4 * q + 1 + 2) ≠ S 4 then 2 else 3
def gm_tot (S : gm_S) (p : Nat) : Nat := S (13 + 8 * p) + S (13 + 8 * p + 1) + S (13 + 8 * p + 2) + 2 * S (13 + 8 * p + 3) + 3 * S (13 + 8 * p + 5)
/-- what is to be there behind the bumping -/
def gm_wk (S : gm_S) (q c n : Nat) : Bool := decide ((q = 2 → c ≤ S (13 + 8 * S 4 + 2) ∧ c ≤ n) ∧ (q = 3 → c % 10 ≤ S (13 + 8 * S 4 + (1 + c / 10))) ∧ (q = 4 → 5 ≤ n ∧ S (13 + 8 * S 4 + 5) < 5) ∧ (q = 5 → 2 ≤ n ∧ S (13 + 8 * S 4 + 4) < 30))
/-- what a placing costs for the bumping -/
def gm_toll (S : gm_S) (q : Nat) : Nat := if gm_full S q then S 1 else 0
def gm_can (S : gm_S) (q c : Nat) : Bool := gm_on S && decide (gm_full S q = true → gm_bk S q ≠ 3) && decide (gm_toll S q ≤ S (13 + 8 * S 4)) && gm_wk S q c (S (13 + 8 * S 4) - gm_toll S q)
/-- those behind the place k move up, n of them -/
def gm_sh (S : gm_S) (q k n : Nat) : gm_S := fun i => if 45 + 4 * q + 1 + k ≤ i ∧ i < 45 + 4 * q + 1 + k + n then S (i + 1) else S i
def gm_bump (S : gm_S) (q k : Nat) : gm_S :=
  va_up (va_up (va_up (va_up (gm_sh S q k (S (45 + 4 * q) - 1 - k)) (45 + 4 * q) (S (45 + 4 * q) - 1)) 11 (S 11 + 1)) (13 + 8 * S 4) (S (13 + 8 * S 4) - S 1)) (13 + 8 * S (45 + 4 * q + 1 + k)) (S (13 + 8 * S (45 + 4 * q + 1 + k)) + S 1)
def gm_add (S : gm_S) (q : Nat) : gm_S := va_up (va_up (va_up S (45 + 4 * q + 1 + S (45 + 4 * q)) (S 4)) (45 + 4 * q) (S (45 + 4 * q) + 1)) (13 + 8 * S 4 + 6) (S (13 + 8 * S 4 + 6) - 1)
/-- what n of a good bring, from the price p on -/
def gm_sell (p n : Nat) : Nat := (if 0 < n then max 1 p else 0) + (if 1 < n then max 1 (p - 1) else 0) + (if 2 < n then max 1 (p - 2) else 0)
/-- n of the good g are sold by the player p, one after the other -/
def gm_sst (T : gm_S) (p g n : Nat) : gm_S := fun i => if i = 13 + 8 * p then T i + gm_sell (T (7 + g)) n else if i = 7 + g then max 1 (T i - n) else T i
def gm_do (S : gm_S) (q c : Nat) : gm_S :=
  if q = 0 then va_up S (13 + 8 * S 4 + 1) (S (13 + 8 * S 4 + 1) + S 5)
  else if q = 1 then va_up S (13 + 8 * S 4 + 2) (S (13 + 8 * S 4 + 2) + (7 - S 5))
  else if q = 2 then va_up (va_up (va_up S (13 + 8 * S 4 + 2) (S (13 + 8 * S 4 + 2) - c)) (13 + 8 * S 4) (S (13 + 8 * S 4) - c)) (13 + 8 * S 4 + 3) (S (13 + 8 * S 4 + 3) + 2 * c)
  else if q = 3 then gm_sst (va_up S (13 + 8 * S 4 + (1 + c / 10)) (S (13 + 8 * S 4 + (1 + c / 10)) - c % 10)) (S 4) (c / 10) (c % 10)
  else if q = 4 then va_up (va_up (va_up S (13 + 8 * S 4) (S (13 + 8 * S 4) - 5)) (13 + 8 * S 4 + 5) (S (13 + 8 * S 4 + 5) + 1)) (13 + 8 * S 4 + 6) (S (13 + 8 * S 4 + 6) + 1)
  else va_up (va_up S (13 + 8 * S 4) (S (13 + 8 * S 4) - 2)) (13 + 8 * S 4 + 4) (S (13 + 8 * S 4 + 4) + 3)
/-- a placing, ahead of the next turn -/
def gm_bd (S : gm_S) (q : Nat) : gm_S := if gm_full S q then gm_bump S q (gm_bk S q) else S
def gm_pl (S : gm_S) (q c : Nat) : gm_S := gm_do (gm_add (gm_bd S q) q) q c
/-- whose worker is bumped -/
def gm_who (S : gm_S) (q : Nat) : Int32 := if gm_full S q then nI (S (45 + 4 * q + 1 + gm_bk S q)) else -1
def gm_brg (S : gm_S) (q c : Nat) : Nat := gm_tot (gm_pl S q c) (S 4) + 100 - gm_tot S (S 4)
/-! the end of a round -/
def gm_ov (S : gm_S) (p : Nat) : Nat := S (13 + 8 * p + 1) + S (13 + 8 * p + 2) + S (13 + 8 * p + 3) - S (13 + 8 * p + 4)
def gm_lf (S : gm_S) (p : Nat) : Nat := min (gm_ov S p) (S (13 + 8 * p + 2))
def gm_lr (S : gm_S) (p : Nat) : Nat := min (gm_ov S p - gm_lf S p) (S (13 + 8 * p + 1))
def gm_lc (S : gm_S) (p : Nat) : Nat := gm_ov S p - gm_lf S p - gm_lr S p
def gm_ls (S : gm_S) (p : Nat) : Nat := gm_lr S p + (if S 5 = 1 then (S (13 + 8 * p + 1) - gm_lr S p + 1) / 2 else 0)
def gm_loss (S : gm_S) (p g : Nat) : Nat := if g = 0 then gm_ls S p else if g = 1 then gm_lf S p else gm_lc S p
def gm_ends (S : gm_S) (p : Nat) : gm_S := fun i =>
  if i = 13 + 8 * p + 1 then S i - gm_ls S p
  else if i = 13 + 8 * p + 2 then S i - gm_lf S p
  else if i = 13 + 8 * p + 3 then S i - gm_lc S p
  else if i = 12 then S i + (gm_ls S p + gm_lf S p + gm_lc S p)
  else if i = 13 + 8 * p + 6 then S (13 + 8 * p + 5)
  else if i = 13 + 8 * p + 7 then 0
  else S i
def gm_endsN (S : gm_S) : Nat → gm_S
  | 0 => S
  | n + 1 => gm_ends (gm_endsN S n) n
def gm_nx (x : Int64) : Int64 := x * 6364136223846793005 + 1442695040888963407
def gm_r (x : Int64) : Nat := x.toBitVec.toNat / 2 ^ 33
def gm_die (x : Int64) : Nat := 1 + gm_r x % 6
/-- z: the class's end of a round, that leaves the owners of workers who are gone -/
def gm_end (z : Bool) (S : gm_S) (x : Int64) : gm_S :=
  let T := gm_endsN S (S 3)
  fun i => if i = 4 then (S 10 + 1) % S 3 else if i = 5 then gm_die (gm_nx x) else if i = 6 then T i + 1 else if 7 ≤ i ∧ i < 10 then (if T i < 9 then T i + 1 else T i) else if i = 10 then (S 10 + 1) % S 3
    else if 45 ≤ i ∧ i < 69 ∧ (z = true → (i - 45) % 4 = 0) then 0 else T i
def gm_rdy (S : gm_S) (p : Nat) : Bool := decide (0 < S (13 + 8 * p + 6) ∧ S (13 + 8 * p + 7) = 0)
def gm_fnd (S : gm_S) : Nat → Nat → Nat
  | 0, _ => 4
  | f + 1, k => if gm_rdy S ((S 4 + k) % S 3) then (S 4 + k) % S 3 else gm_fnd S f (k + 1)
def gm_nxt (S : gm_S) : Nat := gm_fnd S (S 3) 1
def gm_go (z : Bool) (S : gm_S) (x : Int64) : gm_S × Int64 := if gm_nxt S = 4 then (gm_end z S x, gm_nx x) else (va_up S 4 (gm_nxt S), x)
def gm_pass (z : Bool) (S : gm_S) (x : Int64) : gm_S × Int64 := gm_go z (va_up S (13 + 8 * S 4 + 7) 1) x
def gm_put (z : Bool) (S : gm_S) (x : Int64) (q c : Nat) : gm_S × Int64 := gm_go z (gm_pl S q c) x
/-! the best placing -/
def gm_all : List (Nat × Nat) := [(0, 0), (1, 0), (2, 1), (2, 2), (2, 3), (3, 1), (3, 2), (3, 3), (3, 11), (3, 12), (3, 13), (3, 21), (3, 22), (3, 23), (4, 0), (5, 0)]
def gm_bs (S : gm_S) (a : Nat × Nat × Nat) (w : Nat × Nat) : Nat × Nat × Nat := if gm_can S w.1 w.2 = true ∧ a.1 < gm_brg S w.1 w.2 then (gm_brg S w.1 w.2, w.1, w.2) else a
def gm_bst (S : gm_S) : Nat × Nat × Nat := gm_all.foldl (gm_bs S) (0, 0, 0)
def gm_play (z : Bool) (S : gm_S) (x : Int64) : gm_S × Int64 := if 100 < (gm_bst S).1 then gm_put z S x (gm_bst S).2.1 (gm_bst S).2.2 else gm_pass z S x
def gm_pans (S : gm_S) : Int32 := if 100 < (gm_bst S).1 then nI (gm_bst S).1 else -1
/-- what a game keeps -/
def gm_I (K : Nat) (S : gm_S) : Prop :=
  (1 ≤ S 0 ∧ S 0 ≤ 12 ∧ S 1 ≤ 5 ∧ 1 ≤ S 2 ∧ S 2 ≤ 3) ∧ (∀ i, i ≠ 11 → i ≠ 12 → S i ≤ K) ∧ K < 2 ^ 26 ∧ (∀ q, q < 6 → S (45 + 4 * q) ≤ 3) ∧
  ((S 3 = 0 ∧ (∀ q, q < 6 → S (45 + 4 * q) = 0)) ∨
   (2 ≤ S 3 ∧ S 3 ≤ 4 ∧ S 4 < S 3 ∧ 1 ≤ S 5 ∧ S 5 ≤ 6 ∧ S 6 ≤ 12 ∧ (∀ g, g < 3 → 1 ≤ S (7 + g) ∧ S (7 + g) ≤ 9) ∧ S 10 < S 3 ∧ gm_rdy S (S 4) = true ∧
    (∀ p, p < S 3 → S (13 + 8 * p + 4) ≤ 32 ∧ 1 ≤ S (13 + 8 * p + 5) ∧ S (13 + 8 * p + 5) ≤ 5 ∧ S (13 + 8 * p + 6) ≤ S (13 + 8 * p + 5) ∧ S (13 + 8 * p + 7) ≤ 1) ∧
    (∀ q k, q < 6 → k < S (45 + 4 * q) → S (45 + 4 * q + 1 + k) < S 3)))
