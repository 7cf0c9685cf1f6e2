/-! the reference: sums, counts, refusals -/
def sumI (f : Nat → Int32) : Nat → Int32
  | 0 => nI 0
  | i + 1 => sumI f i + f i
theorem sumI_c {f g : Nat → Int32} : ∀ {n : Nat}, (∀ i, i < n → f i = g i) → sumI f n = sumI g n
  | 0, _ => rfl
  | n + 1, h => by simp only [sumI]; rw [sumI_c (fun i hi => h i (by omega)), h n (by omega)]
theorem add_0 (x : Int32) : x + nI 0 = x := by show x + 0 = x; simp
theorem or_0 (x : Int32) : x ||| nI 0 = x := by show x ||| 0 = x; simp
/-- terms that are 0 from n on -/
theorem sumI_z {f : Nat → Int32} {n : Nat} : ∀ {d : Nat}, (∀ i, n ≤ i → i < n + d → f i = nI 0) → sumI f (n + d) = sumI f n
  | 0, _ => rfl
  | d + 1, h => by
    rw [← Nat.add_assoc, sumI, sumI_z (fun i h1 h2 => h i h1 (by omega)), h (n + d) (by omega) (by omega), add_0]
theorem ct_z {p : Nat → Bool} {n : Nat} : ∀ {d : Nat}, (∀ i, n ≤ i → i < n + d → p i = false) → fb_ct p (n + d) = fb_ct p n
  | 0, _ => rfl
  | d + 1, h => by
    rw [← Nat.add_assoc, fb_ct_succ, ct_z (fun i h1 h2 => h i h1 (by omega)), h (n + d) (by omega) (by omega)]
    simp
theorem ct_10 {p : Nat → Bool} {n : Nat} (hn : n ≤ 10) : fb_ct (fun i => decide (i < n) && p i) 10 = fb_ct p n := by
  have h1 := ct_z (p := fun i => decide (i < n) && p i) (n := n) (d := 10 - n) (fun i h1 _ => by simp; omega)
  rw [show n + (10 - n) = 10 by omega] at h1
  rw [h1]
  exact fb_ct_cong fun i hi => by simp [hi]
section MS
variable {a : Nat} {M : Mm} {n k q : Nat}
def buS (S : Sm) (s : Nat) : Int32 := if bS S 2 s = true then aO S s 0 else nI 0
def frS (S : Sm) (n : Nat) : Int32 := S 2 - sumI (buS S) n
/-- what hangs together with one of the first s sections -/
def mtS (S : Sm) (k : Nat) : Nat → Nat → Bool
  | 0 => fun _ => false
  | s + 1 => fun x => mtS S k s x || its (psS S k (cS S)) 10 (fun y => y == s) x
/-- some section of a set and not of another has a number above 0 -/
def anB (S : Sm) (n : Nat) (A B : Nat → Bool) (j : Nat) : Bool := decide (fb_ct (fun s => (A s && !B s) && (decide (s < n) && decide (nI 0 < aO S s j))) 10 ≠ 0)
def agS (S : Sm) (n : Nat) (B A : Nat → Bool) : Nat := if anB S n A B 3 = true then 1 else if anB S n A B 7 = true then 2 else 0
def cOp (S : Sm) (i0 i : Nat) : Bool := cS S i && !(i == i0)
def cCl (S : Sm) (i0 i : Nat) : Bool := cS S i || i == i0
def lwS (S : Sm) (n k : Nat) (c on : Nat → Bool) (s : Nat) : Bool := decide (s < n) && lvb S k c on s
/-- sections that are run by trams would become dead -/
def dkB (S : Sm) (n k : Nat) (A : Nat → Bool) : Bool := decide (fb_ct (fun s => (lvS S n k s && !A s) && (decide (s < n) && !bS S 2 s)) 10 ≠ 0)
def liS (S : Sm) (n k : Nat) (A : Nat → Bool) (r : Nat) : Nat := if agS S n (lvS S n k) A = 0 then 0 else r + agS S n (lvS S n k) A - 1
theorem ag_le (S : Sm) (n : Nat) (B A : Nat → Bool) : agS S n B A ≤ 2 := by
  unfold agS
  split
  · omega
  · split <;> omega
/-- the reasons against a step -/
def rfS (S : Sm) (n k x p : Nat) : Nat :=
  if x = 0 then (if bS S 2 p = true then 11 else if frS S n < aO S p 0 then 12 else 0)
  else if x = 1 then (if bS S 2 p = true then (if lvS S n k p = true then (if nI 0 < aO S p 7 then 23 else 0) else 22) else 21)
  else if x = 2 then (if cS S p = true then (if dkB S n k (lwS S n k (cOp S p) (onx S n)) = true then 32 else 0) else 31)
  else if x = 3 then (if cS S p = true then 41 else liS S n k (lwS S n k (cCl S p) (onx S n)) 42)
  else if x = 4 then (if fS S p = 2 then (if dkB S n k (lwS S n k (cS S) (fun s => onx S n s && !(s == p))) = true then 52 else 0) else 51)
  else if x = 5 then (if fS S p = 1 then liS S n k (lwS S n k (cS S) (fun s => onx S n s || s == p)) 62 else 61)
  else if x = 6 then (if bS S 3 p = true then 71 else if lvS S n k p = true then 72 else if bS S 2 p = true then 0 else 73)
  else (if bS S 3 p = true then (if bS S 4 p = true then 82 else 0) else 81)
theorem rf_0 (S : Sm) (n k p : Nat) : rfS S n k 0 p = if bS S 2 p = true then 11 else if frS S n < aO S p 0 then 12 else 0 := rfl
theorem rf_1 (S : Sm) (n k p : Nat) : rfS S n k 1 p = if bS S 2 p = true then (if lvS S n k p = true then (if nI 0 < aO S p 7 then 23 else 0) else 22) else 21 := rfl
theorem rf_2 (S : Sm) (n k p : Nat) : rfS S n k 2 p = if cS S p = true then (if dkB S n k (lwS S n k (cOp S p) (onx S n)) = true then 32 else 0) else 31 := rfl
theorem rf_3 (S : Sm) (n k p : Nat) : rfS S n k 3 p = if cS S p = true then 41 else liS S n k (lwS S n k (cCl S p) (onx S n)) 42 := rfl
theorem rf_4 (S : Sm) (n k p : Nat) : rfS S n k 4 p = if fS S p = 2 then (if dkB S n k (lwS S n k (cS S) (fun s => onx S n s && !(s == p))) = true then 52 else 0) else 51 := rfl
theorem rf_5 (S : Sm) (n k p : Nat) : rfS S n k 5 p = if fS S p = 1 then liS S n k (lwS S n k (cS S) (fun s => onx S n s || s == p)) 62 else 61 := rfl
theorem rf_6 (S : Sm) (n k p : Nat) : rfS S n k 6 p = if bS S 3 p = true then 71 else if lvS S n k p = true then 72 else if bS S 2 p = true then 0 else 73 := rfl
theorem rf_7 (S : Sm) (n k p : Nat) : rfS S n k 7 p = if bS S 3 p = true then (if bS S 4 p = true then 82 else 0) else 81 := rfl
/-- there is such a place -/
def plc (n k x p : Nat) : Prop := p < (if x = 2 ∨ x = 3 then k else n)
end MS

