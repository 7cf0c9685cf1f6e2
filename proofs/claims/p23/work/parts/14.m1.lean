/-! the reference, by its row of numbers S = M (a + 1) -/
theorem n_lt_t {a b : Nat} (h : a < b) (hb : b < 2147483648) : (nI a < nI b) = True := by rw [n_lt (by omega) hb]; exact eq_true h
theorem n_lt_f {a b : Nat} (h : ¬ a < b) (ha : a < 2147483648) : (nI a < nI b) = False := by rw [n_lt ha (by omega)]; exact eq_false h
theorem n_eq_t {a b : Nat} (h : a = b) : (nI a = nI b) = True := by rw [h]; exact eq_self _
theorem n_eq_f {a b : Nat} (h : ¬ a = b) (ha : a < 2147483648) (hb : b < 2147483648) : (nI a = nI b) = False := by rw [n_eq ha hb]; exact eq_false h
abbrev Sm : Type := Nat → Int32
def aO (S : Sm) (s j : Nat) : Int32 := S (7 + 9 * s + j)
def aI (S : Sm) (i j : Nat) : Int32 := S (97 + 4 * i + j)
def aL (S : Sm) (k j : Nat) : Int32 := S (161 + 3 * k + j)
def uS (S : Sm) (i : Nat) : Nat := ix (aI S i 0)
def vS (S : Sm) (i : Nat) : Nat := ix (aI S i 1)
def cS (S : Sm) (i : Nat) : Bool := decide (aI S i 2 = nI 1)
def wS (S : Sm) (i : Nat) : Bool := decide (aI S i 3 = nI 1)
def fS (S : Sm) (s : Nat) : Nat := ix (aO S s 1)
def bS (S : Sm) (j s : Nat) : Bool := decide (aO S s j = nI 1)
def onS (S : Sm) (s : Nat) : Bool := decide (fS S s = 2)
def kS (S : Sm) (j : Nat) : Nat := ix (aL S j 0)
def pS (S : Sm) (j : Nat) : Nat := ix (aL S j 1)
/-- what a state of the reference is like, of n sections, k isolators, q steps in the log -/
def Wf (S : Sm) (n k q : Nat) : Prop :=
  (S 0 = nI n ∧ n ≤ 10 ∧ S 1 = nI k ∧ k ≤ 16 ∧ S 5 = nI q ∧ q ≤ 24) ∧
  (∀ i, i < k → (aI S i 0 = nI (uS S i) ∧ uS S i < n) ∧ (aI S i 1 = nI (vS S i) ∧ vS S i < n) ∧ aI S i 2 = nI (cS S i).toNat ∧ aI S i 3 = nI (wS S i).toNat) ∧
  (∀ s, s < n → (aO S s 1 = nI (fS S s) ∧ fS S s ≤ 2) ∧ aO S s 2 = nI (bS S 2 s).toNat ∧ aO S s 3 = nI (bS S 3 s).toNat ∧ aO S s 4 = nI (bS S 4 s).toNat ∧ aO S s 8 = nI (bS S 8 s).toNat) ∧
  (∀ j, j < q → (aL S j 0 = nI (kS S j) ∧ kS S j < 8) ∧ aL S j 1 = nI (pS S j) ∧ pS S j < (if kS S j = 2 ∨ kS S j = 3 then k else n))
section MR
variable {a : Nat} {M : Mm} {n k q : Nat}
def inB (x y z : Int32) : Bool := decide (¬ x < y ∧ ¬ z < x)
def secB (S : Sm) (x : Int32) : Bool := inB x (nI 0) (S 0 - nI 1)
def isoB (S : Sm) (x : Int32) : Bool := inB x (nI 0) (S 1 - nI 1)
theorem in_of {x : Int32} {n : Nat} (hn : n < 1000) (h : inB x (nI 0) (nI n - nI 1) = true) : ∃ s, s < n ∧ x = nI s := by
  simp only [inB, decide_eq_true_eq] at h
  obtain ⟨h1, h2⟩ := h
  obtain ⟨s, hs, rfl⟩ := nI_of (x := x) h1
  refine ⟨s, ?_, rfl⟩
  rcases Nat.eq_zero_or_pos n with h0 | h0
  · subst h0
    exfalso
    apply h2
    have e : nI 0 - nI 1 = -1 := by decide
    rw [e, Int32.lt_iff_toInt_lt, nI_toInt hs]
    have : (-1 : Int32).toInt = -1 := by decide
    omega
  · rw [n_sub (by omega), n_lt (by omega) hs] at h2
    omega
theorem in_to {s n : Nat} (hn : n < 1000) (h : s < n) : inB (nI s) (nI 0) (nI n - nI 1) = true := by
  unfold inB
  rw [n_sub (by omega)]
  simp (disch := omega) only [n_lt_f, not_false_eq_true, and_self, decide_true]
/-! sets, with numbers as nI -/
theorem bs_s (p : Nat → Bool) (i : Nat) : bs p (i + 1) = bs p i ||| (if p i = true then nI 1 <<< (nI i &&& nI 31) else nI 0) := rfl
theorem bs_1 {s n : Nat} (hs : s < n) (hn : n ≤ 32) : nI 1 <<< (nI s &&& nI 31) = bs (fun x => x == s) n := bs_one hs hn
theorem bs_d {p q : Nat → Bool} {n : Nat} (hn : n ≤ 32) : bs p n &&& (bs q n ^^^ -nI 1) = bs (fun i => p i && !q i) n := bs_dif hn
theorem bs_z {p : Nat → Bool} {n : Nat} (hn : n ≤ 32) : (bs p n = nI 0) = ∀ i, i < n → p i = false := bs_0 hn
theorem bs_g {p : Nat → Bool} {n i : Nat} (hn : n ≤ 31) (hi : i < 32) : (bs p n >>> (nI i &&& nI 31)) &&& nI 1 = nI (decide (i < n) && p i).toNat := bs_get hn hi
theorem bs_b (b : Bool) (i : Nat) : nI b.toNat <<< (nI i &&& nI 31) = if b = true then nI 1 <<< (nI i &&& nI 31) else nI 0 := bs_bit b i
theorem bs_e (i : Nat) (c : Prop) [Decidable c] (x : Int32) : (if c then x else nI 0) = (if decide c = true then x else nI 0) := by simp
end MR

