/-! numbers: all literals as nI -/
theorem li_0 : (0 : Int32) = nI 0 := rfl
theorem li_1 : (1 : Int32) = nI 1 := rfl
theorem li_2 : (2 : Int32) = nI 2 := rfl
theorem li_3 : (3 : Int32) = nI 3 := rfl
theorem li_4 : (4 : Int32) = nI 4 := rfl
theorem li_5 : (5 : Int32) = nI 5 := rfl
theorem li_6 : (6 : Int32) = nI 6 := rfl
theorem li_7 : (7 : Int32) = nI 7 := rfl
theorem li_8 : (8 : Int32) = nI 8 := rfl
theorem li_9 : (9 : Int32) = nI 9 := rfl
theorem li_10 : (10 : Int32) = nI 10 := rfl
theorem li_11 : (11 : Int32) = nI 11 := rfl
theorem li_12 : (12 : Int32) = nI 12 := rfl
theorem li_13 : (13 : Int32) = nI 13 := rfl
theorem li_14 : (14 : Int32) = nI 14 := rfl
theorem li_15 : (15 : Int32) = nI 15 := rfl
theorem li_16 : (16 : Int32) = nI 16 := rfl
theorem li_17 : (17 : Int32) = nI 17 := rfl
theorem li_18 : (18 : Int32) = nI 18 := rfl
theorem li_19 : (19 : Int32) = nI 19 := rfl
theorem li_20 : (20 : Int32) = nI 20 := rfl
theorem li_21 : (21 : Int32) = nI 21 := rfl
theorem li_22 : (22 : Int32) = nI 22 := rfl
theorem li_23 : (23 : Int32) = nI 23 := rfl
theorem li_24 : (24 : Int32) = nI 24 := rfl
theorem li_25 : (25 : Int32) = nI 25 := rfl
theorem li_26 : (26 : Int32) = nI 26 := rfl
theorem li_27 : (27 : Int32) = nI 27 := rfl
theorem li_28 : (28 : Int32) = nI 28 := rfl
theorem li_29 : (29 : Int32) = nI 29 := rfl
theorem li_30 : (30 : Int32) = nI 30 := rfl
theorem li_31 : (31 : Int32) = nI 31 := rfl
theorem li_32 : (32 : Int32) = nI 32 := rfl
theorem li_33 : (33 : Int32) = nI 33 := rfl
theorem li_34 : (34 : Int32) = nI 34 := rfl
theorem li_35 : (35 : Int32) = nI 35 := rfl
theorem li_36 : (36 : Int32) = nI 36 := rfl
theorem li_37 : (37 : Int32) = nI 37 := rfl
theorem li_38 : (38 : Int32) = nI 38 := rfl
theorem li_39 : (39 : Int32) = nI 39 := rfl
theorem li_40 : (40 : Int32) = nI 40 := rfl
theorem li_41 : (41 : Int32) = nI 41 := rfl
theorem li_42 : (42 : Int32) = nI 42 := rfl
theorem li_43 : (43 : Int32) = nI 43 := rfl
theorem li_44 : (44 : Int32) = nI 44 := rfl
theorem li_45 : (45 : Int32) = nI 45 := rfl
theorem li_46 : (46 : Int32) = nI 46 := rfl
theorem li_47 : (47 : Int32) = nI 47 := rfl
theorem li_48 : (48 : Int32) = nI 48 := rfl
theorem li_49 : (49 : Int32) = nI 49 := rfl
theorem li_50 : (50 : Int32) = nI 50 := rfl
theorem li_51 : (51 : Int32) = nI 51 := rfl
theorem li_52 : (52 : Int32) = nI 52 := rfl
theorem li_53 : (53 : Int32) = nI 53 := rfl
theorem li_54 : (54 : Int32) = nI 54 := rfl
theorem li_55 : (55 : Int32) = nI 55 := rfl
theorem li_56 : (56 : Int32) = nI 56 := rfl
theorem li_57 : (57 : Int32) = nI 57 := rfl
theorem li_58 : (58 : Int32) = nI 58 := rfl
theorem li_59 : (59 : Int32) = nI 59 := rfl
theorem li_60 : (60 : Int32) = nI 60 := rfl
theorem li_61 : (61 : Int32) = nI 61 := rfl
theorem li_62 : (62 : Int32) = nI 62 := rfl
theorem li_63 : (63 : Int32) = nI 63 := rfl
theorem li_71 : (71 : Int32) = nI 71 := rfl
theorem li_72 : (72 : Int32) = nI 72 := rfl
theorem li_73 : (73 : Int32) = nI 73 := rfl
theorem li_81 : (81 : Int32) = nI 81 := rfl
theorem li_82 : (82 : Int32) = nI 82 := rfl
theorem li_97 : (97 : Int32) = nI 97 := rfl
theorem li_98 : (98 : Int32) = nI 98 := rfl
theorem li_99 : (99 : Int32) = nI 99 := rfl
theorem li_100 : (100 : Int32) = nI 100 := rfl
theorem li_101 : (101 : Int32) = nI 101 := rfl
theorem li_102 : (102 : Int32) = nI 102 := rfl
theorem li_105 : (105 : Int32) = nI 105 := rfl
theorem li_110 : (110 : Int32) = nI 110 := rfl
theorem li_111 : (111 : Int32) = nI 111 := rfl
theorem li_116 : (116 : Int32) = nI 116 := rfl
theorem li_117 : (117 : Int32) = nI 117 := rfl
theorem li_126 : (126 : Int32) = nI 126 := rfl
theorem li_161 : (161 : Int32) = nI 161 := rfl
theorem li_233 : (233 : Int32) = nI 233 := rfl
theorem li_932 : (932 : Int32) = nI 932 := rfl
theorem li_1165 : (1165 : Int32) = nI 1165 := rfl
theorem li_10000 : (10000 : Int32) = nI 10000 := rfl
theorem li_100000 : (100000 : Int32) = nI 100000 := rfl
theorem n_lt {a b : Nat} (ha : a < 2147483648) (hb : b < 2147483648) : (nI a < nI b) = (a < b) := propext (nI_ltI ha hb)
theorem n_eq {a b : Nat} (ha : a < 2147483648) (hb : b < 2147483648) : (nI a = nI b) = (a = b) := propext (nI_eq ha hb)
theorem n_sub {a b : Nat} (h : b ≤ a) : nI a - nI b = nI (a - b) := pk_sub h
theorem n_mul (a b : Nat) : nI a * nI b = nI (a * b) := pk_mul a b
theorem n_ix {a : Nat} (h : a < 2147483648) : (nI a).toNatClampNeg = a := nI_clamp h
theorem n_ckd {i m : Nat} {A : OR} (h : i < m) (hm : i < 2147483648) : ckd (nI i) m A = A := by
  unfold ckd
  rw [if_neg]
  rintro (q | q)
  · exact nI_pos hm q
  · rw [show ix (nI i) = i from nI_clamp hm] at q
    omega
theorem bnd_e {α β : Type} (v : α) (k : α → OQ β) : bnd v k = k v := rfl
theorem obn_s {α β : Type} (r : α) (M : Mm) (k : α → Mm → OQ β) : obn (some (r, M)) k = k r M := rfl
theorem zb_0 : zb (nI 0) = nI 0 := rfl
theorem zb_1 : zb (nI 1) = nI 1 := rfl
theorem zb_b (b : Bool) : zb (nI b.toNat) = nI b.toNat := by cases b <;> rfl
theorem zrk_0 (A : OR) : zrk (nI 0) A = A := rfl
theorem zrk_1 (A : OR) : zrk (nI 1) A = A := rfl
theorem zrk_b (b : Bool) (A : OR) : zrk (nI b.toNat) A = A := by cases b <;> rfl
theorem b0 (b : Bool) : (nI b.toNat = nI 0) = (b = false) := by cases b <;> simp [show ¬ nI 1 = nI 0 by decide]
theorem b1 (b : Bool) : (nI b.toNat = nI 1) = (b = true) := by cases b <;> simp [show ¬ nI 0 = nI 1 by decide]
theorem mst_r (M : Mm) (a i : Nat) (v : Int32) (b j : Nat) : mst M a i v b j = if b = a then (if j = i then v else M b j) else M b j := by
  unfold mst upd
  split <;> rfl
theorem mrow_r (M : Mm) (a : Nat) (f : Nat → Int32) (b : Nat) : mrow M a f b = if b = a then f else M b := rfl
theorem upd_r (f : Nat → Int32) (i : Nat) (v : Int32) (j : Nat) : upd f i v j = if j = i then v else f j := rfl
theorem mrow_self (M : Mm) (a : Nat) : mrow M a (M a) = M := by
  funext b
  by_cases h : b = a
  · subst h; simp [mrow]
  · simp [mrow, h]
theorem mrow_mrow (M : Mm) (a : Nat) (f g : Nat → Int32) : mrow (mrow M a f) a g = mrow M a g := by
  funext b
  by_cases h : b = a
  · subst h; simp [mrow]
  · simp [mrow, h]
theorem mst_mrow (M : Mm) (a : Nat) (f : Nat → Int32) (i : Nat) (v : Int32) : mst (mrow M a f) a i v = mrow M a (upd f i v) := by
  rw [mst_row, mrow_mrow, mrow_at]
/-- a loop that counts up -/
theorem loop_up {α β : Type} (f : Nat → α → OQ β) (σ : Nat → α) (n : Nat) (R : OQ β) (hs : ∀ k i, i < n → f (k + 1) (σ i) = f k (σ (i + 1))) (hx : ∀ k, f (k + 1) (σ n) = R) : ∀ (k i : Nat), i ≤ n → n - i < k → f k (σ i) = R := by
  intro k
  induction k with
  | zero => intro i h1 h2; omega
  | succ k ih =>
    intro i h1 h2
    rcases Nat.lt_or_ge i n with q | q
    · rw [hs k i q]
      exact ih (i + 1) (by omega) (by omega)
    · rw [show i = n by omega]
      exact hx k
/-- .. that may come to its result before -/
theorem loop_ex {α : Type} (f : Nat → α → OR) (σ : Nat → α) (n : Nat) (stop : Nat → Bool) (R1 R2 : OR) (hs : ∀ k i, i < n → stop i = false → f (k + 1) (σ i) = f k (σ (i + 1))) (ht : ∀ k i, i < n → stop i = true → f (k + 1) (σ i) = R1) (hx : ∀ k, f (k + 1) (σ n) = R2) : ∀ (k i : Nat), i ≤ n → n - i < k → (∀ j, j < i → stop j = false) → f k (σ i) = if fb_ct stop n = 0 then R2 else R1 := by
  intro k
  induction k with
  | zero => intro i h1 h2; omega
  | succ k ih =>
    intro i h1 h2 h3
    rcases Nat.lt_or_ge i n with q | q
    · cases hst : stop i
      · rw [hs k i q hst]
        exact ih (i + 1) (by omega) (by omega) (fun j hj => by
          rcases Nat.lt_or_ge j i with z | z
          · exact h3 j z
          · rw [show j = i by omega]; exact hst)
      · rw [ht k i q hst, if_neg]
        intro h
        have := (fb_ct_zero.mp h) i q
        rw [hst] at this
        cases this
    · rw [show i = n by omega, hx k, if_pos]
      rw [fb_ct_zero]
      intro j hj
      exact h3 j (by omega)
/-! sets of places below 32 as bits -/
def bs (p : Nat → Bool) : Nat → Int32
  | 0 => 0
  | i + 1 => bs p i ||| (if p i = true then (1 : Int32) <<< (nI i &&& 31) else 0)
theorem b_one : ∀ s, s < 32 → ∀ i, i < 32 → bt ((1 : Int32) <<< (nI s &&& 31)) i = decide (i = s) := by decide +kernel
theorem bs_bt {p : Nat → Bool} : ∀ {n : Nat}, n ≤ 32 → ∀ i, i < 32 → bt (bs p n) i = (decide (i < n) && p i)
  | 0, _, i, _ => by simp [bs, b_0]
  | n + 1, hn, i, hi => by
    rw [bs, b_or, bs_bt (by omega) i hi]
    cases hp : p n
    · rw [if_neg (by decide), b_0]
      by_cases e : i = n
      · subst e; simp [hp]
      · rw [show decide (i < n + 1) = decide (i < n) by simp only [decide_eq_decide]; omega]; simp
    · rw [if_pos rfl, b_one n (by omega) i hi]
      by_cases e : i = n
      · subst e; simp [hp]
      · rw [show decide (i < n + 1) = decide (i < n) by simp only [decide_eq_decide]; omega]; simp [e]
theorem bs_x {p q : Nat → Bool} {m n : Nat} (hm : m ≤ 32) (hn : n ≤ 32) (h : ∀ i, i < 32 → (decide (i < m) && p i) = (decide (i < n) && q i)) : bs p m = bs q n :=
  b_ext fun i hi => by rw [bs_bt hm i hi, bs_bt hn i hi]; exact h i hi
theorem bs_c {p q : Nat → Bool} {n : Nat} (hn : n ≤ 32) (h : ∀ i, i < n → p i = q i) : bs p n = bs q n := bs_x hn hn fun i _ => by
  by_cases q : i < n
  · rw [h i q]
  · simp [q]
theorem bs_or {p q : Nat → Bool} {n : Nat} (hn : n ≤ 32) : bs p n ||| bs q n = bs (fun i => p i || q i) n :=
  b_ext fun i hi => by rw [b_or, bs_bt hn i hi, bs_bt hn i hi, bs_bt hn i hi]; cases decide (i < n) <;> simp
theorem bs_and {p q : Nat → Bool} {n : Nat} (hn : n ≤ 32) : bs p n &&& bs q n = bs (fun i => p i && q i) n :=
  b_ext fun i hi => by rw [b_and, bs_bt hn i hi, bs_bt hn i hi, bs_bt hn i hi]; cases decide (i < n) <;> simp
theorem bs_dif {p q : Nat → Bool} {n : Nat} (hn : n ≤ 32) : bs p n &&& (bs q n ^^^ (-1)) = bs (fun i => p i && !q i) n :=
  b_ext fun i hi => by rw [b_and, b_xor, b_m1 i hi, bs_bt hn i hi, bs_bt hn i hi, bs_bt hn i hi]; cases decide (i < n) <;> simp
theorem bs_one {s n : Nat} (hs : s < n) (hn : n ≤ 32) : (1 : Int32) <<< (nI s &&& 31) = bs (fun x => x == s) n :=
  b_ext fun i hi => by
    rw [b_one s (by omega) i hi, bs_bt hn i hi]
    by_cases e : i = s
    · subst e; simp [hs]
    · simp [e]
theorem bs_0 {p : Nat → Bool} {n : Nat} (hn : n ≤ 32) : (bs p n = 0) = ∀ i, i < n → p i = false := by
  apply propext
  constructor
  · intro h i hi
    have := bs_bt (p := p) hn i (by omega)
    rw [h, b_0] at this
    simpa [hi] using this.symm
  · intro h
    refine b_ext fun i hi => ?_
    rw [bs_bt hn i hi, b_0]
    by_cases q : i < n
    · rw [h i q]; simp
    · simp [q]
theorem bs_get {p : Nat → Bool} {n i : Nat} (hn : n ≤ 31) (hi : i < 32) : (bs p n >>> (nI i &&& 31)) &&& 1 = nI (decide (i < n) && p i).toNat := by
  refine b_ext fun j hj => ?_
  rw [b_and, b_sshr i hi _ hj]
  have h1 : ∀ j, j < 32 → bt 1 j = decide (j = 0) := by decide +kernel
  rw [h1 j hj]
  by_cases e : j = 0
  · subst e
    rw [Nat.add_zero, if_pos hi, bs_bt (by omega) i hi]
    cases decide (i < n) && p i <;> simp [show bt (nI 0) 0 = false by decide, show bt (nI 1) 0 = true by decide]
  · simp only [e, decide_false, Bool.and_false]
    have h2 : ∀ b : Bool, ∀ j, j < 32 → j ≠ 0 → bt (nI b.toNat) j = false := by decide +kernel
    exact (h2 _ j hj e).symm
theorem bs_n {p : Nat → Bool} {m n : Nat} (h : n ≤ m) (hm : m ≤ 32) : bs p n = bs (fun i => decide (i < n) && p i) m :=
  bs_x (by omega) hm fun i _ => by
    by_cases q : i < n
    · simp [q, show i < m by omega]
    · simp [q]
theorem bs_bit (b : Bool) (i : Nat) : nI b.toNat <<< (nI i &&& 31) = if b = true then (1 : Int32) <<< (nI i &&& 31) else 0 := by
  cases b
  · rw [if_neg (by decide)]
    show (0 : Int32) <<< _ = 0
    simp
  · rfl
theorem bs_all : ∀ n, n ≤ 10 → (1 : Int32) <<< (nI n &&& 31) - 1 = bs (fun _ => true) n := by decide +kernel
/-- how many places a set of ten has, counted as the reference does -/
def bl : Nat → Int32 → Int32 → Option Int32
  | 0, _, _ => none
  | k + 1, a, x => if x = 0 then some a else bl k (a + 1) (x &&& (x - 1))
theorem bl_mono {r : Int32} : ∀ (k d : Nat) (a x : Int32), bl k a x = some r → bl (k + d) a x = some r
  | 0, _, _, _, h => by cases h
  | k + 1, d, a, x, h => by
    rw [show k + 1 + d = (k + d) + 1 by omega]
    unfold bl at h ⊢
    split
    · rename_i q; rw [if_pos q] at h; exact h
    · rename_i q; rw [if_neg q] at h; exact bl_mono k d _ _ h
def pb (a b c d e f g h i j : Bool) : Nat → Bool
  | 0 => a
  | 1 => b
  | 2 => c
  | 3 => d
  | 4 => e
  | 5 => f
  | 6 => g
  | 7 => h
  | 8 => i
  | _ => j
theorem bl_10 : ∀ a b c d e f g h i j : Bool, bl 12 0 (bs (pb a b c d e f g h i j) 10) = some (nI (fb_ct (pb a b c d e f g h i j) 10)) := by decide +kernel
