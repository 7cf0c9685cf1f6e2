/-! the reference, by its row of numbers S = M (a + 1) -/
theorem n_lt_t {a b : Nat} (h : a < b) (hb : b < 2147483648) : (nI a < nI b) = True := by rw [n_lt (by omega) hb]; exact eq_true h
theorem n_lt_f {a b : Nat} (h : ¬ a < b) (ha : a < 2147483648) : (nI a < nI b) = False := by rw [n_lt ha (by omega)]; exact eq_false h
theorem n_eq_t {a b : Nat} (h : a = b) : (nI a = nI b) = True := by rw [h]; exact eq_self _
theorem n_eq_f {a b : Nat} (h : ¬ a = b) (ha : a < 2147483648) (hb : b < 2147483648) : (nI a = nI b) = False := by rw [n_eq ha hb]; exact eq_false h
abbrev Sm : Type := Nat → Int32
def aO (S : Sm) (s j : Nat) : Int32 := S (7 + 9 * s + j)
def aI (S : Sm) (i j : Nat) : Int32 := S (97 + 4 * i + j)
def aL (S : Sm) (k j : Nat) : Int32 := S (161 + 3 * k + j)
def uS (S : Sm) (i : Nat) : Nat := ix (aI S i 0)
def vS (S : Sm) (i : Nat) : Nat := ix (aI S i 1)
def cS (S : Sm) (i : Nat) : Bool := decide (aI S i 2 = nI 1)
def wS (S : Sm) (i : Nat) : Bool := decide (aI S i 3 = nI 1)
def fS (S : Sm) (s : Nat) : Nat := ix (aO S s 1)
def bS (S : Sm) (j s : Nat) : Bool := decide (aO S s j = nI 1)
def onS (S : Sm) (s : Nat) : Bool := decide (fS S s = 2)
def kS (S : Sm) (j : Nat) : Nat := ix (aL S j 0)
def pS (S : Sm) (j : Nat) : Nat := ix (aL S j 1)
/-- what a state of the reference is like, of n sections, k isolators, q steps in the log -/
def Wf (S : Sm) (n k q : Nat) : Prop :=
  (S 0 = nI n ∧ n ≤ 10 ∧ S 1 = nI k ∧ k ≤ 16 ∧ S 5 = nI q ∧ q ≤ 24) ∧
  (∀ i, i < k → (aI S i 0 = nI (uS S i) ∧ uS S i < n) ∧ (aI S i 1 = nI (vS S i) ∧ vS S i < n) ∧ aI S i 2 = nI (cS S i).toNat ∧ aI S i 3 = nI (wS S i).toNat) ∧
  (∀ s, s < n → (aO S s 1 = nI (fS S s) ∧ fS S s ≤ 2) ∧ aO S s 2 = nI (bS S 2 s).toNat ∧ aO S s 3 = nI (bS S 3 s).toNat ∧ aO S s 4 = nI (bS S 4 s).toNat ∧ aO S s 8 = nI (bS S 8 s).toNat) ∧
  (∀ j, j < q → (aL S j 0 = nI (kS S j) ∧ kS S j < 8) ∧ aL S j 1 = nI (pS S j) ∧ pS S j < (if kS S j = 2 ∨ kS S j = 3 then k else n))
section MR
variable {a : Nat} {M : Mm} {n k q : Nat}
theorem m_of {s j : Nat} (h : 7 + 9 * s + j < 233) : f_X9_of a M (nI s) (nI j) = some (aO (M (a + 1)) s j, M) := by
  unfold f_X9_of aO
  simp (disch := omega) only [li_0, li_1, li_2, li_3, li_4, li_5, li_6, li_7, li_8, li_9, li_10, li_11, li_12, li_13, li_14, li_15, li_16, li_17, li_18, li_19, li_20, li_21, li_22, li_23, li_24, li_25, li_26, li_27, li_28, li_29, li_30, li_31, li_32, li_33, li_34, li_35, li_36, li_37, li_38, li_39, li_40, li_41, li_42, li_43, li_44, li_45, li_46, li_47, li_48, li_49, li_50, li_51, li_52, li_53, li_54, li_55, li_56, li_57, li_58, li_59, li_60, li_61, li_62, li_63, li_71, li_72, li_73, li_81, li_82, li_97, li_98, li_99, li_100, li_101, li_102, li_105, li_110, li_111, li_116, li_117, li_126, li_161, li_233, li_932, li_1165, li_10000, li_100000, n_lt_t, n_lt_f, n_eq_t, n_eq_f, nI_add, n_sub, n_mul, n_ix, n_ckd, bnd_e, obn_s, zrk_0, zrk_1, zrk_b, zb_0, zb_1, zb_b, if_true, if_false, Bool.toNat_true, Bool.toNat_false, b0, b1, Bool.false_eq_true, Bool.true_eq_false]
theorem m_at {s j : Nat} (h : 97 + 4 * s + j < 233) : f_X9_at a M (nI s) (nI j) = some (aI (M (a + 1)) s j, M) := by
  unfold f_X9_at aI
  simp (disch := omega) only [li_0, li_1, li_2, li_3, li_4, li_5, li_6, li_7, li_8, li_9, li_10, li_11, li_12, li_13, li_14, li_15, li_16, li_17, li_18, li_19, li_20, li_21, li_22, li_23, li_24, li_25, li_26, li_27, li_28, li_29, li_30, li_31, li_32, li_33, li_34, li_35, li_36, li_37, li_38, li_39, li_40, li_41, li_42, li_43, li_44, li_45, li_46, li_47, li_48, li_49, li_50, li_51, li_52, li_53, li_54, li_55, li_56, li_57, li_58, li_59, li_60, li_61, li_62, li_63, li_71, li_72, li_73, li_81, li_82, li_97, li_98, li_99, li_100, li_101, li_102, li_105, li_110, li_111, li_116, li_117, li_126, li_161, li_233, li_932, li_1165, li_10000, li_100000, n_lt_t, n_lt_f, n_eq_t, n_eq_f, nI_add, n_sub, n_mul, n_ix, n_ckd, bnd_e, obn_s, zrk_0, zrk_1, zrk_b, zb_0, zb_1, zb_b, if_true, if_false, Bool.toNat_true, Bool.toNat_false, b0, b1, Bool.false_eq_true, Bool.true_eq_false]
theorem m_logged {s j : Nat} (h : 161 + 3 * s + j < 233) : f_X9_logged a M (nI s) (nI j) = some (aL (M (a + 1)) s j, M) := by
  unfold f_X9_logged aL
  simp (disch := omega) only [li_0, li_1, li_2, li_3, li_4, li_5, li_6, li_7, li_8, li_9, li_10, li_11, li_12, li_13, li_14, li_15, li_16, li_17, li_18, li_19, li_20, li_21, li_22, li_23, li_24, li_25, li_26, li_27, li_28, li_29, li_30, li_31, li_32, li_33, li_34, li_35, li_36, li_37, li_38, li_39, li_40, li_41, li_42, li_43, li_44, li_45, li_46, li_47, li_48, li_49, li_50, li_51, li_52, li_53, li_54, li_55, li_56, li_57, li_58, li_59, li_60, li_61, li_62, li_63, li_71, li_72, li_73, li_81, li_82, li_97, li_98, li_99, li_100, li_101, li_102, li_105, li_110, li_111, li_116, li_117, li_126, li_161, li_233, li_932, li_1165, li_10000, li_100000, n_lt_t, n_lt_f, n_eq_t, n_eq_f, nI_add, n_sub, n_mul, n_ix, n_ckd, bnd_e, obn_s, zrk_0, zrk_1, zrk_b, zb_0, zb_1, zb_b, if_true, if_false, Bool.toNat_true, Bool.toNat_false, b0, b1, Bool.false_eq_true, Bool.true_eq_false]
theorem m_put {s j : Nat} (x : Int32) (h : 7 + 9 * s + j < 233) : f_X9_put a M (nI s) (nI j) x = some (nI 0, mst M (a + 1) (7 + 9 * s + j) x) := by
  unfold f_X9_put
  simp (disch := omega) only [li_0, li_1, li_2, li_3, li_4, li_5, li_6, li_7, li_8, li_9, li_10, li_11, li_12, li_13, li_14, li_15, li_16, li_17, li_18, li_19, li_20, li_21, li_22, li_23, li_24, li_25, li_26, li_27, li_28, li_29, li_30, li_31, li_32, li_33, li_34, li_35, li_36, li_37, li_38, li_39, li_40, li_41, li_42, li_43, li_44, li_45, li_46, li_47, li_48, li_49, li_50, li_51, li_52, li_53, li_54, li_55, li_56, li_57, li_58, li_59, li_60, li_61, li_62, li_63, li_71, li_72, li_73, li_81, li_82, li_97, li_98, li_99, li_100, li_101, li_102, li_105, li_110, li_111, li_116, li_117, li_126, li_161, li_233, li_932, li_1165, li_10000, li_100000, n_lt_t, n_lt_f, n_eq_t, n_eq_f, nI_add, n_sub, n_mul, n_ix, n_ckd, bnd_e, obn_s, zrk_0, zrk_1, zrk_b, zb_0, zb_1, zb_b, if_true, if_false, Bool.toNat_true, Bool.toNat_false, b0, b1, Bool.false_eq_true, Bool.true_eq_false]
theorem m_lay {s j : Nat} (x : Int32) (h : 97 + 4 * s + j < 233) : f_X9_lay a M (nI s) (nI j) x = some (nI 0, mst M (a + 1) (97 + 4 * s + j) x) := by
  unfold f_X9_lay
  simp (disch := omega) only [li_0, li_1, li_2, li_3, li_4, li_5, li_6, li_7, li_8, li_9, li_10, li_11, li_12, li_13, li_14, li_15, li_16, li_17, li_18, li_19, li_20, li_21, li_22, li_23, li_24, li_25, li_26, li_27, li_28, li_29, li_30, li_31, li_32, li_33, li_34, li_35, li_36, li_37, li_38, li_39, li_40, li_41, li_42, li_43, li_44, li_45, li_46, li_47, li_48, li_49, li_50, li_51, li_52, li_53, li_54, li_55, li_56, li_57, li_58, li_59, li_60, li_61, li_62, li_63, li_71, li_72, li_73, li_81, li_82, li_97, li_98, li_99, li_100, li_101, li_102, li_105, li_110, li_111, li_116, li_117, li_126, li_161, li_233, li_932, li_1165, li_10000, li_100000, n_lt_t, n_lt_f, n_eq_t, n_eq_f, nI_add, n_sub, n_mul, n_ix, n_ckd, bnd_e, obn_s, zrk_0, zrk_1, zrk_b, zb_0, zb_1, zb_b, if_true, if_false, Bool.toNat_true, Bool.toNat_false, b0, b1, Bool.false_eq_true, Bool.true_eq_false]
def inB (x y z : Int32) : Bool := decide (¬ x < y ∧ ¬ z < x)
theorem m_in (x y z : Int32) : f_X9_in M x y z = some (nI (inB x y z).toNat, M) := by
  unfold f_X9_in b_X9_in_14 b_X9_in_15 inB
  by_cases h1 : x < y
  · simp [h1, zrk_0]; rfl
  · by_cases h2 : z < x
    · simp [h1, h2]; rfl
    · simp [h1, h2]; rfl
def secB (S : Sm) (x : Int32) : Bool := inB x (nI 0) (S 0 - nI 1)
def isoB (S : Sm) (x : Int32) : Bool := inB x (nI 0) (S 1 - nI 1)
theorem m_isSection (x : Int32) : f_X9_isSection a M x = some (nI (secB (M (a + 1)) x).toNat, M) := by
  unfold f_X9_isSection
  simp (disch := omega) only [li_0, li_1, li_2, li_3, li_4, li_5, li_6, li_7, li_8, li_9, li_10, li_11, li_12, li_13, li_14, li_15, li_16, li_17, li_18, li_19, li_20, li_21, li_22, li_23, li_24, li_25, li_26, li_27, li_28, li_29, li_30, li_31, li_32, li_33, li_34, li_35, li_36, li_37, li_38, li_39, li_40, li_41, li_42, li_43, li_44, li_45, li_46, li_47, li_48, li_49, li_50, li_51, li_52, li_53, li_54, li_55, li_56, li_57, li_58, li_59, li_60, li_61, li_62, li_63, li_71, li_72, li_73, li_81, li_82, li_97, li_98, li_99, li_100, li_101, li_102, li_105, li_110, li_111, li_116, li_117, li_126, li_161, li_233, li_932, li_1165, li_10000, li_100000, n_lt_t, n_lt_f, n_eq_t, n_eq_f, nI_add, n_sub, n_mul, n_ix, n_ckd, bnd_e, obn_s, zrk_0, zrk_1, zrk_b, zb_0, zb_1, zb_b, if_true, if_false, Bool.toNat_true, Bool.toNat_false, b0, b1, Bool.false_eq_true, Bool.true_eq_false, m_in, secB]
theorem m_isIsolator (x : Int32) : f_X9_isIsolator a M x = some (nI (isoB (M (a + 1)) x).toNat, M) := by
  unfold f_X9_isIsolator
  simp (disch := omega) only [li_0, li_1, li_2, li_3, li_4, li_5, li_6, li_7, li_8, li_9, li_10, li_11, li_12, li_13, li_14, li_15, li_16, li_17, li_18, li_19, li_20, li_21, li_22, li_23, li_24, li_25, li_26, li_27, li_28, li_29, li_30, li_31, li_32, li_33, li_34, li_35, li_36, li_37, li_38, li_39, li_40, li_41, li_42, li_43, li_44, li_45, li_46, li_47, li_48, li_49, li_50, li_51, li_52, li_53, li_54, li_55, li_56, li_57, li_58, li_59, li_60, li_61, li_62, li_63, li_71, li_72, li_73, li_81, li_82, li_97, li_98, li_99, li_100, li_101, li_102, li_105, li_110, li_111, li_116, li_117, li_126, li_161, li_233, li_932, li_1165, li_10000, li_100000, n_lt_t, n_lt_f, n_eq_t, n_eq_f, nI_add, n_sub, n_mul, n_ix, n_ckd, bnd_e, obn_s, zrk_0, zrk_1, zrk_b, zb_0, zb_1, zb_b, if_true, if_false, Bool.toNat_true, Bool.toNat_false, b0, b1, Bool.false_eq_true, Bool.true_eq_false, m_in, isoB]
theorem in_of {x : Int32} {n : Nat} (hn : n < 1000) (h : inB x (nI 0) (nI n - nI 1) = true) : ∃ s, s < n ∧ x = nI s := by
  simp only [inB, decide_eq_true_eq] at h
  obtain ⟨h1, h2⟩ := h
  obtain ⟨s, hs, rfl⟩ := nI_of (x := x) h1
  refine ⟨s, ?_, rfl⟩
  rcases Nat.eq_zero_or_pos n with h0 | h0
  · subst h0
    exfalso
    apply h2
    have e : nI 0 - nI 1 = -1 := by decide
    rw [e, Int32.lt_iff_toInt_lt, nI_toInt hs]
    have : (-1 : Int32).toInt = -1 := by decide
    omega
  · rw [n_sub (by omega), n_lt (by omega) hs] at h2
    omega
theorem in_to {s n : Nat} (hn : n < 1000) (h : s < n) : inB (nI s) (nI 0) (nI n - nI 1) = true := by
  unfold inB
  rw [n_sub (by omega)]
  simp (disch := omega) only [n_lt_f, not_false_eq_true, and_self, decide_true]
/-! sets, with numbers as nI -/
theorem bs_s (p : Nat → Bool) (i : Nat) : bs p (i + 1) = bs p i ||| (if p i = true then nI 1 <<< (nI i &&& nI 31) else nI 0) := rfl
theorem bs_1 {s n : Nat} (hs : s < n) (hn : n ≤ 32) : nI 1 <<< (nI s &&& nI 31) = bs (fun x => x == s) n := bs_one hs hn
theorem bs_d {p q : Nat → Bool} {n : Nat} (hn : n ≤ 32) : bs p n &&& (bs q n ^^^ -nI 1) = bs (fun i => p i && !q i) n := bs_dif hn
theorem bs_z {p : Nat → Bool} {n : Nat} (hn : n ≤ 32) : (bs p n = nI 0) = ∀ i, i < n → p i = false := bs_0 hn
theorem bs_g {p : Nat → Bool} {n i : Nat} (hn : n ≤ 31) (hi : i < 32) : (bs p n >>> (nI i &&& nI 31)) &&& nI 1 = nI (decide (i < n) && p i).toNat := bs_get hn hi
theorem bs_b (b : Bool) (i : Nat) : nI b.toNat <<< (nI i &&& nI 31) = if b = true then nI 1 <<< (nI i &&& nI 31) else nI 0 := bs_bit b i
theorem bs_e (i : Nat) (c : Prop) [Decidable c] (x : Int32) : (if c then x else nI 0) = (if decide c = true then x else nI 0) := by simp
theorem m_closedOnes (W : Wf (M (a + 1)) n k q) : f_X9_closedOnes a M = some (bs (cS (M (a + 1))) k, M) := by
  obtain ⟨⟨-, -, e1, hk, -⟩, WI, -⟩ := W
  unfold f_X9_closedOnes
  refine loop_up (fun k' (z : Mm × Int32 × Int32) => l_X9_closedOnes_4 a k' z.1 z.2.1 z.2.2) (fun i => (M, bs (cS (M (a + 1))) i, nI i)) k (some (bs (cS (M (a + 1))) k, M)) ?_ ?_ FU 0 (Nat.zero_le _) (by show _ < 4000; omega)
  · intro k' i hi
    show l_X9_closedOnes_4 a (k' + 1) M _ (nI i) = l_X9_closedOnes_4 a k' M _ (nI (i + 1))
    rw [l_X9_closedOnes_4]
    simp (disch := omega) only [li_0, li_1, li_2, li_3, li_4, li_5, li_6, li_7, li_8, li_9, li_10, li_11, li_12, li_13, li_14, li_15, li_16, li_17, li_18, li_19, li_20, li_21, li_22, li_23, li_24, li_25, li_26, li_27, li_28, li_29, li_30, li_31, li_32, li_33, li_34, li_35, li_36, li_37, li_38, li_39, li_40, li_41, li_42, li_43, li_44, li_45, li_46, li_47, li_48, li_49, li_50, li_51, li_52, li_53, li_54, li_55, li_56, li_57, li_58, li_59, li_60, li_61, li_62, li_63, li_71, li_72, li_73, li_81, li_82, li_97, li_98, li_99, li_100, li_101, li_102, li_105, li_110, li_111, li_116, li_117, li_126, li_161, li_233, li_932, li_1165, li_10000, li_100000, n_lt_t, n_lt_f, n_eq_t, n_eq_f, nI_add, n_sub, n_mul, n_ix, n_ckd, bnd_e, obn_s, zrk_0, zrk_1, zrk_b, zb_0, zb_1, zb_b, if_true, if_false, Bool.toNat_true, Bool.toNat_false, b0, b1, Bool.false_eq_true, Bool.true_eq_false, e1, m_at, (WI i hi).2.2.1, bs_b, bs_s]
  · intro k'
    show l_X9_closedOnes_4 a (k' + 1) M _ (nI k) = _
    rw [l_X9_closedOnes_4]
    simp (disch := omega) only [li_0, li_1, li_2, li_3, li_4, li_5, li_6, li_7, li_8, li_9, li_10, li_11, li_12, li_13, li_14, li_15, li_16, li_17, li_18, li_19, li_20, li_21, li_22, li_23, li_24, li_25, li_26, li_27, li_28, li_29, li_30, li_31, li_32, li_33, li_34, li_35, li_36, li_37, li_38, li_39, li_40, li_41, li_42, li_43, li_44, li_45, li_46, li_47, li_48, li_49, li_50, li_51, li_52, li_53, li_54, li_55, li_56, li_57, li_58, li_59, li_60, li_61, li_62, li_63, li_71, li_72, li_73, li_81, li_82, li_97, li_98, li_99, li_100, li_101, li_102, li_105, li_110, li_111, li_116, li_117, li_126, li_161, li_233, li_932, li_1165, li_10000, li_100000, n_lt_t, n_lt_f, n_eq_t, n_eq_f, nI_add, n_sub, n_mul, n_ix, n_ckd, bnd_e, obn_s, zrk_0, zrk_1, zrk_b, zb_0, zb_1, zb_b, if_true, if_false, Bool.toNat_true, Bool.toNat_false, b0, b1, Bool.false_eq_true, Bool.true_eq_false, e1]
theorem m_onOnes (W : Wf (M (a + 1)) n k q) : f_X9_onOnes a M = some (bs (onS (M (a + 1))) n, M) := by
  obtain ⟨⟨e0, hn, -⟩, -, WO, -⟩ := W
  unfold f_X9_onOnes
  refine loop_up (fun k' (z : Mm × Int32 × Int32) => l_X9_onOnes_4 a k' z.1 z.2.1 z.2.2) (fun i => (M, bs (onS (M (a + 1))) i, nI i)) n (some (bs (onS (M (a + 1))) n, M)) ?_ ?_ FU 0 (Nat.zero_le _) (by show _ < 4000; omega)
  · intro k' i hi
    show l_X9_onOnes_4 a (k' + 1) M _ (nI i) = l_X9_onOnes_4 a k' M _ (nI (i + 1))
    rw [l_X9_onOnes_4]
    have e : (nI (fS (M (a + 1)) i) = nI 2) = (onS (M (a + 1)) i = true) := by
      have := (WO i hi).1.2
      rw [n_eq (by omega) (by omega)]
      simp [onS]
    simp (disch := omega) only [li_0, li_1, li_2, li_3, li_4, li_5, li_6, li_7, li_8, li_9, li_10, li_11, li_12, li_13, li_14, li_15, li_16, li_17, li_18, li_19, li_20, li_21, li_22, li_23, li_24, li_25, li_26, li_27, li_28, li_29, li_30, li_31, li_32, li_33, li_34, li_35, li_36, li_37, li_38, li_39, li_40, li_41, li_42, li_43, li_44, li_45, li_46, li_47, li_48, li_49, li_50, li_51, li_52, li_53, li_54, li_55, li_56, li_57, li_58, li_59, li_60, li_61, li_62, li_63, li_71, li_72, li_73, li_81, li_82, li_97, li_98, li_99, li_100, li_101, li_102, li_105, li_110, li_111, li_116, li_117, li_126, li_161, li_233, li_932, li_1165, li_10000, li_100000, n_lt_t, n_lt_f, n_eq_t, n_eq_f, nI_add, n_sub, n_mul, n_ix, n_ckd, bnd_e, obn_s, zrk_0, zrk_1, zrk_b, zb_0, zb_1, zb_b, if_true, if_false, Bool.toNat_true, Bool.toNat_false, b0, b1, Bool.false_eq_true, Bool.true_eq_false, e0, m_of, (WO i hi).1.1, b_X9_onOnes_32, bs_s, e]
    cases onS (M (a + 1)) i <;> simp only [li_0, li_1, li_2, li_3, li_4, li_5, li_6, li_7, li_8, li_9, li_10, li_11, li_12, li_13, li_14, li_15, li_16, li_17, li_18, li_19, li_20, li_21, li_22, li_23, li_24, li_25, li_26, li_27, li_28, li_29, li_30, li_31, li_32, li_33, li_34, li_35, li_36, li_37, li_38, li_39, li_40, li_41, li_42, li_43, li_44, li_45, li_46, li_47, li_48, li_49, li_50, li_51, li_52, li_53, li_54, li_55, li_56, li_57, li_58, li_59, li_60, li_61, li_62, li_63, li_71, li_72, li_73, li_81, li_82, li_97, li_98, li_99, li_100, li_101, li_102, li_105, li_110, li_111, li_116, li_117, li_126, li_161, li_233, li_932, li_1165, li_10000, li_100000, n_lt_t, n_lt_f, n_eq_t, n_eq_f, nI_add, n_sub, n_mul, n_ix, n_ckd, bnd_e, obn_s, zrk_0, zrk_1, zrk_b, zb_0, zb_1, zb_b, if_true, if_false, Bool.toNat_true, Bool.toNat_false, b0, b1, Bool.false_eq_true, Bool.true_eq_false]
  · intro k'
    show l_X9_onOnes_4 a (k' + 1) M _ (nI n) = _
    rw [l_X9_onOnes_4]
    simp (disch := omega) only [li_0, li_1, li_2, li_3, li_4, li_5, li_6, li_7, li_8, li_9, li_10, li_11, li_12, li_13, li_14, li_15, li_16, li_17, li_18, li_19, li_20, li_21, li_22, li_23, li_24, li_25, li_26, li_27, li_28, li_29, li_30, li_31, li_32, li_33, li_34, li_35, li_36, li_37, li_38, li_39, li_40, li_41, li_42, li_43, li_44, li_45, li_46, li_47, li_48, li_49, li_50, li_51, li_52, li_53, li_54, li_55, li_56, li_57, li_58, li_59, li_60, li_61, li_62, li_63, li_71, li_72, li_73, li_81, li_82, li_97, li_98, li_99, li_100, li_101, li_102, li_105, li_110, li_111, li_116, li_117, li_126, li_161, li_233, li_932, li_1165, li_10000, li_100000, n_lt_t, n_lt_f, n_eq_t, n_eq_f, nI_add, n_sub, n_mul, n_ix, n_ckd, bnd_e, obn_s, zrk_0, zrk_1, zrk_b, zb_0, zb_1, zb_b, if_true, if_false, Bool.toNat_true, Bool.toNat_false, b0, b1, Bool.false_eq_true, Bool.true_eq_false, e0]
theorem m_with (W : Wf (M (a + 1)) n k q) {j : Nat} (hj : j < 9) : f_X9_with a M (nI j) = some (bs (fun s => decide (nI 0 < aO (M (a + 1)) s j)) n, M) := by
  obtain ⟨⟨e0, hn, -⟩, -⟩ := W
  unfold f_X9_with
  refine loop_up (fun k' (z : Mm × Int32 × Int32) => l_X9_with_4 a (nI j) k' z.1 z.2.1 z.2.2) (fun i => (M, bs (fun s => decide (nI 0 < aO (M (a + 1)) s j)) i, nI i)) n (some (bs (fun s => decide (nI 0 < aO (M (a + 1)) s j)) n, M)) ?_ ?_ FU 0 (Nat.zero_le _) (by show _ < 4000; omega)
  · intro k' i hi
    show l_X9_with_4 a (nI j) (k' + 1) M _ (nI i) = l_X9_with_4 a (nI j) k' M _ (nI (i + 1))
    rw [l_X9_with_4]
    simp (disch := omega) only [li_0, li_1, li_2, li_3, li_4, li_5, li_6, li_7, li_8, li_9, li_10, li_11, li_12, li_13, li_14, li_15, li_16, li_17, li_18, li_19, li_20, li_21, li_22, li_23, li_24, li_25, li_26, li_27, li_28, li_29, li_30, li_31, li_32, li_33, li_34, li_35, li_36, li_37, li_38, li_39, li_40, li_41, li_42, li_43, li_44, li_45, li_46, li_47, li_48, li_49, li_50, li_51, li_52, li_53, li_54, li_55, li_56, li_57, li_58, li_59, li_60, li_61, li_62, li_63, li_71, li_72, li_73, li_81, li_82, li_97, li_98, li_99, li_100, li_101, li_102, li_105, li_110, li_111, li_116, li_117, li_126, li_161, li_233, li_932, li_1165, li_10000, li_100000, n_lt_t, n_lt_f, n_eq_t, n_eq_f, nI_add, n_sub, n_mul, n_ix, n_ckd, bnd_e, obn_s, zrk_0, zrk_1, zrk_b, zb_0, zb_1, zb_b, if_true, if_false, Bool.toNat_true, Bool.toNat_false, b0, b1, Bool.false_eq_true, Bool.true_eq_false, e0, m_of, b_X9_with_31, bs_s]
    by_cases h : nI 0 < aO (M (a + 1)) i j
    · simp only [h, decide_true, if_true]
    · simp only [h, decide_false, if_false, Bool.false_eq_true]
  · intro k'
    show l_X9_with_4 a (nI j) (k' + 1) M _ (nI n) = _
    rw [l_X9_with_4]
    simp (disch := omega) only [li_0, li_1, li_2, li_3, li_4, li_5, li_6, li_7, li_8, li_9, li_10, li_11, li_12, li_13, li_14, li_15, li_16, li_17, li_18, li_19, li_20, li_21, li_22, li_23, li_24, li_25, li_26, li_27, li_28, li_29, li_30, li_31, li_32, li_33, li_34, li_35, li_36, li_37, li_38, li_39, li_40, li_41, li_42, li_43, li_44, li_45, li_46, li_47, li_48, li_49, li_50, li_51, li_52, li_53, li_54, li_55, li_56, li_57, li_58, li_59, li_60, li_61, li_62, li_63, li_71, li_72, li_73, li_81, li_82, li_97, li_98, li_99, li_100, li_101, li_102, li_105, li_110, li_111, li_116, li_117, li_126, li_161, li_233, li_932, li_1165, li_10000, li_100000, n_lt_t, n_lt_f, n_eq_t, n_eq_f, nI_add, n_sub, n_mul, n_ix, n_ckd, bnd_e, obn_s, zrk_0, zrk_1, zrk_b, zb_0, zb_1, zb_b, if_true, if_false, Bool.toNat_true, Bool.toNat_false, b0, b1, Bool.false_eq_true, Bool.true_eq_false, e0]
end MR
