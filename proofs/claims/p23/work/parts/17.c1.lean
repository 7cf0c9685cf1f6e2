/-! the class's net -/
theorem mrow_n {M : Mm} {a : Nat} {f : Nat → Int32} {b : Nat} (h : b ≠ a) : mrow M a f b = M b := mrow_ne h
theorem mst_n {M : Mm} {a i : Nat} {v : Int32} {b : Nat} (h : b ≠ a) : mst M a i v b = M b := mst_ne h
theorem upd_n {f : Nat → Int32} {i : Nat} {v : Int32} {j : Nat} (h : j ≠ i) : upd f i v j = f j := by simp [upd, h]
theorem upd_at (f : Nat → Int32) (i : Nat) (v : Int32) : upd f i v i = v := by simp [upd]
theorem mrow_c (M : Mm) (a : Nat) {f g : Nat → Int32} (h : ∀ j, f j = g j) : mrow M a f = mrow M a g := by rw [show f = g from funext h]
/-- a section is live: one that hangs together with it is fed -/
def lvq (u v : Nat → Nat) (k : Nat) (c on : Nat → Bool) (s : Nat) : Bool := decide (fb_ct (fun x => its (ps u v c k) 10 (fun y => y == s) x && on x) 10 ≠ 0)
theorem lvq_iff {u v : Nat → Nat} {n k : Nat} (hn : n ≤ 10) (hb : ∀ i, i < k → u i < n ∧ v i < n) (c on : Nat → Bool) {s : Nat} (hs : s < n) : lvq u v k c on s = true ↔ ∃ x, x < n ∧ on x = true ∧ cn k u v c s x := by
  have hi : ∀ x, its (ps u v c k) 10 (fun y => y == s) x = true ↔ cn k u v c s x := fun x => by
    rw [its_iff hb (T := fun y => y == s) (fun y hy => by simp at hy; omega) (by omega)]
    constructor
    · rintro ⟨y, h1, h2⟩
      simp at h1
      rw [← h1]; exact h2
    · intro h
      exact ⟨s, by simp, h⟩
  unfold lvq
  rw [decide_eq_true_eq]
  constructor
  · intro h
    obtain ⟨x, h1⟩ := Classical.not_forall.mp (fun q => h (fb_ct_zero.mpr q))
    obtain ⟨hx, h1⟩ := Classical.not_imp.mp h1
    have h2 : (its (ps u v c k) 10 (fun y => y == s) x && on x) = true := by
      cases hq : its (ps u v c k) 10 (fun y => y == s) x && on x
      · exact absurd hq h1
      · rfl
    rw [Bool.and_eq_true, hi] at h2
    exact ⟨x, cn_lt hb h2.1 hs, h2.2, h2.1⟩
  · rintro ⟨x, h1, h2, h3⟩ h
    have := (fb_ct_zero.mp h) x (by omega)
    rw [h2, (hi x).mpr h3] at this
    cases this
def nB (M : Mm) (a n k : Nat) (f u v : Nat → Nat) (c : Nat → Bool) : Prop :=
  (n ≤ 10 ∧ k ≤ 16 ∧ M a 0 = nI n ∧ M a 1 = nI k) ∧ (∀ s, s < n → M (a + 1) s = nI (f s) ∧ f s ≤ 2) ∧
  (∀ i, i < k → (M (a + 2) i = nI (u i) ∧ u i < n) ∧ (M (a + 3) i = nI (v i) ∧ v i < n) ∧ zb (M (a + 4) i) = nI (c i).toNat)
def nL (M : Mm) (a n k : Nat) (u v : Nat → Nat) (c : Nat → Bool) : Prop :=
  ∃ lo : Nat → Nat, ∀ s, s < n → M (a + 5) s = nI (lo s) ∧ lo s ≤ s ∧ cn k u v c s (lo s) ∧ ∀ y, cn k u v c s y → lo s ≤ y
def fd2 (n : Nat) (f : Nat → Nat) (s : Nat) : Bool := decide (s < n) && decide (f s = 2)
def nlv (n k : Nat) (f u v : Nat → Nat) (c : Nat → Bool) (s : Nat) : Bool := decide (s < n) && lvq u v k c (fd2 n f) s
def nV (M : Mm) (a n k : Nat) (f u v : Nat → Nat) (c : Nat → Bool) : Prop := ∀ s, s < 10 → zb (M (a + 6) s) = nI (nlv n k f u v c s).toNat
def nN (M : Mm) (a n k : Nat) (f u v : Nat → Nat) (c : Nat → Bool) : Prop := nB M a n k f u v c ∧ nL M a n k u v c ∧ nV M a n k f u v c
section CN
variable {a : Nat} {M : Mm} {n k : Nat} {f u v : Nat → Nat} {c : Nat → Bool}
def mk2 (f lo : Nat → Nat) : Nat → Nat → Bool
  | 0 => fun _ => false
  | i + 1 => fun j => mk2 f lo i j || (decide (f i = 2) && lo i == j)
theorem mk2_iff (f lo : Nat → Nat) (j : Nat) : ∀ i, mk2 f lo i j = true ↔ ∃ t, t < i ∧ f t = 2 ∧ lo t = j
  | 0 => ⟨fun h => (by cases h), fun ⟨t, h, _⟩ => (by omega)⟩
  | i + 1 => by
    simp only [mk2, Bool.or_eq_true, Bool.and_eq_true, decide_eq_true_eq, beq_iff_eq, mk2_iff f lo j i]
    constructor
    · rintro (⟨t, h1, h2⟩ | ⟨h1, h2⟩)
      · exact ⟨t, by omega, h2⟩
      · exact ⟨i, by omega, h1, h2⟩
    · rintro ⟨t, h1, h2, h3⟩
      rcases Nat.lt_or_ge t i with q | q
      · exact Or.inl ⟨t, q, h2, h3⟩
      · rw [show t = i by omega] at h2 h3
        exact Or.inr ⟨h2, h3⟩
theorem feed_ok (hB : nB M a n k f u v c) (hL : nL M a n k u v c) (hz : ∀ s, n ≤ s → s < 10 → zb (M (a + 6) s) = nI 0) :
    ∃ g, f_X2_feed a M = some (nI 0, mrow M (a + 6) g) ∧ ∀ s, s < 10 → zb (g s) = nI (nlv n k f u v c s).toNat := by
  obtain ⟨⟨hn, hk, e0, e1⟩, hF, hI⟩ := hB
  obtain ⟨lo, hlo⟩ := hL
  have hll : ∀ s, s < n → lo (lo s) = lo s := fun s hs => by
    obtain ⟨-, h2, h3, h4⟩ := hlo s hs
    obtain ⟨-, g2, g3, -⟩ := hlo (lo s) (by omega)
    have := h4 _ (cn_tr h3 g3)
    omega
  refine ⟨fun j => if j < n then nI (mk2 f lo n (lo j)).toNat else M (a + 6) j, ?_, ?_⟩
  · have h3 : l_X2_feed_63 a FU (mrow M (a + 6) (fun j => if j < n then nI (mk2 f lo n j).toNat else M (a + 6) j)) 0 = some (nI 0, mrow M (a + 6) (fun j => if j < n then nI (mk2 f lo n (lo j)).toNat else M (a + 6) j)) := by
      refine (loop_up (fun k' (z : Mm × Int32) => l_X2_feed_63 a k' z.1 z.2) (fun i => (mrow M (a + 6) (fun j => if j < i then nI (mk2 f lo n (lo j)).toNat else if j < n then nI (mk2 f lo n j).toNat else M (a + 6) j), nI i)) n (some (nI 0, mrow M (a + 6) (fun j => if j < n then nI (mk2 f lo n (lo j)).toNat else M (a + 6) j))) ?_ ?_ FU 0 (Nat.zero_le _) (by show _ < 4000; omega))
      · intro k' i hi
        show l_X2_feed_63 a (k' + 1) _ (nI i) = l_X2_feed_63 a k' _ (nI (i + 1))
        obtain ⟨h1, h2, h3, h4⟩ := hlo i hi
        rw [l_X2_feed_63]
        simp (disch := omega) only [li_0, li_1, li_2, li_3, li_4, li_5, li_6, li_7, li_8, li_9, li_10, li_11, li_12, li_13, li_14, li_15, li_16, li_17, li_18, li_19, li_20, li_21, li_22, li_23, li_24, li_25, li_26, li_27, li_28, li_29, li_30, li_31, li_32, li_33, li_34, li_35, li_36, li_37, li_38, li_39, li_40, li_41, li_42, li_43, li_44, li_45, li_46, li_47, li_48, li_49, li_50, li_51, li_52, li_53, li_54, li_55, li_56, li_57, li_58, li_59, li_60, li_61, li_62, li_63, li_71, li_72, li_73, li_81, li_82, li_97, li_98, li_99, li_100, li_101, li_102, li_105, li_110, li_111, li_116, li_117, li_126, li_161, li_233, li_932, li_1165, li_10000, li_100000, n_lt_t, n_lt_f, n_eq_t, n_eq_f, nI_add, n_sub, n_mul, n_ix, n_ckd, bnd_e, obn_s, zrk_0, zrk_1, zrk_b, zb_0, zb_1, zb_b, if_true, if_false, Bool.toNat_true, Bool.toNat_false, b0, b1, Bool.false_eq_true, Bool.true_eq_false, mrow_n, mrow_at, mst_n, mst_at, upd_n, upd_at, mst_mrow, e0, h1]
        congr 1
        refine mrow_c _ _ fun j => ?_
        by_cases e : j = i
        · subst e
          rw [upd_at, if_pos (by omega : j < j + 1)]
          by_cases q : lo j < j
          · rw [if_pos q, hll j hi, zb_b]
          · rw [if_neg q, if_pos (by omega : lo j < n), zb_b]
        · rw [upd_n e]
          by_cases q : j < i
          · rw [if_pos q, if_pos (by omega : j < i + 1)]
          · rw [if_neg q, if_neg (by omega : ¬ j < i + 1)]
      · intro k'
        show l_X2_feed_63 a (k' + 1) _ (nI n) = _
        rw [l_X2_feed_63]
        simp (disch := omega) only [li_0, li_1, li_2, li_3, li_4, li_5, li_6, li_7, li_8, li_9, li_10, li_11, li_12, li_13, li_14, li_15, li_16, li_17, li_18, li_19, li_20, li_21, li_22, li_23, li_24, li_25, li_26, li_27, li_28, li_29, li_30, li_31, li_32, li_33, li_34, li_35, li_36, li_37, li_38, li_39, li_40, li_41, li_42, li_43, li_44, li_45, li_46, li_47, li_48, li_49, li_50, li_51, li_52, li_53, li_54, li_55, li_56, li_57, li_58, li_59, li_60, li_61, li_62, li_63, li_71, li_72, li_73, li_81, li_82, li_97, li_98, li_99, li_100, li_101, li_102, li_105, li_110, li_111, li_116, li_117, li_126, li_161, li_233, li_932, li_1165, li_10000, li_100000, n_lt_t, n_lt_f, n_eq_t, n_eq_f, nI_add, n_sub, n_mul, n_ix, n_ckd, bnd_e, obn_s, zrk_0, zrk_1, zrk_b, zb_0, zb_1, zb_b, if_true, if_false, Bool.toNat_true, Bool.toNat_false, b0, b1, Bool.false_eq_true, Bool.true_eq_false, mrow_n, mrow_at, mst_n, mst_at, upd_n, upd_at, mst_mrow, e0]
        congr 2
        refine mrow_c _ _ fun j => ?_
        by_cases q : j < n
        · rw [if_pos q, if_pos q]
        · rw [if_neg q, if_neg q, if_neg q]
    have h2 : l_X2_feed_25 a FU (mrow M (a + 6) (fun j => if j < n then nI 0 else M (a + 6) j)) 0 = some (nI 0, mrow M (a + 6) (fun j => if j < n then nI (mk2 f lo n (lo j)).toNat else M (a + 6) j)) := by
      refine (loop_up (fun k' (z : Mm × Int32) => l_X2_feed_25 a k' z.1 z.2) (fun i => (mrow M (a + 6) (fun j => if j < n then nI (mk2 f lo i j).toNat else M (a + 6) j), nI i)) n _ ?_ ?_ FU 0 (Nat.zero_le _) (by show _ < 4000; omega))
      · intro k' i hi
        show l_X2_feed_25 a (k' + 1) _ (nI i) = l_X2_feed_25 a k' _ (nI (i + 1))
        obtain ⟨h1, h2, h3, h4⟩ := hlo i hi
        obtain ⟨g1, g2⟩ := hF i hi
        rw [l_X2_feed_25]
        by_cases hf : f i = 2
        · simp (disch := omega) only [li_0, li_1, li_2, li_3, li_4, li_5, li_6, li_7, li_8, li_9, li_10, li_11, li_12, li_13, li_14, li_15, li_16, li_17, li_18, li_19, li_20, li_21, li_22, li_23, li_24, li_25, li_26, li_27, li_28, li_29, li_30, li_31, li_32, li_33, li_34, li_35, li_36, li_37, li_38, li_39, li_40, li_41, li_42, li_43, li_44, li_45, li_46, li_47, li_48, li_49, li_50, li_51, li_52, li_53, li_54, li_55, li_56, li_57, li_58, li_59, li_60, li_61, li_62, li_63, li_71, li_72, li_73, li_81, li_82, li_97, li_98, li_99, li_100, li_101, li_102, li_105, li_110, li_111, li_116, li_117, li_126, li_161, li_233, li_932, li_1165, li_10000, li_100000, n_lt_t, n_lt_f, n_eq_t, n_eq_f, nI_add, n_sub, n_mul, n_ix, n_ckd, bnd_e, obn_s, zrk_0, zrk_1, zrk_b, zb_0, zb_1, zb_b, if_true, if_false, Bool.toNat_true, Bool.toNat_false, b0, b1, Bool.false_eq_true, Bool.true_eq_false, mrow_n, mrow_at, mst_n, mst_at, upd_n, upd_at, mst_mrow, e0, h1, g1, b_X2_feed_55]
          congr 1
          refine mrow_c _ _ fun j => ?_
          by_cases e : j = lo i
          · subst e
            rw [upd_at, if_pos (by omega : lo i < n)]
            simp [mk2, hf]
          · rw [upd_n e]
            have e2 : (lo i == j) = false := beq_eq_false_iff_ne.mpr (Ne.symm e)
            simp [mk2, hf, e2]
        · simp (disch := omega) only [li_0, li_1, li_2, li_3, li_4, li_5, li_6, li_7, li_8, li_9, li_10, li_11, li_12, li_13, li_14, li_15, li_16, li_17, li_18, li_19, li_20, li_21, li_22, li_23, li_24, li_25, li_26, li_27, li_28, li_29, li_30, li_31, li_32, li_33, li_34, li_35, li_36, li_37, li_38, li_39, li_40, li_41, li_42, li_43, li_44, li_45, li_46, li_47, li_48, li_49, li_50, li_51, li_52, li_53, li_54, li_55, li_56, li_57, li_58, li_59, li_60, li_61, li_62, li_63, li_71, li_72, li_73, li_81, li_82, li_97, li_98, li_99, li_100, li_101, li_102, li_105, li_110, li_111, li_116, li_117, li_126, li_161, li_233, li_932, li_1165, li_10000, li_100000, n_lt_t, n_lt_f, n_eq_t, n_eq_f, nI_add, n_sub, n_mul, n_ix, n_ckd, bnd_e, obn_s, zrk_0, zrk_1, zrk_b, zb_0, zb_1, zb_b, if_true, if_false, Bool.toNat_true, Bool.toNat_false, b0, b1, Bool.false_eq_true, Bool.true_eq_false, mrow_n, mrow_at, mst_n, mst_at, upd_n, upd_at, mst_mrow, e0, h1, g1, b_X2_feed_55]
          congr 1
          refine mrow_c _ _ fun j => ?_
          simp [mk2, hf]
      · intro k'
        show l_X2_feed_25 a (k' + 1) _ (nI n) = _
        rw [l_X2_feed_25, h3]
        simp (disch := omega) only [li_0, li_1, li_2, li_3, li_4, li_5, li_6, li_7, li_8, li_9, li_10, li_11, li_12, li_13, li_14, li_15, li_16, li_17, li_18, li_19, li_20, li_21, li_22, li_23, li_24, li_25, li_26, li_27, li_28, li_29, li_30, li_31, li_32, li_33, li_34, li_35, li_36, li_37, li_38, li_39, li_40, li_41, li_42, li_43, li_44, li_45, li_46, li_47, li_48, li_49, li_50, li_51, li_52, li_53, li_54, li_55, li_56, li_57, li_58, li_59, li_60, li_61, li_62, li_63, li_71, li_72, li_73, li_81, li_82, li_97, li_98, li_99, li_100, li_101, li_102, li_105, li_110, li_111, li_116, li_117, li_126, li_161, li_233, li_932, li_1165, li_10000, li_100000, n_lt_t, n_lt_f, n_eq_t, n_eq_f, nI_add, n_sub, n_mul, n_ix, n_ckd, bnd_e, obn_s, zrk_0, zrk_1, zrk_b, zb_0, zb_1, zb_b, if_true, if_false, Bool.toNat_true, Bool.toNat_false, b0, b1, Bool.false_eq_true, Bool.true_eq_false, mrow_n, mrow_at, mst_n, mst_at, upd_n, upd_at, mst_mrow, e0]
    have hs : ∀ k' i, i < n → l_X2_feed_2 a (k' + 1) (mrow M (a + 6) (fun j => if j < i then nI 0 else M (a + 6) j)) (nI i) = l_X2_feed_2 a k' (mrow M (a + 6) (fun j => if j < i + 1 then nI 0 else M (a + 6) j)) (nI (i + 1)) := by
      intro k' i hi
      rw [l_X2_feed_2]
      simp (disch := omega) only [li_0, li_1, li_2, li_3, li_4, li_5, li_6, li_7, li_8, li_9, li_10, li_11, li_12, li_13, li_14, li_15, li_16, li_17, li_18, li_19, li_20, li_21, li_22, li_23, li_24, li_25, li_26, li_27, li_28, li_29, li_30, li_31, li_32, li_33, li_34, li_35, li_36, li_37, li_38, li_39, li_40, li_41, li_42, li_43, li_44, li_45, li_46, li_47, li_48, li_49, li_50, li_51, li_52, li_53, li_54, li_55, li_56, li_57, li_58, li_59, li_60, li_61, li_62, li_63, li_71, li_72, li_73, li_81, li_82, li_97, li_98, li_99, li_100, li_101, li_102, li_105, li_110, li_111, li_116, li_117, li_126, li_161, li_233, li_932, li_1165, li_10000, li_100000, n_lt_t, n_lt_f, n_eq_t, n_eq_f, nI_add, n_sub, n_mul, n_ix, n_ckd, bnd_e, obn_s, zrk_0, zrk_1, zrk_b, zb_0, zb_1, zb_b, if_true, if_false, Bool.toNat_true, Bool.toNat_false, b0, b1, Bool.false_eq_true, Bool.true_eq_false, mrow_n, mrow_at, mst_n, mst_at, upd_n, upd_at, mst_mrow, e0]
      congr 1
      refine mrow_c _ _ fun j => ?_
      by_cases e : j = i
      · subst e
        rw [upd_at, if_pos (by omega : j < j + 1)]
      · rw [upd_n e]
        by_cases q : j < i
        · rw [if_pos q, if_pos (by omega : j < i + 1)]
        · rw [if_neg q, if_neg (by omega : ¬ j < i + 1)]
    have hx : ∀ k', l_X2_feed_2 a (k' + 1) (mrow M (a + 6) (fun j => if j < n then nI 0 else M (a + 6) j)) (nI n) = some (nI 0, mrow M (a + 6) (fun j => if j < n then nI (mk2 f lo n (lo j)).toNat else M (a + 6) j)) := by
      intro k'
      rw [l_X2_feed_2, h2]
      simp (disch := omega) only [li_0, li_1, li_2, li_3, li_4, li_5, li_6, li_7, li_8, li_9, li_10, li_11, li_12, li_13, li_14, li_15, li_16, li_17, li_18, li_19, li_20, li_21, li_22, li_23, li_24, li_25, li_26, li_27, li_28, li_29, li_30, li_31, li_32, li_33, li_34, li_35, li_36, li_37, li_38, li_39, li_40, li_41, li_42, li_43, li_44, li_45, li_46, li_47, li_48, li_49, li_50, li_51, li_52, li_53, li_54, li_55, li_56, li_57, li_58, li_59, li_60, li_61, li_62, li_63, li_71, li_72, li_73, li_81, li_82, li_97, li_98, li_99, li_100, li_101, li_102, li_105, li_110, li_111, li_116, li_117, li_126, li_161, li_233, li_932, li_1165, li_10000, li_100000, n_lt_t, n_lt_f, n_eq_t, n_eq_f, nI_add, n_sub, n_mul, n_ix, n_ckd, bnd_e, obn_s, zrk_0, zrk_1, zrk_b, zb_0, zb_1, zb_b, if_true, if_false, Bool.toNat_true, Bool.toNat_false, b0, b1, Bool.false_eq_true, Bool.true_eq_false, mrow_n, mrow_at, mst_n, mst_at, upd_n, upd_at, mst_mrow, e0]
    have e : mrow M (a + 6) (fun j => if j < 0 then nI 0 else M (a + 6) j) = M := by
      rw [mrow_c M (a + 6) (g := M (a + 6)) (fun j => by simp), mrow_self]
    have h := loop_up (fun k' (z : Mm × Int32) => l_X2_feed_2 a k' z.1 z.2) (fun i => (mrow M (a + 6) (fun j => if j < i then nI 0 else M (a + 6) j), nI i)) n _ hs hx FU 0 (Nat.zero_le _) (by show _ < 4000; omega)
    simp only [e] at h
    exact h
  · intro s hs
    by_cases q : s < n
    · show zb (if s < n then nI (mk2 f lo n (lo s)).toNat else M (a + 6) s) = _
      rw [if_pos q, zb_b]
      congr 2
      rw [Bool.eq_iff_iff, mk2_iff, nlv, show decide (s < n) = true by simpa using q, Bool.true_and, lvq_iff hn (fun i hi => ⟨(hI i hi).1.2, (hI i hi).2.1.2⟩) _ _ q]
      obtain ⟨-, h2, h3, h4⟩ := hlo s q
      constructor
      · rintro ⟨t, t1, t2, t3⟩
        obtain ⟨-, -, g3, -⟩ := hlo t t1
        exact ⟨t, t1, by simp [fd2, t1, t2], cn_tr h3 (by rw [← t3]; exact cn_sy g3)⟩
      · rintro ⟨t, t1, t2, t3⟩
        obtain ⟨-, -, g3, g4⟩ := hlo t t1
        refine ⟨t, t1, by simpa [fd2, t1] using t2, ?_⟩
        have a1 := g4 _ (cn_tr (cn_sy t3) h3)
        have a2 := h4 _ (cn_tr t3 g3)
        omega
    · show zb (if s < n then nI (mk2 f lo n (lo s)).toNat else M (a + 6) s) = _
      rw [if_neg q, hz s (by omega) hs, nlv, show decide (s < n) = false by simpa using q]
      rfl
/-- a round of the labels -/
theorem share_ok (hB : nB M a n k f u v c) {ℓ : Nat → Nat} (hl : ∀ s, s < n → M (a + 5) s = nI (ℓ s)) (hb : ∀ s, s < n → ℓ s < n) :
    f_X2_shareLowest a M = some (nI 0, mrow M (a + 5) (fun s => if s < n then nI (lbp u v c k ℓ s) else M (a + 5) s)) := by
  obtain ⟨⟨hn, hk, e0, e1⟩, hF, hI⟩ := hB
  have hbb : ∀ i s, s < n → lbp u v c i ℓ s < n := fun i s hs => by
    have := lbp_dn (u := u) (v := v) (cl := c) (f := ℓ) i s
    have := hb s hs
    omega
  have hs : ∀ k' i, i < k → l_X2_shareLowest_2 a (k' + 1) (mrow M (a + 5) (fun s => if s < n then nI (lbp u v c i ℓ s) else M (a + 5) s)) (nI i) = l_X2_shareLowest_2 a k' (mrow M (a + 5) (fun s => if s < n then nI (lbp u v c (i + 1) ℓ s) else M (a + 5) s)) (nI (i + 1)) := by
    intro k' i hi
    obtain ⟨⟨h1, h2⟩, ⟨h3, h4⟩, h5⟩ := hI i hi
    have b1 := hbb i _ h2
    have b2 := hbb i _ h4
    rw [l_X2_shareLowest_2]
    cases hc : c i
    · rw [hc] at h5
      simp (disch := omega) only [li_0, li_1, li_2, li_3, li_4, li_5, li_6, li_7, li_8, li_9, li_10, li_11, li_12, li_13, li_14, li_15, li_16, li_17, li_18, li_19, li_20, li_21, li_22, li_23, li_24, li_25, li_26, li_27, li_28, li_29, li_30, li_31, li_32, li_33, li_34, li_35, li_36, li_37, li_38, li_39, li_40, li_41, li_42, li_43, li_44, li_45, li_46, li_47, li_48, li_49, li_50, li_51, li_52, li_53, li_54, li_55, li_56, li_57, li_58, li_59, li_60, li_61, li_62, li_63, li_71, li_72, li_73, li_81, li_82, li_97, li_98, li_99, li_100, li_101, li_102, li_105, li_110, li_111, li_116, li_117, li_126, li_161, li_233, li_932, li_1165, li_10000, li_100000, n_lt_t, n_lt_f, n_eq_t, n_eq_f, nI_add, n_sub, n_mul, n_ix, n_ckd, bnd_e, obn_s, zrk_0, zrk_1, zrk_b, zb_0, zb_1, zb_b, if_true, if_false, Bool.toNat_true, Bool.toNat_false, b0, b1, Bool.false_eq_true, Bool.true_eq_false, mrow_n, mrow_at, mst_n, mst_at, upd_n, upd_at, mst_mrow, e1, h5, b_X2_shareLowest_86]
      congr 1
      refine mrow_c _ _ fun j => ?_
      simp [lbp, hc]
    · rw [hc] at h5
      have key : ∀ m, m = (if lbp u v c i ℓ (u i) < lbp u v c i ℓ (v i) then lbp u v c i ℓ (u i) else lbp u v c i ℓ (v i)) →
          b_X2_shareLowest_63 a (l_X2_shareLowest_2 a k') (mrow M (a + 5) (fun s => if s < n then nI (lbp u v c i ℓ s) else M (a + 5) s)) (nI i) (nI (u i)) (nI m) = l_X2_shareLowest_2 a k' (mrow M (a + 5) (fun s => if s < n then nI (lbp u v c (i + 1) ℓ s) else M (a + 5) s)) (nI (i + 1)) := by
        intro m hm
        unfold b_X2_shareLowest_63 b_X2_shareLowest_86
        simp (disch := omega) only [li_0, li_1, li_2, li_3, li_4, li_5, li_6, li_7, li_8, li_9, li_10, li_11, li_12, li_13, li_14, li_15, li_16, li_17, li_18, li_19, li_20, li_21, li_22, li_23, li_24, li_25, li_26, li_27, li_28, li_29, li_30, li_31, li_32, li_33, li_34, li_35, li_36, li_37, li_38, li_39, li_40, li_41, li_42, li_43, li_44, li_45, li_46, li_47, li_48, li_49, li_50, li_51, li_52, li_53, li_54, li_55, li_56, li_57, li_58, li_59, li_60, li_61, li_62, li_63, li_71, li_72, li_73, li_81, li_82, li_97, li_98, li_99, li_100, li_101, li_102, li_105, li_110, li_111, li_116, li_117, li_126, li_161, li_233, li_932, li_1165, li_10000, li_100000, n_lt_t, n_lt_f, n_eq_t, n_eq_f, nI_add, n_sub, n_mul, n_ix, n_ckd, bnd_e, obn_s, zrk_0, zrk_1, zrk_b, zb_0, zb_1, zb_b, if_true, if_false, Bool.toNat_true, Bool.toNat_false, b0, b1, Bool.false_eq_true, Bool.true_eq_false, mrow_n, mrow_at, mst_n, mst_at, upd_n, upd_at, mst_mrow, e1, h1, h3]
        congr 1
        refine mrow_c _ _ fun j => ?_
        by_cases q1 : j = v i
        · subst q1
          rw [upd_at, if_pos h4]
          simp only [lbp, hc, or_true, and_self, if_true, ← hm]
        · rw [upd_n q1]
          by_cases q2 : j = u i
          · subst q2
            rw [upd_at, if_pos h2]
            simp only [lbp, hc, true_or, and_self, if_true, ← hm]
          · rw [upd_n q2]
            simp [lbp, q1, q2]
      simp (disch := omega) only [li_0, li_1, li_2, li_3, li_4, li_5, li_6, li_7, li_8, li_9, li_10, li_11, li_12, li_13, li_14, li_15, li_16, li_17, li_18, li_19, li_20, li_21, li_22, li_23, li_24, li_25, li_26, li_27, li_28, li_29, li_30, li_31, li_32, li_33, li_34, li_35, li_36, li_37, li_38, li_39, li_40, li_41, li_42, li_43, li_44, li_45, li_46, li_47, li_48, li_49, li_50, li_51, li_52, li_53, li_54, li_55, li_56, li_57, li_58, li_59, li_60, li_61, li_62, li_63, li_71, li_72, li_73, li_81, li_82, li_97, li_98, li_99, li_100, li_101, li_102, li_105, li_110, li_111, li_116, li_117, li_126, li_161, li_233, li_932, li_1165, li_10000, li_100000, n_lt_t, n_lt_f, n_eq_t, n_eq_f, nI_add, n_sub, n_mul, n_ix, n_ckd, bnd_e, obn_s, zrk_0, zrk_1, zrk_b, zb_0, zb_1, zb_b, if_true, if_false, Bool.toNat_true, Bool.toNat_false, b0, b1, Bool.false_eq_true, Bool.true_eq_false, mrow_n, mrow_at, mst_n, mst_at, upd_n, upd_at, mst_mrow, e1, h5, h1, h3, if_pos h2, if_pos h4]
      simp (disch := omega) only [n_lt]
      by_cases q : lbp u v c i ℓ (u i) < lbp u v c i ℓ (v i)
      · rw [if_pos q]
        exact key _ (by rw [if_pos q])
      · rw [if_neg q]
        exact key _ (by rw [if_neg q])
  have hx : ∀ k', l_X2_shareLowest_2 a (k' + 1) (mrow M (a + 5) (fun s => if s < n then nI (lbp u v c k ℓ s) else M (a + 5) s)) (nI k) = some (nI 0, mrow M (a + 5) (fun s => if s < n then nI (lbp u v c k ℓ s) else M (a + 5) s)) := by
    intro k'
    rw [l_X2_shareLowest_2]
    simp (disch := omega) only [li_0, li_1, li_2, li_3, li_4, li_5, li_6, li_7, li_8, li_9, li_10, li_11, li_12, li_13, li_14, li_15, li_16, li_17, li_18, li_19, li_20, li_21, li_22, li_23, li_24, li_25, li_26, li_27, li_28, li_29, li_30, li_31, li_32, li_33, li_34, li_35, li_36, li_37, li_38, li_39, li_40, li_41, li_42, li_43, li_44, li_45, li_46, li_47, li_48, li_49, li_50, li_51, li_52, li_53, li_54, li_55, li_56, li_57, li_58, li_59, li_60, li_61, li_62, li_63, li_71, li_72, li_73, li_81, li_82, li_97, li_98, li_99, li_100, li_101, li_102, li_105, li_110, li_111, li_116, li_117, li_126, li_161, li_233, li_932, li_1165, li_10000, li_100000, n_lt_t, n_lt_f, n_eq_t, n_eq_f, nI_add, n_sub, n_mul, n_ix, n_ckd, bnd_e, obn_s, zrk_0, zrk_1, zrk_b, zb_0, zb_1, zb_b, if_true, if_false, Bool.toNat_true, Bool.toNat_false, b0, b1, Bool.false_eq_true, Bool.true_eq_false, mrow_n, mrow_at, mst_n, mst_at, upd_n, upd_at, mst_mrow, e1]
  have e : mrow M (a + 5) (fun s => if s < n then nI (lbp u v c 0 ℓ s) else M (a + 5) s) = M := by
    rw [mrow_c M (a + 5) (g := M (a + 5)) (fun j => by
      by_cases q : j < n
      · rw [if_pos q, hl j q]; rfl
      · rw [if_neg q]), mrow_self]
  have h := loop_up (fun k' (z : Mm × Int32) => l_X2_shareLowest_2 a k' z.1 z.2) (fun i => (mrow M (a + 5) (fun s => if s < n then nI (lbp u v c i ℓ s) else M (a + 5) s), nI i)) k _ hs hx FU 0 (Nat.zero_le _) (by show _ < 4000; omega)
  simp only [e] at h
  exact h
end CN

