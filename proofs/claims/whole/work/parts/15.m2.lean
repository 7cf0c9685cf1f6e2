/-! the reference: what hangs together, what is live, what the log tells -/
section MH
variable {a : Nat} {M : Mm} {n k q : Nat}
abbrev psS (S : Sm) (k : Nat) (c : Nat → Bool) : (Nat → Bool) → (Nat → Bool) := ps (uS S) (vS S) c k
theorem m_hang1 (W : Wf (M (a + 1)) n k q) (rc : Mm → Int32 → Int32 → OR) (c T : Nat → Bool) {m : Nat} (hk : k ≤ m) (hm : m ≤ 31) (t : Int32) :
    l_X9_hanging_15 a rc (bs c m) t FU M (bs T 10) 0 = rc M (bs (psS (M (a + 1)) k c T) 10) (t + 1) := by
  obtain ⟨⟨-, hn, e1, hk16, -⟩, WI, -⟩ := W
  refine loop_up (fun k' (z : Mm × Int32 × Int32) => l_X9_hanging_15 a rc (bs c m) t k' z.1 z.2.1 z.2.2) (fun i => (M, bs (ps (uS (M (a + 1))) (vS (M (a + 1))) c i T) 10, nI i)) k (rc M (bs (psS (M (a + 1)) k c T) 10) (t + 1)) ?_ ?_ FU 0 (Nat.zero_le _) (by show _ < 4000; omega)
  · intro k' i hi
    show l_X9_hanging_15 a rc (bs c m) t (k' + 1) M _ (nI i) = l_X9_hanging_15 a rc (bs c m) t k' M _ (nI (i + 1))
    have hu := (WI i hi).1
    have hv := (WI i hi).2.1
    rw [l_X9_hanging_15]
    generalize hU : ps (uS (M (a + 1))) (vS (M (a + 1))) c i T = U
    have hz : (bs U 10 &&& (bs (fun x => x == uS (M (a + 1)) i) 10 ||| bs (fun x => x == vS (M (a + 1)) i) 10) = nI 0) = ((U (uS (M (a + 1)) i) || U (vS (M (a + 1)) i)) = false) := by
      rw [bs_or (by omega), bs_and (by omega), bs_z (by omega)]
      apply propext
      simp only [Bool.or_eq_false_iff, Bool.and_eq_false_iff, beq_eq_false_iff_ne]
      constructor
      · intro h
        have h1 := h _ (show uS (M (a + 1)) i < 10 by omega)
        have h2 := h _ (show vS (M (a + 1)) i < 10 by omega)
        simp at h1 h2
        exact ⟨h1, h2⟩
      · intro h x _
        by_cases e1 : x = uS (M (a + 1)) i
        · left; rw [e1]; exact h.1
        · by_cases e2 : x = vS (M (a + 1)) i
          · left; rw [e2]; exact h.2
          · exact Or.inr ⟨e1, e2⟩
    have hg : ((bs c m >>> (nI i &&& nI 31)) &&& nI 1 = nI 1) = (c i = true) := by
      rw [bs_g hm (by omega), b1]
      simp [show i < m by omega]
    have hn2 : ps (uS (M (a + 1))) (vS (M (a + 1))) c (i + 1) T = fun x => U x || (c i && (U (uS (M (a + 1)) i) || U (vS (M (a + 1)) i)) && (x == uS (M (a + 1)) i || x == vS (M (a + 1)) i)) := by
      rw [← hU]
      rfl
    rw [hn2]
    simp (disch := omega) only [li_0, li_1, li_2, li_3, li_4, li_5, li_6, li_7, li_8, li_9, li_10, li_11, li_12, li_13, li_14, li_15, li_16, li_17, li_18, li_19, li_20, li_21, li_22, li_23, li_24, li_25, li_26, li_27, li_28, li_29, li_30, li_31, li_32, li_33, li_34, li_35, li_36, li_37, li_38, li_39, li_40, li_41, li_42, li_43, li_44, li_45, li_46, li_47, li_48, li_49, li_50, li_51, li_52, li_53, li_54, li_55, li_56, li_57, li_58, li_59, li_60, li_61, li_62, li_63, li_71, li_72, li_73, li_81, li_82, li_97, li_98, li_99, li_100, li_101, li_102, li_105, li_110, li_111, li_116, li_117, li_126, li_161, li_233, li_932, li_1165, li_10000, li_100000, n_lt_t, n_lt_f, n_eq_t, n_eq_f, nI_add, n_sub, n_mul, n_ix, n_ckd, bnd_e, obn_s, zrk_0, zrk_1, zrk_b, zb_0, zb_1, zb_b, if_true, if_false, Bool.toNat_true, Bool.toNat_false, b0, b1, Bool.false_eq_true, Bool.true_eq_false, e1, m_at, hu.1, hv.1, bs_1 (show uS (M (a + 1)) i < 10 by omega) (show 10 ≤ 32 by omega), bs_1 (show vS (M (a + 1)) i < 10 by omega) (show 10 ≤ 32 by omega), hg, hz, b_X9_hanging_70, b_X9_hanging_71]
    have e0 : bs U 10 ||| nI 0 = bs U 10 := by
      show bs U 10 ||| 0 = _
      simp
    cases hc : c i
    · simp only [li_0, li_1, li_2, li_3, li_4, li_5, li_6, li_7, li_8, li_9, li_10, li_11, li_12, li_13, li_14, li_15, li_16, li_17, li_18, li_19, li_20, li_21, li_22, li_23, li_24, li_25, li_26, li_27, li_28, li_29, li_30, li_31, li_32, li_33, li_34, li_35, li_36, li_37, li_38, li_39, li_40, li_41, li_42, li_43, li_44, li_45, li_46, li_47, li_48, li_49, li_50, li_51, li_52, li_53, li_54, li_55, li_56, li_57, li_58, li_59, li_60, li_61, li_62, li_63, li_71, li_72, li_73, li_81, li_82, li_97, li_98, li_99, li_100, li_101, li_102, li_105, li_110, li_111, li_116, li_117, li_126, li_161, li_233, li_932, li_1165, li_10000, li_100000, n_lt_t, n_lt_f, n_eq_t, n_eq_f, nI_add, n_sub, n_mul, n_ix, n_ckd, bnd_e, obn_s, zrk_0, zrk_1, zrk_b, zb_0, zb_1, zb_b, if_true, if_false, Bool.toNat_true, Bool.toNat_false, b0, b1, Bool.false_eq_true, Bool.true_eq_false, e0, Bool.false_and, Bool.or_false]
    · cases hcu : U (uS (M (a + 1)) i) || U (vS (M (a + 1)) i)
      · simp only [li_0, li_1, li_2, li_3, li_4, li_5, li_6, li_7, li_8, li_9, li_10, li_11, li_12, li_13, li_14, li_15, li_16, li_17, li_18, li_19, li_20, li_21, li_22, li_23, li_24, li_25, li_26, li_27, li_28, li_29, li_30, li_31, li_32, li_33, li_34, li_35, li_36, li_37, li_38, li_39, li_40, li_41, li_42, li_43, li_44, li_45, li_46, li_47, li_48, li_49, li_50, li_51, li_52, li_53, li_54, li_55, li_56, li_57, li_58, li_59, li_60, li_61, li_62, li_63, li_71, li_72, li_73, li_81, li_82, li_97, li_98, li_99, li_100, li_101, li_102, li_105, li_110, li_111, li_116, li_117, li_126, li_161, li_233, li_932, li_1165, li_10000, li_100000, n_lt_t, n_lt_f, n_eq_t, n_eq_f, nI_add, n_sub, n_mul, n_ix, n_ckd, bnd_e, obn_s, zrk_0, zrk_1, zrk_b, zb_0, zb_1, zb_b, if_true, if_false, Bool.toNat_true, Bool.toNat_false, b0, b1, Bool.false_eq_true, Bool.true_eq_false, e0, Bool.and_false, Bool.false_and, Bool.or_false]
      · simp only [li_0, li_1, li_2, li_3, li_4, li_5, li_6, li_7, li_8, li_9, li_10, li_11, li_12, li_13, li_14, li_15, li_16, li_17, li_18, li_19, li_20, li_21, li_22, li_23, li_24, li_25, li_26, li_27, li_28, li_29, li_30, li_31, li_32, li_33, li_34, li_35, li_36, li_37, li_38, li_39, li_40, li_41, li_42, li_43, li_44, li_45, li_46, li_47, li_48, li_49, li_50, li_51, li_52, li_53, li_54, li_55, li_56, li_57, li_58, li_59, li_60, li_61, li_62, li_63, li_71, li_72, li_73, li_81, li_82, li_97, li_98, li_99, li_100, li_101, li_102, li_105, li_110, li_111, li_116, li_117, li_126, li_161, li_233, li_932, li_1165, li_10000, li_100000, n_lt_t, n_lt_f, n_eq_t, n_eq_f, nI_add, n_sub, n_mul, n_ix, n_ckd, bnd_e, obn_s, zrk_0, zrk_1, zrk_b, zb_0, zb_1, zb_b, if_true, if_false, Bool.toNat_true, Bool.toNat_false, b0, b1, Bool.false_eq_true, Bool.true_eq_false, Bool.and_self, Bool.true_and]
        rw [bs_or (by omega), bs_or (by omega)]
  · intro k'
    show l_X9_hanging_15 a rc (bs c m) t (k' + 1) M _ (nI k) = _
    rw [l_X9_hanging_15]
    simp (disch := omega) only [li_0, li_1, li_2, li_3, li_4, li_5, li_6, li_7, li_8, li_9, li_10, li_11, li_12, li_13, li_14, li_15, li_16, li_17, li_18, li_19, li_20, li_21, li_22, li_23, li_24, li_25, li_26, li_27, li_28, li_29, li_30, li_31, li_32, li_33, li_34, li_35, li_36, li_37, li_38, li_39, li_40, li_41, li_42, li_43, li_44, li_45, li_46, li_47, li_48, li_49, li_50, li_51, li_52, li_53, li_54, li_55, li_56, li_57, li_58, li_59, li_60, li_61, li_62, li_63, li_71, li_72, li_73, li_81, li_82, li_97, li_98, li_99, li_100, li_101, li_102, li_105, li_110, li_111, li_116, li_117, li_126, li_161, li_233, li_932, li_1165, li_10000, li_100000, n_lt_t, n_lt_f, n_eq_t, n_eq_f, nI_add, n_sub, n_mul, n_ix, n_ckd, bnd_e, obn_s, zrk_0, zrk_1, zrk_b, zb_0, zb_1, zb_b, if_true, if_false, Bool.toNat_true, Bool.toNat_false, b0, b1, Bool.false_eq_true, Bool.true_eq_false, e1]
theorem m_hanging (W : Wf (M (a + 1)) n k q) (c T : Nat → Bool) {m : Nat} (hk : k ≤ m) (hm : m ≤ 31) :
    f_X9_hanging a M (bs T 10) (bs c m) = some (bs (its (psS (M (a + 1)) k c) 10 T) 10, M) := by
  unfold f_X9_hanging
  refine loop_up (fun k' (z : Mm × Int32 × Int32) => l_X9_hanging_5 a (bs c m) k' z.1 z.2.1 z.2.2) (fun i => (M, bs (its (psS (M (a + 1)) k c) i T) 10, nI i)) 10 (some (bs (its (psS (M (a + 1)) k c) 10 T) 10, M)) ?_ ?_ FU 0 (Nat.zero_le _) (by show _ < 4000; omega)
  · intro k' i hi
    show l_X9_hanging_5 a (bs c m) (k' + 1) M _ (nI i) = l_X9_hanging_5 a (bs c m) k' M _ (nI (i + 1))
    rw [l_X9_hanging_5, m_hang1 W _ _ _ hk hm]
    simp (disch := omega) only [li_0, li_1, li_2, li_3, li_4, li_5, li_6, li_7, li_8, li_9, li_10, li_11, li_12, li_13, li_14, li_15, li_16, li_17, li_18, li_19, li_20, li_21, li_22, li_23, li_24, li_25, li_26, li_27, li_28, li_29, li_30, li_31, li_32, li_33, li_34, li_35, li_36, li_37, li_38, li_39, li_40, li_41, li_42, li_43, li_44, li_45, li_46, li_47, li_48, li_49, li_50, li_51, li_52, li_53, li_54, li_55, li_56, li_57, li_58, li_59, li_60, li_61, li_62, li_63, li_71, li_72, li_73, li_81, li_82, li_97, li_98, li_99, li_100, li_101, li_102, li_105, li_110, li_111, li_116, li_117, li_126, li_161, li_233, li_932, li_1165, li_10000, li_100000, n_lt_t, n_lt_f, n_eq_t, n_eq_f, nI_add, n_sub, n_mul, n_ix, n_ckd, bnd_e, obn_s, zrk_0, zrk_1, zrk_b, zb_0, zb_1, zb_b, if_true, if_false, Bool.toNat_true, Bool.toNat_false, b0, b1, Bool.false_eq_true, Bool.true_eq_false, its]
  · intro k'
    show l_X9_hanging_5 a (bs c m) (k' + 1) M _ (nI 10) = _
    rw [l_X9_hanging_5]
    simp (disch := omega) only [li_0, li_1, li_2, li_3, li_4, li_5, li_6, li_7, li_8, li_9, li_10, li_11, li_12, li_13, li_14, li_15, li_16, li_17, li_18, li_19, li_20, li_21, li_22, li_23, li_24, li_25, li_26, li_27, li_28, li_29, li_30, li_31, li_32, li_33, li_34, li_35, li_36, li_37, li_38, li_39, li_40, li_41, li_42, li_43, li_44, li_45, li_46, li_47, li_48, li_49, li_50, li_51, li_52, li_53, li_54, li_55, li_56, li_57, li_58, li_59, li_60, li_61, li_62, li_63, li_71, li_72, li_73, li_81, li_82, li_97, li_98, li_99, li_100, li_101, li_102, li_105, li_110, li_111, li_116, li_117, li_126, li_161, li_233, li_932, li_1165, li_10000, li_100000, n_lt_t, n_lt_f, n_eq_t, n_eq_f, nI_add, n_sub, n_mul, n_ix, n_ckd, bnd_e, obn_s, zrk_0, zrk_1, zrk_b, zb_0, zb_1, zb_b, if_true, if_false, Bool.toNat_true, Bool.toNat_false, b0, b1, Bool.false_eq_true, Bool.true_eq_false]
/-- a section hangs together with one of a set -/
def lvb (S : Sm) (k : Nat) (c on : Nat → Bool) (s : Nat) : Bool := decide (fb_ct (fun x => its (psS S k c) 10 (fun y => y == s) x && on x) 10 ≠ 0)
theorem lvb_iff {S : Sm} (W : Wf S n k q) (c on : Nat → Bool) {s : Nat} (hs : s < n) : lvb S k c on s = true ↔ ∃ x, x < n ∧ on x = true ∧ cn k (uS S) (vS S) c s x := by
  obtain ⟨⟨-, hn, e1, hk16, -⟩, WI, -⟩ := W
  have hb : ∀ i, i < k → uS S i < n ∧ vS S i < n := fun i hi => ⟨(WI i hi).1.2, (WI i hi).2.1.2⟩
  have hi : ∀ x, its (psS S k c) 10 (fun y => y == s) x = true ↔ cn k (uS S) (vS S) c s x := fun x => by
    rw [its_iff hb (T := fun y => y == s) (fun y hy => by simp at hy; omega) (by omega)]
    constructor
    · rintro ⟨y, h1, h2⟩
      simp at h1
      rw [← h1]; exact h2
    · intro h
      exact ⟨s, by simp, h⟩
  unfold lvb
  rw [decide_eq_true_eq]
  constructor
  · intro h
    obtain ⟨x, h1⟩ := Classical.not_forall.mp (fun q => h (fb_ct_zero.mpr q))
    obtain ⟨hx, h1⟩ := Classical.not_imp.mp h1
    have h2 : (its (psS S k c) 10 (fun y => y == s) x && on x) = true := by
      cases hq : its (psS S k c) 10 (fun y => y == s) x && on x
      · exact absurd hq h1
      · rfl
    rw [Bool.and_eq_true, hi] at h2
    exact ⟨x, cn_lt hb h2.1 hs, h2.2, h2.1⟩
  · rintro ⟨x, h1, h2, h3⟩ h
    have := (fb_ct_zero.mp h) x (by omega)
    rw [h2, (hi x).mpr h3] at this
    cases this
theorem m_live (W : Wf (M (a + 1)) n k q) (c on : Nat → Bool) {m : Nat} (hk : k ≤ m) (hm : m ≤ 31) :
    f_X9_live a M (bs on 10) (bs c m) = some (bs (fun s => decide (s < n) && lvb (M (a + 1)) k c on s) 10, M) := by
  have W0 := W
  obtain ⟨⟨e0, hn, -⟩, -⟩ := W
  rw [← bs_n (p := lvb (M (a + 1)) k c on) hn (by omega)]
  unfold f_X9_live
  refine loop_up (fun k' (z : Mm × Int32 × Int32) => l_X9_live_5 a (bs on 10) (bs c m) k' z.1 z.2.1 z.2.2) (fun i => (M, bs (lvb (M (a + 1)) k c on) i, nI i)) n (some (bs (lvb (M (a + 1)) k c on) n, M)) ?_ ?_ FU 0 (Nat.zero_le _) (by show _ < 4000; omega)
  · intro k' i hi
    show l_X9_live_5 a (bs on 10) (bs c m) (k' + 1) M _ (nI i) = l_X9_live_5 a (bs on 10) (bs c m) k' M _ (nI (i + 1))
    have hz : (bs (its (psS (M (a + 1)) k c) 10 (fun x => x == i)) 10 &&& bs on 10 = nI 0) = (lvb (M (a + 1)) k c on i = false) := by
      rw [bs_and (by omega), bs_z (by omega), ← fb_ct_zero]
      simp [lvb]
    have hh : f_X9_hanging a M (nI 1 <<< (nI i &&& nI 31)) (bs c m) = some (bs (its (psS (M (a + 1)) k c) 10 (fun x => x == i)) 10, M) := by
      rw [bs_1 (show i < 10 by omega) (show 10 ≤ 32 by omega)]
      exact m_hanging W0 c _ hk hm
    have hs := bs_s (lvb (M (a + 1)) k c on) i
    rw [l_X9_live_5, hs]
    generalize bs (lvb (M (a + 1)) k c on) i = B at *
    generalize bs on 10 = B2 at *
    simp (disch := omega) only [li_0, li_1, li_2, li_3, li_4, li_5, li_6, li_7, li_8, li_9, li_10, li_11, li_12, li_13, li_14, li_15, li_16, li_17, li_18, li_19, li_20, li_21, li_22, li_23, li_24, li_25, li_26, li_27, li_28, li_29, li_30, li_31, li_32, li_33, li_34, li_35, li_36, li_37, li_38, li_39, li_40, li_41, li_42, li_43, li_44, li_45, li_46, li_47, li_48, li_49, li_50, li_51, li_52, li_53, li_54, li_55, li_56, li_57, li_58, li_59, li_60, li_61, li_62, li_63, li_71, li_72, li_73, li_81, li_82, li_97, li_98, li_99, li_100, li_101, li_102, li_105, li_110, li_111, li_116, li_117, li_126, li_161, li_233, li_932, li_1165, li_10000, li_100000, n_lt_t, n_lt_f, n_eq_t, n_eq_f, nI_add, n_sub, n_mul, n_ix, n_ckd, bnd_e, obn_s, zrk_0, zrk_1, zrk_b, zb_0, zb_1, zb_b, if_true, if_false, Bool.toNat_true, Bool.toNat_false, b0, b1, Bool.false_eq_true, Bool.true_eq_false, e0, hh, hz, b_X9_live_39]
    cases lvb (M (a + 1)) k c on i <;> simp only [li_0, li_1, li_2, li_3, li_4, li_5, li_6, li_7, li_8, li_9, li_10, li_11, li_12, li_13, li_14, li_15, li_16, li_17, li_18, li_19, li_20, li_21, li_22, li_23, li_24, li_25, li_26, li_27, li_28, li_29, li_30, li_31, li_32, li_33, li_34, li_35, li_36, li_37, li_38, li_39, li_40, li_41, li_42, li_43, li_44, li_45, li_46, li_47, li_48, li_49, li_50, li_51, li_52, li_53, li_54, li_55, li_56, li_57, li_58, li_59, li_60, li_61, li_62, li_63, li_71, li_72, li_73, li_81, li_82, li_97, li_98, li_99, li_100, li_101, li_102, li_105, li_110, li_111, li_116, li_117, li_126, li_161, li_233, li_932, li_1165, li_10000, li_100000, n_lt_t, n_lt_f, n_eq_t, n_eq_f, nI_add, n_sub, n_mul, n_ix, n_ckd, bnd_e, obn_s, zrk_0, zrk_1, zrk_b, zb_0, zb_1, zb_b, if_true, if_false, Bool.toNat_true, Bool.toNat_false, b0, b1, Bool.false_eq_true, Bool.true_eq_false]
  · intro k'
    show l_X9_live_5 a (bs on 10) (bs c m) (k' + 1) M _ (nI n) = _
    rw [l_X9_live_5]
    simp (disch := omega) only [li_0, li_1, li_2, li_3, li_4, li_5, li_6, li_7, li_8, li_9, li_10, li_11, li_12, li_13, li_14, li_15, li_16, li_17, li_18, li_19, li_20, li_21, li_22, li_23, li_24, li_25, li_26, li_27, li_28, li_29, li_30, li_31, li_32, li_33, li_34, li_35, li_36, li_37, li_38, li_39, li_40, li_41, li_42, li_43, li_44, li_45, li_46, li_47, li_48, li_49, li_50, li_51, li_52, li_53, li_54, li_55, li_56, li_57, li_58, li_59, li_60, li_61, li_62, li_63, li_71, li_72, li_73, li_81, li_82, li_97, li_98, li_99, li_100, li_101, li_102, li_105, li_110, li_111, li_116, li_117, li_126, li_161, li_233, li_932, li_1165, li_10000, li_100000, n_lt_t, n_lt_f, n_eq_t, n_eq_f, nI_add, n_sub, n_mul, n_ix, n_ckd, bnd_e, obn_s, zrk_0, zrk_1, zrk_b, zb_0, zb_1, zb_b, if_true, if_false, Bool.toNat_true, Bool.toNat_false, b0, b1, Bool.false_eq_true, Bool.true_eq_false, e0]
/-- the feeders that are on -/
def onx (S : Sm) (n : Nat) (s : Nat) : Bool := decide (s < n) && onS S s
def lvS (S : Sm) (n k : Nat) (s : Nat) : Bool := decide (s < n) && lvb S k (cS S) (onx S n) s
theorem m_onx (W : Wf (M (a + 1)) n k q) : f_X9_onOnes a M = some (bs (onx (M (a + 1)) n) 10, M) := by
  rw [m_onOnes W, bs_n W.1.2.1 (by omega)]
  rfl
theorem m_liveNow (W : Wf (M (a + 1)) n k q) : f_X9_liveNow a M = some (bs (lvS (M (a + 1)) n k) 10, M) := by
  unfold f_X9_liveNow
  have h2 := W.1.2.2.2.1
  rw [m_onx W]
  simp only [obn_s, m_closedOnes W]
  rw [m_live W _ _ (Nat.le_refl k) (by omega)]
  rfl
theorem m_isLive (W : Wf (M (a + 1)) n k q) {s : Nat} (hs : s < 10) : f_X9_isLive a M (nI s) = some (nI (lvS (M (a + 1)) n k s).toNat, M) := by
  unfold f_X9_isLive
  have hg : ((bs (lvS (M (a + 1)) n k) 10 >>> (nI s &&& nI 31)) &&& nI 1 = nI 1) = (lvS (M (a + 1)) n k s = true) := by
    rw [bs_g (show 10 ≤ 31 by omega) (show s < 32 by omega), b1, show decide (s < 10) = true by simpa using hs, Bool.true_and]
  rw [m_liveNow W]
  simp (disch := omega) only [li_0, li_1, li_2, li_3, li_4, li_5, li_6, li_7, li_8, li_9, li_10, li_11, li_12, li_13, li_14, li_15, li_16, li_17, li_18, li_19, li_20, li_21, li_22, li_23, li_24, li_25, li_26, li_27, li_28, li_29, li_30, li_31, li_32, li_33, li_34, li_35, li_36, li_37, li_38, li_39, li_40, li_41, li_42, li_43, li_44, li_45, li_46, li_47, li_48, li_49, li_50, li_51, li_52, li_53, li_54, li_55, li_56, li_57, li_58, li_59, li_60, li_61, li_62, li_63, li_71, li_72, li_73, li_81, li_82, li_97, li_98, li_99, li_100, li_101, li_102, li_105, li_110, li_111, li_116, li_117, li_126, li_161, li_233, li_932, li_1165, li_10000, li_100000, n_lt_t, n_lt_f, n_eq_t, n_eq_f, nI_add, n_sub, n_mul, n_ix, n_ckd, bnd_e, obn_s, zrk_0, zrk_1, zrk_b, zb_0, zb_1, zb_b, if_true, if_false, Bool.toNat_true, Bool.toNat_false, b0, b1, Bool.false_eq_true, Bool.true_eq_false, b_X9_isLive_17, hg]
  cases lvS (M (a + 1)) n k s <;> simp only [li_0, li_1, li_2, li_3, li_4, li_5, li_6, li_7, li_8, li_9, li_10, li_11, li_12, li_13, li_14, li_15, li_16, li_17, li_18, li_19, li_20, li_21, li_22, li_23, li_24, li_25, li_26, li_27, li_28, li_29, li_30, li_31, li_32, li_33, li_34, li_35, li_36, li_37, li_38, li_39, li_40, li_41, li_42, li_43, li_44, li_45, li_46, li_47, li_48, li_49, li_50, li_51, li_52, li_53, li_54, li_55, li_56, li_57, li_58, li_59, li_60, li_61, li_62, li_63, li_71, li_72, li_73, li_81, li_82, li_97, li_98, li_99, li_100, li_101, li_102, li_105, li_110, li_111, li_116, li_117, li_126, li_161, li_233, li_932, li_1165, li_10000, li_100000, n_lt_t, n_lt_f, n_eq_t, n_eq_f, nI_add, n_sub, n_mul, n_ix, n_ckd, bnd_e, obn_s, zrk_0, zrk_1, zrk_b, zb_0, zb_1, zb_b, if_true, if_false, Bool.toNat_true, Bool.toNat_false, b0, b1, Bool.false_eq_true, Bool.true_eq_false]
/-- the kind of the latest of two steps there, among the first j of the log -/
def tdS (S : Sm) (x y p : Nat) : Nat → Int32
  | 0 => -nI 1
  | j + 1 => if (kS S j = x ∨ kS S j = y) ∧ pS S j = p then nI (kS S j) else tdS S x y p j
theorem m_toldBy (W : Wf (M (a + 1)) n k q) {x y p : Nat} (hx : x < 8) (hy : y < 8) (hp : p < 16) : f_X9_toldBy a M (nI x) (nI y) (nI p) = some (tdS (M (a + 1)) x y p q, M) := by
  obtain ⟨⟨-, hn, -, hk, e5, hq⟩, -, -, WL⟩ := W
  unfold f_X9_toldBy
  refine loop_up (fun k' (z : Mm × Int32 × Int32) => l_X9_toldBy_6 a (nI x) (nI y) (nI p) k' z.1 z.2.1 z.2.2) (fun i => (M, tdS (M (a + 1)) x y p i, nI i)) q (some (tdS (M (a + 1)) x y p q, M)) ?_ ?_ FU 0 (Nat.zero_le _) (by show _ < 4000; omega)
  · intro k' i hi
    show l_X9_toldBy_6 a (nI x) (nI y) (nI p) (k' + 1) M _ (nI i) = l_X9_toldBy_6 a (nI x) (nI y) (nI p) k' M _ (nI (i + 1))
    obtain ⟨⟨h1, h2⟩, h3, h4⟩ := WL i hi
    have hp2 : pS (M (a + 1)) i < 16 := by split at h4 <;> omega
    rw [l_X9_toldBy_6, tdS]
    simp (disch := omega) only [li_0, li_1, li_2, li_3, li_4, li_5, li_6, li_7, li_8, li_9, li_10, li_11, li_12, li_13, li_14, li_15, li_16, li_17, li_18, li_19, li_20, li_21, li_22, li_23, li_24, li_25, li_26, li_27, li_28, li_29, li_30, li_31, li_32, li_33, li_34, li_35, li_36, li_37, li_38, li_39, li_40, li_41, li_42, li_43, li_44, li_45, li_46, li_47, li_48, li_49, li_50, li_51, li_52, li_53, li_54, li_55, li_56, li_57, li_58, li_59, li_60, li_61, li_62, li_63, li_71, li_72, li_73, li_81, li_82, li_97, li_98, li_99, li_100, li_101, li_102, li_105, li_110, li_111, li_116, li_117, li_126, li_161, li_233, li_932, li_1165, li_10000, li_100000, n_lt_t, n_lt_f, n_eq_t, n_eq_f, nI_add, n_sub, n_mul, n_ix, n_ckd, bnd_e, obn_s, zrk_0, zrk_1, zrk_b, zb_0, zb_1, zb_b, if_true, if_false, Bool.toNat_true, Bool.toNat_false, b0, b1, Bool.false_eq_true, Bool.true_eq_false, e5, m_logged, h1, h3, b_X9_toldBy_39, b_X9_toldBy_54, b_X9_toldBy_55, b_X9_toldBy_74]
    simp (disch := omega) only [n_eq]
    by_cases g1 : kS (M (a + 1)) i = x <;> by_cases g2 : kS (M (a + 1)) i = y <;> by_cases g3 : pS (M (a + 1)) i = p <;> simp [g1, g2, g3] <;> first | rfl | (intro q; exact absurd q g1) | (intro q; exact absurd q g2) | skip
  · intro k'
    show l_X9_toldBy_6 a (nI x) (nI y) (nI p) (k' + 1) M _ (nI q) = _
    rw [l_X9_toldBy_6]
    simp (disch := omega) only [li_0, li_1, li_2, li_3, li_4, li_5, li_6, li_7, li_8, li_9, li_10, li_11, li_12, li_13, li_14, li_15, li_16, li_17, li_18, li_19, li_20, li_21, li_22, li_23, li_24, li_25, li_26, li_27, li_28, li_29, li_30, li_31, li_32, li_33, li_34, li_35, li_36, li_37, li_38, li_39, li_40, li_41, li_42, li_43, li_44, li_45, li_46, li_47, li_48, li_49, li_50, li_51, li_52, li_53, li_54, li_55, li_56, li_57, li_58, li_59, li_60, li_61, li_62, li_63, li_71, li_72, li_73, li_81, li_82, li_97, li_98, li_99, li_100, li_101, li_102, li_105, li_110, li_111, li_116, li_117, li_126, li_161, li_233, li_932, li_1165, li_10000, li_100000, n_lt_t, n_lt_f, n_eq_t, n_eq_f, nI_add, n_sub, n_mul, n_ix, n_ckd, bnd_e, obn_s, zrk_0, zrk_1, zrk_b, zb_0, zb_1, zb_b, if_true, if_false, Bool.toNat_true, Bool.toNat_false, b0, b1, Bool.false_eq_true, Bool.true_eq_false, e5]
/-- an isolator's state, a feeder's, as the first j steps of the log tell it -/
def caS (S : Sm) (i : Nat) : Nat → Bool
  | 0 => wS S i
  | j + 1 => if kS S j = 2 ∧ pS S j = i then false else if kS S j = 3 ∧ pS S j = i then true else caS S i j
def oaS (S : Sm) (s : Nat) : Nat → Bool
  | 0 => bS S 8 s
  | j + 1 => if kS S j = 4 ∧ pS S j = s then false else if kS S j = 5 ∧ pS S j = s then true else oaS S s j
theorem td_ca (S : Sm) (i : Nat) : ∀ j, (tdS S 2 3 i j = -nI 1 ∧ caS S i j = wS S i) ∨ (tdS S 2 3 i j = nI 2 ∧ caS S i j = false) ∨ (tdS S 2 3 i j = nI 3 ∧ caS S i j = true)
  | 0 => Or.inl ⟨rfl, rfl⟩
  | j + 1 => by
    simp only [tdS, caS]
    by_cases g1 : kS S j = 2 <;> by_cases g2 : kS S j = 3 <;> by_cases g3 : pS S j = i <;> simp [g1, g2, g3] <;> exact td_ca S i j
theorem td_oa (S : Sm) (i : Nat) : ∀ j, (tdS S 4 5 i j = -nI 1 ∧ oaS S i j = bS S 8 i) ∨ (tdS S 4 5 i j = nI 4 ∧ oaS S i j = false) ∨ (tdS S 4 5 i j = nI 5 ∧ oaS S i j = true)
  | 0 => Or.inl ⟨rfl, rfl⟩
  | j + 1 => by
    simp only [tdS, oaS]
    by_cases g1 : kS S j = 4 <;> by_cases g2 : kS S j = 5 <;> by_cases g3 : pS S j = i <;> simp [g1, g2, g3] <;> exact td_oa S i j
theorem m1_lt : (-nI 1 < nI 0) = True := by simp; decide
theorem m_closedAgain (W : Wf (M (a + 1)) n k q) {i : Nat} (hi : i < k) : f_X9_closedAgain a M (nI i) = some (nI (caS (M (a + 1)) i q).toNat, M) := by
  have hk := W.1.2.2.2.1
  unfold f_X9_closedAgain
  simp (disch := omega) only [li_0, li_1, li_2, li_3, li_4, li_5, li_6, li_7, li_8, li_9, li_10, li_11, li_12, li_13, li_14, li_15, li_16, li_17, li_18, li_19, li_20, li_21, li_22, li_23, li_24, li_25, li_26, li_27, li_28, li_29, li_30, li_31, li_32, li_33, li_34, li_35, li_36, li_37, li_38, li_39, li_40, li_41, li_42, li_43, li_44, li_45, li_46, li_47, li_48, li_49, li_50, li_51, li_52, li_53, li_54, li_55, li_56, li_57, li_58, li_59, li_60, li_61, li_62, li_63, li_71, li_72, li_73, li_81, li_82, li_97, li_98, li_99, li_100, li_101, li_102, li_105, li_110, li_111, li_116, li_117, li_126, li_161, li_233, li_932, li_1165, li_10000, li_100000, n_lt_t, n_lt_f, n_eq_t, n_eq_f, nI_add, n_sub, n_mul, n_ix, n_ckd, bnd_e, obn_s, zrk_0, zrk_1, zrk_b, zb_0, zb_1, zb_b, if_true, if_false, Bool.toNat_true, Bool.toNat_false, b0, b1, Bool.false_eq_true, Bool.true_eq_false, m_toldBy W]
  rcases td_ca (M (a + 1)) i q with ⟨h1, h2⟩ | ⟨h1, h2⟩ | ⟨h1, h2⟩ <;> rw [h1, h2] <;> simp (disch := omega) only [li_0, li_1, li_2, li_3, li_4, li_5, li_6, li_7, li_8, li_9, li_10, li_11, li_12, li_13, li_14, li_15, li_16, li_17, li_18, li_19, li_20, li_21, li_22, li_23, li_24, li_25, li_26, li_27, li_28, li_29, li_30, li_31, li_32, li_33, li_34, li_35, li_36, li_37, li_38, li_39, li_40, li_41, li_42, li_43, li_44, li_45, li_46, li_47, li_48, li_49, li_50, li_51, li_52, li_53, li_54, li_55, li_56, li_57, li_58, li_59, li_60, li_61, li_62, li_63, li_71, li_72, li_73, li_81, li_82, li_97, li_98, li_99, li_100, li_101, li_102, li_105, li_110, li_111, li_116, li_117, li_126, li_161, li_233, li_932, li_1165, li_10000, li_100000, n_lt_t, n_lt_f, n_eq_t, n_eq_f, nI_add, n_sub, n_mul, n_ix, n_ckd, bnd_e, obn_s, zrk_0, zrk_1, zrk_b, zb_0, zb_1, zb_b, if_true, if_false, Bool.toNat_true, Bool.toNat_false, b0, b1, Bool.false_eq_true, Bool.true_eq_false, m1_lt, m_at, b_X9_closedAgain_31, (W.2.1 i hi).2.2.2]
theorem m_onAgain (W : Wf (M (a + 1)) n k q) {i : Nat} (hi : i < n) : f_X9_onAgain a M (nI i) = some (nI (oaS (M (a + 1)) i q).toNat, M) := by
  have hk := W.1.2.1
  unfold f_X9_onAgain
  simp (disch := omega) only [li_0, li_1, li_2, li_3, li_4, li_5, li_6, li_7, li_8, li_9, li_10, li_11, li_12, li_13, li_14, li_15, li_16, li_17, li_18, li_19, li_20, li_21, li_22, li_23, li_24, li_25, li_26, li_27, li_28, li_29, li_30, li_31, li_32, li_33, li_34, li_35, li_36, li_37, li_38, li_39, li_40, li_41, li_42, li_43, li_44, li_45, li_46, li_47, li_48, li_49, li_50, li_51, li_52, li_53, li_54, li_55, li_56, li_57, li_58, li_59, li_60, li_61, li_62, li_63, li_71, li_72, li_73, li_81, li_82, li_97, li_98, li_99, li_100, li_101, li_102, li_105, li_110, li_111, li_116, li_117, li_126, li_161, li_233, li_932, li_1165, li_10000, li_100000, n_lt_t, n_lt_f, n_eq_t, n_eq_f, nI_add, n_sub, n_mul, n_ix, n_ckd, bnd_e, obn_s, zrk_0, zrk_1, zrk_b, zb_0, zb_1, zb_b, if_true, if_false, Bool.toNat_true, Bool.toNat_false, b0, b1, Bool.false_eq_true, Bool.true_eq_false, m_toldBy W]
  rcases td_oa (M (a + 1)) i q with ⟨h1, h2⟩ | ⟨h1, h2⟩ | ⟨h1, h2⟩ <;> rw [h1, h2] <;> simp (disch := omega) only [li_0, li_1, li_2, li_3, li_4, li_5, li_6, li_7, li_8, li_9, li_10, li_11, li_12, li_13, li_14, li_15, li_16, li_17, li_18, li_19, li_20, li_21, li_22, li_23, li_24, li_25, li_26, li_27, li_28, li_29, li_30, li_31, li_32, li_33, li_34, li_35, li_36, li_37, li_38, li_39, li_40, li_41, li_42, li_43, li_44, li_45, li_46, li_47, li_48, li_49, li_50, li_51, li_52, li_53, li_54, li_55, li_56, li_57, li_58, li_59, li_60, li_61, li_62, li_63, li_71, li_72, li_73, li_81, li_82, li_97, li_98, li_99, li_100, li_101, li_102, li_105, li_110, li_111, li_116, li_117, li_126, li_161, li_233, li_932, li_1165, li_10000, li_100000, n_lt_t, n_lt_f, n_eq_t, n_eq_f, nI_add, n_sub, n_mul, n_ix, n_ckd, bnd_e, obn_s, zrk_0, zrk_1, zrk_b, zb_0, zb_1, zb_b, if_true, if_false, Bool.toNat_true, Bool.toNat_false, b0, b1, Bool.false_eq_true, Bool.true_eq_false, m1_lt, m_of, b_X9_onAgain_32, (W.2.2.1 i hi).2.2.2.2]
def laS (S : Sm) (n k q : Nat) : Nat → Bool := its (psS S k (fun i => caS S i q)) 10 (fun s => decide (s < n) && oaS S s q)
theorem m_liveAgain (W : Wf (M (a + 1)) n k q) : f_X9_liveAgain a M = some (bs (laS (M (a + 1)) n k q) 10, M) := by
  have W0 := W
  obtain ⟨⟨e0, hn, e1, hk, -⟩, -⟩ := W
  have h2 : l_X9_liveAgain_34 a (bs (fun s => oaS (M (a + 1)) s q) n) FU M 0 0 = some (bs (laS (M (a + 1)) n k q) 10, M) := by
    refine loop_up (fun k' (z : Mm × Int32 × Int32) => l_X9_liveAgain_34 a (bs (fun s => oaS (M (a + 1)) s q) n) k' z.1 z.2.1 z.2.2) (fun i => (M, bs (fun i => caS (M (a + 1)) i q) i, nI i)) k (some (bs (laS (M (a + 1)) n k q) 10, M)) ?_ ?_ FU 0 (Nat.zero_le _) (by show _ < 4000; omega)
    · intro k' i hi
      show l_X9_liveAgain_34 a _ (k' + 1) M _ (nI i) = l_X9_liveAgain_34 a _ k' M _ (nI (i + 1))
      rw [l_X9_liveAgain_34]
      simp (disch := omega) only [li_0, li_1, li_2, li_3, li_4, li_5, li_6, li_7, li_8, li_9, li_10, li_11, li_12, li_13, li_14, li_15, li_16, li_17, li_18, li_19, li_20, li_21, li_22, li_23, li_24, li_25, li_26, li_27, li_28, li_29, li_30, li_31, li_32, li_33, li_34, li_35, li_36, li_37, li_38, li_39, li_40, li_41, li_42, li_43, li_44, li_45, li_46, li_47, li_48, li_49, li_50, li_51, li_52, li_53, li_54, li_55, li_56, li_57, li_58, li_59, li_60, li_61, li_62, li_63, li_71, li_72, li_73, li_81, li_82, li_97, li_98, li_99, li_100, li_101, li_102, li_105, li_110, li_111, li_116, li_117, li_126, li_161, li_233, li_932, li_1165, li_10000, li_100000, n_lt_t, n_lt_f, n_eq_t, n_eq_f, nI_add, n_sub, n_mul, n_ix, n_ckd, bnd_e, obn_s, zrk_0, zrk_1, zrk_b, zb_0, zb_1, zb_b, if_true, if_false, Bool.toNat_true, Bool.toNat_false, b0, b1, Bool.false_eq_true, Bool.true_eq_false, e1, m_closedAgain W0 hi, bs_b, bs_s]
    · intro k'
      show l_X9_liveAgain_34 a _ (k' + 1) M _ (nI k) = _
      rw [l_X9_liveAgain_34]
      simp (disch := omega) only [li_0, li_1, li_2, li_3, li_4, li_5, li_6, li_7, li_8, li_9, li_10, li_11, li_12, li_13, li_14, li_15, li_16, li_17, li_18, li_19, li_20, li_21, li_22, li_23, li_24, li_25, li_26, li_27, li_28, li_29, li_30, li_31, li_32, li_33, li_34, li_35, li_36, li_37, li_38, li_39, li_40, li_41, li_42, li_43, li_44, li_45, li_46, li_47, li_48, li_49, li_50, li_51, li_52, li_53, li_54, li_55, li_56, li_57, li_58, li_59, li_60, li_61, li_62, li_63, li_71, li_72, li_73, li_81, li_82, li_97, li_98, li_99, li_100, li_101, li_102, li_105, li_110, li_111, li_116, li_117, li_126, li_161, li_233, li_932, li_1165, li_10000, li_100000, n_lt_t, n_lt_f, n_eq_t, n_eq_f, nI_add, n_sub, n_mul, n_ix, n_ckd, bnd_e, obn_s, zrk_0, zrk_1, zrk_b, zb_0, zb_1, zb_b, if_true, if_false, Bool.toNat_true, Bool.toNat_false, b0, b1, Bool.false_eq_true, Bool.true_eq_false, e1]
      rw [bs_n hn (by omega : (10 : Nat) ≤ 32), m_hanging W0 _ _ (Nat.le_refl k) (by omega)]
      rfl
  unfold f_X9_liveAgain
  refine loop_up (fun k' (z : Mm × Int32 × Int32) => l_X9_liveAgain_6 a 0 k' z.1 z.2.1 z.2.2) (fun i => (M, bs (fun s => oaS (M (a + 1)) s q) i, nI i)) n (some (bs (laS (M (a + 1)) n k q) 10, M)) ?_ ?_ FU 0 (Nat.zero_le _) (by show _ < 4000; omega)
  · intro k' i hi
    show l_X9_liveAgain_6 a 0 (k' + 1) M _ (nI i) = l_X9_liveAgain_6 a 0 k' M _ (nI (i + 1))
    rw [l_X9_liveAgain_6]
    simp (disch := omega) only [li_0, li_1, li_2, li_3, li_4, li_5, li_6, li_7, li_8, li_9, li_10, li_11, li_12, li_13, li_14, li_15, li_16, li_17, li_18, li_19, li_20, li_21, li_22, li_23, li_24, li_25, li_26, li_27, li_28, li_29, li_30, li_31, li_32, li_33, li_34, li_35, li_36, li_37, li_38, li_39, li_40, li_41, li_42, li_43, li_44, li_45, li_46, li_47, li_48, li_49, li_50, li_51, li_52, li_53, li_54, li_55, li_56, li_57, li_58, li_59, li_60, li_61, li_62, li_63, li_71, li_72, li_73, li_81, li_82, li_97, li_98, li_99, li_100, li_101, li_102, li_105, li_110, li_111, li_116, li_117, li_126, li_161, li_233, li_932, li_1165, li_10000, li_100000, n_lt_t, n_lt_f, n_eq_t, n_eq_f, nI_add, n_sub, n_mul, n_ix, n_ckd, bnd_e, obn_s, zrk_0, zrk_1, zrk_b, zb_0, zb_1, zb_b, if_true, if_false, Bool.toNat_true, Bool.toNat_false, b0, b1, Bool.false_eq_true, Bool.true_eq_false, e0, m_onAgain W0 hi, bs_b, bs_s]
  · intro k'
    show l_X9_liveAgain_6 a 0 (k' + 1) M _ (nI n) = _
    rw [l_X9_liveAgain_6, h2]
    simp (disch := omega) only [li_0, li_1, li_2, li_3, li_4, li_5, li_6, li_7, li_8, li_9, li_10, li_11, li_12, li_13, li_14, li_15, li_16, li_17, li_18, li_19, li_20, li_21, li_22, li_23, li_24, li_25, li_26, li_27, li_28, li_29, li_30, li_31, li_32, li_33, li_34, li_35, li_36, li_37, li_38, li_39, li_40, li_41, li_42, li_43, li_44, li_45, li_46, li_47, li_48, li_49, li_50, li_51, li_52, li_53, li_54, li_55, li_56, li_57, li_58, li_59, li_60, li_61, li_62, li_63, li_71, li_72, li_73, li_81, li_82, li_97, li_98, li_99, li_100, li_101, li_102, li_105, li_110, li_111, li_116, li_117, li_126, li_161, li_233, li_932, li_1165, li_10000, li_100000, n_lt_t, n_lt_f, n_eq_t, n_eq_f, nI_add, n_sub, n_mul, n_ix, n_ckd, bnd_e, obn_s, zrk_0, zrk_1, zrk_b, zb_0, zb_1, zb_b, if_true, if_false, Bool.toNat_true, Bool.toNat_false, b0, b1, Bool.false_eq_true, Bool.true_eq_false, e0]
end MH
