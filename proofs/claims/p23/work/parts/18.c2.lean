/-! the class's net: settings, questions, copies -/
section CN2
variable {a : Nat} {M : Mm} {n k : Nat} {f u v : Nat → Nat} {c : Nat → Bool}
/-- all but some rows stays -/
theorem nB_kept {M' : Mm} (h : nB M a n k f u v c) (h0 : M' a = M a) (h1 : M' (a + 1) = M (a + 1)) (h2 : M' (a + 2) = M (a + 2)) (h3 : M' (a + 3) = M (a + 3)) (h4 : M' (a + 4) = M (a + 4)) : nB M' a n k f u v c := by
  unfold nB at h ⊢
  rw [h0, h1, h2, h3, h4]
  exact h
theorem nN_live0 (h : nN M a n k f u v c) : ∀ s, n ≤ s → s < 10 → zb (M (a + 6) s) = nI 0 := fun s h1 h2 => by
  rw [h.2.2 s h2, nlv, show decide (s < n) = false by simp; omega]
  rfl
theorem setFeeder_ok (h : nN M a n k f u v c) {s x : Nat} (hs : s < n) (hx : x ≤ 2) : ∃ M', f_X2_setFeeder a M (nI s) (nI x) = some (nI 0, M') ∧ nN M' a n k (fun t => if t = s then x else f t) u v c ∧ ∀ b, b ≠ a + 1 → b ≠ a + 6 → M' b = M b := by
  obtain ⟨hB, hL, hV⟩ := id h
  obtain ⟨⟨hn, hk, e0, e1⟩, hF, hI⟩ := id hB
  have hB2 : nB (mst M (a + 1) s (nI x)) a n k (fun t => if t = s then x else f t) u v c := by
    refine ⟨⟨hn, hk, ?_, ?_⟩, fun t ht => ?_, fun i hi => ?_⟩
    · rw [mst_n (by omega), e0]
    · rw [mst_n (by omega), e1]
    · rw [mst_at]
      by_cases q : t = s
      · subst q; rw [upd_at]; simp [hx]
      · rw [upd_n q]; simp only [if_neg q]; exact hF t ht
    · rw [mst_n (by omega), mst_n (by omega), mst_n (by omega)]
      exact hI i hi
  have hL2 : nL (mst M (a + 1) s (nI x)) a n k u v c := by
    obtain ⟨lo, hlo⟩ := hL
    exact ⟨lo, fun t ht => by rw [mst_n (by omega)]; exact hlo t ht⟩
  obtain ⟨g, h1, h2⟩ := feed_ok hB2 hL2 (fun t h1 h2 => by rw [mst_n (by omega)]; exact nN_live0 h t h1 h2)
  refine ⟨mrow (mst M (a + 1) s (nI x)) (a + 6) g, ?_, ⟨nB_kept hB2 (mrow_n (by omega)) (mrow_n (by omega)) (mrow_n (by omega)) (mrow_n (by omega)) (mrow_n (by omega)), ?_, ?_⟩, fun b b1 b2 => ?_⟩
  · unfold f_X2_setFeeder
    simp (disch := omega) only [li_0, li_1, li_2, li_3, li_4, li_5, li_6, li_7, li_8, li_9, li_10, li_11, li_12, li_13, li_14, li_15, li_16, li_17, li_18, li_19, li_20, li_21, li_22, li_23, li_24, li_25, li_26, li_27, li_28, li_29, li_30, li_31, li_32, li_33, li_34, li_35, li_36, li_37, li_38, li_39, li_40, li_41, li_42, li_43, li_44, li_45, li_46, li_47, li_48, li_49, li_50, li_51, li_52, li_53, li_54, li_55, li_56, li_57, li_58, li_59, li_60, li_61, li_62, li_63, li_71, li_72, li_73, li_81, li_82, li_97, li_98, li_99, li_100, li_101, li_102, li_105, li_110, li_111, li_116, li_117, li_126, li_161, li_233, li_932, li_1165, li_10000, li_100000, n_lt_t, n_lt_f, n_eq_t, n_eq_f, nI_add, n_sub, n_mul, n_ix, n_ckd, bnd_e, obn_s, zrk_0, zrk_1, zrk_b, zb_0, zb_1, zb_b, if_true, if_false, Bool.toNat_true, Bool.toNat_false, b0, b1, Bool.false_eq_true, Bool.true_eq_false, h1]
  · obtain ⟨lo, hlo⟩ := hL2
    exact ⟨lo, fun t ht => by rw [mrow_n (by omega)]; exact hlo t ht⟩
  · intro t ht
    rw [mrow_at]
    exact h2 t ht
  · rw [mrow_n b2, mst_n b1]
theorem setIso_ok (hB : nB M a n k f u v c) (hz : ∀ s, n ≤ s → s < 10 → zb (M (a + 6) s) = nI 0) {i : Nat} {b : Bool} (hi : i < k) : ∃ M', f_X2_setIsolator a M (nI i) (nI b.toNat) = some (nI 0, M') ∧ nN M' a n k f u v (fun j => if j = i then b else c j) ∧ ∀ x, x ≠ a + 4 → x ≠ a + 5 → x ≠ a + 6 → M' x = M x := by
  obtain ⟨⟨hn, hk, e0, e1⟩, hF, hI⟩ := id hB
  have hn1 : 1 ≤ n := by have := (hI i hi).1.2; omega
  generalize hc2 : (fun j => if j = i then b else c j) = c2
  have hB2 : nB (mst M (a + 4) i (nI b.toNat)) a n k f u v c2 := by
    refine ⟨⟨hn, hk, ?_, ?_⟩, fun t ht => ?_, fun j hj => ?_⟩
    · rw [mst_n (by omega), e0]
    · rw [mst_n (by omega), e1]
    · rw [mst_n (by omega)]; exact hF t ht
    · rw [mst_n (by omega), mst_n (by omega), mst_at, ← hc2]
      refine ⟨(hI j hj).1, (hI j hj).2.1, ?_⟩
      by_cases q : j = i
      · subst q; rw [upd_at, zb_b]; simp
      · rw [upd_n q]; simp only [if_neg q]; exact (hI j hj).2.2
  have hb : ∀ j, j < k → u j < n ∧ v j < n := fun j hj => ⟨(hI j hj).1.2, (hI j hj).2.1.2⟩
  -- the rounds
  have hd : ∀ r x, itl (lbp u v c2 k) r (fun y => y) x ≤ x := by
    intro r
    induction r with
    | zero => exact fun x => Nat.le_refl x
    | succ r ih => exact fun x => Nat.le_trans (lbp_dn k x) (ih x)
  have hB3 : ∀ row, nB (mrow (mst M (a + 4) i (nI b.toNat)) (a + 5) row) a n k f u v c2 := fun row => nB_kept hB2 (mrow_n (by omega)) (mrow_n (by omega)) (mrow_n (by omega)) (mrow_n (by omega)) (mrow_n (by omega))
  have hL3 : nL (mrow (mst M (a + 4) i (nI b.toNat)) (a + 5) (fun s => if s < n then nI (itl (lbp u v c2 k) (n - 1) (fun y => y) s) else M (a + 5) s)) a n k u v c2 := by
    refine ⟨itl (lbp u v c2 k) (n - 1) (fun y => y), fun s hs => ?_⟩
    rw [mrow_at, if_pos hs]
    exact ⟨rfl, itl_low hb (by omega) hs⟩
  obtain ⟨g, g1, g2⟩ := feed_ok (hB3 _) hL3 (fun t h1 h2 => by rw [mrow_n (by omega), mst_n (by omega)]; exact hz t h1 h2)
  refine ⟨mrow (mrow (mst M (a + 4) i (nI b.toNat)) (a + 5) (fun s => if s < n then nI (itl (lbp u v c2 k) (n - 1) (fun y => y) s) else M (a + 5) s)) (a + 6) g, ?_, ⟨nB_kept (hB3 _) (mrow_n (by omega)) (mrow_n (by omega)) (mrow_n (by omega)) (mrow_n (by omega)) (mrow_n (by omega)), ?_, ?_⟩, fun x x1 x2 x3 => ?_⟩
  · have hs2 : ∀ k' r, 1 ≤ r → r < n → l_X2_setIsolator_32 a (k' + 1) (mrow (mst M (a + 4) i (nI b.toNat)) (a + 5) (fun s => if s < n then nI (itl (lbp u v c2 k) (r - 1) (fun y => y) s) else M (a + 5) s)) (nI r) = l_X2_setIsolator_32 a k' (mrow (mst M (a + 4) i (nI b.toNat)) (a + 5) (fun s => if s < n then nI (itl (lbp u v c2 k) r (fun y => y) s) else M (a + 5) s)) (nI (r + 1)) := by
      intro k' r h1 h2
      have hsh := share_ok (hB3 (fun s => if s < n then nI (itl (lbp u v c2 k) (r - 1) (fun y => y) s) else M (a + 5) s)) (ℓ := itl (lbp u v c2 k) (r - 1) (fun y => y)) (fun s hs => by rw [mrow_at, if_pos hs]) (fun s hs => by have := hd (r - 1) s; omega)
      rw [l_X2_setIsolator_32]
      simp (disch := omega) only [li_0, li_1, li_2, li_3, li_4, li_5, li_6, li_7, li_8, li_9, li_10, li_11, li_12, li_13, li_14, li_15, li_16, li_17, li_18, li_19, li_20, li_21, li_22, li_23, li_24, li_25, li_26, li_27, li_28, li_29, li_30, li_31, li_32, li_33, li_34, li_35, li_36, li_37, li_38, li_39, li_40, li_41, li_42, li_43, li_44, li_45, li_46, li_47, li_48, li_49, li_50, li_51, li_52, li_53, li_54, li_55, li_56, li_57, li_58, li_59, li_60, li_61, li_62, li_63, li_71, li_72, li_73, li_81, li_82, li_97, li_98, li_99, li_100, li_101, li_102, li_105, li_110, li_111, li_116, li_117, li_126, li_161, li_233, li_932, li_1165, li_10000, li_100000, n_lt_t, n_lt_f, n_eq_t, n_eq_f, nI_add, n_sub, n_mul, n_ix, n_ckd, bnd_e, obn_s, zrk_0, zrk_1, zrk_b, zb_0, zb_1, zb_b, if_true, if_false, Bool.toNat_true, Bool.toNat_false, b0, b1, Bool.false_eq_true, Bool.true_eq_false, mrow_n, mrow_at, mst_n, mst_at, upd_n, upd_at, mst_mrow, e0, hsh, mrow_mrow]
      congr 1
      refine mrow_c _ _ fun j => ?_
      by_cases q : j < n
      · rw [if_pos q, if_pos q]
        rw [show r = (r - 1) + 1 by omega]
        rfl
      · rw [if_neg q, if_neg q, if_neg q]
    have hx2 : ∀ k', l_X2_setIsolator_32 a (k' + 1) (mrow (mst M (a + 4) i (nI b.toNat)) (a + 5) (fun s => if s < n then nI (itl (lbp u v c2 k) (n - 1) (fun y => y) s) else M (a + 5) s)) (nI n) = some (nI 0, mrow (mrow (mst M (a + 4) i (nI b.toNat)) (a + 5) (fun s => if s < n then nI (itl (lbp u v c2 k) (n - 1) (fun y => y) s) else M (a + 5) s)) (a + 6) g) := by
      intro k'
      rw [l_X2_setIsolator_32]
      simp (disch := omega) only [li_0, li_1, li_2, li_3, li_4, li_5, li_6, li_7, li_8, li_9, li_10, li_11, li_12, li_13, li_14, li_15, li_16, li_17, li_18, li_19, li_20, li_21, li_22, li_23, li_24, li_25, li_26, li_27, li_28, li_29, li_30, li_31, li_32, li_33, li_34, li_35, li_36, li_37, li_38, li_39, li_40, li_41, li_42, li_43, li_44, li_45, li_46, li_47, li_48, li_49, li_50, li_51, li_52, li_53, li_54, li_55, li_56, li_57, li_58, li_59, li_60, li_61, li_62, li_63, li_71, li_72, li_73, li_81, li_82, li_97, li_98, li_99, li_100, li_101, li_102, li_105, li_110, li_111, li_116, li_117, li_126, li_161, li_233, li_932, li_1165, li_10000, li_100000, n_lt_t, n_lt_f, n_eq_t, n_eq_f, nI_add, n_sub, n_mul, n_ix, n_ckd, bnd_e, obn_s, zrk_0, zrk_1, zrk_b, zb_0, zb_1, zb_b, if_true, if_false, Bool.toNat_true, Bool.toNat_false, b0, b1, Bool.false_eq_true, Bool.true_eq_false, mrow_n, mrow_at, mst_n, mst_at, upd_n, upd_at, mst_mrow, e0, g1]
    have h2 := loop_up (fun k' (z : Mm × Int32) => l_X2_setIsolator_32 a k' z.1 z.2) (fun r => (mrow (mst M (a + 4) i (nI b.toNat)) (a + 5) (fun s => if s < n then nI (itl (lbp u v c2 k) (r) (fun y => y) s) else M (a + 5) s), nI (r + 1))) (n - 1) _ (fun k' r hr => by
        have := hs2 k' (r + 1) (by omega) (by omega)
        rw [Nat.add_sub_cancel] at this
        exact this) (fun k' => by
        have := hx2 k'
        rw [show (n - 1) + 1 = n by omega]
        exact this) FU 0 (Nat.zero_le _) (by show _ < 4000; omega)
    have hs1 : ∀ k' j, j < n → l_X2_setIsolator_9 a (k' + 1) (mrow (mst M (a + 4) i (nI b.toNat)) (a + 5) (fun s => if s < j then nI s else M (a + 5) s)) (nI j) = l_X2_setIsolator_9 a k' (mrow (mst M (a + 4) i (nI b.toNat)) (a + 5) (fun s => if s < j + 1 then nI s else M (a + 5) s)) (nI (j + 1)) := by
      intro k' j hj
      rw [l_X2_setIsolator_9]
      simp (disch := omega) only [li_0, li_1, li_2, li_3, li_4, li_5, li_6, li_7, li_8, li_9, li_10, li_11, li_12, li_13, li_14, li_15, li_16, li_17, li_18, li_19, li_20, li_21, li_22, li_23, li_24, li_25, li_26, li_27, li_28, li_29, li_30, li_31, li_32, li_33, li_34, li_35, li_36, li_37, li_38, li_39, li_40, li_41, li_42, li_43, li_44, li_45, li_46, li_47, li_48, li_49, li_50, li_51, li_52, li_53, li_54, li_55, li_56, li_57, li_58, li_59, li_60, li_61, li_62, li_63, li_71, li_72, li_73, li_81, li_82, li_97, li_98, li_99, li_100, li_101, li_102, li_105, li_110, li_111, li_116, li_117, li_126, li_161, li_233, li_932, li_1165, li_10000, li_100000, n_lt_t, n_lt_f, n_eq_t, n_eq_f, nI_add, n_sub, n_mul, n_ix, n_ckd, bnd_e, obn_s, zrk_0, zrk_1, zrk_b, zb_0, zb_1, zb_b, if_true, if_false, Bool.toNat_true, Bool.toNat_false, b0, b1, Bool.false_eq_true, Bool.true_eq_false, mrow_n, mrow_at, mst_n, mst_at, upd_n, upd_at, mst_mrow, e0]
      congr 1
      refine mrow_c _ _ fun y => ?_
      by_cases e : y = j
      · subst e
        rw [upd_at, if_pos (by omega : y < y + 1)]
      · rw [upd_n e]
        by_cases q : y < j
        · rw [if_pos q, if_pos (by omega : y < j + 1)]
        · rw [if_neg q, if_neg (by omega : ¬ y < j + 1)]
    have hx1 : ∀ k', l_X2_setIsolator_9 a (k' + 1) (mrow (mst M (a + 4) i (nI b.toNat)) (a + 5) (fun s => if s < n then nI s else M (a + 5) s)) (nI n) = some (nI 0, mrow (mrow (mst M (a + 4) i (nI b.toNat)) (a + 5) (fun s => if s < n then nI (itl (lbp u v c2 k) (n - 1) (fun y => y) s) else M (a + 5) s)) (a + 6) g) := by
      intro k'
      rw [l_X2_setIsolator_9]
      simp (disch := omega) only [li_0, li_1, li_2, li_3, li_4, li_5, li_6, li_7, li_8, li_9, li_10, li_11, li_12, li_13, li_14, li_15, li_16, li_17, li_18, li_19, li_20, li_21, li_22, li_23, li_24, li_25, li_26, li_27, li_28, li_29, li_30, li_31, li_32, li_33, li_34, li_35, li_36, li_37, li_38, li_39, li_40, li_41, li_42, li_43, li_44, li_45, li_46, li_47, li_48, li_49, li_50, li_51, li_52, li_53, li_54, li_55, li_56, li_57, li_58, li_59, li_60, li_61, li_62, li_63, li_71, li_72, li_73, li_81, li_82, li_97, li_98, li_99, li_100, li_101, li_102, li_105, li_110, li_111, li_116, li_117, li_126, li_161, li_233, li_932, li_1165, li_10000, li_100000, n_lt_t, n_lt_f, n_eq_t, n_eq_f, nI_add, n_sub, n_mul, n_ix, n_ckd, bnd_e, obn_s, zrk_0, zrk_1, zrk_b, zb_0, zb_1, zb_b, if_true, if_false, Bool.toNat_true, Bool.toNat_false, b0, b1, Bool.false_eq_true, Bool.true_eq_false, mrow_n, mrow_at, mst_n, mst_at, upd_n, upd_at, mst_mrow, e0]
      exact h2
    have e : mrow (mst M (a + 4) i (nI b.toNat)) (a + 5) (fun s => if s < 0 then nI s else M (a + 5) s) = mst M (a + 4) i (nI b.toNat) := by
      rw [mrow_c _ _ (g := mst M (a + 4) i (nI b.toNat) (a + 5)) (fun j => by rw [mst_n (by omega)]; simp), mrow_self]
    have h1 := loop_up (fun k' (z : Mm × Int32) => l_X2_setIsolator_9 a k' z.1 z.2) (fun j => (mrow (mst M (a + 4) i (nI b.toNat)) (a + 5) (fun s => if s < j then nI s else M (a + 5) s), nI j)) n _ hs1 hx1 FU 0 (Nat.zero_le _) (by show _ < 4000; omega)
    simp only [e] at h1
    unfold f_X2_setIsolator
    simp (disch := omega) only [li_0, li_1, li_2, li_3, li_4, li_5, li_6, li_7, li_8, li_9, li_10, li_11, li_12, li_13, li_14, li_15, li_16, li_17, li_18, li_19, li_20, li_21, li_22, li_23, li_24, li_25, li_26, li_27, li_28, li_29, li_30, li_31, li_32, li_33, li_34, li_35, li_36, li_37, li_38, li_39, li_40, li_41, li_42, li_43, li_44, li_45, li_46, li_47, li_48, li_49, li_50, li_51, li_52, li_53, li_54, li_55, li_56, li_57, li_58, li_59, li_60, li_61, li_62, li_63, li_71, li_72, li_73, li_81, li_82, li_97, li_98, li_99, li_100, li_101, li_102, li_105, li_110, li_111, li_116, li_117, li_126, li_161, li_233, li_932, li_1165, li_10000, li_100000, n_lt_t, n_lt_f, n_eq_t, n_eq_f, nI_add, n_sub, n_mul, n_ix, n_ckd, bnd_e, obn_s, zrk_0, zrk_1, zrk_b, zb_0, zb_1, zb_b, if_true, if_false, Bool.toNat_true, Bool.toNat_false, b0, b1, Bool.false_eq_true, Bool.true_eq_false]
    exact h1
  · obtain ⟨lo, hlo⟩ := hL3
    exact ⟨lo, fun t ht => by rw [mrow_n (by omega)]; exact hlo t ht⟩
  · intro t ht
    rw [mrow_at]
    exact g2 t ht
  · rw [mrow_n x3, mrow_n x2, mst_n x1]
/-- the same contents, as far as they count -/
def AgN (M' : Mm) (a' : Nat) (M : Mm) (a : Nat) : Prop :=
  M' a' 0 = M a 0 ∧ M' a' 1 = M a 1 ∧ (∀ s, s < 10 → M' (a' + 1) s = M (a + 1) s ∧ M' (a' + 5) s = M (a + 5) s ∧ M' (a' + 6) s = M (a + 6) s) ∧ ∀ i, i < 16 → M' (a' + 2) i = M (a + 2) i ∧ M' (a' + 3) i = M (a + 3) i ∧ M' (a' + 4) i = M (a + 4) i
theorem AgN.nN {M' : Mm} {a' : Nat} (g : AgN M' a' M a) (h : nN M a n k f u v c) : nN M' a' n k f u v c := by
  obtain ⟨g0, g1, g2, g3⟩ := g
  obtain ⟨⟨⟨hn, hk, e0, e1⟩, hF, hI⟩, ⟨lo, hlo⟩, hV⟩ := h
  refine ⟨⟨⟨hn, hk, by rw [g0, e0], by rw [g1, e1]⟩, fun s hs => ?_, fun i hi => ?_⟩, ⟨lo, fun s hs => ?_⟩, fun s hs => ?_⟩
  · rw [(g2 s (by omega)).1]; exact hF s hs
  · rw [(g3 i (by omega)).1, (g3 i (by omega)).2.1, (g3 i (by omega)).2.2]; exact hI i hi
  · rw [(g2 s (by omega)).2.1]; exact hlo s hs
  · rw [(g2 s (by omega)).2.2]; exact hV s hs
theorem cpk_n {x y z n0 n1 : Nat} {A : OR} (h : x + z ≤ n0) (h2 : y + z ≤ n1) (hx : x < 1000) (hy : y < 1000) (hz : z < 1000) : cpk (nI x) (nI y) (nI z) n0 n1 A = A := by
  unfold cpk
  rw [if_neg]
  rw [show ix (nI x) = x from nI_clamp (by omega), show ix (nI y) = y from nI_clamp (by omega), show ix (nI z) = z from nI_clamp (by omega)]
  rintro (q | q | q | q | q)
  · exact nI_pos (by omega) q
  · exact nI_pos (by omega) q
  · exact nI_pos (by omega) q
  · omega
  · omega
theorem cpy_in {f g : Nat → Int32} {z j : Nat} (h : j < z) : va_cpy f g 0 0 z j = f j := by
  simp [va_cpy, h]
theorem copyN_ok {b : Nat} (hab : a + 7 ≤ b ∨ b + 7 ≤ a) : ∃ M', f_X2_copyFrom a b M = some (nI 0, M') ∧ AgN M' a M b ∧ ∀ x, (x < a ∨ a + 7 ≤ x) → M' x = M x := by
  unfold f_X2_copyFrom
  simp (disch := omega) only [li_0, li_1, li_2, li_3, li_4, li_5, li_6, li_7, li_8, li_9, li_10, li_11, li_12, li_13, li_14, li_15, li_16, li_17, li_18, li_19, li_20, li_21, li_22, li_23, li_24, li_25, li_26, li_27, li_28, li_29, li_30, li_31, li_32, li_33, li_34, li_35, li_36, li_37, li_38, li_39, li_40, li_41, li_42, li_43, li_44, li_45, li_46, li_47, li_48, li_49, li_50, li_51, li_52, li_53, li_54, li_55, li_56, li_57, li_58, li_59, li_60, li_61, li_62, li_63, li_71, li_72, li_73, li_81, li_82, li_97, li_98, li_99, li_100, li_101, li_102, li_105, li_110, li_111, li_116, li_117, li_126, li_161, li_233, li_932, li_1165, li_10000, li_100000, n_lt_t, n_lt_f, n_eq_t, n_eq_f, nI_add, n_sub, n_mul, n_ix, n_ckd, bnd_e, obn_s, zrk_0, zrk_1, zrk_b, zb_0, zb_1, zb_b, if_true, if_false, Bool.toNat_true, Bool.toNat_false, b0, b1, Bool.false_eq_true, Bool.true_eq_false, cpk_n]
  refine ⟨_, rfl, ⟨?_, ?_, fun s hs => ⟨?_, ?_, ?_⟩, fun i hi => ⟨?_, ?_, ?_⟩⟩, fun x hx => ?_⟩
  all_goals simp (disch := omega) only [mrow_n, mrow_at, mst_n, mst_at, upd_n, upd_at, mst_mrow, cpy_in]
end CN2

