/-! states kept and brought back -/
section HI
variable {M : Mm} {n k q : Nat} {S : Sm}
theorem Wf.c {S' : Sm} (W : Wf S n k q) (e : ∀ j, j < 233 → S' j = S j) : Wf S' n k q := by
  obtain ⟨⟨e0, hn, e1, hk, e5, hq24⟩, WI, WO, WL⟩ := W
  refine ⟨⟨by rw [e 0 (by omega), e0], hn, by rw [e 1 (by omega), e1], hk, by rw [e 5 (by omega), e5], hq24⟩, fun i hi => ?_, fun s hs => ?_, fun j hj => ?_⟩
  · have h := WI i hi
    unfold uS vS cS wS aI at h ⊢
    rw [e _ (by omega), e (97 + 4 * i + 1) (by omega), e (97 + 4 * i + 2) (by omega), e (97 + 4 * i + 3) (by omega)]
    exact h
  · have h := WO s hs
    unfold fS bS aO at h ⊢
    rw [e (7 + 9 * s + 1) (by omega), e (7 + 9 * s + 2) (by omega), e (7 + 9 * s + 3) (by omega), e (7 + 9 * s + 4) (by omega), e (7 + 9 * s + 8) (by omega)]
    exact h
  · have h := WL j hj
    unfold kS pS aL at h ⊢
    rw [e (161 + 3 * j + 0) (by omega), e (161 + 3 * j + 1) (by omega)]
    exact h
theorem RW.c {w : Nat} {S' : Sm} (h : RW M w S n k q) (e : ∀ j, j < 233 → S' j = S j) : RW M w S' n k q := by
  obtain ⟨W, hN, hS, hL⟩ := h
  have hn := W.1.2.1
  have hk := W.1.2.2.2.1
  have hq := W.1.2.2.2.2.2
  refine ⟨W.c e, nN_S (fun s hs => e _ (by omega)) (fun i hi j hj => e _ (by omega)) hN, sB_c (e _ (by omega)) (e _ (by omega)) (e _ (by omega)) (fun s hs j hj _ => e _ (by omega)) hS, lB_c (e _ (by omega)) (fun j hj t ht => e _ (by omega)) (fun s hs => e _ (by omega)) (fun i hi => e _ (by omega)) hL⟩
/-- what the reference keeps of a state before -/
def pT (M : Mm) (m t : Nat) : Sm := fun j => M (m + 2) (233 * t + j)
def dk (d : Nat) : Nat := if d = 5 then 4 else d
def rcR (P S : Sm) (d : Nat) : Sm := if d = 5 then (fun x => if 932 ≤ x ∧ x < 1165 then S (x - 932) else if x < 932 then P (x + 233) else P x) else fun x => if 233 * d ≤ x ∧ x < 233 * d + 233 then S (x - 233 * d) else P x
theorem rc_old (P S : Sm) {d t j : Nat} (hd : d ≤ 5) (ht : t < dk d) (hj : j < 233) : rcR P S d (233 * t + j) = P (233 * (if d = 5 then t + 1 else t) + j) := by
  unfold dk at ht
  unfold rcR
  by_cases g : d = 5
  · rw [if_pos g] at ht
    rw [if_pos g, if_pos g, if_neg (by omega), if_pos (by omega), show 233 * t + j + 233 = 233 * (t + 1) + j by omega]
  · rw [if_neg g] at ht
    have h2 : 233 * (t + 1) ≤ 233 * d := Nat.mul_le_mul_left _ ht
    rw [if_neg g, if_neg g, if_neg (by omega)]
theorem rc_new (P S : Sm) {d j : Nat} (hj : j < 233) : rcR P S d (233 * dk d + j) = S j := by
  unfold dk rcR
  by_cases g : d = 5
  · rw [if_pos g, if_pos g, if_pos (by omega), show 233 * 4 + j - 932 = j by omega]
  · rw [if_neg g, if_neg g, if_pos (by omega), show 233 * d + j - 233 * d = j by omega]
theorem wck_ok {x : Nat} {A : OR} (h : x < 5) : wck (nI x) A = A := by
  unfold wck
  rw [show ix (nI x) = x from n_ix (by omega), if_pos h]
/-- the class's states before -/
def Hs (M : Mm) (h : Nat) (T : Nat → Sm) (d : Nat) : Prop :=
  (M h 0 = nI d ∧ d ≤ 5) ∧ ∃ pi : Nat → Nat, (∀ t, t < 5 → M (h + 1) t = nI (pi t) ∧ pi t < 5) ∧ (∀ s t, s < 5 → t < 5 → pi s = pi t → s = t) ∧ ∀ t, t < d → ∃ n k q, RW M (h + 2 + 32 * pi t) (T t) n k q
theorem Hs.kept {h d : Nat} {T : Nat → Sm} {M' : Mm} (H : Hs M h T d) (e : ∀ b, h ≤ b → b < h + 162 → M' b = M b) : Hs M' h T d := by
  obtain ⟨⟨h0, h1⟩, pi, h2, h3, h4⟩ := H
  refine ⟨⟨by rw [e h (by omega) (by omega), h0], h1⟩, pi, fun t ht => by rw [e (h + 1) (by omega) (by omega)]; exact h2 t ht, h3, fun t ht => ?_⟩
  obtain ⟨n, k, q, h5⟩ := h4 t ht
  have := (h2 t (by omega)).2
  exact ⟨n, k, q, h5.kept fun b b1 b2 => e b (by omega) (by omega)⟩
theorem Hs.c {h d : Nat} {T T' : Nat → Sm} (H : Hs M h T d) (e : ∀ t, t < d → ∀ j, j < 233 → T' t j = T t j) : Hs M h T' d := by
  obtain ⟨h01, pi, h2, h3, h4⟩ := H
  refine ⟨h01, pi, h2, h3, fun t ht => ?_⟩
  obtain ⟨n, k, q, h5⟩ := h4 t ht
  exact ⟨n, k, q, h5.c (e t ht)⟩
theorem keep12_ok {h v d : Nat} {T : Nat → Sm} (H : Hs M h T d) (hd : d < 5) (hv : v + 32 ≤ h ∨ h + 162 ≤ v) (hW : RW M v S n k q) :
    ∃ M', b_X0_keep_12 h v M = some (nI 0, M') ∧ Hs M' h (fun t => if t = d then S else T t) (d + 1) ∧ ∀ b, (b < h ∨ h + 162 ≤ b) → M' b = M b := by
  obtain ⟨⟨h0, h1⟩, pi, h2, h3, h4⟩ := H
  obtain ⟨g1, g2⟩ := h2 d hd
  obtain ⟨M1, p1, p2, p3⟩ := copyW_ok (w := h + 2 + 32 * pi d) (by omega) hW
  refine ⟨mst M1 h 0 (nI (d + 1)), ?_, ⟨⟨by rw [mst_at, upd_at], by omega⟩, pi, fun t ht => ?_, h3, fun t ht => ?_⟩, fun b hb => ?_⟩
  · unfold b_X0_keep_12
    have e0 : M1 h 0 = nI d := by rw [p3 h (by omega), h0]
    simp (disch := omega) only [li_0, li_1, li_2, li_3, li_4, li_5, li_6, li_7, li_8, li_9, li_10, li_11, li_12, li_13, li_14, li_15, li_16, li_17, li_18, li_19, li_20, li_21, li_22, li_23, li_24, li_25, li_26, li_27, li_28, li_29, li_30, li_31, li_32, li_33, li_34, li_35, li_36, li_37, li_38, li_39, li_40, li_41, li_42, li_43, li_44, li_45, li_46, li_47, li_48, li_49, li_50, li_51, li_52, li_53, li_54, li_55, li_56, li_57, li_58, li_59, li_60, li_61, li_62, li_63, li_71, li_72, li_73, li_81, li_82, li_97, li_98, li_99, li_100, li_101, li_102, li_105, li_110, li_111, li_116, li_117, li_126, li_161, li_233, li_932, li_1165, li_10000, li_100000, n_lt_t, n_lt_f, n_eq_t, n_eq_f, nI_add, n_sub, n_mul, n_ix, n_ckd, bnd_e, obn_s, zrk_0, zrk_1, zrk_b, zb_0, zb_1, zb_b, if_true, if_false, Bool.toNat_true, Bool.toNat_false, b0, b1, Bool.false_eq_true, Bool.true_eq_false, h0, g1, wck_ok, p1, e0]
  · rw [mst_n (by omega), p3 _ (by omega)]
    exact h2 t ht
  · by_cases e : t = d
    · subst e
      refine ⟨n, k, q, ?_⟩
      show RW _ _ (if t = t then S else T t) n k q
      rw [if_pos rfl]
      exact p2.kept fun b b1 b2 => mst_n (by omega)
    · show ∃ n k q, RW _ _ (if t = d then S else T t) n k q
      rw [if_neg e]
      obtain ⟨n, k, q, h5⟩ := h4 t (by omega)
      have hp : pi t ≠ pi d := fun c => e (h3 t d (by omega) hd c)
      exact ⟨n, k, q, h5.kept fun b b1 b2 => by rw [mst_n (by omega), p3 b (by omega)]⟩
  · rw [mst_n (by omega), p3 b (by omega)]
theorem dropH_ok {h : Nat} {T : Nat → Sm} (H : Hs M h T 5) : ∃ M', f_X0_dropOldest h M = some (nI 0, M') ∧ Hs M' h (fun t => T (t + 1)) 4 ∧ ∀ b, b ≠ h → b ≠ h + 1 → M' b = M b := by
  obtain ⟨⟨h0, h1⟩, pi, h2, h3, h4⟩ := H
  obtain ⟨g1, g2⟩ := h2 0 (by omega)
  have hs : ∀ k' i, i < 5 → l_X0_dropOldest_9 h (nI (pi 0)) (k' + 1) (mrow M (h + 1) (fun t => if t + 1 < i then M (h + 1) (t + 1) else M (h + 1) t)) (nI i) = l_X0_dropOldest_9 h (nI (pi 0)) k' (mrow M (h + 1) (fun t => if t + 1 < i + 1 then M (h + 1) (t + 1) else M (h + 1) t)) (nI (i + 1)) ∨ i = 0 := by
    intro k' i hi
    rcases Nat.eq_zero_or_pos i with z | z
    · exact Or.inr z
    · left
      obtain ⟨q1, q2⟩ := h2 i hi
      rw [l_X0_dropOldest_9]
      simp (disch := omega) only [li_0, li_1, li_2, li_3, li_4, li_5, li_6, li_7, li_8, li_9, li_10, li_11, li_12, li_13, li_14, li_15, li_16, li_17, li_18, li_19, li_20, li_21, li_22, li_23, li_24, li_25, li_26, li_27, li_28, li_29, li_30, li_31, li_32, li_33, li_34, li_35, li_36, li_37, li_38, li_39, li_40, li_41, li_42, li_43, li_44, li_45, li_46, li_47, li_48, li_49, li_50, li_51, li_52, li_53, li_54, li_55, li_56, li_57, li_58, li_59, li_60, li_61, li_62, li_63, li_71, li_72, li_73, li_81, li_82, li_97, li_98, li_99, li_100, li_101, li_102, li_105, li_110, li_111, li_116, li_117, li_126, li_161, li_233, li_932, li_1165, li_10000, li_100000, n_lt_t, n_lt_f, n_eq_t, n_eq_f, nI_add, n_sub, n_mul, n_ix, n_ckd, bnd_e, obn_s, zrk_0, zrk_1, zrk_b, zb_0, zb_1, zb_b, if_true, if_false, Bool.toNat_true, Bool.toNat_false, b0, b1, Bool.false_eq_true, Bool.true_eq_false, mrow_n, mrow_at, mst_n, mst_at, upd_n, upd_at, mst_mrow]
      rw [if_neg (by omega), q1, wck_ok q2]
      congr 1
      refine mrow_c _ _ fun t => ?_
      by_cases e : t = i - 1
      · subst e
        rw [upd_at, if_pos (by omega), show i - 1 + 1 = i by omega, q1]
      · rw [upd_n e]
        by_cases q : t + 1 < i
        · rw [if_pos q, if_pos (by omega)]
        · rw [if_neg q, if_neg (by omega)]
  have hx : ∀ k', l_X0_dropOldest_9 h (nI (pi 0)) (k' + 1) (mrow M (h + 1) (fun t => if t + 1 < 5 then M (h + 1) (t + 1) else M (h + 1) t)) (nI 5) = some (nI 0, mst (mrow M (h + 1) (upd (fun t => if t + 1 < 5 then M (h + 1) (t + 1) else M (h + 1) t) 4 (nI (pi 0)))) h 0 (nI 4)) := by
    intro k'
    rw [l_X0_dropOldest_9]
    simp (disch := omega) only [li_0, li_1, li_2, li_3, li_4, li_5, li_6, li_7, li_8, li_9, li_10, li_11, li_12, li_13, li_14, li_15, li_16, li_17, li_18, li_19, li_20, li_21, li_22, li_23, li_24, li_25, li_26, li_27, li_28, li_29, li_30, li_31, li_32, li_33, li_34, li_35, li_36, li_37, li_38, li_39, li_40, li_41, li_42, li_43, li_44, li_45, li_46, li_47, li_48, li_49, li_50, li_51, li_52, li_53, li_54, li_55, li_56, li_57, li_58, li_59, li_60, li_61, li_62, li_63, li_71, li_72, li_73, li_81, li_82, li_97, li_98, li_99, li_100, li_101, li_102, li_105, li_110, li_111, li_116, li_117, li_126, li_161, li_233, li_932, li_1165, li_10000, li_100000, n_lt_t, n_lt_f, n_eq_t, n_eq_f, nI_add, n_sub, n_mul, n_ix, n_ckd, bnd_e, obn_s, zrk_0, zrk_1, zrk_b, zb_0, zb_1, zb_b, if_true, if_false, Bool.toNat_true, Bool.toNat_false, b0, b1, Bool.false_eq_true, Bool.true_eq_false, mrow_n, mrow_at, mst_n, mst_at, upd_n, upd_at, mst_mrow]
  have h6 := loop_up (fun k' (z : Mm × Int32) => l_X0_dropOldest_9 h (nI (pi 0)) k' z.1 z.2) (fun i => (mrow M (h + 1) (fun t => if t + 1 < i + 1 then M (h + 1) (t + 1) else M (h + 1) t), nI (i + 1))) 4 _ (fun k' i hi => (hs k' (i + 1) (by omega)).resolve_right (by omega)) hx FU 0 (Nat.zero_le _) (by show _ < 4000; omega)
  have e : mrow M (h + 1) (fun t => if t + 1 < 0 + 1 then M (h + 1) (t + 1) else M (h + 1) t) = M := by
    rw [mrow_c _ _ (g := M (h + 1)) (fun j => by rw [if_neg (by omega)]), mrow_self]
  simp only [e] at h6
  refine ⟨mst (mrow M (h + 1) (upd (fun t => if t + 1 < 5 then M (h + 1) (t + 1) else M (h + 1) t) 4 (nI (pi 0)))) h 0 (nI 4), ?_, ⟨⟨by rw [mst_at, upd_at], by omega⟩, fun t => if t < 4 then pi (t + 1) else pi 0, fun t ht => ?_, fun s t hs ht hst => ?_, fun t ht => ?_⟩, fun b b1 b2 => by rw [mst_n b1, mrow_n b2]⟩
  · unfold f_X0_dropOldest
    simp (disch := omega) only [li_0, li_1, li_2, li_3, li_4, li_5, li_6, li_7, li_8, li_9, li_10, li_11, li_12, li_13, li_14, li_15, li_16, li_17, li_18, li_19, li_20, li_21, li_22, li_23, li_24, li_25, li_26, li_27, li_28, li_29, li_30, li_31, li_32, li_33, li_34, li_35, li_36, li_37, li_38, li_39, li_40, li_41, li_42, li_43, li_44, li_45, li_46, li_47, li_48, li_49, li_50, li_51, li_52, li_53, li_54, li_55, li_56, li_57, li_58, li_59, li_60, li_61, li_62, li_63, li_71, li_72, li_73, li_81, li_82, li_97, li_98, li_99, li_100, li_101, li_102, li_105, li_110, li_111, li_116, li_117, li_126, li_161, li_233, li_932, li_1165, li_10000, li_100000, n_lt_t, n_lt_f, n_eq_t, n_eq_f, nI_add, n_sub, n_mul, n_ix, n_ckd, bnd_e, obn_s, zrk_0, zrk_1, zrk_b, zb_0, zb_1, zb_b, if_true, if_false, Bool.toNat_true, Bool.toNat_false, b0, b1, Bool.false_eq_true, Bool.true_eq_false, g1, wck_ok]
    exact h6
  · rw [mst_n (by omega), mrow_at]
    by_cases e : t = 4
    · subst e
      simp only [upd_at, show ¬ (4 < 4) by omega, if_false]
      exact ⟨trivial, g2⟩
    · simp only [upd_n e, show t + 1 < 5 by omega, show t < 4 by omega, if_true]
      exact h2 (t + 1) (by omega)
  · by_cases a1 : s < 4
    · by_cases a2 : t < 4
      · simp only [a1, a2, if_true] at hst
        have := h3 (s + 1) (t + 1) (by omega) (by omega) hst
        omega
      · simp only [a1, a2, if_true, if_false] at hst
        have := h3 (s + 1) 0 (by omega) (by omega) hst
        omega
    · by_cases a2 : t < 4
      · simp only [a1, a2, if_true, if_false] at hst
        have := h3 0 (t + 1) (by omega) (by omega) hst
        omega
      · omega
  · obtain ⟨n, k, q, h5⟩ := h4 (t + 1) (by omega)
    show ∃ n k q, RW _ (h + 2 + 32 * (if t < 4 then pi (t + 1) else pi 0)) _ n k q
    rw [if_pos ht]
    have := (h2 (t + 1) (by omega)).2
    exact ⟨n, k, q, h5.kept fun b b1 b2 => by rw [mst_n (by omega), mrow_n (by omega)]⟩
theorem keep_ok {h v d : Nat} {T : Nat → Sm} (H : Hs M h T d) (hv : v + 32 ≤ h ∨ h + 162 ≤ v) (hW : RW M v S n k q) :
    ∃ M', f_X0_keep h v M = some (nI 0, M') ∧ Hs M' h (fun t => if t = dk d then S else T (if d = 5 then t + 1 else t)) (dk d + 1) ∧ ∀ b, (b < h ∨ h + 162 ≤ b) → M' b = M b := by
  have h0 := H.1.1
  have h1 := H.1.2
  unfold f_X0_keep
  by_cases g : d = 5
  · subst g
    obtain ⟨M1, p1, p2, p3⟩ := dropH_ok H
    obtain ⟨M2, q1, q2, q3⟩ := keep12_ok (S := S) (n := n) (k := k) (q := q) p2 (by omega) hv (hW.kept fun b b1 b2 => p3 b (by omega) (by omega))
    refine ⟨M2, ?_, q2, fun b hb => by rw [q3 b hb, p3 b (by omega) (by omega)]⟩
    simp (disch := omega) only [li_0, li_1, li_2, li_3, li_4, li_5, li_6, li_7, li_8, li_9, li_10, li_11, li_12, li_13, li_14, li_15, li_16, li_17, li_18, li_19, li_20, li_21, li_22, li_23, li_24, li_25, li_26, li_27, li_28, li_29, li_30, li_31, li_32, li_33, li_34, li_35, li_36, li_37, li_38, li_39, li_40, li_41, li_42, li_43, li_44, li_45, li_46, li_47, li_48, li_49, li_50, li_51, li_52, li_53, li_54, li_55, li_56, li_57, li_58, li_59, li_60, li_61, li_62, li_63, li_71, li_72, li_73, li_81, li_82, li_97, li_98, li_99, li_100, li_101, li_102, li_105, li_110, li_111, li_116, li_117, li_126, li_161, li_233, li_932, li_1165, li_10000, li_100000, n_lt_t, n_lt_f, n_eq_t, n_eq_f, nI_add, n_sub, n_mul, n_ix, n_ckd, bnd_e, obn_s, zrk_0, zrk_1, zrk_b, zb_0, zb_1, zb_b, if_true, if_false, Bool.toNat_true, Bool.toNat_false, b0, b1, Bool.false_eq_true, Bool.true_eq_false, h0, p1, q1]
  · obtain ⟨M2, q1, q2, q3⟩ := keep12_ok (S := S) (n := n) (k := k) (q := q) H (by omega) hv hW
    refine ⟨M2, ?_, ?_, q3⟩
    · simp (disch := omega) only [li_0, li_1, li_2, li_3, li_4, li_5, li_6, li_7, li_8, li_9, li_10, li_11, li_12, li_13, li_14, li_15, li_16, li_17, li_18, li_19, li_20, li_21, li_22, li_23, li_24, li_25, li_26, li_27, li_28, li_29, li_30, li_31, li_32, li_33, li_34, li_35, li_36, li_37, li_38, li_39, li_40, li_41, li_42, li_43, li_44, li_45, li_46, li_47, li_48, li_49, li_50, li_51, li_52, li_53, li_54, li_55, li_56, li_57, li_58, li_59, li_60, li_61, li_62, li_63, li_71, li_72, li_73, li_81, li_82, li_97, li_98, li_99, li_100, li_101, li_102, li_105, li_110, li_111, li_116, li_117, li_126, li_161, li_233, li_932, li_1165, li_10000, li_100000, n_lt_t, n_lt_f, n_eq_t, n_eq_f, nI_add, n_sub, n_mul, n_ix, n_ckd, bnd_e, obn_s, zrk_0, zrk_1, zrk_b, zb_0, zb_1, zb_b, if_true, if_false, Bool.toNat_true, Bool.toNat_false, b0, b1, Bool.false_eq_true, Bool.true_eq_false, h0, q1]
    · unfold dk
      simp only [if_neg g]
      exact q2
theorem restore_ok {h v d : Nat} {T : Nat → Sm} (H : Hs M h T (d + 1)) (hv : v + 32 ≤ h ∨ h + 162 ≤ v) :
    ∃ M', f_X0_restore h v M = some (nI 0, M') ∧ Hs M' h T d ∧ (∃ n k q, RW M' v (T d) n k q) ∧ ∀ b, (b < h ∨ h + 162 ≤ b) → (b < v + 1 ∨ v + 24 ≤ b) → M' b = M b := by
  obtain ⟨⟨h0, h1⟩, pi, h2, h3, h4⟩ := H
  obtain ⟨g1, g2⟩ := h2 d (by omega)
  obtain ⟨n, k, q, hW⟩ := h4 d (by omega)
  have hW2 : RW (mst M h 0 (nI d)) (h + 2 + 32 * pi d) (T d) n k q := hW.kept fun b b1 b2 => mst_n (by omega)
  obtain ⟨M1, p1, p2, p3⟩ := copyW_ok (w := v) (by omega) hW2
  refine ⟨M1, ?_, ⟨⟨by rw [p3 _ (by omega), mst_at, upd_at], by omega⟩, pi, fun t ht => by rw [p3 _ (by omega), mst_n (by omega)]; exact h2 t ht, h3, fun t ht => ?_⟩, ⟨n, k, q, p2⟩, fun b b1 b2 => by rw [p3 b b2, mst_n (by omega)]⟩
  · unfold f_X0_restore
    simp (disch := omega) only [li_0, li_1, li_2, li_3, li_4, li_5, li_6, li_7, li_8, li_9, li_10, li_11, li_12, li_13, li_14, li_15, li_16, li_17, li_18, li_19, li_20, li_21, li_22, li_23, li_24, li_25, li_26, li_27, li_28, li_29, li_30, li_31, li_32, li_33, li_34, li_35, li_36, li_37, li_38, li_39, li_40, li_41, li_42, li_43, li_44, li_45, li_46, li_47, li_48, li_49, li_50, li_51, li_52, li_53, li_54, li_55, li_56, li_57, li_58, li_59, li_60, li_61, li_62, li_63, li_71, li_72, li_73, li_81, li_82, li_97, li_98, li_99, li_100, li_101, li_102, li_105, li_110, li_111, li_116, li_117, li_126, li_161, li_233, li_932, li_1165, li_10000, li_100000, n_lt_t, n_lt_f, n_eq_t, n_eq_f, nI_add, n_sub, n_mul, n_ix, n_ckd, bnd_e, obn_s, zrk_0, zrk_1, zrk_b, zb_0, zb_1, zb_b, if_true, if_false, Bool.toNat_true, Bool.toNat_false, b0, b1, Bool.false_eq_true, Bool.true_eq_false, h0, mrow_n, mrow_at, mst_n, mst_at, upd_n, upd_at, mst_mrow]
    rw [show d + 1 - 1 = d by omega]
    simp (disch := omega) only [li_0, li_1, li_2, li_3, li_4, li_5, li_6, li_7, li_8, li_9, li_10, li_11, li_12, li_13, li_14, li_15, li_16, li_17, li_18, li_19, li_20, li_21, li_22, li_23, li_24, li_25, li_26, li_27, li_28, li_29, li_30, li_31, li_32, li_33, li_34, li_35, li_36, li_37, li_38, li_39, li_40, li_41, li_42, li_43, li_44, li_45, li_46, li_47, li_48, li_49, li_50, li_51, li_52, li_53, li_54, li_55, li_56, li_57, li_58, li_59, li_60, li_61, li_62, li_63, li_71, li_72, li_73, li_81, li_82, li_97, li_98, li_99, li_100, li_101, li_102, li_105, li_110, li_111, li_116, li_117, li_126, li_161, li_233, li_932, li_1165, li_10000, li_100000, n_lt_t, n_lt_f, n_eq_t, n_eq_f, nI_add, n_sub, n_mul, n_ix, n_ckd, bnd_e, obn_s, zrk_0, zrk_1, zrk_b, zb_0, zb_1, zb_b, if_true, if_false, Bool.toNat_true, Bool.toNat_false, b0, b1, Bool.false_eq_true, Bool.true_eq_false, mrow_n, mrow_at, mst_n, mst_at, upd_n, upd_at, mst_mrow, g1, wck_ok, p1]
  · obtain ⟨n, k, q, h5⟩ := h4 t (by omega)
    have := (h2 t (by omega)).2
    exact ⟨n, k, q, h5.kept fun b b1 b2 => by rw [p3 b (by omega), mst_n (by omega)]⟩
end HI

