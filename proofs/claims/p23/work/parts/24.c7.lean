/-! the class makes a step -/
theorem cn_c {k : Nat} {u v u' v' : Nat → Nat} {c c' : Nat → Bool} (e : ∀ i, i < k → u' i = u i ∧ v' i = v i ∧ c' i = c i) {a b : Nat} : cn k u' v' c' a b ↔ cn k u v c a b := by
  constructor
  · intro h P ha hP
    exact h P ha fun i hi hc => by
      obtain ⟨e1, e2, e3⟩ := e i hi
      rw [e1, e2]; exact hP i hi (by rw [← e3]; exact hc)
  · intro h P ha hP
    exact h P ha fun i hi hc => by
      obtain ⟨e1, e2, e3⟩ := e i hi
      rw [← e1, ← e2]; exact hP i hi (by rw [e3]; exact hc)
theorem nN_c {M : Mm} {a n k : Nat} {f u v f' u' v' : Nat → Nat} {c c' : Nat → Bool} (ef : ∀ s, s < n → f' s = f s) (e : ∀ i, i < k → u' i = u i ∧ v' i = v i ∧ c' i = c i) (h : nN M a n k f u v c) : nN M a n k f' u' v' c' := by
  obtain ⟨⟨⟨hn, hk, e0, e1⟩, hF, hI⟩, ⟨lo, hlo⟩, hV⟩ := h
  have hb : ∀ j, j < k → u j < n ∧ v j < n := fun j hj => ⟨(hI j hj).1.2, (hI j hj).2.1.2⟩
  have hb' : ∀ j, j < k → u' j < n ∧ v' j < n := fun j hj => by rw [(e j hj).1, (e j hj).2.1]; exact hb j hj
  refine ⟨⟨⟨hn, hk, e0, e1⟩, fun s hs => ?_, fun i hi => ?_⟩, ⟨lo, fun s hs => ?_⟩, fun s hs => ?_⟩
  · rw [ef s hs]; exact hF s hs
  · obtain ⟨g1, g2, g3⟩ := e i hi
    rw [g1, g2, g3]; exact hI i hi
  · obtain ⟨h1, h2, h3, h4⟩ := hlo s hs
    exact ⟨h1, h2, (cn_c e).mpr h3, fun y hy => h4 y ((cn_c e).mp hy)⟩
  · rw [hV s hs]
    by_cases q : s < n
    · have : nlv n k f u v c s = nlv n k f' u' v' c' s := by
        unfold nlv
        rw [Bool.eq_iff_iff]
        simp only [q, decide_true, Bool.true_and]
        rw [lvq_iff hn hb _ _ q, lvq_iff hn hb' _ _ q]
        constructor
        · rintro ⟨x, h1, h2, h3⟩
          exact ⟨x, h1, by unfold fd2 at h2 ⊢; rw [ef x h1]; exact h2, (cn_c e).mpr h3⟩
        · rintro ⟨x, h1, h2, h3⟩
          exact ⟨x, h1, by unfold fd2 at h2 ⊢; rw [← ef x h1]; exact h2, (cn_c e).mp h3⟩
      rw [this]
    · unfold nlv
      simp [q]
theorem sB_c {M : Mm} {a n : Nat} {S S' : Sm} (h2 : S' 2 = S 2) (h3 : S' 3 = S 3) (h6 : S' 6 = S 6) (e : ∀ s, s < n → ∀ j, j < 8 → j ≠ 1 → aO S' s j = aO S s j) (h : sB M a S n) : sB M a S' n := by
  unfold sB bS at h ⊢
  refine ⟨by rw [h2, h3, h6]; exact h.1, fun s hs => ?_, h.2.2⟩
  rw [e s hs 0 (by omega) (by omega), e s hs 2 (by omega) (by omega), e s hs 3 (by omega) (by omega), e s hs 4 (by omega) (by omega), e s hs 5 (by omega) (by omega), e s hs 6 (by omega) (by omega), e s hs 7 (by omega) (by omega)]
  exact h.2.1 s hs
theorem lB_c {M : Mm} {a n k q : Nat} {S S' : Sm} (h4 : S' 4 = S 4) (e : ∀ j, j < q → ∀ t, t < 3 → aL S' j t = aL S j t) (e8 : ∀ s, s < n → aO S' s 8 = aO S s 8) (e3 : ∀ i, i < k → aI S' i 3 = aI S i 3) (h : lB M a S n k q) : lB M a S' n k q := by
  unfold lB bS wS at h ⊢
  refine ⟨by rw [h4]; exact h.1, fun j hj => ?_, fun s hs => ?_, fun i hi => ?_⟩
  · rw [e j hj 0 (by omega), e j hj 1 (by omega), e j hj 2 (by omega)]
    exact h.2.1 j hj
  · rw [e8 s hs]; exact h.2.2.1 s hs
  · rw [e3 i hi]; exact h.2.2.2 i hi
/-- the net's part of a state -/
theorem nN_S {M : Mm} {a n k : Nat} {S S' : Sm} (ef : ∀ s, s < n → aO S' s 1 = aO S s 1) (e : ∀ i, i < k → ∀ j, j < 3 → aI S' i j = aI S i j) (h : nN M a n k (fS S) (uS S) (vS S) (cS S)) : nN M a n k (fS S') (uS S') (vS S') (cS S') :=
  nN_c (fun s hs => by unfold fS; rw [ef s hs]) (fun i hi => by unfold uS vS cS; rw [e i hi 0 (by omega), e i hi 1 (by omega), e i hi 2 (by omega)]; exact ⟨rfl, rfl, rfl⟩) h
section CM
variable {w : Nat} {M : Mm} {n k q : Nat} {S : Sm}
theorem ol_O (W : Wf S n k q) (hq : 0 < q) {s j : Nat} (hs : s < 10) (hj : j < 8) : aO (olS S) s j = aO S s j := by
  obtain ⟨⟨e0, hn, e1, hk, e5, hq24⟩, WI, WO, WL⟩ := W
  obtain ⟨⟨g1, g2⟩, g3, g4⟩ := WL 0 (by omega)
  have hp : pS S 0 < 16 := by split at g4 <;> omega
  unfold olS
  split
  · rw [aO_u (by omega)]
  · split
    · rw [aO_u (by omega)]
    · split
      · rw [aO_u (by omega)]
      · split
        · rw [aO_u (by omega)]
        · rfl
theorem ol_I (W : Wf S n k q) (hq : 0 < q) {i j : Nat} (hj : j < 3) : aI (olS S) i j = aI S i j := by
  obtain ⟨⟨e0, hn, e1, hk, e5, hq24⟩, WI, WO, WL⟩ := W
  obtain ⟨⟨g1, g2⟩, g3, g4⟩ := WL 0 (by omega)
  unfold olS
  split
  · rw [aI_u (by omega)]
  · split
    · rw [aI_u (by omega)]
    · have hp : pS S 0 < 10 := by rw [if_neg (by omega)] at g4; omega
      split
      · rw [aI_u (by omega)]
      · split
        · rw [aI_u (by omega)]
        · rfl
theorem ol_g (S : Sm) {j : Nat} (hj : j < 7) : olS S j = S j := by
  unfold olS
  split
  · rw [upd_n (by omega)]
  · split
    · rw [upd_n (by omega)]
    · split
      · rw [upd_n (by omega)]
      · split
        · rw [upd_n (by omega)]
        · rfl
theorem fg_O (W : Wf S n k q) (hq : 0 < q) {s j : Nat} (hs : s < 10) (hj : j < 8) : aO (fgS S q) s j = aO S s j := by
  unfold fgS
  rw [sh_O (by omega), aO_u (by omega), ol_O W hq hs hj]
theorem fg_I (W : Wf S n k q) (hq : 0 < q) {i j : Nat} (hi : i < 16) (hj : j < 3) : aI (fgS S q) i j = aI S i j := by
  unfold fgS
  rw [sh_I (by omega), aI_u (by omega), ol_I W hq hj]
theorem fg_g (S : Sm) (q : Nat) {j : Nat} (hj : j < 7) (h5 : j ≠ 5) : fgS S q j = S j := by
  unfold fgS shS
  rw [if_neg (by omega), upd_n h5, ol_g S hj]
theorem ap_O (S : Sm) (q x p : Nat) {s j : Nat} (hs : s < 10) (hj : j < 9) : aO (apS S q x p) s j = aO S s j := by
  unfold apS
  rw [aO_u (by omega), aO_u (by omega), aO_u (by omega), aO_u (by omega), aO_u (by omega)]
theorem ap_I (S : Sm) (q x p : Nat) {i j : Nat} (hi : i < 16) (hj : j < 4) : aI (apS S q x p) i j = aI S i j := by
  unfold apS
  rw [aI_u (by omega), aI_u (by omega), aI_u (by omega), aI_u (by omega), aI_u (by omega)]
theorem ap_g (S : Sm) (q x p : Nat) {j : Nat} (hj : j < 7) (h4 : j ≠ 4) (h5 : j ≠ 5) : apS S q x p j = S j := by
  unfold apS
  rw [upd_n h4, upd_n h5, upd_n (by omega), upd_n (by omega), upd_n (by omega)]
/-- the log's last step, written -/
def wrS (S : Sm) (q x p : Nat) : Sm := if q = 24 then apS (fgS S 24) 23 x p else apS S q x p
theorem wr_O (W : Wf S n k q) (x p : Nat) {s j : Nat} (hs : s < 10) (hj : j < 8) : aO (wrS S q x p) s j = aO S s j := by
  unfold wrS
  split
  · rename_i g
    subst g
    rw [ap_O _ _ _ _ hs (by omega), fg_O W (by omega) hs hj]
  · rw [ap_O _ _ _ _ hs (by omega)]
theorem wr_I (W : Wf S n k q) (x p : Nat) {i j : Nat} (hi : i < 16) (hj : j < 3) : aI (wrS S q x p) i j = aI S i j := by
  unfold wrS
  split
  · rename_i g
    subst g
    rw [ap_I _ _ _ _ hi (by omega), fg_I W (by omega) hi hj]
  · rw [ap_I _ _ _ _ hi (by omega)]
theorem wr_g (S : Sm) (q x p : Nat) {j : Nat} (hj : j < 7) (h4 : j ≠ 4) (h5 : j ≠ 5) : wrS S q x p j = S j := by
  unfold wrS
  split
  · rw [ap_g _ _ _ _ hj h4 h5, fg_g _ _ hj h5]
  · rw [ap_g _ _ _ _ hj h4 h5]
theorem wr_ok (h : RW M w S n k q) {x p : Nat} (hx : x < 8) (hp : plc n k x p) : ∃ M', b_X7_make_141 w M (nI x) (nI p) = some (nI 0, M') ∧ RW M' w (wrS S q x p) n k (mkq q) ∧ ∀ b, (b < w + 1 ∨ w + 24 ≤ b) → M' b = M b := by
  obtain ⟨W, hN, hS, hL⟩ := h
  have hn := W.1.2.1
  have hk := W.1.2.2.2.1
  have hq := W.1.2.2.2.2.2
  obtain ⟨M', e1, e2, e3⟩ := write_ok W hL x p
  refine ⟨M', ?_, ⟨?_, ?_, ?_, e2⟩, fun b hb => e3 b (by omega)⟩
  · unfold b_X7_make_141
    rw [hS.1.1, e1, obn_s]
    rfl
  · unfold wrS mkq
    split
    · rename_i g
      subst g
      exact (W.fg (by omega)).ap (by omega) hx hp
    · exact W.ap (by omega) hx hp
  · exact nN_S (fun s hs => wr_O W x p (by omega) (by omega)) (fun i hi j hj => wr_I W x p (by omega) hj) (nN_kept (fun b h1 h2 => e3 b (by omega)) hN)
  · exact sB_c (wr_g S q x p (by omega) (by omega) (by omega)) (wr_g S q x p (by omega) (by omega) (by omega)) (wr_g S q x p (by omega) (by omega) (by omega)) (fun s hs j hj _ => wr_O W x p (by omega) hj) (sB_kept (fun b h1 h2 => e3 b (by omega)) hS)
/-- a section's field of the service -/
theorem RW.setS (h : RW M w S n k q) {p j : Nat} (hp : p < n) (hj : j = 2 ∨ j = 3) (b : Bool) : RW (mst M (w + 8 + j) p (nI b.toNat)) w (upd S (7 + 9 * p + j) (nI b.toNat)) n k q := by
  obtain ⟨W, hN, hS, hL⟩ := h
  have hn := W.1.2.1
  have hk := W.1.2.2.2.1
  refine ⟨W.setB hp (by omega) (by omega) (fun _ => ⟨b, rfl⟩), ?_, ⟨?_, fun s hs => ?_, fun s h1 h2 => ?_⟩, ?_⟩
  · exact nN_S (fun s hs => by rw [aO_u (by omega)]) (fun i hi t ht => by rw [aI_u (by omega)]) (nN_kept (fun b h1 h2 => mst_n (by omega)) hN)
  · rw [mst_n (by omega), upd_n (by omega), upd_n (by omega), upd_n (by omega)]
    exact hS.1
  · obtain ⟨h1, h2, h3, h4, h5, h6⟩ := hS.2.1 s hs
    rw [mst_n (by omega), mst_n (show w + 8 + 4 ≠ w + 8 + j by omega), mst_n (show w + 8 + 5 ≠ w + 8 + j by omega), mst_n (show w + 8 + 6 ≠ w + 8 + j by omega), mst_n (show w + 8 + 7 ≠ w + 8 + j by omega)]
    rw [aO_u (by omega), aO_u (by omega), aO_u (by omega), aO_u (by omega), bS_u (j := 4) (by omega)]
    refine ⟨h1, ?_, ?_, h4, h5, h6⟩
    · rcases hj with rfl | rfl
      · rw [mst_at]
        by_cases e : s = p
        · subst e; rw [upd_at, zb_b]; unfold bS aO; rw [upd_at]; cases b <;> rfl
        · rw [upd_n e, bS_u (by omega)]; exact h2
      · rw [mst_n (by omega), bS_u (by omega)]; exact h2
    · rcases hj with rfl | rfl
      · rw [mst_n (by omega), bS_u (by omega)]; exact h3
      · rw [mst_at]
        by_cases e : s = p
        · subst e; rw [upd_at, zb_b]; unfold bS aO; rw [upd_at]; cases b <;> rfl
        · rw [upd_n e, bS_u (by omega)]; exact h3
  · obtain ⟨g1, g2, g3, g4⟩ := hS.2.2 s h1 h2
    rw [mst_r, mst_r, if_neg (show ¬ s = p by omega), if_neg (show ¬ s = p by omega), ite_self, ite_self, mst_n (by omega), mst_n (by omega)]
    exact ⟨g1, g2, g3, g4⟩
  · exact lB_c (upd_n (by omega)) (fun t ht i hi => by rw [aL_u (by omega)]) (fun s hs => by rw [aO_u (by omega)]) (fun i hi => by rw [aI_u (by omega)]) (lB_kept (fun b h1 h2 => mst_n (by omega)) hL)
theorem RW.setF (h : RW M w S n k q) {p x : Nat} (hp : p < n) (hx : x ≤ 2) : ∃ M', f_X2_setFeeder (w + 1) M (nI p) (nI x) = some (nI 0, M') ∧ RW M' w (upd S (7 + 9 * p + 1) (nI x)) n k q ∧ ∀ b, (b < w + 1 ∨ w + 24 ≤ b) → M' b = M b := by
  obtain ⟨W, hN, hS, hL⟩ := h
  have hn := W.1.2.1
  have hk := W.1.2.2.2.1
  obtain ⟨M', e1, e2, e3⟩ := setFeeder_ok hN hp hx
  refine ⟨M', e1, ⟨W.setF hp hx, ?_, ?_, ?_⟩, fun b hb => e3 b (by omega) (by omega)⟩
  · refine nN_c (fun s hs => ?_) (fun i hi => ?_) e2
    · by_cases e : s = p
      · subst e
        rw [if_pos rfl]
        unfold fS aO
        rw [upd_at, show ix (nI x) = x from n_ix (by omega)]
      · rw [if_neg e, fS_u (by omega)]
    · rw [uS_u (by omega), vS_u (by omega), cS_u (by omega)]
      exact ⟨rfl, rfl, rfl⟩
  · exact sB_c (upd_n (by omega)) (upd_n (by omega)) (upd_n (by omega)) (fun s hs j hj h1 => by rw [aO_u (by omega)]) (sB_kept (fun b h1 h2 => e3 b (by omega) (by omega)) hS)
  · exact lB_c (upd_n (by omega)) (fun t ht i hi => by rw [aL_u (by omega)]) (fun s hs => by rw [aO_u (by omega)]) (fun i hi => by rw [aI_u (by omega)]) (lB_kept (fun b h1 h2 => e3 b (by omega) (by omega)) hL)
theorem RW.setC (h : RW M w S n k q) {p : Nat} (hp : p < k) (y : Bool) : ∃ M', f_X2_setIsolator (w + 1) M (nI p) (nI y.toNat) = some (nI 0, M') ∧ RW M' w (upd S (97 + 4 * p + 2) (nI y.toNat)) n k q ∧ ∀ b, (b < w + 1 ∨ w + 24 ≤ b) → M' b = M b := by
  obtain ⟨W, hN, hS, hL⟩ := h
  have hn := W.1.2.1
  have hk := W.1.2.2.2.1
  obtain ⟨M', e1, e2, e3⟩ := setIso_ok hN.1 (nN_live0 hN) (b := y) hp
  refine ⟨M', e1, ⟨W.setC hp y, ?_, ?_, ?_⟩, fun b hb => e3 b (by omega) (by omega) (by omega)⟩
  · refine nN_c (fun s hs => by rw [fS_u (by omega)]) (fun i hi => ?_) e2
    rw [uS_u (by omega), vS_u (by omega)]
    refine ⟨rfl, rfl, ?_⟩
    by_cases e : i = p
    · subst e
      rw [if_pos rfl]
      unfold cS aI
      rw [upd_at]
      cases y <;> rfl
    · rw [if_neg e, cS_u (by omega)]
  · exact sB_c (upd_n (by omega)) (upd_n (by omega)) (upd_n (by omega)) (fun s hs j hj h1 => by rw [aO_u (by omega)]) (sB_kept (fun b h1 h2 => e3 b (by omega) (by omega) (by omega)) hS)
  · exact lB_c (upd_n (by omega)) (fun t ht i hi => by rw [aL_u (by omega)]) (fun s hs => by rw [aO_u (by omega)]) (fun i hi => by rw [aI_u (by omega)]) (lB_kept (fun b h1 h2 => e3 b (by omega) (by omega) (by omega)) hL)
theorem make_ok (h : RW M w S n k q) {x p : Nat} (hx : x < 8) (hp : plc n k x p) : ∃ M', f_X7_make w M (nI x) (nI p) = some (nI 0, M') ∧ RW M' w (mkS S q x p) n k (mkq q) ∧ ∀ b, (b < w + 1 ∨ w + 24 ≤ b) → M' b = M b := by
  have hn := h.nlow
  have hk := h.klow
  have fin : ∀ M1, RW M1 w (stS S x p) n k q → (∀ b, (b < w + 1 ∨ w + 24 ≤ b) → M1 b = M b) → ∃ M', b_X7_make_141 w M1 (nI x) (nI p) = some (nI 0, M') ∧ RW M' w (mkS S q x p) n k (mkq q) ∧ ∀ b, (b < w + 1 ∨ w + 24 ≤ b) → M' b = M b := by
    intro M1 h1 h2
    obtain ⟨M', e1, e2, e3⟩ := wr_ok h1 hx hp
    exact ⟨M', e1, e2, fun b hb => by rw [e3 b hb, h2 b hb]⟩
  unfold f_X7_make
  match x, hx with
  | 0, _ =>
    have hp : p < n := by simpa [plc] using hp
    obtain ⟨M', e1, e2⟩ := fin _ (h.setS hp (Or.inl rfl) true) (fun b hb => mst_n (by omega))
    exact ⟨M', by simp (disch := omega) only [li_0, li_1, li_2, li_3, li_4, li_5, li_6, li_7, li_8, li_9, li_10, li_11, li_12, li_13, li_14, li_15, li_16, li_17, li_18, li_19, li_20, li_21, li_22, li_23, li_24, li_25, li_26, li_27, li_28, li_29, li_30, li_31, li_32, li_33, li_34, li_35, li_36, li_37, li_38, li_39, li_40, li_41, li_42, li_43, li_44, li_45, li_46, li_47, li_48, li_49, li_50, li_51, li_52, li_53, li_54, li_55, li_56, li_57, li_58, li_59, li_60, li_61, li_62, li_63, li_71, li_72, li_73, li_81, li_82, li_97, li_98, li_99, li_100, li_101, li_102, li_105, li_110, li_111, li_116, li_117, li_126, li_161, li_233, li_932, li_1165, li_10000, li_100000, n_lt_t, n_lt_f, n_eq_t, n_eq_f, nI_add, n_sub, n_mul, n_ix, n_ckd, bnd_e, obn_s, zrk_0, zrk_1, zrk_b, zb_0, zb_1, zb_b, if_true, if_false, Bool.toNat_true, Bool.toNat_false, b0, b1, Bool.false_eq_true, Bool.true_eq_false] at e1 ⊢; exact e1, e2⟩
  | 1, _ =>
    have hp : p < n := by simpa [plc] using hp
    obtain ⟨M', e1, e2⟩ := fin _ (h.setS hp (Or.inl rfl) false) (fun b hb => mst_n (by omega))
    exact ⟨M', by simp (disch := omega) only [li_0, li_1, li_2, li_3, li_4, li_5, li_6, li_7, li_8, li_9, li_10, li_11, li_12, li_13, li_14, li_15, li_16, li_17, li_18, li_19, li_20, li_21, li_22, li_23, li_24, li_25, li_26, li_27, li_28, li_29, li_30, li_31, li_32, li_33, li_34, li_35, li_36, li_37, li_38, li_39, li_40, li_41, li_42, li_43, li_44, li_45, li_46, li_47, li_48, li_49, li_50, li_51, li_52, li_53, li_54, li_55, li_56, li_57, li_58, li_59, li_60, li_61, li_62, li_63, li_71, li_72, li_73, li_81, li_82, li_97, li_98, li_99, li_100, li_101, li_102, li_105, li_110, li_111, li_116, li_117, li_126, li_161, li_233, li_932, li_1165, li_10000, li_100000, n_lt_t, n_lt_f, n_eq_t, n_eq_f, nI_add, n_sub, n_mul, n_ix, n_ckd, bnd_e, obn_s, zrk_0, zrk_1, zrk_b, zb_0, zb_1, zb_b, if_true, if_false, Bool.toNat_true, Bool.toNat_false, b0, b1, Bool.false_eq_true, Bool.true_eq_false] at e1 ⊢; exact e1, e2⟩
  | 2, _ =>
    obtain ⟨M1, g1, g2, g3⟩ := h.setC (p := p) hp false
    obtain ⟨M', e1, e2⟩ := fin M1 g2 g3
    exact ⟨M', by simp (disch := omega) only [li_0, li_1, li_2, li_3, li_4, li_5, li_6, li_7, li_8, li_9, li_10, li_11, li_12, li_13, li_14, li_15, li_16, li_17, li_18, li_19, li_20, li_21, li_22, li_23, li_24, li_25, li_26, li_27, li_28, li_29, li_30, li_31, li_32, li_33, li_34, li_35, li_36, li_37, li_38, li_39, li_40, li_41, li_42, li_43, li_44, li_45, li_46, li_47, li_48, li_49, li_50, li_51, li_52, li_53, li_54, li_55, li_56, li_57, li_58, li_59, li_60, li_61, li_62, li_63, li_71, li_72, li_73, li_81, li_82, li_97, li_98, li_99, li_100, li_101, li_102, li_105, li_110, li_111, li_116, li_117, li_126, li_161, li_233, li_932, li_1165, li_10000, li_100000, n_lt_t, n_lt_f, n_eq_t, n_eq_f, nI_add, n_sub, n_mul, n_ix, n_ckd, bnd_e, obn_s, zrk_0, zrk_1, zrk_b, zb_0, zb_1, zb_b, if_true, if_false, Bool.toNat_true, Bool.toNat_false, b0, b1, Bool.false_eq_true, Bool.true_eq_false] at g1 e1 ⊢; rw [g1, obn_s]; exact e1, e2⟩
  | 3, _ =>
    obtain ⟨M1, g1, g2, g3⟩ := h.setC (p := p) hp true
    obtain ⟨M', e1, e2⟩ := fin M1 g2 g3
    exact ⟨M', by simp (disch := omega) only [li_0, li_1, li_2, li_3, li_4, li_5, li_6, li_7, li_8, li_9, li_10, li_11, li_12, li_13, li_14, li_15, li_16, li_17, li_18, li_19, li_20, li_21, li_22, li_23, li_24, li_25, li_26, li_27, li_28, li_29, li_30, li_31, li_32, li_33, li_34, li_35, li_36, li_37, li_38, li_39, li_40, li_41, li_42, li_43, li_44, li_45, li_46, li_47, li_48, li_49, li_50, li_51, li_52, li_53, li_54, li_55, li_56, li_57, li_58, li_59, li_60, li_61, li_62, li_63, li_71, li_72, li_73, li_81, li_82, li_97, li_98, li_99, li_100, li_101, li_102, li_105, li_110, li_111, li_116, li_117, li_126, li_161, li_233, li_932, li_1165, li_10000, li_100000, n_lt_t, n_lt_f, n_eq_t, n_eq_f, nI_add, n_sub, n_mul, n_ix, n_ckd, bnd_e, obn_s, zrk_0, zrk_1, zrk_b, zb_0, zb_1, zb_b, if_true, if_false, Bool.toNat_true, Bool.toNat_false, b0, b1, Bool.false_eq_true, Bool.true_eq_false] at g1 e1 ⊢; rw [g1, obn_s]; exact e1, e2⟩
  | 4, _ =>
    obtain ⟨M1, g1, g2, g3⟩ := h.setF (p := p) hp (show 1 ≤ 2 by omega)
    obtain ⟨M', e1, e2⟩ := fin M1 g2 g3
    exact ⟨M', by simp (disch := omega) only [li_0, li_1, li_2, li_3, li_4, li_5, li_6, li_7, li_8, li_9, li_10, li_11, li_12, li_13, li_14, li_15, li_16, li_17, li_18, li_19, li_20, li_21, li_22, li_23, li_24, li_25, li_26, li_27, li_28, li_29, li_30, li_31, li_32, li_33, li_34, li_35, li_36, li_37, li_38, li_39, li_40, li_41, li_42, li_43, li_44, li_45, li_46, li_47, li_48, li_49, li_50, li_51, li_52, li_53, li_54, li_55, li_56, li_57, li_58, li_59, li_60, li_61, li_62, li_63, li_71, li_72, li_73, li_81, li_82, li_97, li_98, li_99, li_100, li_101, li_102, li_105, li_110, li_111, li_116, li_117, li_126, li_161, li_233, li_932, li_1165, li_10000, li_100000, n_lt_t, n_lt_f, n_eq_t, n_eq_f, nI_add, n_sub, n_mul, n_ix, n_ckd, bnd_e, obn_s, zrk_0, zrk_1, zrk_b, zb_0, zb_1, zb_b, if_true, if_false, Bool.toNat_true, Bool.toNat_false, b0, b1, Bool.false_eq_true, Bool.true_eq_false] at g1 e1 ⊢; rw [g1, obn_s]; exact e1, e2⟩
  | 5, _ =>
    obtain ⟨M1, g1, g2, g3⟩ := h.setF (p := p) hp (show 2 ≤ 2 by omega)
    obtain ⟨M', e1, e2⟩ := fin M1 g2 g3
    exact ⟨M', by simp (disch := omega) only [li_0, li_1, li_2, li_3, li_4, li_5, li_6, li_7, li_8, li_9, li_10, li_11, li_12, li_13, li_14, li_15, li_16, li_17, li_18, li_19, li_20, li_21, li_22, li_23, li_24, li_25, li_26, li_27, li_28, li_29, li_30, li_31, li_32, li_33, li_34, li_35, li_36, li_37, li_38, li_39, li_40, li_41, li_42, li_43, li_44, li_45, li_46, li_47, li_48, li_49, li_50, li_51, li_52, li_53, li_54, li_55, li_56, li_57, li_58, li_59, li_60, li_61, li_62, li_63, li_71, li_72, li_73, li_81, li_82, li_97, li_98, li_99, li_100, li_101, li_102, li_105, li_110, li_111, li_116, li_117, li_126, li_161, li_233, li_932, li_1165, li_10000, li_100000, n_lt_t, n_lt_f, n_eq_t, n_eq_f, nI_add, n_sub, n_mul, n_ix, n_ckd, bnd_e, obn_s, zrk_0, zrk_1, zrk_b, zb_0, zb_1, zb_b, if_true, if_false, Bool.toNat_true, Bool.toNat_false, b0, b1, Bool.false_eq_true, Bool.true_eq_false] at g1 e1 ⊢; rw [g1, obn_s]; exact e1, e2⟩
  | 6, _ =>
    have hp : p < n := by simpa [plc] using hp
    obtain ⟨M', e1, e2⟩ := fin _ (h.setS hp (Or.inr rfl) true) (fun b hb => mst_n (by omega))
    exact ⟨M', by simp (disch := omega) only [li_0, li_1, li_2, li_3, li_4, li_5, li_6, li_7, li_8, li_9, li_10, li_11, li_12, li_13, li_14, li_15, li_16, li_17, li_18, li_19, li_20, li_21, li_22, li_23, li_24, li_25, li_26, li_27, li_28, li_29, li_30, li_31, li_32, li_33, li_34, li_35, li_36, li_37, li_38, li_39, li_40, li_41, li_42, li_43, li_44, li_45, li_46, li_47, li_48, li_49, li_50, li_51, li_52, li_53, li_54, li_55, li_56, li_57, li_58, li_59, li_60, li_61, li_62, li_63, li_71, li_72, li_73, li_81, li_82, li_97, li_98, li_99, li_100, li_101, li_102, li_105, li_110, li_111, li_116, li_117, li_126, li_161, li_233, li_932, li_1165, li_10000, li_100000, n_lt_t, n_lt_f, n_eq_t, n_eq_f, nI_add, n_sub, n_mul, n_ix, n_ckd, bnd_e, obn_s, zrk_0, zrk_1, zrk_b, zb_0, zb_1, zb_b, if_true, if_false, Bool.toNat_true, Bool.toNat_false, b0, b1, Bool.false_eq_true, Bool.true_eq_false] at e1 ⊢; exact e1, e2⟩
  | 7, _ =>
    have hp : p < n := by simpa [plc] using hp
    obtain ⟨M', e1, e2⟩ := fin _ (h.setS hp (Or.inr rfl) false) (fun b hb => mst_n (by omega))
    exact ⟨M', by simp (disch := omega) only [li_0, li_1, li_2, li_3, li_4, li_5, li_6, li_7, li_8, li_9, li_10, li_11, li_12, li_13, li_14, li_15, li_16, li_17, li_18, li_19, li_20, li_21, li_22, li_23, li_24, li_25, li_26, li_27, li_28, li_29, li_30, li_31, li_32, li_33, li_34, li_35, li_36, li_37, li_38, li_39, li_40, li_41, li_42, li_43, li_44, li_45, li_46, li_47, li_48, li_49, li_50, li_51, li_52, li_53, li_54, li_55, li_56, li_57, li_58, li_59, li_60, li_61, li_62, li_63, li_71, li_72, li_73, li_81, li_82, li_97, li_98, li_99, li_100, li_101, li_102, li_105, li_110, li_111, li_116, li_117, li_126, li_161, li_233, li_932, li_1165, li_10000, li_100000, n_lt_t, n_lt_f, n_eq_t, n_eq_f, nI_add, n_sub, n_mul, n_ix, n_ckd, bnd_e, obn_s, zrk_0, zrk_1, zrk_b, zb_0, zb_1, zb_b, if_true, if_false, Bool.toNat_true, Bool.toNat_false, b0, b1, Bool.false_eq_true, Bool.true_eq_false] at e1 ⊢; exact e1, e2⟩
  | x + 8, h => omega
end CM

