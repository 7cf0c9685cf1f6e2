/-! pool, clock, sections and isolators that come -/
section S4
variable {M : Mm} {X m : Nat}
theorem nI_int {a : Nat} (h : a < 2147483648) : (nI a).toInt = a := by
  show (Int32.ofNat a).toInt = a
  rw [Int32.toInt_ofNat_of_lt (by omega)]
theorem in_nat {x : Int32} {a b : Nat} (hb : b < 200000) (ha : a ≤ b) (h : inB x (nI a) (nI b) = true) : ∃ t, a ≤ t ∧ t ≤ b ∧ x = nI t := by
  unfold inB at h
  rw [decide_eq_true_eq, Int32.lt_iff_toInt_lt, Int32.lt_iff_toInt_lt, nI_int (by omega), nI_int (by omega)] at h
  refine ⟨x.toInt.toNat, by omega, by omega, ?_⟩
  rw [← Int32.toInt_inj, nI_int (by omega)]
  omega
theorem RW.setG {w n k q : Nat} {S : Sm} (h : RW M w S n k q) {j t : Nat} (hj : (j = 2 ∧ t = 1) ∨ (j = 3 ∧ t = 0) ∨ (j = 6 ∧ t = 2)) (x : Int32) : RW (mst M (w + 8) t x) w (upd S j x) n k q := by
  obtain ⟨W, hN, hS, hL⟩ := h
  have hn := W.1.2.1
  have hk := W.1.2.2.2.1
  have hj7 : j < 7 := by omega
  refine ⟨W.setG (by omega) x, ?_, ⟨?_, fun s hs => ?_, fun s h1 h2 => ?_⟩, ?_⟩
  · exact nN_S (fun s hs => by rw [aO_u (by omega)]) (fun i hi t ht => by rw [aI_u (by omega)]) (nN_kept (fun b h1 h2 => mst_n (by omega)) hN)
  · obtain ⟨g1, g2, g3⟩ := hS.1
    rcases hj with ⟨rfl, rfl⟩ | ⟨rfl, rfl⟩ | ⟨rfl, rfl⟩
    · rw [mst_at, upd_at, upd_at, upd_n (by omega), upd_n (by omega), upd_n (by omega), upd_n (by omega)]
      exact ⟨g1, rfl, g3⟩
    · rw [mst_at, upd_at, upd_at, upd_n (by omega), upd_n (by omega), upd_n (by omega), upd_n (by omega)]
      exact ⟨rfl, g2, g3⟩
    · rw [mst_at, upd_at, upd_at, upd_n (by omega), upd_n (by omega), upd_n (by omega), upd_n (by omega)]
      exact ⟨g1, g2, rfl⟩
  · rw [mst_n (by omega), mst_n (by omega), mst_n (by omega), mst_n (by omega), mst_n (by omega), mst_n (by omega), mst_n (by omega)]
    rw [aO_u (by omega), aO_u (by omega), aO_u (by omega), aO_u (by omega), bS_u (by omega), bS_u (by omega), bS_u (by omega)]
    exact hS.2.1 s hs
  · rw [mst_n (by omega), mst_n (by omega), mst_n (by omega), mst_n (by omega)]
    exact hS.2.2 s h1 h2
  · refine lB_c ?_ (fun t ht i hi => by rw [aL_u (by omega)]) (fun s hs => by rw [aO_u (by omega)]) (fun i hi => by rw [aI_u (by omega)]) (lB_kept (fun b h1 h2 => mst_n (by omega)) hL)
    rw [upd_n (by omega)]
theorem s_pool (H : Q M X m) (x : Int32) : Same X m (fun M => f_X8_pool X M x) (fun M => f_X9_pool m M x) M := by
  obtain ⟨hm, ⟨n, k, q, h1⟩, -, -, hT, -⟩ := id H
  have hn := h1.nlow
  have b1 := bridging_ok hn h1.2.2.1
  by_cases g : inB x 0 40 = true
  · by_cases g2 : x < sumI (buS (M (m + 1))) n
    · have b2 := m_busesOut (a := m) h1.1
      refine ⟨-2, M, M, ?_, ?_, H⟩
      · show f_X8_pool X M x = _
        unfold f_X8_pool
        rw [outside_ok, g, Bool.not_true, obn_s, if_pos (by decide), b1, obn_s, if_pos g2]
      · show f_X9_pool m M x = _
        unfold f_X9_pool
        rw [m_in, g, obn_s, if_neg (by decide), b2, obn_s, if_pos g2]
    · obtain ⟨M1, R, d', k1, k2, k3⟩ := mutQ H
      have h2 := (h1.kept (M' := M1) fun b b1 b2 => k2 b (by omega)).setG (Or.inl ⟨rfl, rfl⟩) x
      obtain ⟨r4, e4, hQ⟩ := k3 (mst M1 (X + 1 + 8) 1 x) (fun b hb => mst_n (by omega))
      have e2 : mst M1 (X + 1 + 8) 1 x (m + 1) = M (m + 1) := by rw [mst_n (by omega), k2 _ (by omega)]
      have b2 := m_busesOut (a := m) (M := mst M1 (X + 1 + 8) 1 x) (n := n) (k := k) (q := q) (by rw [e2]; exact h1.1)
      rw [e2] at b2
      have b3 := freeBuses_ok hn h2.2.2.1
      generalize hM4 : mst (mrow (mst M1 (X + 1 + 8) 1 x) (m + 2) R) m 3 (nI d') = M4 at r4 e4 hQ
      have e5 : mst M4 (m + 1) 2 x = mrow M4 (m + 1) (upd (M (m + 1)) 2 x) := by rw [← e4, mst_row]
      have b4 := m_free (a := m) (M := mrow M4 (m + 1) (upd (M (m + 1)) 2 x)) (n := n) (k := k) (q := q) (by rw [mrow_at]; exact h2.1)
      rw [mrow_at] at b4
      refine ⟨frS (upd (M (m + 1)) 2 x) n, mst M1 (X + 1 + 8) 1 x, mrow M4 (m + 1) (upd (M (m + 1)) 2 x), ?_, ?_, hQ _ _ _ _ h2 (hT.of (upd_n (by omega)) fun s hs => ⟨aO_u (by omega), aO_u (by omega)⟩)⟩
      · show f_X8_pool X M x = _
        unfold f_X8_pool
        rw [outside_ok, g, Bool.not_true, obn_s, if_pos (by decide), b1, obn_s, if_neg g2, k1, obn_s, bnd_e, b3, obn_s]
      · show f_X9_pool m _ x = _
        unfold f_X9_pool
        rw [m_in, g, obn_s, if_neg (by decide), b2, obn_s, if_neg g2, r4, obn_s]
        rw [show (2 : Int32) = nI 2 from rfl, n_ckd (by omega) (by omega), bnd_e, show ix (nI 2) = 2 from rfl, e5, b4, obn_s]
  · have g : inB x 0 40 = false := by simpa using g
    refine ⟨-1, M, M, ?_, ?_, H⟩
    · show f_X8_pool X M x = _
      unfold f_X8_pool
      rw [outside_ok, g, Bool.not_false, obn_s, if_neg (by decide)]
    · show f_X9_pool m M x = _
      unfold f_X9_pool
      rw [m_in, g, obn_s, if_pos (by decide)]
theorem s_pass (H : Q M X m) (x : Int32) : Same X m (fun M => f_X8_pass X M x) (fun M => f_X9_pass m M x) M := by
  obtain ⟨hm, ⟨n, k, q, h1⟩, -, -, hT, -⟩ := id H
  have hn := h1.nlow
  have c0 : M (X + 1 + 8) 0 = M (m + 1) 3 := h1.2.2.1.1.1
  have i3 : ix (3 : Int32) = 3 := rfl
  by_cases g : inB x 1 10000 = true
  · obtain ⟨t, t1, t2, rfl⟩ := in_nat (a := 1) (b := 10000) (by omega) (by omega) g
    obtain ⟨c, c1, c2⟩ := hT.1
    by_cases g2 : (100000 : Int32) < nI c + nI t
    · refine ⟨-3, M, M, ?_, ?_, H⟩
      · show f_X8_pass X M _ = _
        unfold f_X8_pass
        rw [outside_ok, g, Bool.not_true, obn_s, if_pos (by decide), c0, c2, if_pos g2]
      · show f_X9_pass m M _ = _
        unfold f_X9_pass
        rw [m_in, g, obn_s, if_neg (by decide), show (3 : Int32) = nI 3 from rfl, n_ckd (by omega) (by omega), show ix (nI 3) = 3 from rfl, c2, if_pos g2]
    · have g3 : c + t ≤ 100000 := by
        rw [nI_add, show (100000 : Int32) = nI 100000 from rfl, n_lt (by omega) (by omega)] at g2
        omega
      obtain ⟨M1, R, d', k1, k2, k3⟩ := mutQ H
      have h2 := (h1.kept (M' := M1) fun b b1 b2 => k2 b (by omega)).setG (Or.inr (Or.inl ⟨rfl, rfl⟩)) (nI (c + t))
      have cc : M1 (X + 1 + 8) 0 = nI c := by rw [k2 _ (by omega), c0, c2]
      obtain ⟨r4, e4, hQ⟩ := k3 (mst M1 (X + 1 + 8) 0 (nI (c + t))) (fun b hb => mst_n (by omega))
      have e2 : mst M1 (X + 1 + 8) 0 (nI (c + t)) (m + 1) = M (m + 1) := by rw [mst_n (by omega), k2 _ (by omega)]
      generalize hM4 : mst (mrow (mst M1 (X + 1 + 8) 0 (nI (c + t))) (m + 2) R) m 3 (nI d') = M4 at r4 e4 hQ
      have e5 : mst M4 (m + 1) 3 (nI (c + t)) = mrow M4 (m + 1) (upd (M (m + 1)) 3 (nI (c + t))) := by rw [← e4, mst_row]
      refine ⟨nI (c + t), mst M1 (X + 1 + 8) 0 (nI (c + t)), mrow M4 (m + 1) (upd (M (m + 1)) 3 (nI (c + t))), ?_, ?_, hQ _ _ _ _ h2 ?_⟩
      · show f_X8_pass X M _ = _
        unfold f_X8_pass
        rw [outside_ok, g, Bool.not_true, obn_s, if_pos (by decide), c0, c2, if_neg g2, k1, obn_s, bnd_e, cc, nI_add, mst_at, upd_at]
      · show f_X9_pass m _ _ = _
        unfold f_X9_pass
        rw [m_in, g, obn_s, if_neg (by decide), show (3 : Int32) = nI 3 from rfl, n_ckd (by omega) (by omega), show ix (nI 3) = 3 from rfl, e2, c2, if_neg g2, r4, obn_s]
        rw [n_ckd (by omega) (by omega), n_ckd (by omega) (by omega), bnd_e, e4, c2, nI_add, e5, n_ckd (by omega) (by omega), mrow_at, upd_at]
      · refine ⟨⟨c + t, g3, upd_at _ _ _⟩, fun s hs hb => ?_⟩
        rw [bS_u (by omega)] at hb
        rw [aO_u (by omega)]
        exact hT.2 s hs hb
  · have g : inB x 1 10000 = false := by simpa using g
    refine ⟨-1, M, M, ?_, ?_, H⟩
    · show f_X8_pass X M x = _
      unfold f_X8_pass
      rw [outside_ok, g, Bool.not_false, obn_s, if_neg (by decide)]
    · show f_X9_pass m M x = _
      unfold f_X9_pass
      rw [m_in, g, obn_s, if_pos (by decide)]
theorem m_sec {n t : Nat} {f : Bool} {S : Sm} (e : M (m + 1) = S) (h0 : S 0 = nI n) (hn : n < 10) : l_X9_section_49 m (nI t) (nI f.toNat) (nI n) FU M (nI 0) = some (nI n, mrow M (m + 1) (nsS S n t f)) := by
  have hs : ∀ k' j, j < 9 → l_X9_section_49 m (nI t) (nI f.toNat) (nI n) (k' + 1) (mrow M (m + 1) (fun i => if 7 + 9 * n ≤ i ∧ i < 7 + 9 * n + j then nI 0 else S i)) (nI j) = l_X9_section_49 m (nI t) (nI f.toNat) (nI n) k' (mrow M (m + 1) (fun i => if 7 + 9 * n ≤ i ∧ i < 7 + 9 * n + (j + 1) then nI 0 else S i)) (nI (j + 1)) := by
    intro k' j hj
    rw [l_X9_section_49]
    simp (disch := omega) only [li_0, li_1, li_2, li_3, li_4, li_5, li_6, li_7, li_8, li_9, li_10, li_11, li_12, li_13, li_14, li_15, li_16, li_17, li_18, li_19, li_20, li_21, li_22, li_23, li_24, li_25, li_26, li_27, li_28, li_29, li_30, li_31, li_32, li_33, li_34, li_35, li_36, li_37, li_38, li_39, li_40, li_41, li_42, li_43, li_44, li_45, li_46, li_47, li_48, li_49, li_50, li_51, li_52, li_53, li_54, li_55, li_56, li_57, li_58, li_59, li_60, li_61, li_62, li_63, li_71, li_72, li_73, li_81, li_82, li_97, li_98, li_99, li_100, li_101, li_102, li_105, li_110, li_111, li_116, li_117, li_126, li_161, li_233, li_932, li_1165, li_10000, li_100000, n_lt_t, n_lt_f, n_eq_t, n_eq_f, nI_add, n_sub, n_mul, n_ix, n_ckd, bnd_e, obn_s, zrk_0, zrk_1, zrk_b, zb_0, zb_1, zb_b, if_true, if_false, Bool.toNat_true, Bool.toNat_false, b0, b1, Bool.false_eq_true, Bool.true_eq_false, m_put, mst_mrow]
    congr 1
    refine mrow_c _ _ fun i => ?_
    by_cases e : i = 7 + 9 * n + j
    · rw [e, upd_at, if_pos (by omega)]
    · rw [upd_n e]
      by_cases y : 7 + 9 * n ≤ i ∧ i < 7 + 9 * n + j
      · rw [if_pos y, if_pos (by omega)]
      · rw [if_neg y, if_neg (by omega)]
  have hx : ∀ k', l_X9_section_49 m (nI t) (nI f.toNat) (nI n) (k' + 1) (mrow M (m + 1) (fun i => if 7 + 9 * n ≤ i ∧ i < 7 + 9 * n + 9 then nI 0 else S i)) (nI 9) = some (nI n, mrow M (m + 1) (nsS S n t f)) := by
    intro k'
    rw [l_X9_section_49]
    simp (disch := omega) only [li_0, li_1, li_2, li_3, li_4, li_5, li_6, li_7, li_8, li_9, li_10, li_11, li_12, li_13, li_14, li_15, li_16, li_17, li_18, li_19, li_20, li_21, li_22, li_23, li_24, li_25, li_26, li_27, li_28, li_29, li_30, li_31, li_32, li_33, li_34, li_35, li_36, li_37, li_38, li_39, li_40, li_41, li_42, li_43, li_44, li_45, li_46, li_47, li_48, li_49, li_50, li_51, li_52, li_53, li_54, li_55, li_56, li_57, li_58, li_59, li_60, li_61, li_62, li_63, li_71, li_72, li_73, li_81, li_82, li_97, li_98, li_99, li_100, li_101, li_102, li_105, li_110, li_111, li_116, li_117, li_126, li_161, li_233, li_932, li_1165, li_10000, li_100000, n_lt_t, n_lt_f, n_eq_t, n_eq_f, nI_add, n_sub, n_mul, n_ix, n_ckd, bnd_e, obn_s, zrk_0, zrk_1, zrk_b, zb_0, zb_1, zb_b, if_true, if_false, Bool.toNat_true, Bool.toNat_false, b0, b1, Bool.false_eq_true, Bool.true_eq_false, m_put, mst_mrow, mrow_at, upd_n]
    rw [if_neg (by omega), h0]
    simp (disch := omega) only [li_0, li_1, li_2, li_3, li_4, li_5, li_6, li_7, li_8, li_9, li_10, li_11, li_12, li_13, li_14, li_15, li_16, li_17, li_18, li_19, li_20, li_21, li_22, li_23, li_24, li_25, li_26, li_27, li_28, li_29, li_30, li_31, li_32, li_33, li_34, li_35, li_36, li_37, li_38, li_39, li_40, li_41, li_42, li_43, li_44, li_45, li_46, li_47, li_48, li_49, li_50, li_51, li_52, li_53, li_54, li_55, li_56, li_57, li_58, li_59, li_60, li_61, li_62, li_63, li_71, li_72, li_73, li_81, li_82, li_97, li_98, li_99, li_100, li_101, li_102, li_105, li_110, li_111, li_116, li_117, li_126, li_161, li_233, li_932, li_1165, li_10000, li_100000, n_lt_t, n_lt_f, n_eq_t, n_eq_f, nI_add, n_sub, n_mul, n_ix, n_ckd, bnd_e, obn_s, zrk_0, zrk_1, zrk_b, zb_0, zb_1, zb_b, if_true, if_false, Bool.toNat_true, Bool.toNat_false, b0, b1, Bool.false_eq_true, Bool.true_eq_false]
    congr 2
    refine mrow_c _ _ fun i => ?_
    unfold nsS
    by_cases e0 : i = 0
    · rw [e0, upd_at, if_pos rfl]
    · rw [upd_n e0, if_neg e0]
      by_cases e1 : i = 7 + 9 * n + 8
      · rw [e1, upd_at, if_pos (by omega), if_neg (by omega), if_neg (by omega), if_pos (by omega)]
      · rw [upd_n e1]
        by_cases e2 : i = 7 + 9 * n + 1
        · rw [e2, upd_at, if_pos (by omega), if_neg (by omega), if_pos (by omega)]
        · rw [upd_n e2]
          by_cases e3 : i = 7 + 9 * n + 0
          · rw [e3, upd_at, if_pos (by omega), if_pos (by omega)]
          · rw [upd_n e3]
            by_cases y : 7 + 9 * n ≤ i ∧ i < 7 + 9 * n + 9
            · rw [if_pos y, if_pos (by omega), if_neg (by omega), if_neg (by omega), if_neg (by omega)]
            · rw [if_neg y, if_neg (by omega)]
  have h1 := loop_up (fun k' (z : Mm × Int32) => l_X9_section_49 m (nI t) (nI f.toNat) (nI n) k' z.1 z.2) (fun j => (mrow M (m + 1) (fun i => if 7 + 9 * n ≤ i ∧ i < 7 + 9 * n + j then nI 0 else S i), nI j)) 9 _ hs hx FU 0 (Nat.zero_le _) (by show _ < 4000; omega)
  have e0 : mrow M (m + 1) (fun i => if 7 + 9 * n ≤ i ∧ i < 7 + 9 * n + 0 then nI 0 else S i) = M := by
    rw [mrow_c _ _ (g := M (m + 1)) (fun i => by rw [if_neg (by omega), e]), mrow_self]
  simp only [e0] at h1
  exact h1
theorem in01 {x : Int32} (h : inB x 0 1 = true) : ∃ f : Bool, x = nI f.toNat := by
  obtain ⟨t, t1, t2, rfl⟩ := in_nat (a := 0) (b := 1) (by omega) (by omega) h
  rcases (show t = 0 ∨ t = 1 by omega) with rfl | rfl
  · exact ⟨false, rfl⟩
  · exact ⟨true, rfl⟩
theorem s_section (H : Q M X m) (x y : Int32) : Same X m (fun M => f_X8_section X M x y) (fun M => f_X9_section m M x y) M := by
  obtain ⟨hm, ⟨n, k, q, h1⟩, -, -, hT, -⟩ := id H
  have hn := h1.nlow
  have hc : M (X + 1 + 1) 0 = nI n := h1.n0
  have h0 : M (m + 1) 0 = nI n := h1.1.1.1
  by_cases g : inB x 1 9 = true
  · by_cases g2 : inB y 0 1 = true
    · obtain ⟨t, t1, t2, rfl⟩ := in_nat (a := 1) (b := 9) (by omega) (by omega) g
      obtain ⟨f, rfl⟩ := in01 g2
      by_cases g3 : n = 10
      · subst g3
        refine ⟨-3, M, M, ?_, ?_, H⟩
        · show f_X8_section X M _ _ = _
          unfold f_X8_section
          rw [outside_ok, g, Bool.not_true, obn_s, if_pos (by decide), outside_ok, g2, Bool.not_true, obn_s, if_pos (by decide), hc, if_neg (by decide)]
        · show f_X9_section m M _ _ = _
          unfold f_X9_section
          rw [m_in, g, obn_s, if_neg (by decide), m_in, g2, obn_s, if_neg (by decide)]
          rw [show ix (0 : Int32) = 0 from rfl, h0]
          try rfl
      · have hn' : n < 10 := by omega
        obtain ⟨M1, R, d', k1, k2, k3⟩ := mutQ H
        obtain ⟨M2, p1, p2, p3⟩ := addSec_ok (h1.kept (M' := M1) fun b b1 b2 => k2 b (by omega)) hn' (t := t) f
        obtain ⟨r4, e4, hQ⟩ := k3 M2 (fun b hb => p3 b (by omega))
        have e2 : M2 (m + 1) = M (m + 1) := by rw [p3 _ (by omega), k2 _ (by omega)]
        generalize hM4 : mst (mrow M2 (m + 2) R) m 3 (nI d') = M4 at r4 e4 hQ
        have r5 := m_sec (M := M4) (m := m) (t := t) (f := f) e4 h0 hn'
        refine ⟨nI n, M2, _, ?_, ?_, hQ _ _ _ _ p2 ?_⟩
        · show f_X8_section X M _ _ = _
          unfold f_X8_section b_X8_section_65
          rw [outside_ok, g, Bool.not_true, obn_s, if_pos (by decide), outside_ok, g2, Bool.not_true, obn_s, if_pos (by decide), hc, show (10 : Int32) = nI 10 from rfl, if_pos (by rw [n_lt (by omega) (by omega)]; exact hn'), k1, obn_s]
          cases f
          · rw [if_neg (by decide), show (0 : Int32) = nI (2 * false.toNat) from rfl, p1, obn_s]
          · rw [if_pos (by decide), show (2 : Int32) = nI (2 * true.toNat) from rfl, p1, obn_s]
        · show f_X9_section m M2 _ _ = _
          unfold f_X9_section
          rw [m_in, g, obn_s, if_neg (by decide), m_in, g2, obn_s, if_neg (by decide)]
          rw [show (0 : Int32) = nI 0 from rfl, n_ckd (by omega) (by omega), show ix (nI 0) = 0 from rfl, e2, h0, show (10 : Int32) = nI 10 from rfl, if_neg (by rw [n_eq (by omega) (by omega)]; exact g3), r4, obn_s, n_ckd (by omega) (by omega), bnd_e, e4, h0, r5]
        · refine ⟨?_, fun s hs hb => ?_⟩
          · rw [ns_g (by omega) (by omega)]
            exact hT.1
          · unfold bS at hb
            have hb := of_decide_eq_true hb
            by_cases y : s = n
            · rw [y, ns_z (by omega) (by omega)] at hb
              exact absurd hb (by decide)
            · have e : ∀ j, j < 9 → aO (nsS (M (m + 1)) n t f) s j = aO (M (m + 1)) s j := fun j hj => by
                unfold aO nsS
                rw [if_neg (by omega), if_neg (by omega)]
              rw [e 4 (by omega)] at hb
              rw [e 6 (by omega)]
              exact hT.2 s hs (decide_eq_true hb)
    · have g2 : inB y 0 1 = false := by simpa using g2
      refine ⟨-1, M, M, ?_, ?_, H⟩
      · show f_X8_section X M _ _ = _
        unfold f_X8_section b_X8_section_19
        rw [outside_ok, g, Bool.not_true, obn_s, if_pos (by decide), outside_ok, g2, Bool.not_false, obn_s, if_neg (by decide)]
      · show f_X9_section m M _ _ = _
        unfold f_X9_section b_X9_section_19
        rw [m_in, g, obn_s, if_neg (by decide), m_in, g2, obn_s, if_pos (by decide)]
  · have g : inB x 1 9 = false := by simpa using g
    refine ⟨-1, M, M, ?_, ?_, H⟩
    · show f_X8_section X M _ _ = _
      unfold f_X8_section b_X8_section_19
      rw [outside_ok, g, Bool.not_false, obn_s, if_neg (by decide)]
    · show f_X9_section m M _ _ = _
      unfold f_X9_section b_X9_section_19
      rw [m_in, g, obn_s, if_pos (by decide)]
end S4
