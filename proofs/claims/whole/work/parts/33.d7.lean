section S7
variable {M : Mm} {X m n k q w : Nat} {S : Sm}
theorem late_e {c j : Nat} (hc : c ≤ 100000) (hj : j ≤ 100000) : (nI 0 < nI c - nI j) = (nI j < nI c) := by
  rcases Nat.lt_or_ge j c with h | h
  · rw [n_sub (by omega), n_lt (by omega) (by omega), n_lt (by omega) (by omega)]
    exact propext ⟨fun _ => h, fun _ => by omega⟩
  · rw [n_lt (by omega) (by omega)]
    apply propext
    constructor
    · intro h2
      rw [Int32.lt_iff_toInt_lt, Int32.toInt_sub, nI_int (by omega), nI_int (by omega), nI_int (by omega), Int.bmod_eq_of_le (by omega) (by omega)] at h2
      omega
    · intro h2
      omega
theorem ads (a b c : Int32) : a + (b - c) = a + b - c := by
  simp [Int32.sub_eq_add_neg, Int32.add_assoc]
theorem s_enter (H : Q M X m) (x y z : Int32) : Same X m (fun M => f_X8_enter X M x y z) (fun M => f_X9_enter m M x y z) M := by
  obtain ⟨hm, ⟨n, k, q, h1⟩, -, -, hT, -⟩ := id H
  have hn := h1.nlow
  have cl : M (X + 1 + 8) 0 = M (m + 1) 3 := h1.2.2.1.1.1
  by_cases g : secB (M (m + 1)) x = true
  · obtain ⟨p, hp, rfl⟩ := secP h1 g
    obtain ⟨c1, c2, c3, c4, c5, c6⟩ := h1.se hp
    have c3' : aO (M (m + 1)) p 3 = nI (bS (M (m + 1)) 3 p).toNat := (h1.1.2.2.1 p hp).2.2.1
    have c4' : aO (M (m + 1)) p 4 = nI (bS (M (m + 1)) 4 p).toNat := (h1.1.2.2.1 p hp).2.2.2.1
    by_cases g2 : inB y 0 50 = true
    · by_cases g3 : inB z (M (m + 1) 3) 100000 = true
      · by_cases g4 : bS (M (m + 1)) 3 p = true ∧ bS (M (m + 1)) 4 p = false
        · obtain ⟨g4, g5⟩ := g4
          obtain ⟨c, hc, hc2⟩ := hT.1
          obtain ⟨zz, z1, z2, z3⟩ : ∃ zz, c ≤ zz ∧ zz ≤ 100000 ∧ z = nI zz := in_nat (by omega) (by omega) (by rw [hc2] at g3; exact g3)
          obtain ⟨M1, R, d', k1, k2, k3⟩ := mutQ H
          have h2 := (h1.kept (M' := M1) fun b b1 b2 => k2 b (by omega)).eg hp y z
          obtain ⟨r4, e4, hQ⟩ := k3 _ (fun b hb => by rw [mst_n (by omega), mst_n (by omega), mst_n (by omega)] : ∀ b, (b < X + 1 ∨ X + 33 ≤ b) → mst (mst (mst M1 (X + 1 + 8 + 4) p (nI 1)) (X + 1 + 8 + 5) p y) (X + 1 + 8 + 6) p z b = M1 b)
          have e2 : mst (mst (mst M1 (X + 1 + 8 + 4) p (nI 1)) (X + 1 + 8 + 5) p y) (X + 1 + 8 + 6) p z (m + 1) = M (m + 1) := by rw [mst_n (by omega), mst_n (by omega), mst_n (by omega), k2 _ (by omega)]
          have r0 : f_X5_bringGang (X + 1 + 8) M1 (nI p) y z = some (nI 0, mst (mst (mst M1 (X + 1 + 8 + 4) p (nI 1)) (X + 1 + 8 + 5) p y) (X + 1 + 8 + 6) p z) := by
            unfold f_X5_bringGang
            simp (disch := omega) only [li_0, li_1, li_2, li_3, li_4, li_5, li_6, li_7, li_8, li_9, li_10, li_11, li_12, li_13, li_14, li_15, li_16, li_17, li_18, li_19, li_20, li_21, li_22, li_23, li_24, li_25, li_26, li_27, li_28, li_29, li_30, li_31, li_32, li_33, li_34, li_35, li_36, li_37, li_38, li_39, li_40, li_41, li_42, li_43, li_44, li_45, li_46, li_47, li_48, li_49, li_50, li_51, li_52, li_53, li_54, li_55, li_56, li_57, li_58, li_59, li_60, li_61, li_62, li_63, li_71, li_72, li_73, li_81, li_82, li_97, li_98, li_99, li_100, li_101, li_102, li_105, li_110, li_111, li_116, li_117, li_126, li_161, li_233, li_932, li_1165, li_10000, li_100000, n_lt_t, n_lt_f, n_eq_t, n_eq_f, nI_add, n_sub, n_mul, n_ix, n_ckd, bnd_e, obn_s, zrk_0, zrk_1, zrk_b, zb_0, zb_1, zb_b, if_true, if_false, Bool.toNat_true, Bool.toNat_false, b0, b1, Bool.false_eq_true, Bool.true_eq_false]
          generalize mst (mst (mst M1 (X + 1 + 8 + 4) p (nI 1)) (X + 1 + 8 + 5) p y) (X + 1 + 8 + 6) p z = M2 at h2 r4 e4 hQ e2 r0
          have s1 : f_X9_isSection m M2 (nI p) = some (nI 1, M2) := by rw [m_isSection, e2, g]; rfl
          generalize mst (mrow M2 (m + 2) R) m 3 (nI d') = M4 at r4 e4 hQ
          have ct : f_X8_countTrue (X + 1 + 8 + 4) M2 = some (nI (fb_ct (fun s => decide (s < n) && bS (egS (M (m + 1)) p y z) 4 s) 10), M2) := countTrue_ok fun i hi => by
            by_cases e : i < n
            · rw [(h2.se e).2.2.2.1]; simp [e]
            · rw [(h2.2.2.1.2.2 i (by omega) hi).2.2.1]; simp [e]
          have rw4 := m_with (a := m) (M := mrow M4 (m + 1) (egS (M (m + 1)) p y z)) (n := n) (k := k) (q := q) (by rw [mrow_at]; exact h2.1) (j := 4) (by omega)
          rw [mrow_at, bs_n hn (show 10 ≤ 32 by omega), bs_c (by omega) (q := fun s => decide (s < n) && bS (egS (M (m + 1)) p y z) 4 s) (fun s hs => by
            by_cases e : s < n
            · rw [pos_b h2.1 (by omega) e]
            · simp [e])] at rw4
          have eg : mrow M4 (m + 1) (upd (upd (upd (M (m + 1)) (7 + 9 * p + 4) (nI 1)) (7 + 9 * p + 5) y) (7 + 9 * p + 6) z) = mrow M4 (m + 1) (egS (M (m + 1)) p y z) := rfl
          refine ⟨nI (fb_ct (fun s => decide (s < n) && bS (egS (M (m + 1)) p y z) 4 s) 10), M2, mrow M4 (m + 1) (egS (M (m + 1)) p y z), ?_, ?_, hQ _ _ _ _ h2 ?_⟩
          · show f_X8_enter X M _ _ _ = _
            unfold f_X8_enter
            rw [hasSec_ok h1, g, obn_s, if_neg (by decide), outside_ok, g2, Bool.not_true, obn_s, if_pos (by decide), cl, outside_ok, g3, Bool.not_true, obn_s, if_pos (by decide)]
            simp (disch := omega) only [li_0, li_1, li_2, li_3, li_4, li_5, li_6, li_7, li_8, li_9, li_10, li_11, li_12, li_13, li_14, li_15, li_16, li_17, li_18, li_19, li_20, li_21, li_22, li_23, li_24, li_25, li_26, li_27, li_28, li_29, li_30, li_31, li_32, li_33, li_34, li_35, li_36, li_37, li_38, li_39, li_40, li_41, li_42, li_43, li_44, li_45, li_46, li_47, li_48, li_49, li_50, li_51, li_52, li_53, li_54, li_55, li_56, li_57, li_58, li_59, li_60, li_61, li_62, li_63, li_71, li_72, li_73, li_81, li_82, li_97, li_98, li_99, li_100, li_101, li_102, li_105, li_110, li_111, li_116, li_117, li_126, li_161, li_233, li_932, li_1165, li_10000, li_100000, n_lt_t, n_lt_f, n_eq_t, n_eq_f, nI_add, n_sub, n_mul, n_ix, n_ckd, bnd_e, obn_s, zrk_0, zrk_1, zrk_b, zb_0, zb_1, zb_b, if_true, if_false, Bool.toNat_true, Bool.toNat_false, b0, b1, Bool.false_eq_true, Bool.true_eq_false, c3, c4, g4, g5, k1, r0, ct]
          · show f_X9_enter m M2 _ _ _ = _
            unfold f_X9_enter
            rw [s1, obn_s, if_neg (by decide), m_in, g2, obn_s, if_neg (by decide), show ckd (3 : Int32) 233 = fun A => A from rfl, show ix (3 : Int32) = 3 from rfl, e2, m_in, g3]
            simp (disch := omega) only [li_0, li_1, li_2, li_3, li_4, li_5, li_6, li_7, li_8, li_9, li_10, li_11, li_12, li_13, li_14, li_15, li_16, li_17, li_18, li_19, li_20, li_21, li_22, li_23, li_24, li_25, li_26, li_27, li_28, li_29, li_30, li_31, li_32, li_33, li_34, li_35, li_36, li_37, li_38, li_39, li_40, li_41, li_42, li_43, li_44, li_45, li_46, li_47, li_48, li_49, li_50, li_51, li_52, li_53, li_54, li_55, li_56, li_57, li_58, li_59, li_60, li_61, li_62, li_63, li_71, li_72, li_73, li_81, li_82, li_97, li_98, li_99, li_100, li_101, li_102, li_105, li_110, li_111, li_116, li_117, li_126, li_161, li_233, li_932, li_1165, li_10000, li_100000, n_lt_t, n_lt_f, n_eq_t, n_eq_f, nI_add, n_sub, n_mul, n_ix, n_ckd, bnd_e, obn_s, zrk_0, zrk_1, zrk_b, zb_0, zb_1, zb_b, if_true, if_false, Bool.toNat_true, Bool.toNat_false, b0, b1, Bool.false_eq_true, Bool.true_eq_false, m_of, e2, c3', c4', g4, g5, r4, m_put, mst_row, mrow_mrow, mrow_at, e4, eg, rw4, m_bits]
          · refine ⟨?_, fun s hs hb => ?_⟩
            · unfold egS
              rw [upd_n (by omega), upd_n (by omega), upd_n (by omega)]
              exact hT.1
            · by_cases e : s = p
              · exact ⟨zz, z2, by rw [e, ← z3]; unfold egS; exact upd_at _ _ _⟩
              · have a : ∀ j, j < 9 → aO (egS (M (m + 1)) p y z) s j = aO (M (m + 1)) s j := fun j hj => by unfold egS; rw [aO_u (by omega), aO_u (by omega), aO_u (by omega)]
                unfold bS at hb
                rw [a 4 (by omega)] at hb
                rw [a 6 (by omega)]
                exact hT.2 s hs hb
        · have g4 : bS (M (m + 1)) 3 p = false ∨ bS (M (m + 1)) 4 p = true := by
            cases e : bS (M (m + 1)) 3 p
            · exact Or.inl rfl
            · cases e2 : bS (M (m + 1)) 4 p
              · exact absurd ⟨e, e2⟩ g4
              · exact Or.inr rfl
          refine ⟨-2, M, M, ?_, ?_, H⟩
          · show f_X8_enter X M _ _ _ = _
            unfold f_X8_enter b_X8_enter_72
            rw [hasSec_ok h1, g, obn_s, if_neg (by decide), outside_ok, g2, Bool.not_true, obn_s, if_pos (by decide), cl, outside_ok, g3, Bool.not_true, obn_s, if_pos (by decide)]
            simp (disch := omega) only [li_0, li_1, li_2, li_3, li_4, li_5, li_6, li_7, li_8, li_9, li_10, li_11, li_12, li_13, li_14, li_15, li_16, li_17, li_18, li_19, li_20, li_21, li_22, li_23, li_24, li_25, li_26, li_27, li_28, li_29, li_30, li_31, li_32, li_33, li_34, li_35, li_36, li_37, li_38, li_39, li_40, li_41, li_42, li_43, li_44, li_45, li_46, li_47, li_48, li_49, li_50, li_51, li_52, li_53, li_54, li_55, li_56, li_57, li_58, li_59, li_60, li_61, li_62, li_63, li_71, li_72, li_73, li_81, li_82, li_97, li_98, li_99, li_100, li_101, li_102, li_105, li_110, li_111, li_116, li_117, li_126, li_161, li_233, li_932, li_1165, li_10000, li_100000, n_lt_t, n_lt_f, n_eq_t, n_eq_f, nI_add, n_sub, n_mul, n_ix, n_ckd, bnd_e, obn_s, zrk_0, zrk_1, zrk_b, zb_0, zb_1, zb_b, if_true, if_false, Bool.toNat_true, Bool.toNat_false, b0, b1, Bool.false_eq_true, Bool.true_eq_false, c3, c4]
            rcases g4 with e | e <;> rw [e] <;> simp
          · show f_X9_enter m M _ _ _ = _
            unfold f_X9_enter b_X9_enter_54
            rw [m_isSection, g, obn_s, if_neg (by decide), m_in, g2, obn_s, if_neg (by decide), show ckd (3 : Int32) 233 = fun A => A from rfl, show ix (3 : Int32) = 3 from rfl, m_in, g3]
            simp (disch := omega) only [li_0, li_1, li_2, li_3, li_4, li_5, li_6, li_7, li_8, li_9, li_10, li_11, li_12, li_13, li_14, li_15, li_16, li_17, li_18, li_19, li_20, li_21, li_22, li_23, li_24, li_25, li_26, li_27, li_28, li_29, li_30, li_31, li_32, li_33, li_34, li_35, li_36, li_37, li_38, li_39, li_40, li_41, li_42, li_43, li_44, li_45, li_46, li_47, li_48, li_49, li_50, li_51, li_52, li_53, li_54, li_55, li_56, li_57, li_58, li_59, li_60, li_61, li_62, li_63, li_71, li_72, li_73, li_81, li_82, li_97, li_98, li_99, li_100, li_101, li_102, li_105, li_110, li_111, li_116, li_117, li_126, li_161, li_233, li_932, li_1165, li_10000, li_100000, n_lt_t, n_lt_f, n_eq_t, n_eq_f, nI_add, n_sub, n_mul, n_ix, n_ckd, bnd_e, obn_s, zrk_0, zrk_1, zrk_b, zb_0, zb_1, zb_b, if_true, if_false, Bool.toNat_true, Bool.toNat_false, b0, b1, Bool.false_eq_true, Bool.true_eq_false, m_of, c3', c4']
            rcases g4 with e | e <;> rw [e] <;> simp
      · have g3 : inB z (M (m + 1) 3) 100000 = false := by simpa using g3
        refine ⟨-1, M, M, ?_, ?_, H⟩
        · show f_X8_enter X M _ _ _ = _
          unfold f_X8_enter b_X8_enter_40
          rw [hasSec_ok h1, g, obn_s, if_neg (by decide), outside_ok, g2, Bool.not_true, obn_s, if_pos (by decide), cl, outside_ok, g3, Bool.not_false, obn_s, if_neg (by decide)]
        · show f_X9_enter m M _ _ _ = _
          unfold f_X9_enter b_X9_enter_33
          rw [m_isSection, g, obn_s, if_neg (by decide), m_in, g2, obn_s, if_neg (by decide), show ckd (3 : Int32) 233 = fun A => A from rfl, show ix (3 : Int32) = 3 from rfl, m_in, g3, obn_s, if_pos (by decide)]
    · have g2 : inB y 0 50 = false := by simpa using g2
      refine ⟨-1, M, M, ?_, ?_, H⟩
      · show f_X8_enter X M _ _ _ = _
        unfold f_X8_enter b_X8_enter_40
        rw [hasSec_ok h1, g, obn_s, if_neg (by decide), outside_ok, g2, Bool.not_false, obn_s, if_neg (by decide)]
      · show f_X9_enter m M _ _ _ = _
        unfold f_X9_enter b_X9_enter_33
        rw [m_isSection, g, obn_s, if_neg (by decide), m_in, g2, obn_s, if_pos (by decide)]
  · have g : secB (M (m + 1)) x = false := by simpa using g
    refine ⟨-1, M, M, ?_, ?_, H⟩
    · show f_X8_enter X M _ _ _ = _
      unfold f_X8_enter b_X8_enter_40
      rw [hasSec_ok h1, g, obn_s, if_pos (by decide)]
    · show f_X9_enter m M _ _ _ = _
      unfold f_X9_enter b_X9_enter_33
      rw [m_isSection, g, obn_s, if_pos (by decide)]
theorem s_leave (H : Q M X m) (x y : Int32) : Same X m (fun M => f_X8_leave X M x y) (fun M => f_X9_leave m M x y) M := by
  obtain ⟨hm, ⟨n, k, q, h1⟩, -, -, hT, -⟩ := id H
  have hn := h1.nlow
  have cl : M (X + 1 + 8) 0 = M (m + 1) 3 := h1.2.2.1.1.1
  have ll : M (X + 1 + 8) 2 = M (m + 1) 6 := h1.2.2.1.1.2.2
  by_cases g : secB (M (m + 1)) x = true
  · obtain ⟨p, hp, rfl⟩ := secP h1 g
    obtain ⟨c1, c2, c3, c4, c5, c6⟩ := h1.se hp
    have c4' : aO (M (m + 1)) p 4 = nI (bS (M (m + 1)) 4 p).toNat := (h1.1.2.2.1 p hp).2.2.2.1
    by_cases g2 : inB y 0 50 = true
    · by_cases g4 : bS (M (m + 1)) 4 p = true
      · obtain ⟨c5, c5'⟩ := c5 g4
        by_cases g3 : aO (M (m + 1)) p 5 < y
        · refine ⟨-2, M, M, ?_, ?_, H⟩
          · show f_X8_leave X M _ _ = _
            unfold f_X8_leave b_X8_leave_54
            rw [hasSec_ok h1, g, obn_s, if_neg (by decide), outside_ok, g2, Bool.not_true, obn_s, if_pos (by decide)]
            simp (disch := omega) only [li_0, li_1, li_2, li_3, li_4, li_5, li_6, li_7, li_8, li_9, li_10, li_11, li_12, li_13, li_14, li_15, li_16, li_17, li_18, li_19, li_20, li_21, li_22, li_23, li_24, li_25, li_26, li_27, li_28, li_29, li_30, li_31, li_32, li_33, li_34, li_35, li_36, li_37, li_38, li_39, li_40, li_41, li_42, li_43, li_44, li_45, li_46, li_47, li_48, li_49, li_50, li_51, li_52, li_53, li_54, li_55, li_56, li_57, li_58, li_59, li_60, li_61, li_62, li_63, li_71, li_72, li_73, li_81, li_82, li_97, li_98, li_99, li_100, li_101, li_102, li_105, li_110, li_111, li_116, li_117, li_126, li_161, li_233, li_932, li_1165, li_10000, li_100000, n_lt_t, n_lt_f, n_eq_t, n_eq_f, nI_add, n_sub, n_mul, n_ix, n_ckd, bnd_e, obn_s, zrk_0, zrk_1, zrk_b, zb_0, zb_1, zb_b, if_true, if_false, Bool.toNat_true, Bool.toNat_false, b0, b1, Bool.false_eq_true, Bool.true_eq_false, c4, g4, c5, g3]
          · show f_X9_leave m M _ _ = _
            unfold f_X9_leave b_X9_leave_39
            rw [m_isSection, g, obn_s, if_neg (by decide), m_in, g2, obn_s, if_neg (by decide)]
            simp (disch := omega) only [li_0, li_1, li_2, li_3, li_4, li_5, li_6, li_7, li_8, li_9, li_10, li_11, li_12, li_13, li_14, li_15, li_16, li_17, li_18, li_19, li_20, li_21, li_22, li_23, li_24, li_25, li_26, li_27, li_28, li_29, li_30, li_31, li_32, li_33, li_34, li_35, li_36, li_37, li_38, li_39, li_40, li_41, li_42, li_43, li_44, li_45, li_46, li_47, li_48, li_49, li_50, li_51, li_52, li_53, li_54, li_55, li_56, li_57, li_58, li_59, li_60, li_61, li_62, li_63, li_71, li_72, li_73, li_81, li_82, li_97, li_98, li_99, li_100, li_101, li_102, li_105, li_110, li_111, li_116, li_117, li_126, li_161, li_233, li_932, li_1165, li_10000, li_100000, n_lt_t, n_lt_f, n_eq_t, n_eq_f, nI_add, n_sub, n_mul, n_ix, n_ckd, bnd_e, obn_s, zrk_0, zrk_1, zrk_b, zb_0, zb_1, zb_b, if_true, if_false, Bool.toNat_true, Bool.toNat_false, b0, b1, Bool.false_eq_true, Bool.true_eq_false, m_of, c4', g4, g3]
        · obtain ⟨c, hc, hc2⟩ := hT.1
          obtain ⟨j, hj, hj2⟩ := hT.2 p (by omega) g4
          generalize hlt : (if nI j < nI c then nI c - nI j else nI 0) = lt
          generalize hx7 : aO (M (m + 1)) p 7 + aO (M (m + 1)) p 5 - y = x7
          obtain ⟨M1, R, d', k1, k2, k3⟩ := mutQ H
          have h2 := (h1.kept (M' := M1) fun b b1 b2 => k2 b (by omega)).lg hp x7 (M (m + 1) 6 + lt)
          obtain ⟨r4, e4, hQ⟩ := k3 _ (fun b hb => by rw [mst_n (by omega), mst_n (by omega), mst_n (by omega)] : ∀ b, (b < X + 1 ∨ X + 33 ≤ b) → mst (mst (mst M1 (X + 1 + 8 + 4) p (nI 0)) (X + 1 + 8 + 7) p x7) (X + 1 + 8) 2 (M (m + 1) 6 + lt) b = M1 b)
          have e2 : mst (mst (mst M1 (X + 1 + 8 + 4) p (nI 0)) (X + 1 + 8 + 7) p x7) (X + 1 + 8) 2 (M (m + 1) 6 + lt) (m + 1) = M (m + 1) := by rw [mst_n (by omega), mst_n (by omega), mst_n (by omega), k2 _ (by omega)]
          have r0 : f_X5_sendGangOff (X + 1 + 8) M1 (nI p) y = some (lt, mst (mst (mst M1 (X + 1 + 8 + 4) p (nI 0)) (X + 1 + 8 + 7) p x7) (X + 1 + 8) 2 (M (m + 1) 6 + lt)) := by
            unfold f_X5_sendGangOff
            have e : (if nI 0 < nI c - nI j then nI c - nI j else nI 0) = lt := by
              rw [← hlt]
              by_cases z : nI j < nI c
              · rw [if_pos z, if_pos (by rw [late_e hc hj]; exact z)]
              · rw [if_neg z, if_neg (by rw [late_e hc hj]; exact z)]
            have k5 : M1 (X + 1 + 8) = M (X + 1 + 8) := k2 _ (by omega)
            have k6 : M1 (X + 1 + 8 + 5) = M (X + 1 + 8 + 5) := k2 _ (by omega)
            have k7 : M1 (X + 1 + 8 + 6) = M (X + 1 + 8 + 6) := k2 _ (by omega)
            have k8 : M1 (X + 1 + 8 + 7) = M (X + 1 + 8 + 7) := k2 _ (by omega)
            rw [k5, k7, cl, hc2, show (0 : Int32) = nI 0 from rfl, show ix (nI p) = p from n_ix (by omega), c5', hj2, e]
            simp (disch := omega) only [li_0, li_1, li_2, li_3, li_4, li_5, li_6, li_7, li_8, li_9, li_10, li_11, li_12, li_13, li_14, li_15, li_16, li_17, li_18, li_19, li_20, li_21, li_22, li_23, li_24, li_25, li_26, li_27, li_28, li_29, li_30, li_31, li_32, li_33, li_34, li_35, li_36, li_37, li_38, li_39, li_40, li_41, li_42, li_43, li_44, li_45, li_46, li_47, li_48, li_49, li_50, li_51, li_52, li_53, li_54, li_55, li_56, li_57, li_58, li_59, li_60, li_61, li_62, li_63, li_71, li_72, li_73, li_81, li_82, li_97, li_98, li_99, li_100, li_101, li_102, li_105, li_110, li_111, li_116, li_117, li_126, li_161, li_233, li_932, li_1165, li_10000, li_100000, n_lt_t, n_lt_f, n_eq_t, n_eq_f, nI_add, n_sub, n_mul, n_ix, n_ckd, bnd_e, obn_s, zrk_0, zrk_1, zrk_b, zb_0, zb_1, zb_b, if_true, if_false, Bool.toNat_true, Bool.toNat_false, b0, b1, Bool.false_eq_true, Bool.true_eq_false, mrow_n, mrow_at, mst_n, mst_at, upd_n, upd_at, mst_mrow, k5, k6, k8, c5, c6, ads, hx7, ll]
          generalize mst (mst (mst M1 (X + 1 + 8 + 4) p (nI 0)) (X + 1 + 8 + 7) p x7) (X + 1 + 8) 2 (M (m + 1) 6 + lt) = M2 at h2 r4 e4 hQ e2 r0
          have s1 : f_X9_isSection m M2 (nI p) = some (nI 1, M2) := by rw [m_isSection, e2, g]; rfl
          generalize mst (mrow M2 (m + 2) R) m 3 (nI d') = M4 at r4 e4 hQ
          have fin : ∀ v, v = lt → b_X9_leave_103 m (mrow M4 (m + 1) (upd (M (m + 1)) (7 + 9 * p + 7) x7)) (nI p) v = some (lt, mrow M4 (m + 1) (lgS (M (m + 1)) p x7 (M (m + 1) 6 + lt))) := fun v hv => by
            subst hv
            unfold b_X9_leave_103
            simp (disch := omega) only [li_0, li_1, li_2, li_3, li_4, li_5, li_6, li_7, li_8, li_9, li_10, li_11, li_12, li_13, li_14, li_15, li_16, li_17, li_18, li_19, li_20, li_21, li_22, li_23, li_24, li_25, li_26, li_27, li_28, li_29, li_30, li_31, li_32, li_33, li_34, li_35, li_36, li_37, li_38, li_39, li_40, li_41, li_42, li_43, li_44, li_45, li_46, li_47, li_48, li_49, li_50, li_51, li_52, li_53, li_54, li_55, li_56, li_57, li_58, li_59, li_60, li_61, li_62, li_63, li_71, li_72, li_73, li_81, li_82, li_97, li_98, li_99, li_100, li_101, li_102, li_105, li_110, li_111, li_116, li_117, li_126, li_161, li_233, li_932, li_1165, li_10000, li_100000, n_lt_t, n_lt_f, n_eq_t, n_eq_f, nI_add, n_sub, n_mul, n_ix, n_ckd, bnd_e, obn_s, zrk_0, zrk_1, zrk_b, zb_0, zb_1, zb_b, if_true, if_false, Bool.toNat_true, Bool.toNat_false, b0, b1, Bool.false_eq_true, Bool.true_eq_false, mrow_at, upd_n, mst_mrow, m_put]
            rfl
          refine ⟨lt, M2, mrow M4 (m + 1) (lgS (M (m + 1)) p x7 (M (m + 1) 6 + lt)), ?_, ?_, hQ _ _ _ _ h2 ?_⟩
          · show f_X8_leave X M _ _ = _
            unfold f_X8_leave
            rw [hasSec_ok h1, g, obn_s, if_neg (by decide), outside_ok, g2, Bool.not_true, obn_s, if_pos (by decide)]
            simp (disch := omega) only [li_0, li_1, li_2, li_3, li_4, li_5, li_6, li_7, li_8, li_9, li_10, li_11, li_12, li_13, li_14, li_15, li_16, li_17, li_18, li_19, li_20, li_21, li_22, li_23, li_24, li_25, li_26, li_27, li_28, li_29, li_30, li_31, li_32, li_33, li_34, li_35, li_36, li_37, li_38, li_39, li_40, li_41, li_42, li_43, li_44, li_45, li_46, li_47, li_48, li_49, li_50, li_51, li_52, li_53, li_54, li_55, li_56, li_57, li_58, li_59, li_60, li_61, li_62, li_63, li_71, li_72, li_73, li_81, li_82, li_97, li_98, li_99, li_100, li_101, li_102, li_105, li_110, li_111, li_116, li_117, li_126, li_161, li_233, li_932, li_1165, li_10000, li_100000, n_lt_t, n_lt_f, n_eq_t, n_eq_f, nI_add, n_sub, n_mul, n_ix, n_ckd, bnd_e, obn_s, zrk_0, zrk_1, zrk_b, zb_0, zb_1, zb_b, if_true, if_false, Bool.toNat_true, Bool.toNat_false, b0, b1, Bool.false_eq_true, Bool.true_eq_false, c4, g4, c5, g3, k1, r0]
          · show f_X9_leave m M2 _ _ = _
            unfold f_X9_leave
            rw [s1, obn_s, if_neg (by decide), m_in, g2, obn_s, if_neg (by decide)]
            have a6 : aO (upd (M (m + 1)) (7 + 9 * p + 7) x7) p 6 = nI j := by rw [aO_u (by omega)]; exact hj2
            simp (disch := omega) only [li_0, li_1, li_2, li_3, li_4, li_5, li_6, li_7, li_8, li_9, li_10, li_11, li_12, li_13, li_14, li_15, li_16, li_17, li_18, li_19, li_20, li_21, li_22, li_23, li_24, li_25, li_26, li_27, li_28, li_29, li_30, li_31, li_32, li_33, li_34, li_35, li_36, li_37, li_38, li_39, li_40, li_41, li_42, li_43, li_44, li_45, li_46, li_47, li_48, li_49, li_50, li_51, li_52, li_53, li_54, li_55, li_56, li_57, li_58, li_59, li_60, li_61, li_62, li_63, li_71, li_72, li_73, li_81, li_82, li_97, li_98, li_99, li_100, li_101, li_102, li_105, li_110, li_111, li_116, li_117, li_126, li_161, li_233, li_932, li_1165, li_10000, li_100000, n_lt_t, n_lt_f, n_eq_t, n_eq_f, nI_add, n_sub, n_mul, n_ix, n_ckd, bnd_e, obn_s, zrk_0, zrk_1, zrk_b, zb_0, zb_1, zb_b, if_true, if_false, Bool.toNat_true, Bool.toNat_false, b0, b1, Bool.false_eq_true, Bool.true_eq_false, m_of, e2, c4', g4, g3, r4, e4, m_put, mst_row, mrow_at, hx7, a6, upd_n, hc2]
            by_cases z : nI j < nI c
            · rw [if_pos z]
              exact fin _ (by rw [← hlt, if_pos z])
            · rw [if_neg z]
              exact fin _ (by rw [← hlt, if_neg z])
          · refine ⟨⟨c, hc, ?_⟩, fun s hs hb => ?_⟩
            · unfold lgS
              rw [upd_n (by omega), upd_n (by omega), upd_n (by omega), upd_n (by omega), upd_n (by omega), hc2]
            · unfold bS at hb
              have hb := of_decide_eq_true hb
              by_cases e : s = p
              · have a4 : aO (lgS (M (m + 1)) p x7 (M (m + 1) 6 + lt)) p 4 = nI 0 := by unfold lgS; rw [aO_u (by omega), aO_u (by omega)]; exact upd_at _ _ _
                rw [e, a4] at hb
                exact absurd hb (by decide)
              · have a : ∀ j, j < 9 → aO (lgS (M (m + 1)) p x7 (M (m + 1) 6 + lt)) s j = aO (M (m + 1)) s j := fun j hj => by unfold lgS; rw [aO_u (by omega), aO_u (by omega), aO_u (by omega), aO_u (by omega), aO_u (by omega)]
                rw [a 4 (by omega)] at hb
                rw [a 6 (by omega)]
                exact hT.2 s hs (decide_eq_true hb)
      · have g4 : bS (M (m + 1)) 4 p = false := by simpa using g4
        refine ⟨-2, M, M, ?_, ?_, H⟩
        · show f_X8_leave X M _ _ = _
          unfold f_X8_leave b_X8_leave_54
          rw [hasSec_ok h1, g, obn_s, if_neg (by decide), outside_ok, g2, Bool.not_true, obn_s, if_pos (by decide)]
          simp (disch := omega) only [li_0, li_1, li_2, li_3, li_4, li_5, li_6, li_7, li_8, li_9, li_10, li_11, li_12, li_13, li_14, li_15, li_16, li_17, li_18, li_19, li_20, li_21, li_22, li_23, li_24, li_25, li_26, li_27, li_28, li_29, li_30, li_31, li_32, li_33, li_34, li_35, li_36, li_37, li_38, li_39, li_40, li_41, li_42, li_43, li_44, li_45, li_46, li_47, li_48, li_49, li_50, li_51, li_52, li_53, li_54, li_55, li_56, li_57, li_58, li_59, li_60, li_61, li_62, li_63, li_71, li_72, li_73, li_81, li_82, li_97, li_98, li_99, li_100, li_101, li_102, li_105, li_110, li_111, li_116, li_117, li_126, li_161, li_233, li_932, li_1165, li_10000, li_100000, n_lt_t, n_lt_f, n_eq_t, n_eq_f, nI_add, n_sub, n_mul, n_ix, n_ckd, bnd_e, obn_s, zrk_0, zrk_1, zrk_b, zb_0, zb_1, zb_b, if_true, if_false, Bool.toNat_true, Bool.toNat_false, b0, b1, Bool.false_eq_true, Bool.true_eq_false, c4, g4]
        · show f_X9_leave m M _ _ = _
          unfold f_X9_leave b_X9_leave_39
          rw [m_isSection, g, obn_s, if_neg (by decide), m_in, g2, obn_s, if_neg (by decide)]
          simp (disch := omega) only [li_0, li_1, li_2, li_3, li_4, li_5, li_6, li_7, li_8, li_9, li_10, li_11, li_12, li_13, li_14, li_15, li_16, li_17, li_18, li_19, li_20, li_21, li_22, li_23, li_24, li_25, li_26, li_27, li_28, li_29, li_30, li_31, li_32, li_33, li_34, li_35, li_36, li_37, li_38, li_39, li_40, li_41, li_42, li_43, li_44, li_45, li_46, li_47, li_48, li_49, li_50, li_51, li_52, li_53, li_54, li_55, li_56, li_57, li_58, li_59, li_60, li_61, li_62, li_63, li_71, li_72, li_73, li_81, li_82, li_97, li_98, li_99, li_100, li_101, li_102, li_105, li_110, li_111, li_116, li_117, li_126, li_161, li_233, li_932, li_1165, li_10000, li_100000, n_lt_t, n_lt_f, n_eq_t, n_eq_f, nI_add, n_sub, n_mul, n_ix, n_ckd, bnd_e, obn_s, zrk_0, zrk_1, zrk_b, zb_0, zb_1, zb_b, if_true, if_false, Bool.toNat_true, Bool.toNat_false, b0, b1, Bool.false_eq_true, Bool.true_eq_false, m_of, c4', g4]
    · have g2 : inB y 0 50 = false := by simpa using g2
      refine ⟨-1, M, M, ?_, ?_, H⟩
      · show f_X8_leave X M _ _ = _
        unfold f_X8_leave b_X8_leave_21
        rw [hasSec_ok h1, g, obn_s, if_neg (by decide), outside_ok, g2, Bool.not_false, obn_s, if_neg (by decide)]
      · show f_X9_leave m M _ _ = _
        unfold f_X9_leave b_X9_leave_18
        rw [m_isSection, g, obn_s, if_neg (by decide), m_in, g2, obn_s, if_pos (by decide)]
  · have g : secB (M (m + 1)) x = false := by simpa using g
    refine ⟨-1, M, M, ?_, ?_, H⟩
    · show f_X8_leave X M _ _ = _
      unfold f_X8_leave b_X8_leave_21
      rw [hasSec_ok h1, g, obn_s, if_pos (by decide)]
    · show f_X9_leave m M _ _ = _
      unfold f_X9_leave b_X9_leave_18
      rw [m_isSection, g, obn_s, if_pos (by decide)]
end S7
