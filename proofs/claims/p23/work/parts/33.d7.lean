section S7
variable {M : Mm} {X m n k q w : Nat} {S : Sm}
theorem late_e {c j : Nat} (hc : c ≤ 100000) (hj : j ≤ 100000) : (nI 0 < nI c - nI j) = (nI j < nI c) := by
  rcases Nat.lt_or_ge j c with h | h
  · rw [n_sub (by omega), n_lt (by omega) (by omega), n_lt (by omega) (by omega)]
    exact propext ⟨fun _ => h, fun _ => by omega⟩
  · rw [n_lt (by omega) (by omega)]
    apply propext
    constructor
    · intro h2
      rw [Int32.lt_iff_toInt_lt, Int32.toInt_sub, nI_int (by omega), nI_int (by omega), nI_int (by omega), Int.bmod_eq_of_le (by omega) (by omega)] at h2
      omega
    · intro h2
      omega
theorem ads (a b c : Int32) : a + (b - c) = a + b - c := by
  simp [Int32.sub_eq_add_neg, Int32.add_assoc]
variable {h : List Sm} {t : List Int32}
def oEn (S : Sm) (x y z : Int32) : Int32 × Option Sm :=
  if (secB S x && (inB y 0 50 && inB z (S 3) 100000)) = true then
    (if (bS S 3 (ix x) && !bS S 4 (ix x)) = true then (nI (fb_ct (fun s => decide (s < nn S) && bS (egS S (ix x) y z) 4 s) 10), some (egS S (ix x) y z)) else (-2, none))
  else (-1, none)
theorem t_enter (H : P M X S h t) (x y z : Int32) : Chg X S h t (f_X8_enter X M x y z) M (oEn S x y z) := by
  have h1 := H.1
  have hn := h1.nlow
  have hT := H.2.2.2.1
  have cl : M (X + 1 + 8) 0 = S 3 := h1.2.2.1.1.1
  unfold oEn
  by_cases g : secB S x = true
  · by_cases g2 : inB y 0 50 = true
    · by_cases g3 : inB z (S 3) 100000 = true
      · rw [if_pos (by rw [g, g2, g3]; rfl)]
        obtain ⟨p, hp, rfl⟩ := secP h1 g
        rw [show ix (nI p) = p from n_ix (by omega)]
        obtain ⟨c1, c2, c3, c4, c5, c6⟩ := h1.se hp
        by_cases g4 : (bS S 3 p && !bS S 4 p) = true
        · rw [if_pos g4]
          rw [Bool.and_eq_true] at g4
          obtain ⟨g4, g5⟩ := g4
          have g5 : bS S 4 p = false := by simpa using g5
          obtain ⟨c, hc, hc2⟩ := hT.1
          obtain ⟨zz, z1, z2, z3⟩ : ∃ zz, c ≤ zz ∧ zz ≤ 100000 ∧ z = nI zz := in_nat (by omega) (by omega) (by rw [hc2] at g3; exact g3)
          obtain ⟨M1, k1, k2, k3⟩ := mutP H
          have h2 := (h1.kept (M' := M1) fun b b1 b2 => k2 b (by omega)).eg hp y z
          have r0 : f_X5_bringGang (X + 1 + 8) M1 (nI p) y z = some (nI 0, mst (mst (mst M1 (X + 1 + 8 + 4) p (nI 1)) (X + 1 + 8 + 5) p y) (X + 1 + 8 + 6) p z) := by
            unfold f_X5_bringGang
            simp (disch := omega) only [li_0, li_1, li_2, li_3, li_4, li_5, li_6, li_7, li_8, li_9, li_10, li_11, li_12, li_13, li_14, li_15, li_16, li_17, li_18, li_19, li_20, li_21, li_22, li_23, li_24, li_25, li_26, li_27, li_28, li_29, li_30, li_31, li_32, li_33, li_34, li_35, li_36, li_37, li_38, li_39, li_40, li_41, li_42, li_43, li_44, li_45, li_46, li_47, li_48, li_49, li_50, li_51, li_52, li_53, li_54, li_55, li_56, li_57, li_58, li_59, li_60, li_61, li_62, li_63, li_71, li_72, li_73, li_81, li_82, li_97, li_98, li_99, li_100, li_101, li_102, li_105, li_110, li_111, li_116, li_117, li_126, li_161, li_233, li_932, li_1165, li_10000, li_100000, n_lt_t, n_lt_f, n_eq_t, n_eq_f, nI_add, n_sub, n_mul, n_ix, n_ckd, bnd_e, obn_s, zrk_0, zrk_1, zrk_b, zb_0, zb_1, zb_b, if_true, if_false, Bool.toNat_true, Bool.toNat_false, b0, b1, Bool.false_eq_true, Bool.true_eq_false]
          obtain ⟨q1, q2⟩ := k3 _ _ _ _ _ (fun b hb => by rw [mst_n (by omega), mst_n (by omega), mst_n (by omega)] : ∀ b, (b < X + 1 ∨ X + 33 ≤ b) → mst (mst (mst M1 (X + 1 + 8 + 4) p (nI 1)) (X + 1 + 8 + 5) p y) (X + 1 + 8 + 6) p z b = M1 b) h2 (by
            refine ⟨?_, fun s hs hb => ?_⟩
            · unfold egS
              rw [upd_n (by omega), upd_n (by omega), upd_n (by omega)]
              exact hT.1
            · by_cases e : s = p
              · exact ⟨zz, z2, by rw [e, ← z3]; unfold egS; exact upd_at _ _ _⟩
              · have a : ∀ j, j < 9 → aO (egS S p y z) s j = aO S s j := fun j hj => by unfold egS; rw [aO_u (by omega), aO_u (by omega), aO_u (by omega)]
                unfold bS at hb
                rw [a 4 (by omega)] at hb
                rw [a 6 (by omega)]
                exact hT.2 s hs hb)
          generalize mst (mst (mst M1 (X + 1 + 8 + 4) p (nI 1)) (X + 1 + 8 + 5) p y) (X + 1 + 8 + 6) p z = M2 at h2 r0 q1 q2
          have ct : f_X8_countTrue (X + 1 + 8 + 4) M2 = some (nI (fb_ct (fun s => decide (s < nn S) && bS (egS S p y z) 4 s) 10), M2) := countTrue_ok fun i hi => by
            by_cases e : i < nn S
            · rw [(h2.se e).2.2.2.1]; simp [e]
            · rw [(h2.2.2.1.2.2 i (by omega) hi).2.2.1]; simp [e]
          refine ⟨M2, ?_, q1, q2⟩
          show f_X8_enter X M _ _ _ = _
          unfold f_X8_enter
          rw [hasSec_ok h1, g, obn_s, if_neg (by decide), outside_ok, g2, Bool.not_true, obn_s, if_pos (by decide), cl, outside_ok, g3, Bool.not_true, obn_s, if_pos (by decide)]
          simp (disch := omega) only [li_0, li_1, li_2, li_3, li_4, li_5, li_6, li_7, li_8, li_9, li_10, li_11, li_12, li_13, li_14, li_15, li_16, li_17, li_18, li_19, li_20, li_21, li_22, li_23, li_24, li_25, li_26, li_27, li_28, li_29, li_30, li_31, li_32, li_33, li_34, li_35, li_36, li_37, li_38, li_39, li_40, li_41, li_42, li_43, li_44, li_45, li_46, li_47, li_48, li_49, li_50, li_51, li_52, li_53, li_54, li_55, li_56, li_57, li_58, li_59, li_60, li_61, li_62, li_63, li_71, li_72, li_73, li_81, li_82, li_97, li_98, li_99, li_100, li_101, li_102, li_105, li_110, li_111, li_116, li_117, li_126, li_161, li_233, li_932, li_1165, li_10000, li_100000, n_lt_t, n_lt_f, n_eq_t, n_eq_f, nI_add, n_sub, n_mul, n_ix, n_ckd, bnd_e, obn_s, zrk_0, zrk_1, zrk_b, zb_0, zb_1, zb_b, if_true, if_false, Bool.toNat_true, Bool.toNat_false, b0, b1, Bool.false_eq_true, Bool.true_eq_false, c3, c4, g4, g5, k1, r0, ct]
        · rw [if_neg g4]
          refine ⟨M, ?_, H, Fr.rf⟩
          show f_X8_enter X M _ _ _ = _
          unfold f_X8_enter b_X8_enter_72
          rw [hasSec_ok h1, g, obn_s, if_neg (by decide), outside_ok, g2, Bool.not_true, obn_s, if_pos (by decide), cl, outside_ok, g3, Bool.not_true, obn_s, if_pos (by decide)]
          simp (disch := omega) only [li_0, li_1, li_2, li_3, li_4, li_5, li_6, li_7, li_8, li_9, li_10, li_11, li_12, li_13, li_14, li_15, li_16, li_17, li_18, li_19, li_20, li_21, li_22, li_23, li_24, li_25, li_26, li_27, li_28, li_29, li_30, li_31, li_32, li_33, li_34, li_35, li_36, li_37, li_38, li_39, li_40, li_41, li_42, li_43, li_44, li_45, li_46, li_47, li_48, li_49, li_50, li_51, li_52, li_53, li_54, li_55, li_56, li_57, li_58, li_59, li_60, li_61, li_62, li_63, li_71, li_72, li_73, li_81, li_82, li_97, li_98, li_99, li_100, li_101, li_102, li_105, li_110, li_111, li_116, li_117, li_126, li_161, li_233, li_932, li_1165, li_10000, li_100000, n_lt_t, n_lt_f, n_eq_t, n_eq_f, nI_add, n_sub, n_mul, n_ix, n_ckd, bnd_e, obn_s, zrk_0, zrk_1, zrk_b, zb_0, zb_1, zb_b, if_true, if_false, Bool.toNat_true, Bool.toNat_false, b0, b1, Bool.false_eq_true, Bool.true_eq_false, c3, c4]
          revert g4
          cases bS S 3 p <;> cases bS S 4 p <;> simp
      · have g4 : inB z (S 3) 100000 = false := by simpa using g3
        rw [if_neg (by rw [g4, Bool.and_false, Bool.and_false]; decide)]
        refine ⟨M, ?_, H, Fr.rf⟩
        show f_X8_enter X M _ _ _ = _
        unfold f_X8_enter b_X8_enter_40
        rw [hasSec_ok h1, g, obn_s, if_neg (by decide), outside_ok, g2, Bool.not_true, obn_s, if_pos (by decide), cl, outside_ok, g4, Bool.not_false, obn_s, if_neg (by decide)]
    · have g4 : inB y 0 50 = false := by simpa using g2
      rw [if_neg (by rw [g4, Bool.false_and, Bool.and_false]; decide)]
      refine ⟨M, ?_, H, Fr.rf⟩
      show f_X8_enter X M _ _ _ = _
      unfold f_X8_enter b_X8_enter_40
      rw [hasSec_ok h1, g, obn_s, if_neg (by decide), outside_ok, g4, Bool.not_false, obn_s, if_neg (by decide)]
  · have g4 : secB S x = false := by simpa using g
    rw [if_neg (by rw [g4, Bool.false_and]; decide)]
    refine ⟨M, ?_, H, Fr.rf⟩
    show f_X8_enter X M _ _ _ = _
    unfold f_X8_enter b_X8_enter_40
    rw [hasSec_ok h1, g4, obn_s, if_pos (by decide)]
def lateS (S : Sm) (p : Nat) : Int32 := if aO S p 6 < S 3 then S 3 - aO S p 6 else nI 0
def oLe (S : Sm) (x y : Int32) : Int32 × Option Sm :=
  if (secB S x && inB y 0 50) = true then
    (if (bS S 4 (ix x) && !decide (aO S (ix x) 5 < y)) = true then (lateS S (ix x), some (lgS S (ix x) (aO S (ix x) 7 + aO S (ix x) 5 - y) (S 6 + lateS S (ix x)))) else (-2, none))
  else (-1, none)
theorem t_leave (H : P M X S h t) (x y : Int32) : Chg X S h t (f_X8_leave X M x y) M (oLe S x y) := by
  have h1 := H.1
  have hn := h1.nlow
  have hT := H.2.2.2.1
  have cl : M (X + 1 + 8) 0 = S 3 := h1.2.2.1.1.1
  have ll : M (X + 1 + 8) 2 = S 6 := h1.2.2.1.1.2.2
  unfold oLe
  by_cases g : secB S x = true
  · by_cases g2 : inB y 0 50 = true
    · rw [if_pos (by rw [g, g2]; rfl)]
      obtain ⟨p, hp, rfl⟩ := secP h1 g
      rw [show ix (nI p) = p from n_ix (by omega)]
      obtain ⟨c1, c2, c3, c4, c5, c6⟩ := h1.se hp
      by_cases g4 : bS S 4 p = true
      · obtain ⟨c5, c5'⟩ := c5 g4
        by_cases g3 : aO S p 5 < y
        · rw [if_neg (by rw [decide_eq_true g3, Bool.not_true, Bool.and_false]; decide)]
          refine ⟨M, ?_, H, Fr.rf⟩
          show f_X8_leave X M _ _ = _
          unfold f_X8_leave b_X8_leave_54
          rw [hasSec_ok h1, g, obn_s, if_neg (by decide), outside_ok, g2, Bool.not_true, obn_s, if_pos (by decide)]
          simp (disch := omega) only [li_0, li_1, li_2, li_3, li_4, li_5, li_6, li_7, li_8, li_9, li_10, li_11, li_12, li_13, li_14, li_15, li_16, li_17, li_18, li_19, li_20, li_21, li_22, li_23, li_24, li_25, li_26, li_27, li_28, li_29, li_30, li_31, li_32, li_33, li_34, li_35, li_36, li_37, li_38, li_39, li_40, li_41, li_42, li_43, li_44, li_45, li_46, li_47, li_48, li_49, li_50, li_51, li_52, li_53, li_54, li_55, li_56, li_57, li_58, li_59, li_60, li_61, li_62, li_63, li_71, li_72, li_73, li_81, li_82, li_97, li_98, li_99, li_100, li_101, li_102, li_105, li_110, li_111, li_116, li_117, li_126, li_161, li_233, li_932, li_1165, li_10000, li_100000, n_lt_t, n_lt_f, n_eq_t, n_eq_f, nI_add, n_sub, n_mul, n_ix, n_ckd, bnd_e, obn_s, zrk_0, zrk_1, zrk_b, zb_0, zb_1, zb_b, if_true, if_false, Bool.toNat_true, Bool.toNat_false, b0, b1, Bool.false_eq_true, Bool.true_eq_false, c4, g4, c5, g3]
        · rw [if_pos (by rw [g4, decide_eq_false g3]; rfl)]
          obtain ⟨c, hc, hc2⟩ := hT.1
          obtain ⟨j, hj, hj2⟩ := hT.2 p (by omega) g4
          have hlt : lateS S p = if nI j < nI c then nI c - nI j else nI 0 := by unfold lateS; rw [hj2, hc2]
          generalize lateS S p = lt at hlt
          generalize hx7 : aO S p 7 + aO S p 5 - y = x7
          obtain ⟨M1, k1, k2, k3⟩ := mutP H
          have h2 := (h1.kept (M' := M1) fun b b1 b2 => k2 b (by omega)).lg hp x7 (S 6 + lt)
          have r0 : f_X5_sendGangOff (X + 1 + 8) M1 (nI p) y = some (lt, mst (mst (mst M1 (X + 1 + 8 + 4) p (nI 0)) (X + 1 + 8 + 7) p x7) (X + 1 + 8) 2 (S 6 + lt)) := by
            unfold f_X5_sendGangOff
            have e : (if nI 0 < nI c - nI j then nI c - nI j else nI 0) = lt := by
              rw [hlt]
              by_cases z : nI j < nI c
              · rw [if_pos z, if_pos (by rw [late_e hc hj]; exact z)]
              · rw [if_neg z, if_neg (by rw [late_e hc hj]; exact z)]
            have k5 : M1 (X + 1 + 8) = M (X + 1 + 8) := k2 _ (by omega)
            have k6 : M1 (X + 1 + 8 + 5) = M (X + 1 + 8 + 5) := k2 _ (by omega)
            have k7 : M1 (X + 1 + 8 + 6) = M (X + 1 + 8 + 6) := k2 _ (by omega)
            have k8 : M1 (X + 1 + 8 + 7) = M (X + 1 + 8 + 7) := k2 _ (by omega)
            rw [k5, k7, cl, hc2, show (0 : Int32) = nI 0 from rfl, show ix (nI p) = p from n_ix (by omega), c5', hj2, e]
            simp (disch := omega) only [li_0, li_1, li_2, li_3, li_4, li_5, li_6, li_7, li_8, li_9, li_10, li_11, li_12, li_13, li_14, li_15, li_16, li_17, li_18, li_19, li_20, li_21, li_22, li_23, li_24, li_25, li_26, li_27, li_28, li_29, li_30, li_31, li_32, li_33, li_34, li_35, li_36, li_37, li_38, li_39, li_40, li_41, li_42, li_43, li_44, li_45, li_46, li_47, li_48, li_49, li_50, li_51, li_52, li_53, li_54, li_55, li_56, li_57, li_58, li_59, li_60, li_61, li_62, li_63, li_71, li_72, li_73, li_81, li_82, li_97, li_98, li_99, li_100, li_101, li_102, li_105, li_110, li_111, li_116, li_117, li_126, li_161, li_233, li_932, li_1165, li_10000, li_100000, n_lt_t, n_lt_f, n_eq_t, n_eq_f, nI_add, n_sub, n_mul, n_ix, n_ckd, bnd_e, obn_s, zrk_0, zrk_1, zrk_b, zb_0, zb_1, zb_b, if_true, if_false, Bool.toNat_true, Bool.toNat_false, b0, b1, Bool.false_eq_true, Bool.true_eq_false, mrow_n, mrow_at, mst_n, mst_at, upd_n, upd_at, mst_mrow, k5, k6, k8, c5, c6, ads, hx7, ll]
          obtain ⟨q1, q2⟩ := k3 _ _ _ _ _ (fun b hb => by rw [mst_n (by omega), mst_n (by omega), mst_n (by omega)] : ∀ b, (b < X + 1 ∨ X + 33 ≤ b) → mst (mst (mst M1 (X + 1 + 8 + 4) p (nI 0)) (X + 1 + 8 + 7) p x7) (X + 1 + 8) 2 (S 6 + lt) b = M1 b) h2 (by
            refine ⟨⟨c, hc, ?_⟩, fun s hs hb => ?_⟩
            · unfold lgS
              rw [upd_n (by omega), upd_n (by omega), upd_n (by omega), upd_n (by omega), upd_n (by omega), hc2]
            · unfold bS at hb
              have hb := of_decide_eq_true hb
              by_cases e : s = p
              · have a4 : aO (lgS S p x7 (S 6 + lt)) p 4 = nI 0 := by unfold lgS; rw [aO_u (by omega), aO_u (by omega)]; exact upd_at _ _ _
                rw [e, a4] at hb
                exact absurd hb (by decide)
              · have a : ∀ j, j < 9 → aO (lgS S p x7 (S 6 + lt)) s j = aO S s j := fun j hj => by unfold lgS; rw [aO_u (by omega), aO_u (by omega), aO_u (by omega), aO_u (by omega), aO_u (by omega)]
                rw [a 4 (by omega)] at hb
                rw [a 6 (by omega)]
                exact hT.2 s hs (decide_eq_true hb))
          refine ⟨_, ?_, q1, q2⟩
          show f_X8_leave X M _ _ = _
          unfold f_X8_leave
          rw [hasSec_ok h1, g, obn_s, if_neg (by decide), outside_ok, g2, Bool.not_true, obn_s, if_pos (by decide)]
          simp (disch := omega) only [li_0, li_1, li_2, li_3, li_4, li_5, li_6, li_7, li_8, li_9, li_10, li_11, li_12, li_13, li_14, li_15, li_16, li_17, li_18, li_19, li_20, li_21, li_22, li_23, li_24, li_25, li_26, li_27, li_28, li_29, li_30, li_31, li_32, li_33, li_34, li_35, li_36, li_37, li_38, li_39, li_40, li_41, li_42, li_43, li_44, li_45, li_46, li_47, li_48, li_49, li_50, li_51, li_52, li_53, li_54, li_55, li_56, li_57, li_58, li_59, li_60, li_61, li_62, li_63, li_71, li_72, li_73, li_81, li_82, li_97, li_98, li_99, li_100, li_101, li_102, li_105, li_110, li_111, li_116, li_117, li_126, li_161, li_233, li_932, li_1165, li_10000, li_100000, n_lt_t, n_lt_f, n_eq_t, n_eq_f, nI_add, n_sub, n_mul, n_ix, n_ckd, bnd_e, obn_s, zrk_0, zrk_1, zrk_b, zb_0, zb_1, zb_b, if_true, if_false, Bool.toNat_true, Bool.toNat_false, b0, b1, Bool.false_eq_true, Bool.true_eq_false, c4, g4, c5, g3, k1, r0]
      · have g5 : bS S 4 p = false := by simpa using g4
        rw [if_neg (by rw [g5, Bool.false_and]; decide)]
        refine ⟨M, ?_, H, Fr.rf⟩
        show f_X8_leave X M _ _ = _
        unfold f_X8_leave b_X8_leave_54
        rw [hasSec_ok h1, g, obn_s, if_neg (by decide), outside_ok, g2, Bool.not_true, obn_s, if_pos (by decide)]
        simp (disch := omega) only [li_0, li_1, li_2, li_3, li_4, li_5, li_6, li_7, li_8, li_9, li_10, li_11, li_12, li_13, li_14, li_15, li_16, li_17, li_18, li_19, li_20, li_21, li_22, li_23, li_24, li_25, li_26, li_27, li_28, li_29, li_30, li_31, li_32, li_33, li_34, li_35, li_36, li_37, li_38, li_39, li_40, li_41, li_42, li_43, li_44, li_45, li_46, li_47, li_48, li_49, li_50, li_51, li_52, li_53, li_54, li_55, li_56, li_57, li_58, li_59, li_60, li_61, li_62, li_63, li_71, li_72, li_73, li_81, li_82, li_97, li_98, li_99, li_100, li_101, li_102, li_105, li_110, li_111, li_116, li_117, li_126, li_161, li_233, li_932, li_1165, li_10000, li_100000, n_lt_t, n_lt_f, n_eq_t, n_eq_f, nI_add, n_sub, n_mul, n_ix, n_ckd, bnd_e, obn_s, zrk_0, zrk_1, zrk_b, zb_0, zb_1, zb_b, if_true, if_false, Bool.toNat_true, Bool.toNat_false, b0, b1, Bool.false_eq_true, Bool.true_eq_false, c4, g5]
    · have g3 : inB y 0 50 = false := by simpa using g2
      rw [if_neg (by rw [g3, Bool.and_false]; decide)]
      refine ⟨M, ?_, H, Fr.rf⟩
      show f_X8_leave X M _ _ = _
      unfold f_X8_leave b_X8_leave_21
      rw [hasSec_ok h1, g, obn_s, if_neg (by decide), outside_ok, g3, Bool.not_false, obn_s, if_neg (by decide)]
  · have g3 : secB S x = false := by simpa using g
    rw [if_neg (by rw [g3, Bool.false_and]; decide)]
    refine ⟨M, ?_, H, Fr.rf⟩
    show f_X8_leave X M _ _ = _
    unfold f_X8_leave b_X8_leave_21
    rw [hasSec_ok h1, g3, obn_s, if_pos (by decide)]
theorem t_undo (H : P M X S h t) : match h with
    | [] => ∃ M', f_X8_undo X M = some (-2, M') ∧ P M' X S [] t ∧ Fr X M' M
    | S1 :: h1 => ∃ M', f_X8_undo X M = some (nI h1.length, M') ∧ P M' X S1 h1 t ∧ Fr X M' M := by
  have H0 := H
  obtain ⟨h1, h3, ⟨h4, h5, h6⟩, hT_, hTs⟩ := H
  have hd := h3.1.2
  have hd0 := h3.1.1
  cases h with
  | nil =>
    refine ⟨M, ?_, H0, Fr.rf⟩
    unfold f_X8_undo
    rw [hd0]
    rfl
  | cons S1 h2 =>
    have hd : h2.length + 1 ≤ 5 := hd
    have hd0 : M (X + 33) 0 = nI (h2.length + 1) := hd0
    obtain ⟨M1, p1, p2, ⟨n1, k1, q1, p3⟩, p4⟩ := restore_ok (d := h2.length) h3 (v := X + 1) (Or.inl (by omega))
    have f1 : ∀ b, X + 195 ≤ b → M1 b = M b := fun b hb => p4 b (by omega) (by omega)
    have e0 : hT (S1 :: h2) h2.length = S1 := by
      unfold hT
      rw [List.length_cons, show h2.length + 1 - 1 - h2.length = 0 by omega]
      rfl
    rw [e0] at p3
    refine ⟨M1, ?_, ⟨p3.rs, p2.c fun i hi j hj => ?_, ⟨h4, by rw [f1 _ (by omega), h5], fun j hj => by rw [f1 _ (by omega)]; exact h6 j hj⟩, hTs _ List.mem_cons_self, fun S' hS => hTs _ (List.mem_cons_of_mem _ hS)⟩, fun b hb => p4 b (by omega) (by omega)⟩
    · unfold f_X8_undo
      simp (disch := omega) only [li_0, li_1, li_2, li_3, li_4, li_5, li_6, li_7, li_8, li_9, li_10, li_11, li_12, li_13, li_14, li_15, li_16, li_17, li_18, li_19, li_20, li_21, li_22, li_23, li_24, li_25, li_26, li_27, li_28, li_29, li_30, li_31, li_32, li_33, li_34, li_35, li_36, li_37, li_38, li_39, li_40, li_41, li_42, li_43, li_44, li_45, li_46, li_47, li_48, li_49, li_50, li_51, li_52, li_53, li_54, li_55, li_56, li_57, li_58, li_59, li_60, li_61, li_62, li_63, li_71, li_72, li_73, li_81, li_82, li_97, li_98, li_99, li_100, li_101, li_102, li_105, li_110, li_111, li_116, li_117, li_126, li_161, li_233, li_932, li_1165, li_10000, li_100000, n_lt_t, n_lt_f, n_eq_t, n_eq_f, nI_add, n_sub, n_mul, n_ix, n_ckd, bnd_e, obn_s, zrk_0, zrk_1, zrk_b, zb_0, zb_1, zb_b, if_true, if_false, Bool.toNat_true, Bool.toNat_false, b0, b1, Bool.false_eq_true, Bool.true_eq_false, hd0, p1, p2.1.1]
    · unfold hT
      rw [List.length_cons, show h2.length + 1 - 1 - i = (h2.length - 1 - i) + 1 by omega]
      rfl
end S7
