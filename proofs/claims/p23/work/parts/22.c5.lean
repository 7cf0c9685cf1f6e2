/-! the class's wires -/
theorem nN_kept {M M' : Mm} {a n k : Nat} {f u v : Nat → Nat} {c : Nat → Bool} (e : ∀ b, a ≤ b → b < a + 7 → M' b = M b) (h : nN M a n k f u v c) : nN M' a n k f u v c := by
  unfold nN nB nL nV at h ⊢
  rw [e a (by omega) (by omega), e (a + 1) (by omega) (by omega), e (a + 2) (by omega) (by omega), e (a + 3) (by omega) (by omega), e (a + 4) (by omega) (by omega), e (a + 5) (by omega) (by omega), e (a + 6) (by omega) (by omega)]
  exact h
theorem sB_kept {M M' : Mm} {a n : Nat} {S : Sm} (e : ∀ b, a ≤ b → b < a + 8 → M' b = M b) (h : sB M a S n) : sB M' a S n := by
  unfold sB at h ⊢
  rw [e a (by omega) (by omega), e (a + 1) (by omega) (by omega), e (a + 2) (by omega) (by omega), e (a + 3) (by omega) (by omega), e (a + 4) (by omega) (by omega), e (a + 5) (by omega) (by omega), e (a + 6) (by omega) (by omega), e (a + 7) (by omega) (by omega)]
  exact h
theorem lB_kept {M M' : Mm} {a n k q : Nat} {S : Sm} (e : ∀ b, a ≤ b → b < a + 6 → M' b = M b) (h : lB M a S n k q) : lB M' a S n k q := by
  unfold lB at h ⊢
  rw [e a (by omega) (by omega), e (a + 1) (by omega) (by omega), e (a + 2) (by omega) (by omega), e (a + 3) (by omega) (by omega), e (a + 4) (by omega) (by omega), e (a + 5) (by omega) (by omega)]
  exact h
def RW (M : Mm) (w : Nat) (S : Sm) (n k q : Nat) : Prop :=
  Wf S n k q ∧ nN M (w + 1) n k (fS S) (uS S) (vS S) (cS S) ∧ sB M (w + 8) S n ∧ lB M (w + 16) S n k q
/-- only rows that nobody asks for have changed -/
def Scr (w : Nat) (M' M : Mm) : Prop := ∀ b, (b < w + 22 ∨ w + 32 ≤ b) → M' b = M b
section CW
variable {w : Nat} {M : Mm} {n k q : Nat} {S : Sm}
theorem Scr.refl : Scr w M M := fun _ _ => rfl
theorem Scr.trans {M1 M2 : Mm} (h1 : Scr w M2 M1) (h2 : Scr w M1 M) : Scr w M2 M := fun b hb => by rw [h1 b hb, h2 b hb]
theorem RW.kept {M' : Mm} (h : RW M w S n k q) (e : ∀ b, w + 1 ≤ b → b < w + 22 → M' b = M b) : RW M' w S n k q :=
  ⟨h.1, nN_kept (fun b h1 h2 => e b (by omega) (by omega)) h.2.1, sB_kept (fun b h1 h2 => e b (by omega) (by omega)) h.2.2.1, lB_kept (fun b h1 h2 => e b (by omega) (by omega)) h.2.2.2⟩
theorem RW.scr {M' : Mm} (h : RW M w S n k q) (e : Scr w M' M) : RW M' w S n k q := h.kept fun b _ h2 => e b (Or.inl h2)
theorem copyW_ok {v : Nat} (hvw : v + 32 ≤ w ∨ w + 32 ≤ v) (h : RW M v S n k q) : ∃ M', f_X7_copyFrom w v M = some (nI 0, M') ∧ RW M' w S n k q ∧ ∀ b, (b < w + 1 ∨ w + 24 ≤ b) → M' b = M b := by
  obtain ⟨W, hN, hS, hL⟩ := h
  obtain ⟨M1, p1, p2, p3⟩ := copyN_ok (a := w + 1) (b := v + 1) (M := M) (by omega)
  obtain ⟨M2, q1, q2, q3⟩ := copyS_ok (a := w + 8) (b := v + 8) (M := M1) (by omega)
  obtain ⟨M3, r1, r2, r3⟩ := copyL_ok (a := w + 16) (b := v + 16) (M := M2) (by omega)
  refine ⟨M3, ?_, ⟨W, ?_, ?_, ?_⟩, fun b hb => by rw [r3 b (by omega), q3 b (by omega), p3 b (by omega)]⟩
  · unfold f_X7_copyFrom
    simp (disch := omega) only [li_0, li_1, li_2, li_3, li_4, li_5, li_6, li_7, li_8, li_9, li_10, li_11, li_12, li_13, li_14, li_15, li_16, li_17, li_18, li_19, li_20, li_21, li_22, li_23, li_24, li_25, li_26, li_27, li_28, li_29, li_30, li_31, li_32, li_33, li_34, li_35, li_36, li_37, li_38, li_39, li_40, li_41, li_42, li_43, li_44, li_45, li_46, li_47, li_48, li_49, li_50, li_51, li_52, li_53, li_54, li_55, li_56, li_57, li_58, li_59, li_60, li_61, li_62, li_63, li_71, li_72, li_73, li_81, li_82, li_97, li_98, li_99, li_100, li_101, li_102, li_105, li_110, li_111, li_116, li_117, li_126, li_161, li_233, li_932, li_1165, li_10000, li_100000, n_lt_t, n_lt_f, n_eq_t, n_eq_f, nI_add, n_sub, n_mul, n_ix, n_ckd, bnd_e, obn_s, zrk_0, zrk_1, zrk_b, zb_0, zb_1, zb_b, if_true, if_false, Bool.toNat_true, Bool.toNat_false, b0, b1, Bool.false_eq_true, Bool.true_eq_false, p1, q1, r1]
  · refine nN_kept (M := M1) (fun b h1 h2 => by rw [r3 b (by omega), q3 b (by omega)]) (p2.nN hN)
  · exact sB_kept (M := M2) (fun b h1 h2 => by rw [r3 b (by omega)]) (q2.sB W.1.2.1 (sB_kept (fun b h1 h2 => by rw [p3 b (by omega)]) hS))
  · exact r2.lB W.1.2.1 W.1.2.2.2.1 W.1.2.2.2.2.2 (lB_kept (fun b h1 h2 => by rw [q3 b (by omega), p3 b (by omega)]) hL)
theorem RW.n0 (h : RW M w S n k q) : M (w + 1) 0 = nI n := h.2.1.1.1.2.2.1
theorem RW.k0 (h : RW M w S n k q) : M (w + 1) 1 = nI k := h.2.1.1.1.2.2.2
theorem RW.lv (h : RW M w S n k q) {s : Nat} (hs : s < 10) : zb (M (w + 1 + 6) s) = nI (lvS S n k s).toNat := h.2.1.2.2 s hs
theorem nt_b (b : Bool) : (obn (some (nI (!b).toNat, M)) fun q3 M1 => (if q3 = 0 then zrk 1 (some (1, M1)) else zrk 0 (some (0, M1)))) = some (nI b.toNat, M) := by
  cases b
  · simp only [obn_s, Bool.not_false, Bool.toNat_true, Bool.toNat_false]
    rw [if_neg (by decide)]
    rfl
  · simp only [obn_s, Bool.not_true, Bool.toNat_true, Bool.toNat_false]
    rw [if_pos (by decide)]
    rfl
theorem hasSec_ok (h : RW M w S n k q) (x : Int32) : f_X7_hasSection w M x = some (nI (secB S x).toNat, M) := by
  unfold f_X7_hasSection b_X7_hasSection_22 secB
  rw [outside_ok, h.n0, ← h.1.1.1, show inB x 0 (S 0 - 1) = inB x (nI 0) (S 0 - nI 1) from rfl]
  exact nt_b _
theorem hasIso_ok (h : RW M w S n k q) (x : Int32) : f_X7_hasIsolator w M x = some (nI (isoB S x).toNat, M) := by
  unfold f_X7_hasIsolator b_X7_hasIsolator_22 isoB
  rw [outside_ok, h.k0, ← h.1.1.2.2.1, show inB x 0 (S 1 - 1) = inB x (nI 0) (S 1 - nI 1) from rfl]
  exact nt_b _
def plB (S : Sm) (x p : Int32) : Bool := if x = 2 ∨ x = 3 then isoB S p else secB S p
theorem hasPlace_ok (h : RW M w S n k q) (x p : Int32) : f_X7_hasPlace w M x p = some (nI (inB x 0 7 && plB S x p).toNat, M) := by
  unfold f_X7_hasPlace b_X7_hasPlace_22 b_X7_hasPlace_35 plB
  rw [outside_ok]
  cases inB x 0 7
  · simp only [obn_s, Bool.not_false, Bool.toNat_true, Bool.false_and, Bool.toNat_false]
    rw [if_neg (by decide)]
    rfl
  · simp only [obn_s, Bool.not_true, Bool.toNat_false, Bool.true_and]
    rw [if_pos (show nI 0 = 0 from rfl)]
    by_cases g2 : x = 2
    · rw [if_pos g2, if_pos (Or.inl g2), hasIso_ok h, obn_s, zrk_b]
    · rw [if_neg g2]
      by_cases g3 : x = 3
      · rw [if_pos g3, if_pos (Or.inr g3), hasIso_ok h, obn_s, zrk_b]
      · rw [if_neg g3, if_neg (by simp [g2, g3]), hasSec_ok h, obn_s, zrk_b]
theorem pl23 {x : Nat} (hx : x < 8) : (nI x = 2 ∨ nI x = 3) = (x = 2 ∨ x = 3) := by
  rw [show (2 : Int32) = nI 2 from rfl, show (3 : Int32) = nI 3 from rfl, n_eq (by omega) (by omega), n_eq (by omega) (by omega)]
theorem plB_plc {x p : Nat} (W : Wf S n k q) (hx : x < 8) (hp : plc n k x p) : plB S (nI x) (nI p) = true := by
  have hn := W.1.2.1
  have hk := W.1.2.2.2.1
  unfold plc at hp
  unfold plB secB isoB
  simp only [W.1.1, W.1.2.2.1, pl23 hx]
  split at hp
  · rename_i g; rw [if_pos g]; exact in_to (by omega) hp
  · rename_i g; rw [if_neg g]; exact in_to (by omega) hp
theorem plB_of {x p : Int32} (W : Wf S n k q) (hx : inB x 0 7 = true) (hp : plB S x p = true) : ∃ x' p', x = nI x' ∧ p = nI p' ∧ x' < 8 ∧ plc n k x' p' := by
  have hn := W.1.2.1
  have hk := W.1.2.2.2.1
  obtain ⟨x', h1, rfl⟩ := in_of (n := 8) (by omega) hx
  unfold plB at hp
  have e := pl23 h1
  simp only [e] at hp
  by_cases g : x' = 2 ∨ x' = 3
  · rw [if_pos g] at hp
    unfold isoB at hp
    rw [W.1.2.2.1] at hp
    obtain ⟨p', h2, rfl⟩ := in_of (by omega) hp
    exact ⟨x', p', rfl, rfl, h1, by unfold plc; rw [if_pos g]; exact h2⟩
  · rw [if_neg g] at hp
    unfold secB at hp
    rw [W.1.1] at hp
    obtain ⟨p', h2, rfl⟩ := in_of (by omega) hp
    exact ⟨x', p', rfl, rfl, h1, by unfold plc; rw [if_neg g]; exact h2⟩
/-! what the log tells -/
theorem tellW_ok (h : RW M w S n k q) : ∃ M', f_X1_tell (w + 16) M = some (nI 0, M') ∧ (∀ s, s < n → (M' (w + 16 + 6) s = nI 2 ↔ oaS S s q = true)) ∧ (∀ i, i < k → zb (M' (w + 16 + 7) i) = nI (caS S i q).toNat) ∧ Scr w M' M := by
  obtain ⟨M', h1, h2, h3, h4⟩ := tell_ok h.1 h.2.2.2
  exact ⟨M', h1, h2, h3, fun b hb => h4 b (by omega) (by omega)⟩
theorem closedLog_ok (h : RW M w S n k q) {i : Nat} (hi : i < k) : ∃ M', f_X7_isClosedByLog w M (nI i) = some (nI (caS S i q).toNat, M') ∧ Scr w M' M := by
  have hk := h.1.1.2.2.2.1
  obtain ⟨M', h1, h2, h3, h4⟩ := tellW_ok h
  refine ⟨M', ?_, h4⟩
  unfold f_X7_isClosedByLog
  simp (disch := omega) only [li_0, li_1, li_2, li_3, li_4, li_5, li_6, li_7, li_8, li_9, li_10, li_11, li_12, li_13, li_14, li_15, li_16, li_17, li_18, li_19, li_20, li_21, li_22, li_23, li_24, li_25, li_26, li_27, li_28, li_29, li_30, li_31, li_32, li_33, li_34, li_35, li_36, li_37, li_38, li_39, li_40, li_41, li_42, li_43, li_44, li_45, li_46, li_47, li_48, li_49, li_50, li_51, li_52, li_53, li_54, li_55, li_56, li_57, li_58, li_59, li_60, li_61, li_62, li_63, li_71, li_72, li_73, li_81, li_82, li_97, li_98, li_99, li_100, li_101, li_102, li_105, li_110, li_111, li_116, li_117, li_126, li_161, li_233, li_932, li_1165, li_10000, li_100000, n_lt_t, n_lt_f, n_eq_t, n_eq_f, nI_add, n_sub, n_mul, n_ix, n_ckd, bnd_e, obn_s, zrk_0, zrk_1, zrk_b, zb_0, zb_1, zb_b, if_true, if_false, Bool.toNat_true, Bool.toNat_false, b0, b1, Bool.false_eq_true, Bool.true_eq_false, h1, h3]
end CW

