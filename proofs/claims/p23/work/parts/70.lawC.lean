/-! the law: what each change answers, and bounds that changes keep -/
section LC
variable {M : Mm} {X : Nat} {S : Sm} {h : List Sm} {t : List Int32} {c : Nat}
def Bd (c : Nat) (S : Sm) : Prop := ∀ s, s < 10 → (∃ d, d ≤ 9 ∧ aO S s 0 = nI d) ∧ (∃ t, t ≤ 50 * c ∧ aO S s 7 = nI t) ∧ (bS S 4 s = true → ∃ j, j ≤ 50 ∧ aO S s 5 = nI j)
theorem Bd.of {c' : Nat} {S' : Sm} (B : Bd c S) (hc : c ≤ c') (e : ∀ s, s < 10 → aO S' s 0 = aO S s 0 ∧ aO S' s 4 = aO S s 4 ∧ aO S' s 5 = aO S s 5 ∧ aO S' s 7 = aO S s 7) : Bd c' S' := by
  intro s hs
  obtain ⟨e0, e4, e5, e7⟩ := e s hs
  obtain ⟨b0, ⟨t, b1, b2⟩, b3⟩ := B s hs
  rw [e0, e5, e7]
  refine ⟨b0, ⟨t, by omega, b2⟩, fun hb => b3 ?_⟩
  unfold bS at hb ⊢
  rw [← e4]
  exact hb
def Ok_ (c : Nat) (o : Int32 × Option Sm) : Prop := (o.2 = none → o.1 < 0) ∧ ∀ S', o.2 = some S' → ¬ o.1 < 0 ∧ Bd (c + 1) S'
theorem ok_no {v : Int32} (hv : v < 0) : Ok_ c (v, none) := ⟨fun _ => hv, fun S' e => by cases e⟩
theorem ok_yes {v : Int32} {S' : Sm} (hv : ¬ v < 0) (hB : Bd (c + 1) S') : Ok_ c (v, some S') := ⟨fun e => (by cases e), fun S' e => (by cases e; exact ⟨hv, hB⟩)⟩
theorem pos_n {a : Nat} (h : a < 2147483648) : ¬ nI a < 0 := fun q => nI_pos h q
theorem st_keep2 {S : Sm} {n k x p : Nat} (hn : n ≤ 10) (hp : plc n k x p) : ∀ s, s < 10 → aO (stS S x p) s 0 = aO S s 0 ∧ aO (stS S x p) s 4 = aO S s 4 ∧ aO (stS S x p) s 5 = aO S s 5 ∧ aO (stS S x p) s 7 = aO S s 7 := by
  unfold plc at hp
  unfold stS
  by_cases h2 : x = 2
  · rw [if_pos h2]
    exact fun s hs => ⟨aO_u (by omega), aO_u (by omega), aO_u (by omega), aO_u (by omega)⟩
  · by_cases h3 : x = 3
    · rw [if_neg h2, if_pos h3]
      exact fun s hs => ⟨aO_u (by omega), aO_u (by omega), aO_u (by omega), aO_u (by omega)⟩
    · rw [if_neg h2, if_neg h3]
      have hp : p < n := by rw [if_neg (by omega)] at hp; exact hp
      repeat' split
      all_goals exact fun s hs => ⟨aO_u (by omega), aO_u (by omega), aO_u (by omega), aO_u (by omega)⟩
theorem Bd.mk {n k q x p : Nat} (W : Wf S n k q) (hx : x < 8) (hp : plc n k x p) (B : Bd c S) : Bd (c + 1) (mkS S q x p) := by
  have W2 := W.st hx hp
  have B2 := B.of (Nat.le_succ c) (st_keep2 (S := S) W.1.2.1 hp)
  show Bd (c + 1) (wrS (stS S x p) q x p)
  exact B2.of (Nat.le_refl _) fun s hs => ⟨wr_O W2 _ _ hs (by omega), wr_O W2 _ _ hs (by omega), wr_O W2 _ _ hs (by omega), wr_O W2 _ _ hs (by omega)⟩
theorem o_step (H : P M X S h t) (B : Bd c S) (x p : Int32) : Ok_ c (oSt S x p) := by
  unfold oSt
  by_cases g : (inB x 0 7 && plB S x p) = true
  · rw [if_pos g]
    split
    · refine ok_yes (pos_n (by have := fb_ct_le (lvS (mkS S (qn S) (ix x) (ix p)) (nn S) (kn S)) 10; omega)) ?_
      have h1 := H.1
      rw [Bool.and_eq_true] at g
      obtain ⟨x', p', rfl, rfl, hx, hp⟩ := plB_of h1.1 g.1 g.2
      have ep : ix (nI p') = p' := n_ix (by have := h1.nlow; have := h1.klow; unfold plc at hp; split at hp <;> omega)
      have ex : ix (nI x') = x' := n_ix (by omega)
      rw [ex, ep]
      exact B.mk h1.1 hx hp
    · exact ok_no (by decide)
  · rw [if_neg g]
    exact ok_no (by decide)
theorem sec_in (H : P M X S h t) {x : Int32} (g : secB S x = true) : ∃ p, p < 10 ∧ x = nI p := by
  obtain ⟨p, h1, h2⟩ := secP H.1 g
  have := H.1.nlow
  exact ⟨p, by omega, h2⟩
theorem aO_at {S : Sm} {s j : Nat} {x : Int32} : aO (upd S (7 + 9 * s + j) x) s j = x := by unfold aO; rw [upd_at]
theorem o_enter (H : P M X S h t) (B : Bd c S) (x y z : Int32) : Ok_ c (oEn S x y z) := by
  unfold oEn
  by_cases g : (secB S x && (inB y 0 50 && inB z (S 3) 100000)) = true
  · rw [if_pos g]
    split
    · refine ok_yes (pos_n (by have := fb_ct_le (fun s => decide (s < nn S) && bS (egS S (ix x) y z) 4 s) 10; omega)) ?_
      rw [Bool.and_eq_true, Bool.and_eq_true] at g
      obtain ⟨p, hp, rfl⟩ := sec_in H g.1
      obtain ⟨j, -, hj, rfl⟩ := in_nat (a := 0) (b := 50) (by omega) (by omega) g.2.1
      rw [show ix (nI p) = p from n_ix (by omega)]
      intro s hs
      obtain ⟨b0, ⟨t, b1, b2⟩, b3⟩ := B s hs
      have e0 : aO (egS S p (nI j) z) s 0 = aO S s 0 := by unfold egS; rw [aO_u (by omega), aO_u (by omega), aO_u (by omega)]
      have e7 : aO (egS S p (nI j) z) s 7 = aO S s 7 := by unfold egS; rw [aO_u (by omega), aO_u (by omega), aO_u (by omega)]
      rw [e0, e7]
      refine ⟨b0, ⟨t, by omega, b2⟩, fun hb => ?_⟩
      by_cases y : s = p
      · subst y
        exact ⟨j, hj, by unfold egS; rw [aO_u (by omega), aO_at]⟩
      · have e5 : aO (egS S p (nI j) z) s 5 = aO S s 5 := by unfold egS; rw [aO_u (by omega), aO_u (by omega), aO_u (by omega)]
        have e4 : aO (egS S p (nI j) z) s 4 = aO S s 4 := by unfold egS; rw [aO_u (by omega), aO_u (by omega), aO_u (by omega)]
        rw [e5]
        refine b3 ?_
        unfold bS at hb ⊢
        rw [e4] at hb
        exact hb
    · exact ok_no (by decide)
  · rw [if_neg g]
    exact ok_no (by decide)
theorem late_n (H : P M X S h t) {p : Nat} (hp : p < 10) (hb : bS S 4 p = true) : ∃ j, j ≤ 100000 ∧ lateS S p = nI j := by
  obtain ⟨a, ha, e⟩ := H.2.2.2.1.1
  obtain ⟨b, hb, e2⟩ := H.2.2.2.1.2 p hp hb
  unfold lateS
  rw [e, e2]
  by_cases g : nI b < nI a
  · rw [if_pos g]
    rw [n_lt (by omega) (by omega)] at g
    exact ⟨a - b, by omega, n_sub (by omega)⟩
  · rw [if_neg g]
    exact ⟨0, by omega, rfl⟩
theorem o_leave (H : P M X S h t) (B : Bd c S) (hc : c ≤ 40) (x y : Int32) : Ok_ c (oLe S x y) := by
  unfold oLe
  by_cases g : (secB S x && inB y 0 50) = true
  · rw [if_pos g]
    rw [Bool.and_eq_true] at g
    obtain ⟨p, hp, rfl⟩ := sec_in H g.1
    obtain ⟨y', -, hy, rfl⟩ := in_nat (a := 0) (b := 50) (by omega) (by omega) g.2
    rw [show ix (nI p) = p from n_ix (by omega)]
    by_cases g2 : (bS S 4 p && !decide (aO S p 5 < nI y')) = true
    · rw [if_pos g2]
      rw [Bool.and_eq_true] at g2
      obtain ⟨l, hl, el⟩ := late_n H hp g2.1
      obtain ⟨j, hj, ej⟩ := (B p hp).2.2 g2.1
      obtain ⟨-, ⟨t7, b71, b72⟩, -⟩ := B p hp
      have hjy : y' ≤ j := by
        have := g2.2
        rw [ej, Bool.not_eq_true', decide_eq_false_iff_not, n_lt (by omega) (by omega)] at this
        omega
      refine ok_yes (by rw [el]; exact pos_n (by omega)) ?_
      rw [ej, b72, nI_add, n_sub (by omega)]
      generalize hv : S 6 + lateS S p = v
      intro s hs
      obtain ⟨b0, ⟨t, b1, b2⟩, b3⟩ := B s hs
      have e0 : aO (lgS S p (nI (t7 + j - y')) v) s 0 = aO S s 0 := by unfold lgS; rw [aO_u (by omega), aO_u (by omega), aO_u (by omega), aO_u (by omega), aO_u (by omega)]
      rw [e0]
      by_cases y : s = p
      · subst y
        refine ⟨b0, ⟨t7 + j - y', by omega, by unfold lgS; rw [aO_u (by omega), aO_u (by omega), aO_u (by omega), aO_u (by omega), aO_at]⟩, fun hb => ?_⟩
        exact ⟨0, by omega, by unfold lgS; rw [aO_u (by omega), aO_at]⟩
      · have e7 : aO (lgS S p (nI (t7 + j - y')) v) s 7 = aO S s 7 := by unfold lgS; rw [aO_u (by omega), aO_u (by omega), aO_u (by omega), aO_u (by omega), aO_u (by omega)]
        have e5 : aO (lgS S p (nI (t7 + j - y')) v) s 5 = aO S s 5 := by unfold lgS; rw [aO_u (by omega), aO_u (by omega), aO_u (by omega), aO_u (by omega), aO_u (by omega)]
        have e4 : aO (lgS S p (nI (t7 + j - y')) v) s 4 = aO S s 4 := by unfold lgS; rw [aO_u (by omega), aO_u (by omega), aO_u (by omega), aO_u (by omega), aO_u (by omega)]
        rw [e5, e7]
        refine ⟨b0, ⟨t, by omega, b2⟩, fun hb => b3 ?_⟩
        unfold bS at hb ⊢
        rw [e4] at hb
        exact hb
    · rw [if_neg g2]
      exact ok_no (by decide)
  · rw [if_neg g]
    exact ok_no (by decide)
theorem o_fetch (H : P M X S h t) (B : Bd c S) (hc : c ≤ 40) (x : Int32) : Ok_ c (oFe S x) := by
  unfold oFe
  by_cases g : secB S x = true
  · rw [if_pos g]
    obtain ⟨p, hp, rfl⟩ := sec_in H g
    rw [show ix (nI p) = p from n_ix (by omega)]
    split
    · exact ok_no (by decide)
    · obtain ⟨-, ⟨t7, b71, b72⟩, -⟩ := B p hp
      refine ok_yes (by rw [b72]; exact pos_n (by omega)) ?_
      intro s hs
      obtain ⟨b0, ⟨t, b1, b2⟩, b3⟩ := B s hs
      have e4 : bS (upd S (7 + 9 * p + 7) (nI 0)) 4 s = bS S 4 s := bS_u (by omega)
      rw [aO_u (by omega), aO_u (j := 5) (by omega), e4]
      refine ⟨b0, ?_, b3⟩
      by_cases y : s = p
      · subst y
        exact ⟨0, by omega, aO_at⟩
      · exact ⟨t, by omega, by rw [aO_u (by omega)]; exact b2⟩
  · rw [if_neg g]
    exact ok_no (by decide)
theorem Bd.g {x : Int32} {j : Nat} (B : Bd c S) (hj : j < 7) : Bd (c + 1) (upd S j x) := B.of (Nat.le_succ c) fun s hs => ⟨aO_u (by omega), aO_u (by omega), aO_u (by omega), aO_u (by omega)⟩
theorem o_pass (H : P M X S h t) (B : Bd c S) (x : Int32) : Ok_ c (oPa S x) := by
  unfold oPa
  by_cases g : inB x 1 10000 = true
  · rw [if_pos g]
    obtain ⟨v, hv1, hv2, rfl⟩ := in_nat (a := 1) (b := 10000) (by omega) (by omega) g
    obtain ⟨a, ha, e⟩ := H.2.2.2.1.1
    rw [e, nI_add]
    by_cases g2 : 100000 < nI (a + v)
    · rw [if_pos g2]
      exact ok_no (by decide)
    · rw [if_neg g2]
      exact ok_yes (pos_n (by omega)) (B.g (by omega))
  · rw [if_neg g]
    exact ok_no (by decide)
theorem bu_bd (B : Bd c S) : ∀ n, n ≤ 10 → ∃ v, v ≤ 9 * n ∧ sumI (buS S) n = nI v
  | 0, _ => ⟨0, by omega, rfl⟩
  | n + 1, h => by
    obtain ⟨v, hv, e⟩ := bu_bd B n (by omega)
    obtain ⟨⟨d, hd, e2⟩, -⟩ := B n (by omega)
    rw [sumI, e]
    unfold buS
    split
    · rw [e2, nI_add]
      exact ⟨v + d, by omega, rfl⟩
    · rw [nI_add]
      exact ⟨v + 0, by omega, rfl⟩
theorem bu_g {x : Int32} {n : Nat} : sumI (buS (upd S 2 x)) n = sumI (buS S) n := sumI_c fun i hi => by
  unfold buS
  rw [bS_u (by omega), aO_u (by omega)]
theorem o_pool (H : P M X S h t) (B : Bd c S) (x : Int32) : Ok_ c (oPo S x) := by
  unfold oPo
  by_cases g : inB x 0 40 = true
  · rw [if_pos g]
    obtain ⟨v, hv1, hv2, rfl⟩ := in_nat (a := 0) (b := 40) (by omega) (by omega) g
    have hn := H.1.nlow
    obtain ⟨σ, hσ, e⟩ := bu_bd B (nn S) (by omega)
    rw [e]
    by_cases g2 : nI v < nI σ
    · rw [if_pos g2]
      exact ok_no (by decide)
    · rw [if_neg g2]
      rw [n_lt (by omega) (by omega)] at g2
      refine ok_yes ?_ (B.g (by omega))
      unfold frS
      rw [bu_g, upd_at, e, n_sub (by omega)]
      exact pos_n (by omega)
  · rw [if_neg g]
    exact ok_no (by decide)
end LC
