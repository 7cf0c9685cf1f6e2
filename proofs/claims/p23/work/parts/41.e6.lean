/-! faults of a text, a text played -/
section E6
variable {M : Mm} {X m n k q w z : Nat} {S : Sm} {cs : Nat → Int32}
theorem st_hi (W : Wf S n k q) {x p j : Nat} (hp : plc n k x p) (hj : 233 ≤ j) : stS S x p j = S j := by
  have hn := W.1.2.1
  have hk := W.1.2.2.2.1
  have hp16 : p < 16 := by unfold plc at hp; split at hp <;> omega
  unfold stS
  repeat' split
  all_goals rw [upd_n (by omega)]
theorem wr_hi (W : Wf S n k q) {x p j : Nat} (hj : 233 ≤ j) : wrS S q x p j = S j := by
  obtain ⟨⟨e0, hn, e1, hk, e5, hq24⟩, WI, WO, WL⟩ := W
  have ap : ∀ (T : Sm) (r : Nat), r < 24 → apS T r x p j = T j := fun T r hr => by
    unfold apS
    rw [upd_n (by omega), upd_n (by omega), upd_n (by omega), upd_n (by omega), upd_n (by omega)]
  unfold wrS
  split
  · rename_i g
    obtain ⟨⟨g1, g2⟩, g3, g4⟩ := WL 0 (by omega)
    have hp16 : pS S 0 < 16 := by split at g4 <;> omega
    rw [ap _ _ (by omega)]
    unfold fgS shS
    rw [if_neg (by omega), upd_n (by omega)]
    unfold olS
    repeat' split
    all_goals first | rfl | rw [upd_n (by omega)]
  · exact ap _ _ (by omega)
theorem mk_hi (W : Wf S n k q) {x p j : Nat} (hx : x < 8) (hp : plc n k x p) (hj : 233 ≤ j) : mkS S q x p j = S j := by
  show wrS (stS S x p) q x p j = S j
  rw [wr_hi (W.st hx hp) hj, st_hi W hp hj]
theorem tx_hi : ∀ f c S q t, Wf S n k q → (∀ j, 233 ≤ j → (tx n k cs z f c S q t).2.2.2.1 j = S j) ∧ (Tm S → Tm (tx n k cs z f c S q t).2.2.2.1) := by
  intro f
  induction f with
  | zero => intro c S q t W; exact ⟨fun j hj => rfl, fun h => h⟩
  | succ f ih =>
    intro c S q t W
    by_cases g : c < z
    · cases hp : prs cs z c with
      | none => rw [tx_1 g hp]; exact ⟨fun j hj => rfl, fun h => h⟩
      | some e =>
        obtain ⟨x, p, nx⟩ := e
        obtain ⟨i1, i2, i3, i4⟩ := prs_in hp
        cases g2 : plB S (nI x) (nI p)
        · rw [tx_2 g hp g2]; exact ⟨fun j hj => rfl, fun h => h⟩
        · have hpl := prs_pl W i1 i2 g2
          by_cases g3 : rfS S n k x p = 0
          · rw [tx_g g hp g2 g3]
            obtain ⟨h1, h2⟩ := ih nx _ _ (t + 1) (W.mk i1 hpl)
            exact ⟨fun j hj => by rw [h1 j hj, mk_hi W i1 hpl hj], fun h => h2 (Tm.mk W i1 hpl h)⟩
          · rw [tx_r g hp g2 g3]; exact ⟨fun j hj => rfl, fun h => h⟩
    · rw [tx_e g]; exact ⟨fun j hj => rfl, fun h => h⟩
theorem tx_lt : ∀ f c S q t, c ≤ z → 3 * t ≤ c → z ≤ 60 → (tx n k cs z f c S q t).1 < 1000 ∧ (tx n k cs z f c S q t).2.1 < 1000 := by
  intro f
  induction f with
  | zero => intro c S q t h1 h2 h3; exact ⟨by show 0 < 1000; omega, by show c < 1000; omega⟩
  | succ f ih =>
    intro c S q t h1 h2 h3
    by_cases g : c < z
    · cases hp : prs cs z c with
      | none => rw [tx_1 g hp]; exact ⟨by show 1 < 1000; omega, by show c < 1000; omega⟩
      | some e =>
        obtain ⟨x, p, nx⟩ := e
        obtain ⟨i1, i2, i3, i4⟩ := prs_in hp
        cases g2 : plB S (nI x) (nI p)
        · rw [tx_2 g hp g2]; exact ⟨by show 2 < 1000; omega, by show c < 1000; omega⟩
        · by_cases g3 : rfS S n k x p = 0
          · rw [tx_g g hp g2 g3]
            exact ih nx _ _ (t + 1) i4 (by omega) h3
          · rw [tx_r g hp g2 g3]; exact ⟨rf_lt S n k x p, by show c < 1000; omega⟩
    · rw [tx_e g]; exact ⟨by show 0 < 1000; omega, by show c < 1000; omega⟩
variable {h : List Sm} {t : List Int32}
def cT (t : List Int32) (j : Nat) : Int32 := t.getD j 0
def txT (S : Sm) (t : List Int32) : Nat × Nat × Nat × Sm × Nat := tx (nn S) (kn S) (cT t) t.length 61 0 S (qn S) 0
theorem tryTextP (H : P M X S h t) : ∃ M1, f_X4_tryText (X + 200) (X + 1) (X + 195) M = some (nI 0, M1) ∧ M1 (X + 200) 3 = nI (txT S t).1 ∧ M1 (X + 200) 2 = nI (txT S t).2.1 ∧ M1 (X + 200) 1 = nI (txT S t).2.2.1 ∧
      RW M1 (X + 201) (txT S t).2.2.2.1 (nn S) (kn S) (txT S t).2.2.2.2 ∧ (∀ b, b ≠ X + 195 → (b < X + 200 ∨ X + 233 ≤ b) → M1 b = M b) ∧ P M1 X S h t := by
  obtain ⟨h1, h3, ⟨h4, h5, h6⟩, hT, hTs⟩ := id H
  obtain ⟨M2, q1, q2, ⟨q3, q5, q6⟩, q4⟩ := begin_ok (r := X + 200) (v := X + 1) (Or.inl (by omega)) h1
  obtain ⟨M1, r1, r2, r3, r4, r5, r6, r7⟩ := tryT_ok (R := X + 200) (T := X + 195) (v := X + 1) (cs := cT t) (n := nn S) (k := kn S) (z := t.length) (by omega) h4 61 0 0 FU M2 S (qn S) (by omega) (by show _ < 4000; omega) (by omega) (by omega) (by rw [q4 _ (by omega), h5]) (fun j hj => by rw [q4 _ (by omega), h6 j hj]; rfl) q3 q5 q6 q2
  have fr : ∀ b, b ≠ X + 195 → (b < X + 200 ∨ X + 233 ≤ b) → M1 b = M b := fun b b1 b2 => by rw [r6 b b1 (by omega), q4 b (by omega)]
  refine ⟨M1, ?_, r2, r3, r4, r5, fr, H.keep (fun b hb => fr b (by omega) (by omega)) (by rw [r7, h5]) (fr _ (by omega) (by omega))⟩
  unfold f_X4_tryText
  rw [q1, obn_s]
  exact r1
theorem txT_lt (H : P M X S h t) : (txT S t).1 < 1000 ∧ (txT S t).2.1 < 1000 := tx_lt 61 0 S (qn S) 0 (by omega) (by omega) H.2.2.1.1
def aFa (S : Sm) (t : List Int32) (x : Int32) : Int32 := if inB x 0 1 = true then (if (txT S t).1 = 0 then -4 else if x = 0 then nI (txT S t).2.1 else nI (txT S t).1) else -1
theorem t_fault (H : P M X S h t) (x : Int32) : Ask X S h t (f_X8_fault X M x) M (aFa S t x) := by
  unfold aFa
  by_cases g : inB x 0 1 = true
  · rw [if_pos g]
    obtain ⟨M1, r1, r2, r3, -, -, fr, HQ⟩ := tryTextP H
    obtain ⟨l1, l2⟩ := txT_lt H
    refine ⟨M1, ?_, HQ, fun b hb => fr b (by omega) (by omega)⟩
    show f_X8_fault X M x = _
    unfold f_X8_fault b_X8_fault_60
    rw [outside_ok, g, Bool.not_true, obn_s, if_pos (by decide), r1, obn_s, r2]
    by_cases g2 : (txT S t).1 = 0
    · rw [if_pos g2, g2, if_pos (show nI 0 = 0 from rfl)]
    · have ne : ¬ nI (txT S t).1 = 0 := by
        rw [show (0 : Int32) = nI 0 from rfl, n_eq (by omega) (by omega)]
        exact g2
      rw [if_neg g2, if_neg ne]
      by_cases g3 : x = 0
      · rw [if_pos g3, if_pos g3, r3]
      · rw [if_neg g3, if_neg g3]
  · have g2 : inB x 0 1 = false := by simpa using g
    rw [if_neg g]
    refine ⟨M, ?_, H, Fr.rf⟩
    show f_X8_fault X M x = _
    unfold f_X8_fault
    rw [outside_ok, g2, Bool.not_false, obn_s, if_neg (by decide)]
def oPl (S : Sm) (t : List Int32) : Int32 × Option Sm := if (txT S t).1 = 0 then (nI (txT S t).2.2.1, some (txT S t).2.2.2.1) else (-2, none)
theorem t_play (H : P M X S h t) : Chg X S h t (f_X8_play X M) M (oPl S t) := by
  obtain ⟨M1, r1, r2, r3, r4, r5, fr, HQ⟩ := tryTextP H
  obtain ⟨l1, l2⟩ := txT_lt H
  have hTo : Tm (txT S t).2.2.2.1 := (tx_hi (n := nn S) (k := kn S) (cs := cT t) (z := t.length) 61 0 S (qn S) 0 H.1.1).2 H.2.2.2.1
  unfold oPl
  by_cases g2 : (txT S t).1 = 0
  · rw [if_pos g2]
    obtain ⟨M2, k1, k2, k3⟩ := mutP HQ
    obtain ⟨M3, c1, c2, c3⟩ := copyW_ok (w := X + 1) (v := X + 201) (M := M2) (by omega) (r5.kept fun b b1 b2 => k2 b (by omega))
    obtain ⟨q1, q2⟩ := k3 M3 _ _ _ _ (fun b hb => c3 b (by omega)) c2 hTo
    refine ⟨M3, ?_, q1, q2.tr fun b hb => fr b (by omega) (by omega)⟩
    show f_X8_play X M = _
    unfold f_X8_play
    rw [r1, obn_s, r2, g2, if_pos (show nI 0 = 0 from rfl), k1, obn_s, c1, obn_s, c3 _ (by omega), k2 _ (by omega), r4]
  · have ne : ¬ nI (txT S t).1 = 0 := by
      rw [show (0 : Int32) = nI 0 from rfl, n_eq (by omega) (by omega)]
      exact g2
    rw [if_neg g2]
    refine ⟨M1, ?_, HQ, fun b hb => fr b (by omega) (by omega)⟩
    show f_X8_play X M = _
    unfold f_X8_play
    rw [r1, obn_s, r2, if_neg ne]
end E6
