/-! faults of a text, a text played -/
section E6
variable {M : Mm} {X m n k q w z : Nat} {S : Sm} {cs : Nat → Int32}
theorem st_hi (W : Wf S n k q) {x p j : Nat} (hp : plc n k x p) (hj : 233 ≤ j) : stS S x p j = S j := by
  have hn := W.1.2.1
  have hk := W.1.2.2.2.1
  have hp16 : p < 16 := by unfold plc at hp; split at hp <;> omega
  unfold stS
  repeat' split
  all_goals rw [upd_n (by omega)]
theorem wr_hi (W : Wf S n k q) {x p j : Nat} (hj : 233 ≤ j) : wrS S q x p j = S j := by
  obtain ⟨⟨e0, hn, e1, hk, e5, hq24⟩, WI, WO, WL⟩ := W
  have ap : ∀ (T : Sm) (r : Nat), r < 24 → apS T r x p j = T j := fun T r hr => by
    unfold apS
    rw [upd_n (by omega), upd_n (by omega), upd_n (by omega), upd_n (by omega), upd_n (by omega)]
  unfold wrS
  split
  · rename_i g
    obtain ⟨⟨g1, g2⟩, g3, g4⟩ := WL 0 (by omega)
    have hp16 : pS S 0 < 16 := by split at g4 <;> omega
    rw [ap _ _ (by omega)]
    unfold fgS shS
    rw [if_neg (by omega), upd_n (by omega)]
    unfold olS
    repeat' split
    all_goals first | rfl | rw [upd_n (by omega)]
  · exact ap _ _ (by omega)
theorem mk_hi (W : Wf S n k q) {x p j : Nat} (hx : x < 8) (hp : plc n k x p) (hj : 233 ≤ j) : mkS S q x p j = S j := by
  show wrS (stS S x p) q x p j = S j
  rw [wr_hi (W.st hx hp) hj, st_hi W hp hj]
theorem tx_hi : ∀ f c S q t, Wf S n k q → (∀ j, 233 ≤ j → (tx n k cs z f c S q t).2.2.2.1 j = S j) ∧ (Tm S → Tm (tx n k cs z f c S q t).2.2.2.1) := by
  intro f
  induction f with
  | zero => intro c S q t W; exact ⟨fun j hj => rfl, fun h => h⟩
  | succ f ih =>
    intro c S q t W
    by_cases g : c < z
    · cases hp : prs cs z c with
      | none => rw [tx_1 g hp]; exact ⟨fun j hj => rfl, fun h => h⟩
      | some e =>
        obtain ⟨x, p, nx⟩ := e
        obtain ⟨i1, i2, i3, i4⟩ := prs_in hp
        cases g2 : plB S (nI x) (nI p)
        · rw [tx_2 g hp g2]; exact ⟨fun j hj => rfl, fun h => h⟩
        · have hpl := prs_pl W i1 i2 g2
          by_cases g3 : rfS S n k x p = 0
          · rw [tx_g g hp g2 g3]
            obtain ⟨h1, h2⟩ := ih nx _ _ (t + 1) (W.mk i1 hpl)
            exact ⟨fun j hj => by rw [h1 j hj, mk_hi W i1 hpl hj], fun h => h2 (Tm.mk W i1 hpl h)⟩
          · rw [tx_r g hp g2 g3]; exact ⟨fun j hj => rfl, fun h => h⟩
    · rw [tx_e g]; exact ⟨fun j hj => rfl, fun h => h⟩
theorem tx_lt : ∀ f c S q t, c ≤ z → 3 * t ≤ c → z ≤ 60 → (tx n k cs z f c S q t).1 < 1000 ∧ (tx n k cs z f c S q t).2.1 < 1000 := by
  intro f
  induction f with
  | zero => intro c S q t h1 h2 h3; exact ⟨by show 0 < 1000; omega, by show c < 1000; omega⟩
  | succ f ih =>
    intro c S q t h1 h2 h3
    by_cases g : c < z
    · cases hp : prs cs z c with
      | none => rw [tx_1 g hp]; exact ⟨by show 1 < 1000; omega, by show c < 1000; omega⟩
      | some e =>
        obtain ⟨x, p, nx⟩ := e
        obtain ⟨i1, i2, i3, i4⟩ := prs_in hp
        cases g2 : plB S (nI x) (nI p)
        · rw [tx_2 g hp g2]; exact ⟨by show 2 < 1000; omega, by show c < 1000; omega⟩
        · by_cases g3 : rfS S n k x p = 0
          · rw [tx_g g hp g2 g3]
            exact ih nx _ _ (t + 1) i4 (by omega) h3
          · rw [tx_r g hp g2 g3]; exact ⟨rf_lt S n k x p, by show c < 1000; omega⟩
    · rw [tx_e g]; exact ⟨by show 0 < 1000; omega, by show c < 1000; omega⟩
/-- the class's trial -/
theorem tryText_ok (H : Q M X m) (h1 : RW M (X + 1) (M (m + 1)) n k q) (hz : z ≤ 60) (h0 : M (X + 195) 0 = nI z) (hc : ∀ j, j < z → M (X + 196) j = M (m + 4) j) :
    ∃ M1, f_X4_tryText (X + 200) (X + 1) (X + 195) M = some (nI 0, M1) ∧ M1 (X + 200) 3 = nI (tx n k (M (m + 4)) z 61 0 (M (m + 1)) q 0).1 ∧ M1 (X + 200) 2 = nI (tx n k (M (m + 4)) z 61 0 (M (m + 1)) q 0).2.1 ∧ M1 (X + 200) 1 = nI (tx n k (M (m + 4)) z 61 0 (M (m + 1)) q 0).2.2.1 ∧
      RW M1 (X + 201) (tx n k (M (m + 4)) z 61 0 (M (m + 1)) q 0).2.2.2.1 n k (tx n k (M (m + 4)) z 61 0 (M (m + 1)) q 0).2.2.2.2 ∧ (∀ b, b ≠ X + 195 → (b < X + 200 ∨ X + 233 ≤ b) → M1 b = M b) ∧ Q M1 X m := by
  have hm := H.1
  obtain ⟨M2, q1, q2, ⟨q3, q5, q6⟩, q4⟩ := begin_ok (r := X + 200) (v := X + 1) (Or.inl (by omega)) h1
  obtain ⟨M1, r1, r2, r3, r4, r5, r6, r7⟩ := tryT_ok (R := X + 200) (T := X + 195) (v := X + 1) (cs := M (m + 4)) (n := n) (k := k) (by omega) hz 61 0 0 FU M2 (M (m + 1)) q (by omega) (by show _ < 4000; omega) (by omega) (by omega) (by rw [q4 _ (by omega), h0]) (fun j hj => by rw [q4 _ (by omega), hc j hj]) q3 q5 q6 q2
  have fr : ∀ b, b ≠ X + 195 → (b < X + 200 ∨ X + 233 ≤ b) → M1 b = M b := fun b b1 b2 => by rw [r6 b b1 (by omega), q4 b (by omega)]
  refine ⟨M1, ?_, r2, r3, r4, r5, fr, H.id ⟨fun b hb => fr b (by omega) (by omega), by rw [r7, h0], fr _ (by omega) (by omega), fr _ (by omega) (by omega), fun j _ => by rw [fr _ (by omega) (by omega)], fr _ (by omega) (by omega), by rw [fr _ (by omega) (by omega)], by rw [fr _ (by omega) (by omega)]⟩⟩
  unfold f_X4_tryText
  rw [q1, obn_s]
  exact r1
/-- the reference's -/
theorem reasonT_ok (hS : M (m + 1) = S) (W : Wf S n k q) (hz : z ≤ 60) (h5 : M m 5 = nI z) (hc : ∀ j, j < z → M (m + 4) j = cs j) :
    ∃ M', f_X9_reasonOfText m M = some (nI (tx n k cs z 61 0 S q 0).1, M') ∧ ((tx n k cs z 61 0 S q 0).1 ≠ 0 → M' m 11 = nI (tx n k cs z 61 0 S q 0).2.1) ∧ M' m 12 = nI (tx n k cs z 61 0 S q 0).2.2.1 ∧ M' (m + 1) = (tx n k cs z 61 0 S q 0).2.2.2.1 ∧
      (∀ b, b ≠ m → b ≠ m + 1 → M' b = M b) ∧ ∀ j, j < 8 → M' m j = M m j := by
  obtain ⟨M', r1, r2, r3, r4, r5, r6⟩ := reaT_ok (cs := cs) hz 61 0 0 FU (mst (mst M m 8 (nI 0)) m 12 (nI 0)) S q (by omega) (by show _ < 4000; omega) (by omega) (by rw [mst_at, upd_n (by omega), mst_at, upd_n (by omega), h5]) (fun j hj => by rw [mst_n (by omega), mst_n (by omega), hc j hj]) (by rw [mst_at, upd_at]) (by rw [mst_at, upd_n (by omega), mst_at, upd_at]) (by rw [mst_n (by omega), mst_n (by omega), hS]) W
  refine ⟨M', ?_, r2, r3, r4, fun b b1 b2 => by rw [r5 b b1 b2, mst_n b1, mst_n b1], fun j hj => by rw [r6 j hj, mst_at, upd_n (by omega), mst_at, upd_n (by omega)]⟩
  unfold f_X9_reasonOfText
  exact r1
/-- .. with its state laid aside and brought back -/
theorem trialM_ok (hS : M (m + 1) = S) (W : Wf S n k q) (hz : z ≤ 60) (h5 : M m 5 = nI z) (hc : ∀ j, j < z → M (m + 4) j = cs j) :
    ∃ M0 M1 M2, f_X9_laysAside m M = some (nI 0, M0) ∧ f_X9_reasonOfText m M0 = some (nI (tx n k cs z 61 0 S q 0).1, M1) ∧ f_X9_bringsBack m M1 = some (nI 0, M2) ∧ ((tx n k cs z 61 0 S q 0).1 ≠ 0 → M2 m 11 = nI (tx n k cs z 61 0 S q 0).2.1) ∧ M2 (m + 1) = S ∧
      (∀ b, b ≠ m → b ≠ m + 3 → M2 b = M b) ∧ ∀ j, j < 8 → M2 m j = M m j := by
  have as := aside_ok (M := M) m
  generalize hM0 : mrow M (m + 3) (fun j => if j < 233 then M (m + 1) j else M (m + 3) j) = M0 at as
  have s0 : M0 (m + 1) = S := by rw [← hM0, mrow_n (by omega), hS]
  obtain ⟨M1, r1, r2, r3, r4, r5, r6⟩ := reasonT_ok (M := M0) (cs := cs) s0 W hz (by rw [← hM0, mrow_n (by omega), h5]) (fun j hj => by rw [← hM0, mrow_n (by omega), hc j hj])
  have bk := back_ok (M := M1) m
  refine ⟨M0, M1, _, as, r1, bk, fun h => by rw [mrow_n (by omega), r2 h], ?_, fun b b1 b2 => ?_, fun j hj => by rw [mrow_n (by omega), r6 j hj, ← hM0, mrow_n (by omega)]⟩
  · rw [mrow_at]
    funext j
    by_cases g : j < 233
    · rw [if_pos g, r5 _ (by omega) (by omega), ← hM0, mrow_at, if_pos g, hS]
    · rw [if_neg g, r4, (tx_hi 61 0 S q 0 W).1 j (by omega)]
  · by_cases b3 : b = m + 1
    · subst b3
      rw [mrow_at, hS]
      funext j
      by_cases g : j < 233
      · rw [if_pos g, r5 _ (by omega) (by omega), ← hM0, mrow_at, if_pos g, hS]
      · rw [if_neg g, r4, (tx_hi 61 0 S q 0 W).1 j (by omega)]
    · rw [mrow_n b3, r5 b b1 b3, ← hM0, mrow_n b2]
theorem s_fault (H : Q M X m) (x : Int32) : Same X m (fun M => f_X8_fault X M x) (fun M => f_X9_fault m M x) M := by
  obtain ⟨hm, ⟨n, k, q, h1⟩, -, ⟨z, h4, h5, h6, h7⟩, -⟩ := id H
  by_cases g : inB x 0 1 = true
  · obtain ⟨M1, r1, r2, r3, -, -, fr, HQ⟩ := tryText_ok H h1 h4 h5 h7
    have W := h1.1
    obtain ⟨N0, N1, N2, t1, t2, t3, t4, t5, t6, t7⟩ := trialM_ok (M := M1) (cs := M (m + 4)) (fr _ (by omega) (by omega)) W h4 (by rw [fr _ (by omega) (by omega), h6]) (fun j hj => by rw [fr _ (by omega) (by omega)])
    obtain ⟨l1, l2⟩ := tx_lt (n := n) (k := k) (cs := M (m + 4)) (z := z) 61 0 (M (m + 1)) q 0 (by omega) (by omega) h4
    generalize tx n k (M (m + 4)) z 61 0 (M (m + 1)) q 0 = o at r2 r3 t2 t4 l1 l2
    have hQ : Q N2 X m := HQ.id ⟨fun b hb => t6 b (by omega) (by omega), by rw [t6 _ (by omega) (by omega)], t6 _ (by omega) (by omega), t6 _ (by omega) (by omega), fun j _ => by rw [t6 _ (by omega) (by omega)], t6 _ (by omega) (by omega), t7 3 (by omega), t7 5 (by omega)⟩
    by_cases g2 : o.1 = 0
    · refine ⟨-4, M1, N2, ?_, ?_, hQ⟩
      · show f_X8_fault X M x = _
        unfold f_X8_fault
        rw [outside_ok, g, Bool.not_true, obn_s, if_pos (by decide), r1, obn_s, r2, g2, if_pos (show nI 0 = 0 from rfl)]
      · show f_X9_fault m M1 x = _
        unfold f_X9_fault b_X9_fault_45
        rw [m_in, g, obn_s, if_neg (by decide), t1, obn_s, t2, obn_s, t3, obn_s, g2, if_pos (show nI 0 = 0 from rfl)]
    · have ne : ¬ nI o.1 = 0 := by
        rw [show (0 : Int32) = nI 0 from rfl, n_eq (by omega) (by omega)]
        exact g2
      by_cases g3 : x = 0
      · refine ⟨nI o.2.1, M1, N2, ?_, ?_, hQ⟩
        · show f_X8_fault X M x = _
          unfold f_X8_fault b_X8_fault_60
          rw [outside_ok, g, Bool.not_true, obn_s, if_pos (by decide), r1, obn_s, r2, if_neg ne, if_pos g3, r3]
        · show f_X9_fault m M1 x = _
          unfold f_X9_fault b_X9_fault_45
          rw [m_in, g, obn_s, if_neg (by decide), t1, obn_s, t2, obn_s, t3, obn_s, if_neg ne, if_pos g3, t4 g2]
      · refine ⟨nI o.1, M1, N2, ?_, ?_, hQ⟩
        · show f_X8_fault X M x = _
          unfold f_X8_fault b_X8_fault_60
          rw [outside_ok, g, Bool.not_true, obn_s, if_pos (by decide), r1, obn_s, r2, if_neg ne, if_neg g3]
        · show f_X9_fault m M1 x = _
          unfold f_X9_fault b_X9_fault_45
          rw [m_in, g, obn_s, if_neg (by decide), t1, obn_s, t2, obn_s, t3, obn_s, if_neg ne, if_neg g3]
  · have g : inB x 0 1 = false := by simpa using g
    refine ⟨-1, M, M, ?_, ?_, H⟩
    · show f_X8_fault X M x = _
      unfold f_X8_fault
      rw [outside_ok, g, Bool.not_false, obn_s, if_neg (by decide)]
    · show f_X9_fault m M x = _
      unfold f_X9_fault
      rw [m_in, g, obn_s, if_pos (by decide)]
theorem s_play (H : Q M X m) : Same X m (fun M => f_X8_play X M) (fun M => f_X9_play m M) M := by
  obtain ⟨hm, ⟨n, k, q, h1⟩, -, ⟨z, h4, h5, h6, h7⟩, hT, -⟩ := id H
  obtain ⟨M1, r1, r2, r3, r4, r5, fr, HQ⟩ := tryText_ok H h1 h4 h5 h7
  have W := h1.1
  have e1 : M1 (m + 1) = M (m + 1) := fr _ (by omega) (by omega)
  obtain ⟨l1, l2⟩ := tx_lt (n := n) (k := k) (cs := M (m + 4)) (z := z) 61 0 (M (m + 1)) q 0 (by omega) (by omega) h4
  have hTo := (tx_hi (n := n) (k := k) (cs := M (m + 4)) (z := z) 61 0 (M (m + 1)) q 0 W).2 hT
  by_cases g2 : (tx n k (M (m + 4)) z 61 0 (M (m + 1)) q 0).1 = 0
  · obtain ⟨M2, R, d', k1, k2, k3, k4⟩ := keepQ HQ
    obtain ⟨M3, c1, c2, c3⟩ := copyW_ok (w := X + 1) (v := X + 201) (M := M2) (by omega) (r5.kept fun b b1 b2 => k2 b (by omega))
    have f3 : ∀ b, (X + 195 ≤ b) → M3 b = M1 b := fun b hb => by rw [c3 b (by omega), k2 b (by omega)]
    have f3' : ∀ b, X + 195 < b → (b < X + 200 ∨ X + 233 ≤ b) → M3 b = M b := fun b b1 b2 => by rw [f3 b (by omega), fr b (by omega) b2]
    obtain ⟨N0, N1, N2, t1, t2, t3, t4, t5, t6, t7⟩ := trialM_ok (M := M3) (cs := M (m + 4)) (S := M (m + 1)) (n := n) (k := k) (q := q) (z := z) (f3' _ (by omega) (by omega)) W h4 (by rw [f3' _ (by omega) (by omega), h6]) (fun j hj => by rw [f3' _ (by omega) (by omega)])
    have rc := k3 N2 (by rw [t7 3 (by omega), f3 _ (by omega)]) (by rw [t5, e1]) (by rw [t6 _ (by omega) (by omega), f3 _ (by omega)])
    generalize hN3 : mst (mrow N2 (m + 2) R) m 3 (nI d') = N3 at rc
    have g5 : N3 m 5 = nI z := by rw [← hN3, mst_at, upd_n (by omega), mrow_n (by omega), t7 5 (by omega), f3' _ (by omega) (by omega), h6]
    obtain ⟨N4, u1, u2, u3, u4, u5, u6⟩ := reasonT_ok (M := N3) (cs := M (m + 4)) (S := M (m + 1)) (n := n) (k := k) (q := q) (z := z) (by rw [← hN3, mst_n (by omega), mrow_n (by omega), t5]) W h4 g5 (fun j hj => by rw [← hN3, mst_n (by omega), mrow_n (by omega), t6 _ (by omega) (by omega), f3' _ (by omega) (by omega)])
    have f4 : ∀ b, b ≠ m → b ≠ m + 1 → b ≠ m + 2 → b ≠ m + 3 → N4 b = M3 b := fun b b1 b2 b3 b4 => by rw [u5 b b1 b2, ← hN3, mst_n b1, mrow_n b3, t6 b b1 b4]
    refine ⟨nI (tx n k (M (m + 4)) z 61 0 (M (m + 1)) q 0).2.2.1, M3, N4, ?_, ?_, ?_⟩
    · show f_X8_play X M = _
      unfold f_X8_play
      rw [r1, obn_s, r2, g2, if_pos (show nI 0 = 0 from rfl), k1, obn_s, c1, obn_s, f3 _ (by omega), r4]
    · show f_X9_play m M3 = _
      unfold f_X9_play
      rw [t1, obn_s, t2, obn_s, t3, obn_s, g2, if_pos (show nI 0 = 0 from rfl), rc, obn_s, u1, obn_s, u3]
    · refine HQ.mk ⟨n, k, (tx n k (M (m + 4)) z 61 0 (M (m + 1)) q 0).2.2.2.2, ?_⟩ k4 (by rw [u4]; exact hTo) (fun b b1 b2 => ?_) ?_ ?_ ?_ ?_ ?_ ?_
      · rw [u4]
        exact c2.kept fun b b1 b2 => f4 b (by omega) (by omega) (by omega) (by omega)
      · rw [f4 b (by omega) (by omega) (by omega) (by omega), c3 b (by omega)]
      · rw [u6 3 (by omega), ← hN3, mst_at, upd_at]
      · rw [u5 _ (by omega) (by omega), ← hN3, mst_n (by omega), mrow_at]
      · rw [f4 _ (by omega) (by omega) (by omega) (by omega), f3 _ (by omega)]
      · rw [f4 _ (by omega) (by omega) (by omega) (by omega), f3 _ (by omega)]
      · rw [u6 5 (by omega), g5, fr _ (by omega) (by omega), h6]
      · rw [f4 _ (by omega) (by omega) (by omega) (by omega), f3 _ (by omega)]
  · obtain ⟨N0, N1, N2, t1, t2, t3, t4, t5, t6, t7⟩ := trialM_ok (M := M1) (cs := M (m + 4)) (fr _ (by omega) (by omega)) W h4 (by rw [fr _ (by omega) (by omega), h6]) (fun j hj => by rw [fr _ (by omega) (by omega)])
    have hQ : Q N2 X m := HQ.id ⟨fun b hb => t6 b (by omega) (by omega), by rw [t6 _ (by omega) (by omega)], t6 _ (by omega) (by omega), t6 _ (by omega) (by omega), fun j _ => by rw [t6 _ (by omega) (by omega)], t6 _ (by omega) (by omega), t7 3 (by omega), t7 5 (by omega)⟩
    have ne : ¬ nI (tx n k (M (m + 4)) z 61 0 (M (m + 1)) q 0).1 = 0 := by
      rw [show (0 : Int32) = nI 0 from rfl, n_eq (by omega) (by omega)]
      exact g2
    refine ⟨-2, M1, N2, ?_, ?_, hQ⟩
    · show f_X8_play X M = _
      unfold f_X8_play
      rw [r1, obn_s, r2, if_neg ne]
    · show f_X9_play m M1 = _
      unfold f_X9_play
      rw [t1, obn_s, t2, obn_s, t3, obn_s, if_neg ne]
end E6
