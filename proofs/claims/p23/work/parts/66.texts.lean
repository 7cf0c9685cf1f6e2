/-! the texts -/
def D45 : Nat := 0x20000100000000010000300000000020000700000000020000600000000010000200000000020000000000000000000000000000000000000000000000000000000000000000000000000000000000000000000000000000000000000000000000000000000000000000000000000000000000000000000000000000000000000000000000000000000000000000000000000000000000000000000000000000000000000000000000000000000000000000000000000100001000020000100001000010000100000000000000000000000000000000000000000000000000000000000000000000000000000000000000000000000000000000000000000000000000000000000000000000000000000000000000000000000000000000000000000000000000000000000000000000000000000000000000000000000000000000000000000000000000000000000000000000000000000000000000000000000000000000000000000000000000000000000000000000000000005000000000000000000000000000000000000000000005000010000000000000000000000000000000000200005000000000600006000000000c0000200003
set_option maxRecDepth 100000 in
set_option maxHeartbeats 4000000 in
theorem kt__t60 {X : Nat} {M : Mm} {S : Sm} {h : List Sm} {t : List Int32} (hl : t.length = 60) (H : P M X S h t) : Gd Kn1 (obn (f_X8_type X M 48) fun q3 M1 => (if q3 = (-3) then b_L_texts_690 X M1 else b_L_texts_713 X M1)) := by
  refine Gd.ty (-3) t H (by unfold oTy; rw [if_pos (by decide), if_pos hl]) fun M H _ => ?_
  rw [if_pos (by decide)]
  unfold b_L_texts_690
  refine Gd.ty (-1) t H (by unfold oTy; rw [if_neg (by decide)]) fun M H _ => ?_
  rw [if_pos (by decide)]
  unfold b_L_texts_700
  refine Gd.cl 60 H (by rw [hl]; rfl) fun M H _ => ?_
  rw [if_pos (by decide)]
  unfold b_L_texts_714
  exact ⟨_, rfl, rfl⟩
theorem kt__t {X : Nat} {S : Sm} {h : List Sm} : ∀ (d k : Nat) {M : Mm} {t : List Int32}, t.length + d = 60 → d < k → P M X S h t → Gd Kn1 (l_L_texts_655 X k M (nI (t.length + 1))) := by
  intro d
  induction d with
  | zero =>
    intro k M t hd hk H
    obtain ⟨k, rfl⟩ : ∃ x, k = x + 1 := ⟨k - 1, by omega⟩
    rw [l_L_texts_655, if_pos (by rw [show (60 : Int32) = nI 60 from rfl, n_lt (by omega) (by omega)]; omega)]
    exact kt__t60 (by omega) H
  | succ d ih =>
    intro k M t hd hk H
    obtain ⟨k, rfl⟩ : ∃ x, k = x + 1 := ⟨k - 1, by omega⟩
    rw [l_L_texts_655, if_neg (by rw [show (60 : Int32) = nI 60 from rfl, n_lt (by omega) (by omega)]; omega)]
    unfold b_L_texts_661
    refine Gd.ty (nI (t.length + 1)) (t ++ [48]) H (by unfold oTy; rw [if_pos (by decide), if_neg (by omega)]) fun M H _ => ?_
    rw [if_pos rfl, show (1 : Int32) = nI 1 from rfl, nI_add]
    have := ih k (t := t ++ [48]) (by rw [List.length_append, List.length_singleton]; omega) (by omega) H
    rw [List.length_append, List.length_singleton] at this
    exact this
set_option maxRecDepth 100000 in
set_option maxHeartbeats 4000000 in
theorem kt_642 {X : Nat} {M : Mm} (H : P M X (lk D5) ((push (lk D5) h3).take 4) [101, 48, 59]) : Gd Kn1 (b_L_texts_642 X M (hS (lk D5))) := by
  unfold b_L_texts_642
  refine Gd.st H fun M H _ => ?_
  rw [if_pos (jcmp_e rfl)]
  exact kt__t 57 FU (t := [101, 48, 59]) (by decide) (by show _ < 4000; omega) H
set_option maxRecDepth 100000 in
set_option maxHeartbeats 4000000 in
theorem kt_633 {X : Nat} {M : Mm} (H : P M X (lk D5) ((push (lk D5) h3).take 4) [101, 48, 59]) : Gd Kn1 (b_L_texts_633 X M (hS (lk D5))) := by
  unfold b_L_texts_633
  refine Gd.no (-2) (t_play H) (by decide +kernel) fun M H _ => ?_
  rw [if_pos (by decide)]
  exact kt_642 H
set_option maxRecDepth 100000 in
set_option maxHeartbeats 4000000 in
theorem kt_607 {X : Nat} {M : Mm} (H : P M X (lk D5) ((push (lk D5) h3).take 4) [98, 50, 59, 111, 49, 59, 101, 50, 59, 117, 50, 59, 99, 49, 59, 116, 50, 59]) : Gd Kn1 (b_L_texts_607 X M (hS (lk D5))) := by
  unfold b_L_texts_607
  refine Gd.cl 18 H (by decide) fun M H _ => ?_
  rw [if_pos (by decide)]
  refine Gd.isf H [101, 48, 59] (by decide +kernel) (by decide +kernel) (by decide +kernel) (by decide +kernel) (by decide +kernel) fun M H _ => ?_
  rw [if_neg (by decide)]
  exact kt_633 H
set_option maxRecDepth 100000 in
set_option maxHeartbeats 4000000 in
theorem kt_598 {X : Nat} {M : Mm} (H : P M X (lk D5) ((push (lk D5) h3).take 4) [98, 50, 59, 111, 49, 59, 101, 50, 59, 117, 50, 59, 99, 49, 59, 116, 50, 59]) : Gd Kn1 (b_L_texts_598 X M (hS (lk D5))) := by
  unfold b_L_texts_598
  refine Gd.st H fun M H _ => ?_
  rw [if_pos (jcmp_e rfl)]
  exact kt_607 H
set_option maxRecDepth 100000 in
set_option maxHeartbeats 4000000 in
theorem kt_590 {X : Nat} {M : Mm} (H : P M X (lk D45) (push (lk D5) (push (lk D5) h3)) [98, 50, 59, 111, 49, 59, 101, 50, 59, 117, 50, 59, 99, 49, 59, 116, 50, 59]) : Gd Kn1 (b_L_texts_590 X M (hS (lk D5))) := by
  unfold b_L_texts_590
  refine Gd.un 4 (h1 := ((push (lk D5) h3).take 4)) H rfl fun M H _ => ?_
  rw [if_pos (by decide)]
  exact kt_598 H
set_option maxRecDepth 100000 in
set_option maxHeartbeats 4000000 in
theorem kt_581 {X : Nat} {M : Mm} (H : P M X (lk D45) (push (lk D5) (push (lk D5) h3)) [98, 50, 59, 111, 49, 59, 101, 50, 59, 117, 50, 59, 99, 49, 59, 116, 50, 59]) : Gd Kn1 (b_L_texts_581 X M (hS (lk D5))) := by
  unfold b_L_texts_581
  refine Gd.ask 3 (t_cnt H 4 (by decide)) (by decide +kernel) fun M H _ => ?_
  rw [if_pos (by decide)]
  exact kt_590 H
set_option maxRecDepth 100000 in
set_option maxHeartbeats 4000000 in
theorem kt_569 {X : Nat} {M : Mm} (H : P M X (lk D45) (push (lk D5) (push (lk D5) h3)) [98, 50, 59, 111, 49, 59, 101, 50, 59, 117, 50, 59, 99, 49, 59, 116, 50, 59]) : Gd Kn1 (b_L_texts_569 X M (hS (lk D5))) := by
  unfold b_L_texts_569
  refine Gd.ask (-4) (t_log H 6 0) (by decide +kernel) fun M H _ => ?_
  rw [if_pos (by decide)]
  exact kt_581 H
set_option maxRecDepth 100000 in
set_option maxHeartbeats 4000000 in
theorem kt_559 {X : Nat} {M : Mm} (H : P M X (lk D45) (push (lk D5) (push (lk D5) h3)) [98, 50, 59, 111, 49, 59, 101, 50, 59, 117, 50, 59, 99, 49, 59, 116, 50, 59]) : Gd Kn1 (b_L_texts_559 X M (hS (lk D5))) := by
  unfold b_L_texts_559
  refine Gd.ask 2 (t_log H 5 1) (by decide +kernel) fun M H _ => ?_
  rw [if_pos (by decide)]
  exact kt_569 H
set_option maxRecDepth 100000 in
set_option maxHeartbeats 4000000 in
theorem kt_550 {X : Nat} {M : Mm} (H : P M X (lk D45) (push (lk D5) (push (lk D5) h3)) [98, 50, 59, 111, 49, 59, 101, 50, 59, 117, 50, 59, 99, 49, 59, 116, 50, 59]) : Gd Kn1 (b_L_texts_550 X M (hS (lk D5))) := by
  unfold b_L_texts_550
  refine Gd.ask 0 (t_log H 5 0) (by decide +kernel) fun M H _ => ?_
  rw [if_pos (by decide)]
  exact kt_559 H
set_option maxRecDepth 100000 in
set_option maxHeartbeats 4000000 in
theorem kt_540 {X : Nat} {M : Mm} (H : P M X (lk D45) (push (lk D5) (push (lk D5) h3)) [98, 50, 59, 111, 49, 59, 101, 50, 59, 117, 50, 59, 99, 49, 59, 116, 50, 59]) : Gd Kn1 (b_L_texts_540 X M (hS (lk D5))) := by
  unfold b_L_texts_540
  refine Gd.ask 1 (t_log H 0 0) (by decide +kernel) fun M H _ => ?_
  rw [if_pos (by decide)]
  exact kt_550 H
set_option maxRecDepth 100000 in
set_option maxHeartbeats 4000000 in
theorem kt_529 {X : Nat} {M : Mm} (H : P M X (lk D45) (push (lk D5) (push (lk D5) h3)) [98, 50, 59, 111, 49, 59, 101, 50, 59, 117, 50, 59, 99, 49, 59, 116, 50, 59]) : Gd Kn1 (b_L_texts_529 X M (hS (lk D5))) := by
  unfold b_L_texts_529
  refine Gd.ask 6 (t_cnt H 10 (by decide)) (by decide +kernel) fun M H _ => ?_
  rw [if_pos (by decide)]
  exact kt_540 H
set_option maxRecDepth 100000 in
set_option maxHeartbeats 4000000 in
theorem kt_518 {X : Nat} {M : Mm} (H : P M X (lk D45) (push (lk D5) (push (lk D5) h3)) [98, 50, 59, 111, 49, 59, 101, 50, 59, 117, 50, 59, 99, 49, 59, 116, 50, 59]) : Gd Kn1 (b_L_texts_518 X M (hS (lk D5))) := by
  unfold b_L_texts_518
  refine Gd.ask 6 (t_cnt H 9 (by decide)) (by decide +kernel) fun M H _ => ?_
  rw [if_pos (by decide)]
  exact kt_529 H
set_option maxRecDepth 100000 in
set_option maxHeartbeats 4000000 in
theorem kt_509 {X : Nat} {M : Mm} (H : P M X (lk D5) (push (lk D5) h3) [98, 50, 59, 111, 49, 59, 101, 50, 59, 117, 50, 59, 99, 49, 59, 116, 50, 59]) : Gd Kn1 (b_L_texts_509 X M (hS (lk D5))) := by
  unfold b_L_texts_509
  refine Gd.chg 6 D45 (t_play H) (by decide +kernel) fun M H _ => ?_
  rw [if_pos (by decide)]
  exact kt_518 H
set_option maxRecDepth 100000 in
set_option maxHeartbeats 4000000 in
theorem kt_489 {X : Nat} {M : Mm} (H : P M X (lk D5) (push (lk D5) h3) [98, 50, 59, 116, 50, 59]) : Gd Kn1 (b_L_texts_489 X M (hS (lk D5))) := by
  unfold b_L_texts_489
  refine Gd.isf H [98, 50, 59, 111, 49, 59, 101, 50, 59, 117, 50, 59, 99, 49, 59, 116, 50, 59] (by decide +kernel) (by decide +kernel) (by decide +kernel) (by decide +kernel) (by decide +kernel) fun M H _ => ?_
  rw [if_neg (by decide)]
  exact kt_509 H
set_option maxRecDepth 100000 in
set_option maxHeartbeats 4000000 in
theorem kt_462 {X : Nat} {M : Mm} (H : P M X (lk D5) (push (lk D5) h3) [98, 48, 59, 59]) : Gd Kn1 (b_L_texts_462 X M (hS (lk D5))) := by
  unfold b_L_texts_462
  refine Gd.isf H [98, 50, 59, 116, 50, 59] (by decide +kernel) (by decide +kernel) (by decide +kernel) (by decide +kernel) (by decide +kernel) fun M H _ => ?_
  rw [if_neg (by decide)]
  refine Gd.st H fun M H _ => ?_
  rw [if_pos (jcmp_e rfl)]
  exact kt_489 H
set_option maxRecDepth 100000 in
set_option maxHeartbeats 4000000 in
theorem kt_448 {X : Nat} {M : Mm} (H : P M X (lk D5) (push (lk D5) h3) [32, 98, 48, 59]) : Gd Kn1 (b_L_texts_448 X M (hS (lk D5))) := by
  unfold b_L_texts_448
  refine Gd.isf H [98, 48, 59, 59] (by decide +kernel) (by decide +kernel) (by decide +kernel) (by decide +kernel) (by decide +kernel) fun M H _ => ?_
  rw [if_neg (by decide)]
  exact kt_462 H
set_option maxRecDepth 100000 in
set_option maxHeartbeats 4000000 in
theorem kt_434 {X : Nat} {M : Mm} (H : P M X (lk D5) (push (lk D5) h3) [98, 59]) : Gd Kn1 (b_L_texts_434 X M (hS (lk D5))) := by
  unfold b_L_texts_434
  refine Gd.isf H [32, 98, 48, 59] (by decide +kernel) (by decide +kernel) (by decide +kernel) (by decide +kernel) (by decide +kernel) fun M H _ => ?_
  rw [if_neg (by decide)]
  exact kt_448 H
set_option maxRecDepth 100000 in
set_option maxHeartbeats 4000000 in
theorem kt_404 {X : Nat} {M : Mm} (H : P M X (lk D5) (push (lk D5) h3) []) : Gd Kn1 (b_L_texts_404 X M (hS (lk D5))) := by
  unfold b_L_texts_404
  refine Gd.isf H [66, 48, 59] (by decide +kernel) (by decide +kernel) (by decide +kernel) (by decide +kernel) (by decide +kernel) fun M H _ => ?_
  rw [if_neg (by decide)]
  refine Gd.isf H [98, 59] (by decide +kernel) (by decide +kernel) (by decide +kernel) (by decide +kernel) (by decide +kernel) fun M H _ => ?_
  rw [if_neg (by decide)]
  exact kt_434 H
set_option maxRecDepth 100000 in
set_option maxHeartbeats 4000000 in
theorem kt_390 {X : Nat} {M : Mm} (H : P M X (lk D5) (push (lk D5) h3) [99, 48, 59]) : Gd Kn1 (b_L_texts_390 X M (hS (lk D5))) := by
  unfold b_L_texts_390
  refine Gd.isf H [] (by decide +kernel) (by decide +kernel) (by decide +kernel) (by decide +kernel) (by decide +kernel) fun M H _ => ?_
  rw [if_neg (by decide)]
  exact kt_404 H
set_option maxRecDepth 100000 in
set_option maxHeartbeats 4000000 in
theorem kt_375 {X : Nat} {M : Mm} (H : P M X (lk D5) (push (lk D5) h3) [117, 48, 59]) : Gd Kn1 (b_L_texts_375 X M (hS (lk D5))) := by
  unfold b_L_texts_375
  refine Gd.isf H [99, 48, 59] (by decide +kernel) (by decide +kernel) (by decide +kernel) (by decide +kernel) (by decide +kernel) fun M H _ => ?_
  rw [if_neg (by decide)]
  exact kt_390 H
set_option maxRecDepth 100000 in
set_option maxHeartbeats 4000000 in
theorem kt_343 {X : Nat} {M : Mm} (H : P M X (lk D5) (push (lk D5) h3) [110, 49, 59]) : Gd Kn1 (b_L_texts_343 X M (hS (lk D5))) := by
  unfold b_L_texts_343
  refine Gd.isf H [102, 49, 59] (by decide +kernel) (by decide +kernel) (by decide +kernel) (by decide +kernel) (by decide +kernel) fun M H _ => ?_
  rw [if_neg (by decide)]
  refine Gd.isf H [117, 48, 59] (by decide +kernel) (by decide +kernel) (by decide +kernel) (by decide +kernel) (by decide +kernel) fun M H _ => ?_
  rw [if_neg (by decide)]
  exact kt_375 H
set_option maxRecDepth 100000 in
set_option maxHeartbeats 4000000 in
theorem kt_328 {X : Nat} {M : Mm} (H : P M X (lk D5) (push (lk D5) h3) [110, 48, 59]) : Gd Kn1 (b_L_texts_328 X M (hS (lk D5))) := by
  unfold b_L_texts_328
  refine Gd.isf H [110, 49, 59] (by decide +kernel) (by decide +kernel) (by decide +kernel) (by decide +kernel) (by decide +kernel) fun M H _ => ?_
  rw [if_neg (by decide)]
  exact kt_343 H
set_option maxRecDepth 100000 in
set_option maxHeartbeats 4000000 in
theorem kt_313 {X : Nat} {M : Mm} (H : P M X (lk D5) (push (lk D5) h3) [116, 48, 59]) : Gd Kn1 (b_L_texts_313 X M (hS (lk D5))) := by
  unfold b_L_texts_313
  refine Gd.isf H [110, 48, 59] (by decide +kernel) (by decide +kernel) (by decide +kernel) (by decide +kernel) (by decide +kernel) fun M H _ => ?_
  rw [if_neg (by decide)]
  exact kt_328 H
set_option maxRecDepth 100000 in
set_option maxHeartbeats 4000000 in
theorem kt_281 {X : Nat} {M : Mm} (H : P M X (lk D5) (push (lk D5) h3) [98, 50, 59, 111, 49, 59, 101, 50, 59, 117, 50, 59, 99, 49, 59, 116, 50, 59]) : Gd Kn1 (b_L_texts_281 X M (hS (lk D5))) := by
  unfold b_L_texts_281
  refine Gd.isf H [101, 48, 59] (by decide +kernel) (by decide +kernel) (by decide +kernel) (by decide +kernel) (by decide +kernel) fun M H _ => ?_
  rw [if_neg (by decide)]
  refine Gd.isf H [116, 48, 59] (by decide +kernel) (by decide +kernel) (by decide +kernel) (by decide +kernel) (by decide +kernel) fun M H _ => ?_
  rw [if_neg (by decide)]
  exact kt_313 H
set_option maxRecDepth 100000 in
set_option maxHeartbeats 4000000 in
theorem kt_261 {X : Nat} {M : Mm} (H : P M X (lk D5) (push (lk D5) h3) [98, 50, 59, 111, 49, 59, 101, 50, 59, 99, 49, 59]) : Gd Kn1 (b_L_texts_261 X M (hS (lk D5))) := by
  unfold b_L_texts_261
  refine Gd.isf H [98, 50, 59, 111, 49, 59, 101, 50, 59, 117, 50, 59, 99, 49, 59, 116, 50, 59] (by decide +kernel) (by decide +kernel) (by decide +kernel) (by decide +kernel) (by decide +kernel) fun M H _ => ?_
  rw [if_neg (by decide)]
  exact kt_281 H
set_option maxRecDepth 100000 in
set_option maxHeartbeats 4000000 in
theorem kt_243 {X : Nat} {M : Mm} (H : P M X (lk D5) (push (lk D5) h3) [98, 50, 59, 111, 49, 59, 101, 50, 59]) : Gd Kn1 (b_L_texts_243 X M (hS (lk D5))) := by
  unfold b_L_texts_243
  refine Gd.isf H [98, 50, 59, 111, 49, 59, 101, 50, 59, 99, 49, 59] (by decide +kernel) (by decide +kernel) (by decide +kernel) (by decide +kernel) (by decide +kernel) fun M H _ => ?_
  rw [if_neg (by decide)]
  exact kt_261 H
set_option maxRecDepth 100000 in
set_option maxHeartbeats 4000000 in
theorem kt_205 {X : Nat} {M : Mm} (H : P M X (lk D5) (push (lk D5) h3) [98, 50, 59, 111, 49, 59, 102, 48, 59]) : Gd Kn1 (b_L_texts_205 X M (hS (lk D5))) := by
  unfold b_L_texts_205
  refine Gd.isf H [98, 48, 59, 98, 49, 59, 98, 50, 59] (by decide +kernel) (by decide +kernel) (by decide +kernel) (by decide +kernel) (by decide +kernel) fun M H _ => ?_
  rw [if_neg (by decide)]
  refine Gd.isf H [98, 50, 59, 111, 49, 59, 101, 50, 59] (by decide +kernel) (by decide +kernel) (by decide +kernel) (by decide +kernel) (by decide +kernel) fun M H _ => ?_
  rw [if_neg (by decide)]
  exact kt_243 H
set_option maxRecDepth 100000 in
set_option maxHeartbeats 4000000 in
theorem kt_187 {X : Nat} {M : Mm} (H : P M X (lk D5) (push (lk D5) h3) [111, 57, 57, 59]) : Gd Kn1 (b_L_texts_187 X M (hS (lk D5))) := by
  unfold b_L_texts_187
  refine Gd.isf H [98, 50, 59, 111, 49, 59, 102, 48, 59] (by decide +kernel) (by decide +kernel) (by decide +kernel) (by decide +kernel) (by decide +kernel) fun M H _ => ?_
  rw [if_neg (by decide)]
  exact kt_205 H
set_option maxRecDepth 100000 in
set_option maxHeartbeats 4000000 in
theorem kt_173 {X : Nat} {M : Mm} (H : P M X (lk D5) (push (lk D5) h3) [111, 50, 59]) : Gd Kn1 (b_L_texts_173 X M (hS (lk D5))) := by
  unfold b_L_texts_173
  refine Gd.isf H [111, 57, 57, 59] (by decide +kernel) (by decide +kernel) (by decide +kernel) (by decide +kernel) (by decide +kernel) fun M H _ => ?_
  rw [if_neg (by decide)]
  exact kt_187 H
set_option maxRecDepth 100000 in
set_option maxHeartbeats 4000000 in
theorem kt_142 {X : Nat} {M : Mm} (H : P M X (lk D5) (push (lk D5) h3) [98, 48, 59, 98, 48, 59]) : Gd Kn1 (b_L_texts_142 X M (hS (lk D5))) := by
  unfold b_L_texts_142
  refine Gd.isf H [111, 48, 59] (by decide +kernel) (by decide +kernel) (by decide +kernel) (by decide +kernel) (by decide +kernel) fun M H _ => ?_
  rw [if_neg (by decide)]
  refine Gd.isf H [111, 50, 59] (by decide +kernel) (by decide +kernel) (by decide +kernel) (by decide +kernel) (by decide +kernel) fun M H _ => ?_
  rw [if_neg (by decide)]
  exact kt_173 H
set_option maxRecDepth 100000 in
set_option maxHeartbeats 4000000 in
theorem kt_127 {X : Nat} {M : Mm} (H : P M X (lk D5) (push (lk D5) h3) [120, 48, 59]) : Gd Kn1 (b_L_texts_127 X M (hS (lk D5))) := by
  unfold b_L_texts_127
  refine Gd.isf H [98, 48, 59, 98, 48, 59] (by decide +kernel) (by decide +kernel) (by decide +kernel) (by decide +kernel) (by decide +kernel) fun M H _ => ?_
  rw [if_neg (by decide)]
  exact kt_142 H
set_option maxRecDepth 100000 in
set_option maxHeartbeats 4000000 in
theorem kt_113 {X : Nat} {M : Mm} (H : P M X (lk D5) (push (lk D5) h3) [98, 48, 48, 48, 59]) : Gd Kn1 (b_L_texts_113 X M (hS (lk D5))) := by
  unfold b_L_texts_113
  refine Gd.isf H [120, 48, 59] (by decide +kernel) (by decide +kernel) (by decide +kernel) (by decide +kernel) (by decide +kernel) fun M H _ => ?_
  rw [if_neg (by decide)]
  exact kt_127 H
set_option maxRecDepth 100000 in
set_option maxHeartbeats 4000000 in
theorem kt_81 {X : Nat} {M : Mm} (H : P M X (lk D5) (push (lk D5) h3) [98, 48]) : Gd Kn1 (b_L_texts_81 X M (hS (lk D5))) := by
  unfold b_L_texts_81
  refine Gd.isf H [98, 48, 48, 59] (by decide +kernel) (by decide +kernel) (by decide +kernel) (by decide +kernel) (by decide +kernel) fun M H _ => ?_
  rw [if_neg (by decide)]
  refine Gd.isf H [98, 48, 48, 48, 59] (by decide +kernel) (by decide +kernel) (by decide +kernel) (by decide +kernel) (by decide +kernel) fun M H _ => ?_
  rw [if_neg (by decide)]
  exact kt_113 H
set_option maxRecDepth 100000 in
set_option maxHeartbeats 4000000 in
theorem kt_67 {X : Nat} {M : Mm} (H : P M X (lk D5) (push (lk D5) h3) [98, 57, 59]) : Gd Kn1 (b_L_texts_67 X M (hS (lk D5))) := by
  unfold b_L_texts_67
  refine Gd.isf H [98, 48] (by decide +kernel) (by decide +kernel) (by decide +kernel) (by decide +kernel) (by decide +kernel) fun M H _ => ?_
  rw [if_neg (by decide)]
  exact kt_81 H
set_option maxRecDepth 100000 in
set_option maxHeartbeats 4000000 in
theorem kt_53 {X : Nat} {M : Mm} (H : P M X (lk D5) (push (lk D5) h3) [98, 48, 59]) : Gd Kn1 (b_L_texts_53 X M (hS (lk D5))) := by
  unfold b_L_texts_53
  refine Gd.isf H [98, 57, 59] (by decide +kernel) (by decide +kernel) (by decide +kernel) (by decide +kernel) (by decide +kernel) fun M H _ => ?_
  rw [if_neg (by decide)]
  exact kt_67 H
set_option maxRecDepth 100000 in
set_option maxHeartbeats 4000000 in
theorem kt_20 {X : Nat} {M : Mm} (H : P M X (lk D5) (push (lk D5) h3) []) : Gd Kn1 (b_L_texts_20 X M) := by
  unfold b_L_texts_20
  refine Gd.ask 5 (t_count H 14) rfl fun M H _ => ?_
  rw [if_pos (by decide)]
  refine Gd.st H fun M H _ => ?_
  refine Gd.isf H [98, 48, 59] (by decide +kernel) (by decide +kernel) (by decide +kernel) (by decide +kernel) (by decide +kernel) fun M H _ => ?_
  rw [if_neg (by decide)]
  exact kt_53 H
set_option maxRecDepth 100000 in
set_option maxHeartbeats 4000000 in
theorem kt_13 {X : Nat} {M : Mm} (H : P M X (lk D5) h3 []) : Gd Kn1 (b_L_texts_13 X M) := by
  unfold b_L_texts_13
  refine Gd.chg 0 D5 (t_play H) (by decide +kernel) fun M H _ => ?_
  rw [if_pos (by decide)]
  exact kt_20 H
set_option maxRecDepth 100000 in
set_option maxHeartbeats 4000000 in
theorem kt_3 {X : Nat} {M : Mm} (H : P M X (lk D5) h3 []) : Gd Kn1 (f_L_texts_3 X M) := by
  unfold f_L_texts_3
  refine Gd.ask 3 (t_cnt H 0 (by decide)) (by decide +kernel) fun M H _ => ?_
  rw [if_pos (by decide)]
  exact kt_13 H
