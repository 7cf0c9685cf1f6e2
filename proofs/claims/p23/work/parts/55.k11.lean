/-! what the words give of the machine at the law's entry -/
theorem kk_start {s : State} {args : Array Value} (B : Nat) (hts : ∀ q ∈ lw_tbl, q.before args s = true) (hao : (Cond.arrayOver (.object RX7)).before args s = true) : ∃ w : Wp, w.2.2.2.2 = B ∧ KK w s ∧ va_AO RX7 s := by
  have hTB : ∀ q ∈ TB, q.before args s = true := fun q hq => hts q ((List.mem_filter.mp hq).1)
  obtain ⟨cI, kI, pI, i1, i2, i3⟩ := Cond.arrayClass_spec (hTB _ ar_I)
  obtain ⟨cZ, kZ, pZ, z1, z2, z3⟩ := Cond.arrayClass_spec (hTB _ ar_Z)
  obtain ⟨pR, cR, kR, r1, -, r3, r4, r5⟩ := Cond.arrayOver_spec hao
  have hk : ∀ k : Nat, ∃ p : ClassId × (Nat → Nat), ∀ q : vw_C, vwCl[k]? = some q → u_Kn s q.1 q.2.1 q.2.2 p.1 p.2 := by
    intro k
    match k with
    | 0 => obtain ⟨a, b, h⟩ := u_known (C := RX0) (T := TX0) (N := 2) hTB in_X0 (hTB _ ins_X0); exact ⟨(a, b), fun q hq => by cases hq; exact h⟩
    | 1 => obtain ⟨a, b, h⟩ := u_known (C := RX1) (T := TX1) (N := 9) hTB in_X1 (hTB _ ins_X1); exact ⟨(a, b), fun q hq => by cases hq; exact h⟩
    | 2 => obtain ⟨a, b, h⟩ := u_known (C := RX2) (T := TX2) (N := 8) hTB in_X2 (hTB _ ins_X2); exact ⟨(a, b), fun q hq => by cases hq; exact h⟩
    | 3 => obtain ⟨a, b, h⟩ := u_known (C := RX3) (T := TX3) (N := 3) hTB in_X3 (hTB _ ins_X3); exact ⟨(a, b), fun q hq => by cases hq; exact h⟩
    | 4 => obtain ⟨a, b, h⟩ := u_known (C := RX4) (T := TX4) (N := 4) hTB in_X4 (hTB _ ins_X4); exact ⟨(a, b), fun q hq => by cases hq; exact h⟩
    | 5 => obtain ⟨a, b, h⟩ := u_known (C := RX5) (T := TX5) (N := 10) hTB in_X5 (hTB _ ins_X5); exact ⟨(a, b), fun q hq => by cases hq; exact h⟩
    | 6 => obtain ⟨a, b, h⟩ := u_known (C := RX6) (T := TX6) (N := 5) hTB in_X6 (hTB _ ins_X6); exact ⟨(a, b), fun q hq => by cases hq; exact h⟩
    | 7 => obtain ⟨a, b, h⟩ := u_known (C := RX7) (T := TX7) (N := 5) hTB in_X7 (hTB _ ins_X7); exact ⟨(a, b), fun q hq => by cases hq; exact h⟩
    | 8 => obtain ⟨a, b, h⟩ := u_known (C := RX8) (T := TX8) (N := 5) hTB in_X8 (hTB _ ins_X8); exact ⟨(a, b), fun q hq => by cases hq; exact h⟩
    | k + 9 => exact ⟨(cI, fun _ => 0), fun q hq => by simp [vwCl] at hq⟩
  refine ⟨((fun k => (Classical.choose (hk k)).1, fun k => (Classical.choose (hk k)).2), cI, cZ, cR, B), rfl, ⟨⟨fun k q hq => Classical.choose_spec (hk k) q hq, fun k q hq => ?_⟩, fun q hq => ?_⟩, va_AO.of hao⟩
  · match k, hq with
    | 0, hq => cases hq; exact ⟨fun n z => ⟨fun k h => (by cases h), kI, i2, pI, i3⟩, i1⟩
    | 1, hq => cases hq; exact ⟨fun n z => ⟨fun k h => (by cases h), kZ, z2, pZ, z3⟩, z1⟩
    | 2, hq => cases hq; exact ⟨fun n z => ⟨fun k h => (by cases h), kR, r3, pR, r4⟩, kR, pR, r3, r4, r1, r5⟩
    | k + 3, hq => simp [tysW] at hq
  · obtain ⟨a, i, x, b, rfl⟩ := nw_is hq
    exact va_Nw.of rfl (hts _ (nw_tab _ hq))
