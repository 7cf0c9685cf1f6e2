/-! what is asked -/
section S8
variable {M : Mm} {X m n k q w : Nat} {S : Sm}
/-- the groups, counted in the class's way and the reference's -/
theorem mt_iff (W : Wf S n k q) {s : Nat} : ∀ {j : Nat}, j ≤ n → (mtS S k j s = true ↔ ∃ t, t < j ∧ cn k (uS S) (vS S) (cS S) t s)
  | 0, _ => ⟨fun h => (by cases h), fun ⟨t, h, _⟩ => (by omega)⟩
  | j + 1, hj => by
    have ih := mt_iff W (s := s) (j := j) (by omega)
    have hg := tg_iff W (s := j) (t := s) (by omega)
    unfold tg at hg
    simp only [mtS, Bool.or_eq_true]
    rw [ih, hg]
    constructor
    · rintro (⟨t, h1, h2⟩ | h)
      · exact ⟨t, by omega, h2⟩
      · exact ⟨j, by omega, h⟩
    · rintro ⟨t, h1, h2⟩
      by_cases e : t = j
      · rw [← e]; exact Or.inr h2
      · exact Or.inl ⟨t, by omega, h2⟩
theorem grp_ok (h : RW M w S n k q) : f_X2_groups (w + 1) M = some (nI (fb_ct (fun s => !mtS S k s s) n), M) := by
  obtain ⟨p, h1, h2⟩ := groups_ok h.2.1
  rw [h1, fb_ct_cong (fun s hs => ?_)]
  rw [Bool.eq_iff_iff, h2 s hs, Bool.not_eq_true', ← Bool.not_eq_true, mt_iff h.1 (by omega)]
  constructor
  · rintro h ⟨t, h3, h4⟩
    exact h t h3 h4
  · intro h t h3 h4
    exact h ⟨t, h3, h4⟩
variable {h : List Sm} {t : List Int32}
def aCt (S : Sm) (d z : Nat) (x : Int32) : Int32 :=
  if x = 0 then nI (nn S) else if x = 1 then nI (kn S) else if x = 2 then S 2 else if x = 3 then frS S (nn S) else if x = 4 then nI (fb_ct (lvS S (nn S) (kn S)) 10)
  else if x = 5 then nI (fb_ct (fun s => decide (s < nn S) && bS S 2 s) 10) else if x = 6 then nI (fb_ct (fun s => decide (s < nn S) && bS S 4 s) 10) else if x = 7 then sumI (fun s => aO S s 7) (nn S)
  else if x = 8 then S 3 else if x = 9 then S 4 else if x = 10 then nI (qn S) else if x = 11 then S 6 else if x = 12 then nI (fb_ct (fun s => bS S 4 s && decide (aO S s 6 < S 3)) (nn S))
  else if x = 13 then nI (fb_ct (fun s => !mtS S (kn S) s s) (nn S)) else if x = 14 then nI d else if x = 15 then nI z else -1
theorem t_count (H : P M X S h t) (x : Int32) : Ask X S h t (f_X8_count X M x) M (aCt S h.length t.length x) := by
  obtain ⟨h1, h3, ⟨h4, h5, h6⟩, hT, hTs⟩ := id H
  have hn := h1.nlow
  have hS := h1.2.2.1
  have bt : ∀ (j : Nat), (j = 2 ∨ j = 4) → f_X8_countTrue (X + 1 + 8 + j) M = some (nI (fb_ct (fun s => decide (s < nn S) && bS S j s) 10), M) := fun j hj => countTrue_ok fun i hi => by
    by_cases e : i < nn S
    · rcases hj with rfl | rfl
      · rw [(h1.se e).2.1]; simp [e]
      · rw [(h1.se e).2.2.2.1]; simp [e]
    · rcases hj with rfl | rfl
      · rw [(hS.2.2 i (by omega) hi).1]; simp [e]
      · rw [(hS.2.2 i (by omega) hi).2.2.1]; simp [e]
  have ct := countTrue_ok (a := X + 1 + 1 + 6) (M := M) (p := lvS S (nn S) (kn S)) fun i hi => h1.lv hi
  refine ⟨M, ?_, H, Fr.rf⟩
  show f_X8_count X M x = _
  unfold f_X8_count aCt
  by_cases g0 : x = 0
  · rw [if_pos g0, if_pos g0, h1.n0]
  simp only [if_neg g0]
  by_cases g1 : x = 1
  · rw [if_pos g1, if_pos g1, h1.k0]
  simp only [if_neg g1]
  by_cases g2 : x = 2
  · rw [if_pos g2, if_pos g2, hS.1.2.1]
  simp only [if_neg g2]
  by_cases g3 : x = 3
  · rw [if_pos g3, if_pos g3, freeBuses_ok hn hS, obn_s]
  simp only [if_neg g3]
  by_cases g4 : x = 4
  · rw [if_pos g4, if_pos g4, ct, obn_s]
  simp only [if_neg g4]
  by_cases g5 : x = 5
  · rw [if_pos g5, if_pos g5, bt 2 (Or.inl rfl), obn_s]
  simp only [if_neg g5]
  by_cases g6 : x = 6
  · rw [if_pos g6, if_pos g6, bt 4 (Or.inr rfl), obn_s]
  simp only [if_neg g6]
  by_cases g7 : x = 7
  · rw [if_pos g7, if_pos g7, allTools_ok hn hS, obn_s]
  simp only [if_neg g7]
  by_cases g8 : x = 8
  · rw [if_pos g8, if_pos g8, hS.1.1]
  simp only [if_neg g8]
  by_cases g9 : x = 9
  · rw [if_pos g9, if_pos g9, h1.2.2.2.1.1]
  simp only [if_neg g9]
  by_cases g10 : x = 10
  · rw [if_pos g10, if_pos g10, h1.2.2.2.1.2]
  simp only [if_neg g10]
  by_cases g11 : x = 11
  · rw [if_pos g11, if_pos g11, hS.1.2.2]
  simp only [if_neg g11]
  by_cases g12 : x = 12
  · rw [if_pos g12, if_pos g12, lateGangs_ok hn hS, obn_s]
  simp only [if_neg g12]
  by_cases g13 : x = 13
  · rw [if_pos g13, if_pos g13, grp_ok h1, obn_s]
  simp only [if_neg g13]
  by_cases g14 : x = 14
  · rw [if_pos g14, if_pos g14, h3.1.1]
  simp only [if_neg g14]
  by_cases g15 : x = 15
  · rw [if_pos g15, if_pos g15, h5]
  simp only [if_neg g15]
end S8
