/-! what is asked -/
section S8
variable {M : Mm} {X m n k q w : Nat} {S : Sm}
/-- the groups, counted in the class's way and the reference's -/
theorem mt_iff (W : Wf S n k q) {s : Nat} : ∀ {j : Nat}, j ≤ n → (mtS S k j s = true ↔ ∃ t, t < j ∧ cn k (uS S) (vS S) (cS S) t s)
  | 0, _ => ⟨fun h => (by cases h), fun ⟨t, h, _⟩ => (by omega)⟩
  | j + 1, hj => by
    have ih := mt_iff W (s := s) (j := j) (by omega)
    have hg := tg_iff W (s := j) (t := s) (by omega)
    unfold tg at hg
    simp only [mtS, Bool.or_eq_true]
    rw [ih, hg]
    constructor
    · rintro (⟨t, h1, h2⟩ | h)
      · exact ⟨t, by omega, h2⟩
      · exact ⟨j, by omega, h⟩
    · rintro ⟨t, h1, h2⟩
      by_cases e : t = j
      · rw [← e]; exact Or.inr h2
      · exact Or.inl ⟨t, by omega, h2⟩
theorem grp_ok (h : RW M w S n k q) : f_X2_groups (w + 1) M = some (nI (fb_ct (fun s => !mtS S k s s) n), M) := by
  obtain ⟨p, h1, h2⟩ := groups_ok h.2.1
  rw [h1, fb_ct_cong (fun s hs => ?_)]
  rw [Bool.eq_iff_iff, h2 s hs, Bool.not_eq_true', ← Bool.not_eq_true, mt_iff h.1 (by omega)]
  constructor
  · rintro h ⟨t, h3, h4⟩
    exact h t h3 h4
  · intro h t h3 h4
    exact h ⟨t, h3, h4⟩
theorem s_count (H : Q M X m) (x : Int32) : Same X m (fun M => f_X8_count X M x) (fun M => f_X9_count m M x) M := by
  obtain ⟨hm, ⟨n, k, q, h1⟩, ⟨d, h2, h3⟩, ⟨z, h4, h5, h6, h7⟩, hT, hTs⟩ := id H
  have hn := h1.nlow
  have W := h1.1
  have hS := h1.2.2.1
  suffices two : ∃ r, f_X8_count X M x = some (r, M) ∧ f_X9_count m M x = some (r, M) by
    obtain ⟨r, a, b⟩ := two
    exact ⟨r, M, M, a, b, H⟩
  have bt : ∀ (j : Nat), (j = 2 ∨ j = 4) → f_X8_countTrue (X + 1 + 8 + j) M = some (nI (fb_ct (fun s => decide (s < n) && bS (M (m + 1)) j s) 10), M) := fun j hj => countTrue_ok fun i hi => by
    by_cases e : i < n
    · rcases hj with rfl | rfl
      · rw [(h1.se e).2.1]; simp [e]
      · rw [(h1.se e).2.2.2.1]; simp [e]
    · rcases hj with rfl | rfl
      · rw [(hS.2.2 i (by omega) hi).1]; simp [e]
      · rw [(hS.2.2 i (by omega) hi).2.2.1]; simp [e]
  have bm : ∀ (j : Nat), (j = 2 ∨ j = 4) → f_X9_with m M (nI j) = some (bs (fun s => decide (s < n) && bS (M (m + 1)) j s) 10, M) := fun j hj => by
    rw [m_with W (by omega), bs_n hn (show 10 ≤ 32 by omega), bs_c (by omega) (fun s hs => ?_)]
    by_cases e : s < n
    · rw [pos_b W (by omega) e]
    · simp [e]
  have ct := countTrue_ok (a := X + 1 + 1 + 6) (M := M) (p := lvS (M (m + 1)) n k) fun i hi => h1.lv hi
  unfold f_X8_count f_X9_count b_X9_count_80
  by_cases g0 : x = 0
  · subst g0
    refine ⟨(nI n), ?_, ?_⟩
    · rw [if_pos rfl, h1.n0]
    · rw [if_pos rfl, show ix (0 : Int32) = 0 from rfl, W.1.1]; rfl
  simp only [if_neg g0]
  by_cases g1 : x = 1
  · subst g1
    refine ⟨(nI k), ?_, ?_⟩
    · rw [if_pos rfl, h1.k0]
    · rw [if_pos rfl, show ix (1 : Int32) = 1 from rfl, W.1.2.2.1]; rfl
  simp only [if_neg g1]
  by_cases g2 : x = 2
  · subst g2
    refine ⟨(M (m + 1) 2), ?_, ?_⟩
    · rw [if_pos rfl, hS.1.2.1]
    · rw [if_pos rfl, show ix (2 : Int32) = 2 from rfl]; rfl
  simp only [if_neg g2]
  by_cases g3 : x = 3
  · refine ⟨(frS (M (m + 1)) n), ?_, ?_⟩
    · rw [if_pos g3, freeBuses_ok hn hS, obn_s]
    · rw [if_pos g3, m_free W, obn_s]
  simp only [if_neg g3]
  by_cases g4 : x = 4
  · refine ⟨(nI (fb_ct (lvS (M (m + 1)) n k) 10)), ?_, ?_⟩
    · rw [if_pos g4, ct, obn_s]
    · rw [if_pos g4, m_liveNow W, obn_s, m_bits, obn_s]
  simp only [if_neg g4]
  by_cases g5 : x = 5
  · refine ⟨(nI (fb_ct (fun s => decide (s < n) && bS (M (m + 1)) 2 s) 10)), ?_, ?_⟩
    · rw [if_pos g5, bt 2 (Or.inl rfl), obn_s]
    · rw [if_pos g5, show (2 : Int32) = nI 2 from rfl, bm 2 (Or.inl rfl), obn_s, m_bits, obn_s]
  simp only [if_neg g5]
  by_cases g6 : x = 6
  · refine ⟨(nI (fb_ct (fun s => decide (s < n) && bS (M (m + 1)) 4 s) 10)), ?_, ?_⟩
    · rw [if_pos g6, bt 4 (Or.inr rfl), obn_s]
    · rw [if_pos g6, show (4 : Int32) = nI 4 from rfl, bm 4 (Or.inr rfl), obn_s, m_bits, obn_s]
  simp only [if_neg g6]
  by_cases g7 : x = 7
  · refine ⟨(sumI (fun s => aO (M (m + 1)) s 7) n), ?_, ?_⟩
    · rw [if_pos g7, allTools_ok hn hS, obn_s]
    · rw [if_pos g7, m_toolsLeft W, obn_s]
  simp only [if_neg g7]
  by_cases g8 : x = 8
  · refine ⟨(M (m + 1) 3), ?_, ?_⟩
    · rw [if_pos g8, hS.1.1]
    · rw [if_pos g8, show ix (3 : Int32) = 3 from rfl]; rfl
  simp only [if_neg g8]
  by_cases g9 : x = 9
  · refine ⟨(M (m + 1) 4), ?_, ?_⟩
    · rw [if_pos g9, h1.2.2.2.1.1]
    · rw [if_pos g9, show ix (4 : Int32) = 4 from rfl]; rfl
  simp only [if_neg g9]
  by_cases g10 : x = 10
  · refine ⟨(nI q), ?_, ?_⟩
    · rw [if_pos g10, h1.2.2.2.1.2]
    · rw [if_pos g10, show ix (5 : Int32) = 5 from rfl, W.1.2.2.2.2.1]; rfl
  simp only [if_neg g10]
  by_cases g11 : x = 11
  · refine ⟨(M (m + 1) 6), ?_, ?_⟩
    · rw [if_pos g11, hS.1.2.2]
    · rw [if_pos g11, show ix (6 : Int32) = 6 from rfl]; rfl
  simp only [if_neg g11]
  by_cases g12 : x = 12
  · refine ⟨(nI (fb_ct (fun s => bS (M (m + 1)) 4 s && decide (aO (M (m + 1)) s 6 < M (m + 1) 3)) n)), ?_, ?_⟩
    · rw [if_pos g12, lateGangs_ok hn hS, obn_s]
    · rw [if_pos g12, m_lateOnes W, obn_s]
  simp only [if_neg g12]
  by_cases g13 : x = 13
  · refine ⟨(nI (fb_ct (fun s => !mtS (M (m + 1)) k s s) n)), ?_, ?_⟩
    · rw [if_pos g13, grp_ok h1, obn_s]
    · rw [if_pos g13, m_groups W, obn_s]
  simp only [if_neg g13]
  by_cases g14 : x = 14
  · refine ⟨(nI d), ?_, ?_⟩
    · rw [if_pos g14, h3.1.1]
    · rw [if_pos g14, h2]
  simp only [if_neg g14]
  by_cases g15 : x = 15
  · refine ⟨(nI z), ?_, ?_⟩
    · rw [if_pos g15, h5]
    · rw [if_pos g15, h6]
  simp only [if_neg g15]
  exact ⟨-1, rfl, rfl⟩
end S8
