/-! the two sides at the start -/
section E8
variable {M : Mm} {X : Nat}
theorem q_start (h0 : ∀ b j, X + 2 ≤ b → b < X + 24 → ¬ (b = X + 9 ∧ j = 1) → M b j = nI 0) (h12 : M (X + 9) 1 = nI 12) (hs : ∀ j, j ≠ 2 → M (X + 234) j = nI 0) (hs2 : M (X + 234) 2 = nI 12) (hh : M (X + 33) 0 = nI 0) (hp : ∀ t, t < 5 → M (X + 34) t = nI t) (ht : M (X + 195) 0 = nI 0) (hm : ∀ j, M (X + 233) j = nI 0) : Q M X (X + 233) := by
  have S0 : ∀ j, j ≠ 2 → M (X + 233 + 1) j = nI 0 := hs
  have S2 : M (X + 233 + 1) 2 = nI 12 := hs2
  refine ⟨Nat.le_refl _, ⟨0, 0, 0, ⟨⟨S0 0 (by omega), by omega, S0 1 (by omega), by omega, S0 5 (by omega), by omega⟩, fun i hi => by omega, fun s hs => by omega, fun j hj => by omega⟩,
    ⟨⟨⟨by omega, by omega, h0 _ _ (by omega) (by omega) (by omega), h0 _ _ (by omega) (by omega) (by omega)⟩, fun s hs => by omega, fun i hi => by omega⟩, ⟨fun s => s, fun s hs => by omega⟩, fun s hs => ?_⟩,
    ⟨⟨?_, ?_, ?_⟩, fun s hs => by omega, fun s h1 h2 => ⟨?_, ?_, ?_, ?_⟩⟩, ⟨⟨?_, ?_⟩, fun j hj => by omega, fun s hs => by omega, fun i hi => by omega⟩⟩, ⟨0, hm 3, ⟨hh, by omega⟩, fun t => t, fun t h => ⟨hp t h, h⟩, fun s t _ _ e => e, fun t h => by omega⟩, ⟨0, by omega, ht, hm 5, fun j hj => by omega⟩, ⟨⟨0, by omega, S0 3 (by omega)⟩, fun s hs hb => ?_⟩, fun d hd hd5 t h => ?_⟩
  · rw [h0 _ _ (by omega) (by omega) (by omega)]
    unfold nlv
    simp
    rfl
  · rw [h0 _ _ (by omega) (by omega) (by omega), S0 3 (by omega)]
  · rw [S2]; exact h12
  · rw [h0 _ _ (by omega) (by omega) (by omega), S0 6 (by omega)]
  · rw [h0 _ _ (by omega) (by omega) (by omega)]; rfl
  · rw [h0 _ _ (by omega) (by omega) (by omega)]; rfl
  · rw [h0 _ _ (by omega) (by omega) (by omega)]; rfl
  · rw [h0 _ _ (by omega) (by omega) (by omega)]
  · rw [h0 _ _ (by omega) (by omega) (by omega), S0 4 (by omega)]
  · rw [h0 _ _ (by omega) (by omega) (by omega)]
  · unfold bS aO at hb
    rw [S0 _ (by omega)] at hb
    exact absurd (of_decide_eq_true hb) (by decide)
  · rw [hm 3] at hd
    have := nI_ltI_eq hd (by omega) (by omega)
    omega
end E8
