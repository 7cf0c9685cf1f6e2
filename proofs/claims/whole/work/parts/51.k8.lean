section CT8
variable {l : Launch} {w : Wp} {L : Ly} {M : Mm} {h0 : Nat}
theorem d_two {a b : Nat} {e e' : va_E} {A : Nat → Prop} (h : A a) (h' : A b) (hne : a ≠ b) : va_D A [(a, e), (b, e')] := ⟨fun i j p q h1 h2 h3 => by
    have a1 := (List.getElem?_eq_some_iff.mp h1).1
    have a2 := (List.getElem?_eq_some_iff.mp h2).1
    simp at a1 a2
    match i, j, h1, h2 with
    | 0, 0, _, _ => rfl
    | 1, 1, _, _ => rfl
    | 0, 1, h1, h2 => cases h1; cases h2; exact absurd h3 hne
    | 1, 0, h1, h2 => cases h1; cases h2; exact absurd h3.symm hne
    | i + 2, _, _, _ => omega
    | 0, j + 2, _, _ => omega
    | 1, j + 2, _, _ => omega, fun k q hq => by
    match k, hq with
    | 0, hq => cases hq; exact h
    | 1, hq => cases hq; exact h'
    | k + 2, hq => simp at hq⟩
theorem lt_two {a b sz : Nat} {e e' : va_E} (h : a < sz) (h' : b < sz) : ∀ x ∈ [(a, e), (b, e')], x.1 < sz := fun x hx => by
  rcases List.mem_cons.mp hx with rfl | hx
  · exact h
  · rw [List.mem_singleton.mp hx]; exact h'
theorem df_X9 : ∀ j, j < 13 → defaultValue (tyX9 j) = vp_V [.null, .null, .null, .int 0, .null, .int 0, .null, .int 0, .int 0, .int 0, .int 0, .int 0, .int 0] j := fun j hj => by
  match j, hj with
  | 0, _ => rfl
  | 1, _ => rfl
  | 2, _ => rfl
  | 3, _ => rfl
  | 4, _ => rfl
  | 5, _ => rfl
  | 6, _ => rfl
  | 7, _ => rfl
  | 8, _ => rfl
  | 9, _ => rfl
  | 10, _ => rfl
  | 11, _ => rfl
  | 12, _ => rfl
  | j + 13, h => omega
/-- a row under way passes the later ones by: its place among the cells under way stays -/
theorem k_X9 (hL : LTramWiresModel w L h0) (hM : ∀ i j, i < 6 → ¬ (i = 1 ∧ j = 2) → M (h0 + i) j = nI 0) (hb : M (h0 + 1) 2 = nI 12) : CN l w L M yX9_init cX9_init 1 1 9 [.null, .null, .null, .int 0, .null, .int 0, .null, .int 0, .int 0, .int 0, .int 0, .int 0, .int 0] 6 1710 h0 := by
  refine CN_of (by decide +kernel) rfl (Nat.le_refl _) fun E cx en => ?_
  have hA : ∀ q, h0 ≤ q → xF E q := fun q h => (cx.2.2.2.2.2.2.1 q).mp h
  have ec : (xR E).cells = 5 := en.2.2.2.2.2.1
  have es : (xR E).slots = 1710 := en.2.2.2.2.2.2
  have hnm := en.2.2.2.2.1
  have D := fun (e e' : va_E) => d_two (e := e) (e' := e') (hA h0 (Nat.le_refl _)) (hA (h0 + 1) (by omega)) (show h0 ≠ h0 + 1 by omega)
  refine n_aload_n cx dX9_init_0 rfl 0 rfl ?_
  refine n_obj cx ob_X9 ob_i ob_c (by decide) dX9_init_1 ?_ (by decide)
  refine n_aload_n cx dX9_init_4 rfl 0 rfl ?_
  refine n_sipush (v := nI 233) cx dX9_init_5 (by decide) ?_
  refine n_newaP (x := nI 233) (N := 233) cx ar_I (by decide) (by decide) (by decide) (by omega) (by omega) (by omega) (lt_one (by omega)) dX9_init_8 ?_
  refine n_putF (v := .ref (h0 + 1)) (ty := .array .int) cx (ci := 9) rfl in_X9 tyX9 tyX9_ok nmX9 (D _ _) 0 rfl 0 (by decide) tf_X9_7 rfl rfl hnm rfl (by decide +kernel) rfl rfl (by show _ < 13; decide) dX9_init_10 ?_
  refine n_aload_n cx dX9_init_13 rfl 0 rfl ?_
  refine n_sipush (v := nI 1165) cx dX9_init_14 (by decide) ?_
  refine n_newa (x := nI 1165) (N := 1165) cx (atype := .int) ar_I (by decide) (by decide) (by decide) (by omega) (by omega) (by omega) (lt_two (by omega) (by omega)) (ce_I cx (LTramWiresModel_past hL) (fun j => hM 2 j (by omega) (by omega))) dX9_init_17 ?_
  refine n_putF (v := .ref (h0 + 2)) (ty := .array .int) cx (ci := 9) rfl in_X9 tyX9 tyX9_ok nmX9 (D _ _) 0 rfl 1 (by decide) tf_X9_13 rfl rfl hnm rfl (by decide +kernel) rfl rfl (by show _ < 13; decide) dX9_init_19 ?_
  refine n_aload_n cx dX9_init_22 rfl 0 rfl ?_
  refine n_sipush (v := nI 233) cx dX9_init_23 (by decide) ?_
  refine n_newa (x := nI 233) (N := 233) cx (atype := .int) ar_I (by decide) (by decide) (by decide) (by omega) (by omega) (by omega) (lt_two (by omega) (by omega)) (ce_I cx (LTramWiresModel_aside hL) (fun j => hM 3 j (by omega) (by omega))) dX9_init_26 ?_
  refine n_putF (v := .ref (h0 + 3)) (ty := .array .int) cx (ci := 9) rfl in_X9 tyX9 tyX9_ok nmX9 (D _ _) 0 rfl 2 (by decide) tf_X9_16 rfl rfl hnm rfl (by decide +kernel) rfl rfl (by show _ < 13; decide) dX9_init_28 ?_
  refine n_aload_n cx dX9_init_31 rfl 0 rfl ?_
  refine n_bipush (v := nI 60) cx dX9_init_32 (by decide) ?_
  refine n_newa (x := nI 60) (N := 60) cx (atype := .int) ar_I (by decide) (by decide) (by decide) (by omega) (by omega) (by omega) (lt_two (by omega) (by omega)) (ce_I cx (LTramWiresModel_text hL) (fun j => hM 4 j (by omega) (by omega))) dX9_init_34 ?_
  refine n_putF (v := .ref (h0 + 4)) (ty := .array .int) cx (ci := 9) rfl in_X9 tyX9 tyX9_ok nmX9 (D _ _) 0 rfl 4 (by decide) tf_X9_19 rfl rfl hnm rfl (by decide +kernel) rfl rfl (by show _ < 13; decide) dX9_init_36 ?_
  refine n_aload_n cx dX9_init_39 rfl 0 rfl ?_
  refine n_bipush (v := nI 19) cx dX9_init_40 (by decide) ?_
  refine n_newa (x := nI 19) (N := 19) cx (atype := .int) ar_I (by decide) (by decide) (by decide) (by omega) (by omega) (by omega) (lt_two (by omega) (by omega)) (ce_I cx (LTramWiresModel_row hL) (fun j => hM 5 j (by omega) (by omega))) dX9_init_42 ?_
  refine n_putF (v := .ref (h0 + 5)) (ty := .array .int) cx (ci := 9) rfl in_X9 tyX9 tyX9_ok nmX9 (D _ _) 0 rfl 6 (by decide) tf_X9_22 rfl rfl hnm rfl (by decide +kernel) rfl rfl (by show _ < 13; decide) dX9_init_44 ?_
  refine n_aload_n cx dX9_init_47 rfl 0 rfl ?_
  refine n_getR (v := .ref (h0 + 1)) cx (ci := 9) rfl in_X9 0 rfl 0 (by decide) tf_X9_7 rfl rfl dX9_init_48 ?_
  refine n_iconst (v := nI 2) cx dX9_init_51 (by decide) ?_
  refine n_bipush (v := nI 12) cx dX9_init_52 (by decide) ?_
  refine n_iast cx (a := h0 + 1) (D _ _) 1 rfl (i := nI 2) (x := nI 12) (fun h => by rcases h with h | h <;> revert h <;> decide) dX9_init_54 ?_
  refine n_drop (P := [(h0, .inr (9, _))]) (a := h0 + 1) (fun g hg => ?_) ?_
  · rw [LTramWiresModel_st hL] at hg
    cases hg
    show (Sum.inl (w.2.1, 233, .inl (M (h0 + 1))) : va_E) = _
    congr 3
    show Sum.inl (M (h0 + 1)) = Sum.inl _
    congr 1
    funext j
    by_cases e : j = 2
    · subst e
      rw [hb]
      rfl
    · rw [hM 1 j (by omega) (by omega)]
      show nI 0 = upd (fun _ => 0) 2 (nI 12) j
      rw [upd_n e]
      rfl
  · refine n_vret cx en rfl (fun g hg => ?_) dX9_init_55
    rw [LTramWiresModel_o hL] at hg
    cases hg
    show (Sum.inr (9, fO (ksTramWiresModel h0) (M h0)) : va_E) = _
    congr 2
    have z : ∀ j, some (Value.int 0) = some (Value.int (M h0 j)) := fun j => by rw [show M h0 j = nI 0 from hM 0 j (by omega) (by omega)]; rfl
    refine fO_c (fun k hk => ?_) rfl
    have hk : k < 13 := hk
    match k, hk with
    | 0, _ => rfl
    | 1, _ => rfl
    | 2, _ => rfl
    | 3, _ => exact z 3
    | 4, _ => rfl
    | 5, _ => exact z 5
    | 6, _ => rfl
    | 7, _ => exact z 7
    | 8, _ => exact z 8
    | 9, _ => exact z 9
    | 10, _ => exact z 10
    | 11, _ => exact z 11
    | 12, _ => exact z 12
    | k + 13, h => omega
end CT8
