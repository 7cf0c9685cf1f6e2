section CT9
variable {l : Launch} {w : Wp} {L : Ly} {E : Cx} {M : Mm} {lv : List (Nat × Value)} {pc : Nat} {st : List Value} {h0 sz cells slots : Nat} {P : va_W}
theorem n_dropW {a : Nat} {e : va_E} (hcell : ∀ g, L a = some g → ∀ H, va_at w.1 vwCl (a, e) H → va_at w.1 vwCl (a, g (M a)) H) (kk : GN l w L E M h0 sz P cells slots lv pc st) : GN l w L E M h0 sz (P ++ [(a, e)]) cells slots lv pc st := by
  intro H locs ls h1 h2 h3 h4 h5
  refine kk H locs ls h1 (fun k q hq => h2 k q ?_) (fun b b1 b2 b3 g hg => ?_) h4 h5
  · rw [List.getElem?_append_left (List.getElem?_eq_some_iff.mp hq).1]
    exact hq
  · by_cases c : b = a
    · subst c
      exact hcell g hg H (h2 P.length (b, e) (by rw [List.getElem?_append_right (Nat.le_refl _), Nat.sub_self]; rfl))
    · exact h3 b b1 b2 (fun x hx => by
        rcases List.mem_append.mp hx with h | h
        · exact b3 x h
        · rw [List.mem_singleton.mp h]
          exact fun z => c z.symm) g hg
theorem arrV_c {cA n : Nat} {f g : Nat → Value} (h : ∀ j, j < n → f j = g j) : some (arrV cA n f) = some (arrV cA n g) := by
  unfold arrV
  congr 2
  apply Array.ext
  · simp
  · intro i h1 h2
    simp at h1
    simp [h i h1]
def hF (h0 i : Nat) : Nat → Option Nat := fun t => if t < i then some (h0 + 2 + 32 * t) else none
theorem n_eqP {P' : va_W} (e : P = P') (k : GN l w L E M h0 sz P' cells slots lv pc st) : GN l w L E M h0 sz P cells slots lv pc st := by rw [e]; exact k
theorem k_X0 (hL : LHistory w L h0) (h00 : M h0 0 = nI 0) (hst : ∀ t, t < 5 → M (h0 + 1) t = nI t) (hM : ∀ j, j < 5 → ∀ i k, i < 32 → ¬ (i = 8 ∧ k = 1) → M (h0 + 2 + 32 * j + i) k = nI 0) (hb : ∀ j, j < 5 → M (h0 + 2 + 32 * j + 8) 1 = nI 12) : CN l w L M yX0_init cX0_init 2 3 0 [.int 0, .null] 162 2005 h0 := by
  refine CN_of (by decide +kernel) rfl (by decide) fun E cx en => ?_
  have hA : ∀ q, h0 ≤ q → xF E q := fun q h => (cx.2.2.2.2.2.2.1 q).mp h
  have ec : (xR E).cells = 161 := en.2.2.2.2.2.1
  have es : (xR E).slots = 2005 := en.2.2.2.2.2.2
  have hnm := en.2.2.2.2.1
  have D := fun (e e' : va_E) => d_two (e := e) (e' := e') (hA h0 (Nat.le_refl _)) (hA (h0 + 1) (by omega)) (show h0 ≠ h0 + 1 by omega)
  have loop : ∀ d i, i + d = 5 → GN l w L E M h0 (h0 + 2 + 32 * i) [(h0, .inr (0, [.int 0, .ref (h0 + 1)])), (h0 + 1, .inl (w.2.2.2.1, 5, .inr (.inr (.inr (.inr (hF h0 i))))))] (1 + 32 * i) (5 + 400 * i) [(1, .int (nI i)), (0, .ref h0)] 14 [] := by
    intro d
    induction d with
    | zero =>
      intro i hi
      have hi : i = 5 := by omega
      subst hi
      refine n_iload_n cx dX0_init_14 rfl 0 rfl ?_
      refine n_iconst (v := nI 5) cx dX0_init_15 (by decide) ?_
      refine n_icmp_ge (tgt := 38) cx dX0_init_16 (by decide) (fun h => absurd h (by decide)) (fun _ => ?_)
      refine n_dropW (P := [(h0, .inr (0, _))]) (a := h0 + 1) (fun g hg H hH => ?_) ?_
      · rw [LHistory_states hL] at hg
        cases hg
        show H[h0 + 1]? = some (arrV w.2.2.2.1 5 (fun k => va_rf (some (w.2.2.2.2 + 32 * ix (M (h0 + 1) k)))))
        have h7 : H[h0 + 1]? = some (arrV w.2.2.2.1 5 (fun k => va_rf (hF h0 5 k))) := hH
        rw [h7]
        refine arrV_c fun j hj => ?_
        unfold hF
        rw [if_pos hj, LHistory_b hL, hst j hj, show ix (nI j) = j from n_ix (by omega)]
      · refine n_vret cx en rfl (fun g hg => ?_) dX0_init_38
        rw [LHistory_o hL] at hg
        cases hg
        show (Sum.inr (0, fO (ksHistory h0) (M h0)) : va_E) = _
        congr 2
        refine fO_c (fun k hk => ?_) rfl
        have hk : k < 2 := hk
        match k, hk with
        | 0, _ => show some (Value.int 0) = some (Value.int (M h0 0)); rw [h00]; rfl
        | 1, _ => rfl
        | k + 2, h => omega
    | succ d ih =>
      intro i hi
      have hi5 : i < 5 := by omega
      refine n_iload_n cx dX0_init_14 rfl 0 rfl ?_
      refine n_iconst (v := nI 5) cx dX0_init_15 (by decide) ?_
      refine n_icmp_ge (tgt := 38) cx dX0_init_16 (by decide) (fun _ => ?_) (fun h => absurd (by rw [n_lt (by omega) (by omega)]; exact hi5) h)
      refine n_aload_n cx dX0_init_19 rfl 1 rfl ?_
      refine n_getR (v := .ref (h0 + 1)) cx (ci := 0) rfl in_X0 0 rfl 1 (by decide) tf_X0_11 rfl rfl dX0_init_20 ?_
      refine n_iload_n cx dX0_init_23 rfl 0 rfl ?_
      refine n_newN cx (ci := 7) rfl in_X7 tyX7 tyX7_ok cl_X0_9 ins_X7 ini_X7 df_X7 (k_X7 (LHistory_w hL i hi5) (hM i hi5) (hb i hi5)) tn_X0_17 im_X7 ini_X7 co_X7 (by decide) rfl (by decide) (by decide) (by omega) (by omega) (lt_two (by omega) (by omega)) (by omega) (by omega) (Nat.le_of_ble_eq_true rfl) dX0_init_24 dX0_init_27 dX0_init_28 ?_
      refine n_aast cx (a := h0 + 1) (D _ _) 1 rfl (LWires_o (LHistory_w hL i hi5)) (by omega) (by omega) (fun x hx => by
        rcases List.mem_cons.mp hx with rfl | hx
        · show h0 ≠ _; omega
        · rw [List.mem_singleton.mp hx]; show h0 + 1 ≠ _; omega) (i := nI i) (fun h => by
        rcases h with h | h
        · rw [show (0 : Int32) = nI 0 from rfl, n_lt (by omega) (by omega)] at h; omega
        · rw [show (nI i).toNatClampNeg = i from n_ix (by omega)] at h; omega) dX0_init_31 ?_
      refine n_iinc (v := nI (i + 1)) cx [(1, .int (nI (i + 1))), (0, .ref h0)] dX0_init_32 0 rfl (by rw [show Int32.ofInt 1 = nI 1 from by decide, nI_add]) (by decide) rfl ?_
      refine n_goto (tgt := 14) cx dX0_init_35 (by decide) ?_
      have := ih (i + 1) (by omega)
      rw [show h0 + 2 + 32 * i + 32 = h0 + 2 + 32 * (i + 1) by omega, show 1 + 32 * i + 1 + (32 - 1) = 1 + 32 * (i + 1) by omega, show 5 + 400 * i + 5 + 395 = 5 + 400 * (i + 1) by omega]
      have e : va_up (hF h0 i) (nI i).toNatClampNeg (some (h0 + 2 + 32 * i)) = hF h0 (i + 1) := by
        rw [show (nI i).toNatClampNeg = i from n_ix (by omega)]
        funext t
        unfold va_up hF
        by_cases c : t = i
        · rw [if_pos c, if_pos (by omega), c]
        · rw [if_neg c]
          by_cases c2 : t < i
          · rw [if_pos c2, if_pos (by omega)]
          · rw [if_neg c2, if_neg (by omega)]
      rw [e]
      exact this
  refine n_aload_n cx dX0_init_0 rfl 0 rfl ?_
  refine n_obj cx ob_X0 ob_i ob_c (by decide) dX0_init_1 ?_ (by decide)
  refine n_aload_n cx dX0_init_4 rfl 0 rfl ?_
  refine n_iconst (v := nI 5) cx dX0_init_5 (by decide) ?_
  refine n_anew (x := nI 5) (N := 5) cx cl_X0_9 (by decide) (by decide) (by decide) (by omega) (by omega) (by omega) (lt_one (by omega)) dX0_init_6 ?_
  refine n_putF (v := .ref (h0 + 1)) (ty := .array (.object RX7)) cx (ci := 0) rfl in_X0 tyX0 tyX0_ok nmX0 (D _ _) 0 rfl 1 (by decide) tf_X0_11 rfl rfl hnm rfl (by decide +kernel) rfl rfl (by show _ < 2; decide) dX0_init_9 ?_
  refine n_iconst (v := nI 0) cx dX0_init_12 (by decide) ?_
  refine n_istore_n cx [(1, .int (nI 0)), (0, .ref h0)] dX0_init_13 rfl (by decide) rfl ?_
  refine n_eqP ?_ (loop 5 0 (by omega))
  rfl
end CT9
