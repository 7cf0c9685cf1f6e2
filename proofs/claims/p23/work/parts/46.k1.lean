/-! walks of constructors: cells under way in a list, the rest as the layout has them -/
def GN (l : Launch) (w : Wp) (L : Ly) (E : Cx) (M : Mm) (h0 sz : Nat) (P : va_W) (cells slots : Nat) (lv : List (Nat × Value)) (pc : Nat) (st : List Value) : Prop :=
  ∀ (H : Heap) (locs : List Loc) (ls : Array Slot), H.size = sz → va_P w.1 vwCl P H → (∀ a, h0 ≤ a → a < sz → (∀ x ∈ P, x.1 ≠ a) → ∀ g, L a = some g → va_at w.1 vwCl (a, g (M a)) H) → va_S (xF E) (xS E).heap H locs → lv_has ls (xC E).maxLocals lv →
    W (xP E) l (xE E) (xR E) (xS E) (xM E) (xA E) (xB E) (xY E) (xC E) H locs cells slots (xQ E) (F0 (xM E) pc ls st)
/-- a constructor's surroundings -/
def OkN (w : Wp) (E : Cx) (own : String) (cc : ByteArray) (maxL n h0 : Nat) : Prop :=
  (xP E).tables.exec = Jvm.exec ∧ (xC E).code = cc ∧ (xC E).maxLocals = maxL ∧ (xS E).vm.findClass own = some (xM E).cls ∧ (∀ w ∈ TB, w.before (xA E) (xS E) = true) ∧ KK w (xS E) ∧
  (∀ q, h0 ≤ q ↔ xF E q) ∧ n ≤ (xR E).frames ∧ 32 * n ≤ (xR E).locals ∧ h0 ≤ (xS E).heap.size ∧ va_AO RX7 (xS E)
section GN
variable {l : Launch} {w : Wp} {L : Ly} {E : Cx} {M : Mm} {lv : List (Nat × Value)} {pc : Nat} {st : List Value} {own : String} {cc : ByteArray} {maxL n : Nat} {h0 sz cells slots : Nat} {P : va_W}
theorem n_iconst (cx : OkN w E own cc maxL n h0) {i : Int} {v : Int32} (hd : decode cc pc = .ok (.iconst i, 1)) (hv : Int32.ofInt i = v) (k : GN l w L E M h0 sz P cells slots lv (pc + 1) (.int v :: st)) : GN l w L E M h0 sz P cells slots lv pc st :=
  fun H locs ls h1 h2 h3 h4 h5 => lv_iconst cx.1 cx.2.1 hd hv (k H locs ls h1 h2 h3 h4 h5)
theorem n_bipush (cx : OkN w E own cc maxL n h0) {i : Int} {v : Int32} (hd : decode cc pc = .ok (.bipush i, 2)) (hv : (Int8.ofInt i).toInt32 = v) (k : GN l w L E M h0 sz P cells slots lv (pc + 2) (.int v :: st)) : GN l w L E M h0 sz P cells slots lv pc st :=
  fun H locs ls h1 h2 h3 h4 h5 => lv_bipush cx.1 cx.2.1 hd hv (k H locs ls h1 h2 h3 h4 h5)
theorem n_sipush (cx : OkN w E own cc maxL n h0) {i : Int} {v : Int32} (hd : decode cc pc = .ok (.sipush i, 3)) (hv : (Int16.ofInt i).toInt32 = v) (k : GN l w L E M h0 sz P cells slots lv (pc + 3) (.int v :: st)) : GN l w L E M h0 sz P cells slots lv pc st :=
  fun H locs ls h1 h2 h3 h4 h5 => lv_sipush cx.1 cx.2.1 hd hv (k H locs ls h1 h2 h3 h4 h5)
theorem n_aload_n (cx : OkN w E own cc maxL n h0) {j : Fin 4} {i : Nat} {x : Nat} (hd : decode cc pc = .ok (.aload_n j, 1)) (hi : (j : Nat) = i) (p : Nat) (hp : lv[p]? = some (i, .ref x)) (k : GN l w L E M h0 sz P cells slots lv (pc + 1) (.ref x :: st)) : GN l w L E M h0 sz P cells slots lv pc st :=
  fun H locs ls h1 h2 h3 h4 h5 => lv_aload_n cx.1 cx.2.1 hd hi (lv_at h5 p hp) (k H locs ls h1 h2 h3 h4 h5)
theorem n_iload_n (cx : OkN w E own cc maxL n h0) {j : Fin 4} {i : Nat} {x : Int32} (hd : decode cc pc = .ok (.iload_n j, 1)) (hi : (j : Nat) = i) (p : Nat) (hp : lv[p]? = some (i, .int x)) (k : GN l w L E M h0 sz P cells slots lv (pc + 1) (.int x :: st)) : GN l w L E M h0 sz P cells slots lv pc st :=
  fun H locs ls h1 h2 h3 h4 h5 => lv_iload_n cx.1 cx.2.1 hd hi (lv_at h5 p hp) (k H locs ls h1 h2 h3 h4 h5)
theorem n_istore_n (cx : OkN w E own cc maxL n h0) {j : Fin 4} {i : Nat} {x : Int32} (lv' : List (Nat × Value)) (hd : decode cc pc = .ok (.istore_n j, 1)) (hi : (j : Nat) = i) (hn : i < maxL) (hl : (i, Value.int x) :: lv.filter (fun q => !(q.1 == i) && !(q.1 + 1 == i && q.2.category == 2)) = lv') (k : GN l w L E M h0 sz P cells slots lv' (pc + 1) st) : GN l w L E M h0 sz P cells slots lv pc (.int x :: st) :=
  fun H locs _ h1 h2 h3 h4 h5 => lv_istore_n cx.1 cx.2.1 hd hi h5 (by rw [cx.2.2.1]; exact hn) hl (fun ls h => k H locs ls h1 h2 h3 h4 h)
theorem n_goto (cx : OkN w E own cc maxL n h0) {off : Int} {tgt : Nat} (hd : decode cc pc = .ok (.goto off, 3)) (ht : (pc : Int) + off = (tgt : Int)) (k : GN l w L E M h0 sz P cells slots lv tgt st) : GN l w L E M h0 sz P cells slots lv pc st :=
  fun H locs ls h1 h2 h3 h4 h5 => lv_goto cx.1 cx.2.1 hd ht (k H locs ls h1 h2 h3 h4 h5)
/-- behind a cell's change -/
theorem n_keep {H H1 : Heap} {Q : va_W} (h3 : ∀ a, h0 ≤ a → a < sz → (∀ x ∈ P, x.1 ≠ a) → ∀ g, L a = some g → va_at w.1 vwCl (a, g (M a)) H) (e : ∀ a, h0 ≤ a → a < sz → (∀ x ∈ Q, x.1 ≠ a) → (∀ x ∈ P, x.1 ≠ a) ∧ H1[a]? = H[a]?) : ∀ a, h0 ≤ a → a < sz → (∀ x ∈ Q, x.1 ≠ a) → ∀ g, L a = some g → va_at w.1 vwCl (a, g (M a)) H1 := by
  intro a h1 h2 h4 g hg
  obtain ⟨e1, e2⟩ := e a h1 h2 h4
  have h5 := h3 a h1 h2 e1 g hg
  unfold va_at at h5 ⊢
  split
  · rename_i x hx
    rw [hx] at h5
    show H1[a]? = _
    rw [e2]
    exact h5
  · rename_i x hx
    rw [hx] at h5
    obtain ⟨r, r1, r2⟩ := h5
    exact ⟨r, r1, r2.kept e2⟩
/-- a new row of ints or flags, done as soon as it is there -/
theorem n_newa (cx : OkN w E own cc maxL n h0) {atype : ArrayType} (harr : Cond.arrayClass (newarray.typeOf atype) ∈ TB) {x : Int32} {N : Nat} (hx : ¬ x < 0) (hN : x.toNatClampNeg = N) (hb : N * componentBytes (newarray.typeOf atype) ≤ 536870912) (hc : cells + 1 ≤ (xR E).cells) (hs : slots + N ≤ (xR E).slots)
    (hz : h0 ≤ sz) (hP : ∀ x ∈ P, x.1 < sz) (hcell : ∀ g, L sz = some g → ∀ cA : ClassId, (xS E).vm.findClass ("[" ++ (newarray.typeOf atype).toString) = some cA → ∃ a0, g (M sz) = .inl (cA, a0) ∧ vp_cell cA a0 = arrV cA N (fun _ => defaultValue (newarray.typeOf atype)))
    (hd : decode cc pc = .ok (.newarray atype, 2)) (k : GN l w L E M h0 (sz + 1) P (cells + 1) (slots + N) lv (pc + 2) (.ref sz :: st)) : GN l w L E M h0 sz P cells slots lv pc (.int x :: st) := by
  intro H locs ls h1 h2 h3 h4 h5
  refine va_newaK cx.1 cx.2.1 (cx.2.2.2.2.1 _ harr) rfl hd rfl hx hN hb hc hs h1 fun H1 cA e1 z1 o1 hAr hNm => ?_
  refine k H1 locs ls z1 (fun j q hq => ?_) (fun a a1 a2 a3 g hg => ?_) ⟨by rw [z1]; have := h4.1; omega, fun q q1 q2 => ?_, h4.2.2⟩ h5
  · have hm := hP q (List.mem_of_getElem? hq)
    have h6 := h2 j q hq
    unfold va_at at h6 ⊢
    split
    · rename_i y hy
      rw [hy] at h6
      show H1[q.1]? = _
      rw [o1 _ hm]
      exact h6
    · rename_i y hy
      rw [hy] at h6
      obtain ⟨r, r1, r2⟩ := h6
      exact ⟨r, r1, r2.kept (o1 _ hm)⟩
  · by_cases e : a = sz
    · subst e
      obtain ⟨a0, c1, c2⟩ := hcell g hg cA hNm
      rw [c1]
      show H1[a]? = some (vp_cell cA a0)
      rw [c2]
      exact e1
    · have h6 := h3 a a1 (by omega) a3 g hg
      unfold va_at at h6 ⊢
      split
      · rename_i y hy
        rw [hy] at h6
        show H1[a]? = _
        rw [o1 _ (by omega)]
        exact h6
      · rename_i y hy
        rw [hy] at h6
        obtain ⟨r, r1, r2⟩ := h6
        exact ⟨r, r1, r2.kept (o1 _ (by omega))⟩
  · have h7 := h4.1
    rw [o1 q (by omega)]
    exact h4.2.1 q q1 q2
end GN
