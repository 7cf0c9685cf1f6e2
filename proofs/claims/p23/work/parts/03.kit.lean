/-! A flat memory over the kit's worlds: an address has a shape that never changes (its layout), and contents Nat → Int32.
Every method but the constructors is walked against a function of this memory; what the heap has beside is framed. -/
abbrev Mm : Type := Nat → Nat → Int32
abbrev Ly : Type := Nat → Option ((Nat → Int32) → va_E)
/-- of a world: the class tables; the classes of int[], boolean[], Wires[]; the base of the history's wires -/
abbrev Wp : Type := va_G × ClassId × ClassId × ClassId × Nat
def mst (M : Mm) (a i : Nat) (v : Int32) : Mm := fun b => if b = a then upd (M b) i v else M b
def mrow (M : Mm) (a : Nat) (f : Nat → Int32) : Mm := fun b => if b = a then f else M b
abbrev ix (i : Int32) : Nat := i.toNatClampNeg
def zb (x : Int32) : Int32 := x &&& 1
def gI (w : Wp) (n : Nat) : (Nat → Int32) → va_E := fun f => .inl (w.2.1, n, .inl f)
def gZ (w : Wp) (n : Nat) : (Nat → Int32) → va_E := fun f => .inl (w.2.2.1, n, .inl (fun k => zb (f k)))
def gR (w : Wp) (n : Nat) : (Nat → Int32) → va_E := fun f => .inl (w.2.2.2.1, n, .inr (.inr (.inr (.inr (fun k => some (w.2.2.2.2 + 32 * ix (f k)))))))
def fV (o : Option Nat) (x : Int32) : Value := match o with
  | none => .int x
  | some r => .ref r
def fO (ks : List (Option Nat)) (f : Nat → Int32) : List Value := (List.range ks.length).map (fun k => fV (ks.getD k none) (f k))
def gO (ci : Nat) (ks : List (Option Nat)) : (Nat → Int32) → va_E := fun f => .inr (ci, fO ks f)
theorem fO_len (ks : List (Option Nat)) (f : Nat → Int32) : (fO ks f).length = ks.length := by simp [fO]
theorem fO_get {ks : List (Option Nat)} {f : Nat → Int32} {k : Nat} (h : k < ks.length) : (fO ks f)[k]? = some (fV (ks.getD k none) (f k)) := by
  unfold fO
  rw [List.getElem?_map, List.getElem?_range h]
  rfl
theorem fO_set {ks : List (Option Nat)} {f : Nat → Int32} {k : Nat} (hk : ks.getD k none = none) (v : Int32) : fO ks (upd f k v) = (fO ks f).set k (.int v) := by
  apply List.ext_getElem?
  intro j
  by_cases hj : j < ks.length
  · rw [fO_get hj]
    by_cases hjk : j = k
    · subst hjk
      rw [List.getElem?_set_self (by rw [fO_len]; exact hj), hk]
      simp [fV, upd]
    · rw [List.getElem?_set_ne (Ne.symm hjk), fO_get hj]
      simp [upd, hjk]
  · rw [List.getElem?_eq_none (by rw [fO_len]; omega), List.getElem?_eq_none (by rw [List.length_set, fO_len]; omega)]
def tysW (w : Wp) : List (ClassId × FieldType) := [(w.2.1, .int), (w.2.2.1, .boolean), (w.2.2.2.1, .object RX7)]
def KK (w : Wp) (U : State) : Prop := va_K w.1 vwCl (tysW w) U ∧ ∀ q ∈ nwL, va_Nw q U
theorem nw_is {q : Cond} (h : q ∈ nwL) : ∃ (a : String) (i : Nat) (x : MethodName) (b : String), q = .methodLinkNest a i x b := by
  have h1 := List.all_eq_true.mp nw_all q h
  cases q <;> first | exact ⟨_, _, _, _, rfl⟩ | cases h1
theorem KK.warm {w : Wp} {s U : State} (hW : s.WarmedH U.vm) (h : KK w s) : KK w U := by
  refine ⟨va_K.moved hW.alike h.1, fun q hq => ?_⟩
  have h2 := h.2 q hq
  obtain ⟨a, i, x, b, rfl⟩ := nw_is hq
  exact va_Nw.warmM hW h2
theorem KK.same {w : Wp} {u U : State} (hv : u.vm = U.vm) (h : KK w u) : KK w U := by
  refine ⟨va_K.moved (by rw [hv]; exact Vm.Alike.refl U.vm) h.1, fun q hq => ?_⟩
  have h2 := h.2 q hq
  obtain ⟨a, i, x, b, rfl⟩ := nw_is hq
  exact va_Nw.same rfl hv h2
def HM (w : Wp) (L : Ly) (M : Mm) (H : Heap) : Prop := ∀ (a : Nat) (g : (Nat → Int32) → va_E), L a = some g → va_at w.1 vwCl (a, g (M a)) H
def dm (L : Ly) : Nat → Prop := fun q => L q ≠ none
def rmL (n : Nat) : Room := { frames := n, cells := 0, slots := 0, locals := 32 * n }
/-- a walk's surroundings: program, environment, room, start, method, arguments, frames below, the method, its code, the cells that it may write, cells and slots so far, its end -/
abbrev Cx : Type := Program × Env × Room × State × MethodId × Array Value × List Frame × Method × Code × (Nat → Prop) × Nat × Nat × (State → Prop)
abbrev xP (E : Cx) : Program := E.1
abbrev xE (E : Cx) : Env := E.2.1
abbrev xR (E : Cx) : Room := E.2.2.1
abbrev xS (E : Cx) : State := E.2.2.2.1
abbrev xM (E : Cx) : MethodId := E.2.2.2.2.1
abbrev xA (E : Cx) : Array Value := E.2.2.2.2.2.1
abbrev xB (E : Cx) : List Frame := E.2.2.2.2.2.2.1
abbrev xY (E : Cx) : Method := E.2.2.2.2.2.2.2.1
abbrev xC (E : Cx) : Code := E.2.2.2.2.2.2.2.2.1
abbrev xF (E : Cx) : Nat → Prop := E.2.2.2.2.2.2.2.2.2.1
abbrev xN (E : Cx) : Nat := E.2.2.2.2.2.2.2.2.2.2.1
abbrev xT (E : Cx) : Nat := E.2.2.2.2.2.2.2.2.2.2.2.1
abbrev xQ (E : Cx) : State → Prop := E.2.2.2.2.2.2.2.2.2.2.2.2
/-- from here, with memory M, locals lv, stack st, the walk comes to its end -/
def G (l : Launch) (w : Wp) (L : Ly) (E : Cx) (M : Mm) (lv : List (Nat × Value)) (pc : Nat) (st : List Value) : Prop :=
  ∀ (H : Heap) (locs : List Loc) (ls : Array Slot), HM w L M H → va_S (xF E) (xS E).heap H locs → lv_has ls (xC E).maxLocals lv →
    W (xP E) l (xE E) (xR E) (xS E) (xM E) (xA E) (xB E) (xY E) (xC E) H locs (xN E) (xT E) (xQ E) (F0 (xM E) pc ls st)
def Ok (w : Wp) (L : Ly) (E : Cx) (own : String) (cc : ByteArray) (maxL : Nat) (n : Nat) : Prop :=
  (xP E).tables.exec = Jvm.exec ∧ (xC E).code = cc ∧ (xC E).maxLocals = maxL ∧ (xS E).vm.findClass own = some (xM E).cls ∧ (∀ w ∈ TB, w.before (xA E) (xS E) = true) ∧ KK w (xS E) ∧
  (∀ q, L q ≠ none → xF E q) ∧ n ≤ (xR E).frames ∧ 32 * n ≤ (xR E).locals ∧ xN E ≤ (xR E).cells ∧ xT E ≤ (xR E).slots
def QR (w : Wp) (L : Ly) (rt : Option FieldType) (R0 : Int32 × Mm) : Array Value → State → Outcome → State → Prop := fun _ st oc t =>
  oc = .returned (rt.map fun _ => .int R0.1) ∧ HM w L R0.2 t.heap ∧ va_F (dm L) st t
/-- the end of a method that comes to R0 -/
def En (w : Wp) (L : Ly) (E : Cx) (rt : Option FieldType) (R0 : Int32 × Mm) : Prop :=
  xQ E = MQ (xB E) (QR w L rt R0) (xA E) (xS E) (xN E) (xT E) (dm L) ∧ xF E = dm L ∧ (xY E).sig.returnType = rt ∧ (xY E).locks = false
def CT (l : Launch) (w : Wp) (L : Ly) (y : MethodName) (cc : ByteArray) (maxL : Nat) (ret : Option FieldType) (n : Nat) (av : List Value) (M : Mm) (R0 : Int32 × Mm) : Prop :=
  Met l y (Cond.code y cc maxL ret :: TB) (rmL n) (va_Pc av (fun U => HM w L M U.heap ∧ KK w U)) (QR w L ret R0) 0 0 (dm L)
/-- the functions' words: checks, names, calls -/
abbrev OQ (β : Type) : Type := Option (β × Mm)
abbrev OR : Type := OQ Int32
def ckd (i : Int32) (m : Nat) (A : OR) : OR := if i < 0 ∨ m ≤ ix i then none else A
def bnd {α β : Type} (v : α) (k : α → OQ β) : OQ β := k v
def obn {α β : Type} (x : OQ α) (k : α → Mm → OQ β) : OQ β := match x with
  | none => none
  | some q => k q.1 q.2
def cpk (sp dp n : Int32) (n0 n1 : Nat) (A : OR) : OR := if sp < 0 ∨ dp < 0 ∨ n < 0 ∨ n0 < ix sp + ix n ∨ n1 < ix dp + ix n then none else A
def dvk (y : Int32) (A : OR) : OR := if y = 0 then none else A
theorem ckd_in {i : Int32} {m : Nat} {A : OR} {R0 : Int32 × Mm} (h : ckd i m A = some R0) : vp_in i m ∧ A = some R0 := by
  unfold ckd at h
  split at h
  · cases h
  · rename_i q
    exact ⟨q, h⟩
theorem obn_some {α β : Type} {x : OQ α} {k : α → Mm → OQ β} {R0 : β × Mm} (h : obn x k = some R0) : ∃ q, x = some q ∧ k q.1 q.2 = some R0 := by
  cases x with
  | none => cases h
  | some q => exact ⟨q, rfl, h⟩
theorem mst_at (M : Mm) (a i : Nat) (v : Int32) : mst M a i v a = upd (M a) i v := by simp [mst]
theorem mst_ne {M : Mm} {a i : Nat} {v : Int32} {b : Nat} (h : b ≠ a) : mst M a i v b = M b := by simp [mst, h]
theorem mrow_at (M : Mm) (a : Nat) (f : Nat → Int32) : mrow M a f a = f := by simp [mrow]
theorem mrow_ne {M : Mm} {a : Nat} {f : Nat → Int32} {b : Nat} (h : b ≠ a) : mrow M a f b = M b := by simp [mrow, h]
theorem HM.put {w : Wp} {L : Ly} {M : Mm} {H H1 : Heap} {a : Nat} {g : (Nat → Int32) → va_E} {f : Nat → Int32} (h : HM w L M H) (hL : L a = some g) (he : va_at w.1 vwCl (a, g f) H1) (oq : ∀ q : Nat, q ≠ a → H1[q]? = H[q]?) : HM w L (mrow M a f) H1 := by
  intro b g' hb
  by_cases hba : b = a
  · subst hba
    rw [hL] at hb
    cases hb
    rw [mrow_at]
    exact he
  · rw [mrow_ne hba]
    exact (h b g' hb).kept (oq b hba)
theorem mst_row (M : Mm) (a i : Nat) (v : Int32) : mst M a i v = mrow M a (upd (M a) i v) := by
  funext b
  by_cases h : b = a
  · subst h; simp [mst, mrow]
  · simp [mst, mrow, h]
theorem KK.u {w : Wp} {U : State} (h : KK w U) {ci : Nat} {q : vw_C} (hc : vwCl[ci]? = some q) : u_Kn U q.1 q.2.1 q.2.2 (w.1.1 ci) (w.1.2 ci) := h.1.1 ci q hc
theorem KK.i {w : Wp} {U : State} (h : KK w U) : ArrOfT U w.2.1 .int ∧ va_RA U w.2.1 .int := h.1.2 0 _ rfl
theorem KK.z {w : Wp} {U : State} (h : KK w U) : ArrOfT U w.2.2.1 .boolean ∧ va_RA U w.2.2.1 .boolean := h.1.2 1 _ rfl
theorem KK.r {w : Wp} {U : State} (h : KK w U) : ArrOfT U w.2.2.2.1 (.object RX7) ∧ va_RA U w.2.2.2.1 (.object RX7) := h.1.2 2 _ rfl
section GR
variable {l : Launch} {w : Wp} {L : Ly} {E : Cx} {M : Mm} {lv : List (Nat × Value)} {pc : Nat} {st : List Value} {own : String} {cc : ByteArray} {maxL n : Nat}
theorem g_iconst (cx : Ok w L E own cc maxL n) {i : Int} {v : Int32} (hd : decode cc pc = .ok (.iconst i, 1)) (hv : Int32.ofInt i = v) (k : G l w L E M lv (pc + 1) (.int v :: st)) : G l w L E M lv pc st :=
  fun H locs ls h1 h2 h3 => lv_iconst cx.1 cx.2.1 hd hv (k H locs ls h1 h2 h3)
theorem g_bipush (cx : Ok w L E own cc maxL n) {i : Int} {v : Int32} (hd : decode cc pc = .ok (.bipush i, 2)) (hv : (Int8.ofInt i).toInt32 = v) (k : G l w L E M lv (pc + 2) (.int v :: st)) : G l w L E M lv pc st :=
  fun H locs ls h1 h2 h3 => lv_bipush cx.1 cx.2.1 hd hv (k H locs ls h1 h2 h3)
theorem g_sipush (cx : Ok w L E own cc maxL n) {i : Int} {v : Int32} (hd : decode cc pc = .ok (.sipush i, 3)) (hv : (Int16.ofInt i).toInt32 = v) (k : G l w L E M lv (pc + 3) (.int v :: st)) : G l w L E M lv pc st :=
  fun H locs ls h1 h2 h3 => lv_sipush cx.1 cx.2.1 hd hv (k H locs ls h1 h2 h3)
theorem g_ldc (cx : Ok w L E own cc maxL n) {i : Nat} {v : Int32} (hw : Cond.constant own i v ∈ TB) (hd : decode cc pc = .ok (.ldc i, 2)) (k : G l w L E M lv (pc + 2) (.int v :: st)) : G l w L E M lv pc st :=
  fun H locs ls h1 h2 h3 => lv_ldc cx.1 cx.2.1 cx.2.2.2.1 (cx.2.2.2.2.1 _ hw) hd (k H locs ls h1 h2 h3)
theorem g_iload_n (cx : Ok w L E own cc maxL n) {j : Fin 4} {i : Nat} {x : Int32} (hd : decode cc pc = .ok (.iload_n j, 1)) (hi : (j : Nat) = i) (p : Nat) (hp : lv[p]? = some (i, .int x)) (k : G l w L E M lv (pc + 1) (.int x :: st)) : G l w L E M lv pc st :=
  fun H locs ls h1 h2 h3 => lv_iload_n cx.1 cx.2.1 hd hi (lv_at h3 p hp) (k H locs ls h1 h2 h3)
theorem g_iload (cx : Ok w L E own cc maxL n) {i : Nat} {x : Int32} (hd : decode cc pc = .ok (.iload i, 2)) (p : Nat) (hp : lv[p]? = some (i, .int x)) (k : G l w L E M lv (pc + 2) (.int x :: st)) : G l w L E M lv pc st :=
  fun H locs ls h1 h2 h3 => lv_iload cx.1 cx.2.1 hd (lv_at h3 p hp) (k H locs ls h1 h2 h3)
theorem g_aload_n (cx : Ok w L E own cc maxL n) {j : Fin 4} {i : Nat} {x : Nat} (hd : decode cc pc = .ok (.aload_n j, 1)) (hi : (j : Nat) = i) (p : Nat) (hp : lv[p]? = some (i, .ref x)) (k : G l w L E M lv (pc + 1) (.ref x :: st)) : G l w L E M lv pc st :=
  fun H locs ls h1 h2 h3 => lv_aload_n cx.1 cx.2.1 hd hi (lv_at h3 p hp) (k H locs ls h1 h2 h3)
theorem g_aload (cx : Ok w L E own cc maxL n) {i : Nat} {x : Nat} (hd : decode cc pc = .ok (.aload i, 2)) (p : Nat) (hp : lv[p]? = some (i, .ref x)) (k : G l w L E M lv (pc + 2) (.ref x :: st)) : G l w L E M lv pc st :=
  fun H locs ls h1 h2 h3 => lv_aload cx.1 cx.2.1 hd (lv_at h3 p hp) (k H locs ls h1 h2 h3)
theorem g_istore_n (cx : Ok w L E own cc maxL n) {j : Fin 4} {i : Nat} {x : Int32} (lv' : List (Nat × Value)) (hd : decode cc pc = .ok (.istore_n j, 1)) (hi : (j : Nat) = i) (hn : i < maxL) (hl : (i, Value.int x) :: lv.filter (fun q => !(q.1 == i) && !(q.1 + 1 == i && q.2.category == 2)) = lv') (k : G l w L E M lv' (pc + 1) st) : G l w L E M lv pc (.int x :: st) :=
  fun H locs _ h1 h2 h3 => lv_istore_n cx.1 cx.2.1 hd hi h3 (by rw [cx.2.2.1]; exact hn) hl (fun ls h => k H locs ls h1 h2 h)
theorem g_istore (cx : Ok w L E own cc maxL n) {i : Nat} {x : Int32} (lv' : List (Nat × Value)) (hd : decode cc pc = .ok (.istore i, 2)) (hn : i < maxL) (hl : (i, Value.int x) :: lv.filter (fun q => !(q.1 == i) && !(q.1 + 1 == i && q.2.category == 2)) = lv') (k : G l w L E M lv' (pc + 2) st) : G l w L E M lv pc (.int x :: st) :=
  fun H locs _ h1 h2 h3 => lv_istore cx.1 cx.2.1 hd h3 (by rw [cx.2.2.1]; exact hn) hl (fun ls h => k H locs ls h1 h2 h)
theorem g_astore_n (cx : Ok w L E own cc maxL n) {j : Fin 4} {i : Nat} {x : Nat} (lv' : List (Nat × Value)) (hd : decode cc pc = .ok (.astore_n j, 1)) (hi : (j : Nat) = i) (hn : i < maxL) (hl : (i, Value.ref x) :: lv.filter (fun q => !(q.1 == i) && !(q.1 + 1 == i && q.2.category == 2)) = lv') (k : G l w L E M lv' (pc + 1) st) : G l w L E M lv pc (.ref x :: st) :=
  fun H locs _ h1 h2 h3 => lv_astore_n cx.1 cx.2.1 hd hi h3 (by rw [cx.2.2.1]; exact hn) hl (fun ls h => k H locs ls h1 h2 h)
theorem g_astore (cx : Ok w L E own cc maxL n) {i : Nat} {x : Nat} (lv' : List (Nat × Value)) (hd : decode cc pc = .ok (.astore i, 2)) (hn : i < maxL) (hl : (i, Value.ref x) :: lv.filter (fun q => !(q.1 == i) && !(q.1 + 1 == i && q.2.category == 2)) = lv') (k : G l w L E M lv' (pc + 2) st) : G l w L E M lv pc (.ref x :: st) :=
  fun H locs _ h1 h2 h3 => lv_astore cx.1 cx.2.1 hd h3 (by rw [cx.2.2.1]; exact hn) hl (fun ls h => k H locs ls h1 h2 h)
theorem g_iinc (cx : Ok w L E own cc maxL n) {i : Nat} {c : Int} {x v : Int32} (lv' : List (Nat × Value)) (hd : decode cc pc = .ok (.iinc i c, 3)) (p : Nat) (hp : lv[p]? = some (i, .int x)) (hv : x + Int32.ofInt c = v) (hn : i < maxL) (hl : (i, Value.int v) :: lv.filter (fun q => !(q.1 == i) && !(q.1 + 1 == i && q.2.category == 2)) = lv') (k : G l w L E M lv' (pc + 3) st) : G l w L E M lv pc st :=
  fun H locs _ h1 h2 h3 => lv_iinc cx.1 cx.2.1 hd h3 hp hv (by rw [cx.2.2.1]; exact hn) hl (fun ls h => k H locs ls h1 h2 h)
theorem g_sub (ks : List Nat) (lv' : List (Nat × Value)) (h : lv_pick lv ks = lv') (k : G l w L E M lv' pc st) : G l w L E M lv pc st :=
  fun H locs ls h1 h2 h3 => k H locs ls h1 h2 (lv_sub h3 ks h)
theorem g_iadd (cx : Ok w L E own cc maxL n) {x y : Int32} (hd : decode cc pc = .ok (.iadd, 1)) (k : G l w L E M lv (pc + 1) (.int (x + y) :: st)) : G l w L E M lv pc (.int y :: .int x :: st) :=
  fun H locs ls h1 h2 h3 => lv_iadd cx.1 cx.2.1 hd (k H locs ls h1 h2 h3)
theorem g_isub (cx : Ok w L E own cc maxL n) {x y : Int32} (hd : decode cc pc = .ok (.isub, 1)) (k : G l w L E M lv (pc + 1) (.int (x - y) :: st)) : G l w L E M lv pc (.int y :: .int x :: st) :=
  fun H locs ls h1 h2 h3 => lv_isub cx.1 cx.2.1 hd (k H locs ls h1 h2 h3)
theorem g_imul (cx : Ok w L E own cc maxL n) {x y : Int32} (hd : decode cc pc = .ok (.imul, 1)) (k : G l w L E M lv (pc + 1) (.int (x * y) :: st)) : G l w L E M lv pc (.int y :: .int x :: st) :=
  fun H locs ls h1 h2 h3 => lv_imul cx.1 cx.2.1 hd (k H locs ls h1 h2 h3)
theorem g_iand (cx : Ok w L E own cc maxL n) {x y : Int32} (hd : decode cc pc = .ok (.iand, 1)) (k : G l w L E M lv (pc + 1) (.int (x &&& y) :: st)) : G l w L E M lv pc (.int y :: .int x :: st) :=
  fun H locs ls h1 h2 h3 => lv_iand cx.1 cx.2.1 hd (k H locs ls h1 h2 h3)
theorem g_ior (cx : Ok w L E own cc maxL n) {x y : Int32} (hd : decode cc pc = .ok (.ior, 1)) (k : G l w L E M lv (pc + 1) (.int (x ||| y) :: st)) : G l w L E M lv pc (.int y :: .int x :: st) :=
  fun H locs ls h1 h2 h3 => lv_ior cx.1 cx.2.1 hd (k H locs ls h1 h2 h3)
theorem g_ixor (cx : Ok w L E own cc maxL n) {x y : Int32} (hd : decode cc pc = .ok (.ixor, 1)) (k : G l w L E M lv (pc + 1) (.int (x ^^^ y) :: st)) : G l w L E M lv pc (.int y :: .int x :: st) :=
  fun H locs ls h1 h2 h3 => lv_ixor cx.1 cx.2.1 hd (k H locs ls h1 h2 h3)
theorem g_ishl (cx : Ok w L E own cc maxL n) {x y : Int32} (hd : decode cc pc = .ok (.ishl, 1)) (k : G l w L E M lv (pc + 1) (.int (x <<< (y &&& 31)) :: st)) : G l w L E M lv pc (.int y :: .int x :: st) :=
  fun H locs ls h1 h2 h3 => lv_ishl cx.1 cx.2.1 hd (k H locs ls h1 h2 h3)
theorem g_ishr (cx : Ok w L E own cc maxL n) {x y : Int32} (hd : decode cc pc = .ok (.ishr, 1)) (k : G l w L E M lv (pc + 1) (.int (x >>> (y &&& 31)) :: st)) : G l w L E M lv pc (.int y :: .int x :: st) :=
  fun H locs ls h1 h2 h3 => lv_ishr cx.1 cx.2.1 hd (k H locs ls h1 h2 h3)
theorem g_idiv (cx : Ok w L E own cc maxL n) {x y : Int32} (hd : decode cc pc = .ok (.idiv, 1)) (hy : ¬ y = 0) (k : G l w L E M lv (pc + 1) (.int (x / y) :: st)) : G l w L E M lv pc (.int y :: .int x :: st) :=
  fun H locs ls h1 h2 h3 => lv_idiv cx.1 cx.2.1 hd hy (k H locs ls h1 h2 h3)
theorem g_irem (cx : Ok w L E own cc maxL n) {x y : Int32} (hd : decode cc pc = .ok (.irem, 1)) (hy : ¬ y = 0) (k : G l w L E M lv (pc + 1) (.int (x - x / y * y) :: st)) : G l w L E M lv pc (.int y :: .int x :: st) :=
  fun H locs ls h1 h2 h3 => lv_irem cx.1 cx.2.1 hd hy (k H locs ls h1 h2 h3)
theorem g_dup (cx : Ok w L E own cc maxL n) {v : Value} (hd : decode cc pc = .ok (.dup, 1)) (hv : v.category = 1) (k : G l w L E M lv (pc + 1) (v :: v :: st)) : G l w L E M lv pc (v :: st) :=
  fun H locs ls h1 h2 h3 => lv_dup cx.1 cx.2.1 hd hv (k H locs ls h1 h2 h3)
theorem g_pop (cx : Ok w L E own cc maxL n) {v : Value} (hd : decode cc pc = .ok (.pop, 1)) (hv : v.category = 1) (k : G l w L E M lv (pc + 1) st) : G l w L E M lv pc (v :: st) :=
  fun H locs ls h1 h2 h3 => lv_pop cx.1 cx.2.1 hd hv (k H locs ls h1 h2 h3)
theorem g_dup2 (cx : Ok w L E own cc maxL n) {u v : Value} (hd : decode cc pc = .ok (.dup2, 1)) (hu : u.category = 1) (hv : v.category = 1) (k : G l w L E M lv (pc + 1) (u :: v :: u :: v :: st)) : G l w L E M lv pc (u :: v :: st) :=
  fun H locs ls h1 h2 h3 => lv_dup2_11 cx.1 cx.2.1 hd hu hv (k H locs ls h1 h2 h3)
theorem g_goto (cx : Ok w L E own cc maxL n) {off : Int} {tgt : Nat} (hd : decode cc pc = .ok (.goto off, 3)) (ht : (pc : Int) + off = (tgt : Int)) (k : G l w L E M lv tgt st) : G l w L E M lv pc st :=
  fun H locs ls h1 h2 h3 => lv_goto cx.1 cx.2.1 hd ht (k H locs ls h1 h2 h3)
theorem g_nm {β : Type} {x : Int32} {A : Int32 → OQ β} {R0 : β × Mm} (hf : bnd x A = some R0) (k : ∀ y : Int32, A y = some R0 → G l w L E M lv pc (.int y :: st)) : G l w L E M lv pc (.int x :: st) := k x hf
end GR
section GB
variable {l : Launch} {w : Wp} {L : Ly} {E : Cx} {M : Mm} {lv : List (Nat × Value)} {pc : Nat} {st : List Value} {own : String} {cc : ByteArray} {maxL n : Nat} {β : Type} {A B : OQ β} {R0 : β × Mm} {off : Int} {tgt : Nat}
theorem if_t {c : Prop} {d : Decidable c} (h : (if c then A else B) = some R0) (hc : c) : A = some R0 := by rw [if_pos hc] at h; exact h
theorem if_f {c : Prop} {d : Decidable c} (h : (if c then A else B) = some R0) (hc : ¬ c) : B = some R0 := by rw [if_neg hc] at h; exact h

theorem g_if_eq (cx : Ok w L E own cc maxL n) {x : Int32} (hd : decode cc pc = .ok (.ifCond .eq off, 3)) (ht : (pc : Int) + off = (tgt : Int)) (hf : (if x = 0 then A else B) = some R0) (ka : A = some R0 → G l w L E M lv tgt st) (kb : B = some R0 → G l w L E M lv (pc + 3) st) : G l w L E M lv pc (.int x :: st) :=
  fun H locs ls h1 h2 h3 => lv_if_eq cx.1 cx.2.1 hd ht (fun h => ka (if_t hf h) H locs ls h1 h2 h3) (fun h => kb (if_f hf h) H locs ls h1 h2 h3)
theorem g_if_ne (cx : Ok w L E own cc maxL n) {x : Int32} (hd : decode cc pc = .ok (.ifCond .ne off, 3)) (ht : (pc : Int) + off = (tgt : Int)) (hf : (if x = 0 then A else B) = some R0) (ka : A = some R0 → G l w L E M lv (pc + 3) st) (kb : B = some R0 → G l w L E M lv tgt st) : G l w L E M lv pc (.int x :: st) :=
  fun H locs ls h1 h2 h3 => lv_if_ne cx.1 cx.2.1 hd ht (fun h => kb (if_f hf h) H locs ls h1 h2 h3) (fun h => ka (if_t hf h) H locs ls h1 h2 h3)
theorem g_if_lt (cx : Ok w L E own cc maxL n) {x : Int32} (hd : decode cc pc = .ok (.ifCond .lt off, 3)) (ht : (pc : Int) + off = (tgt : Int)) (hf : (if x < 0 then A else B) = some R0) (ka : A = some R0 → G l w L E M lv tgt st) (kb : B = some R0 → G l w L E M lv (pc + 3) st) : G l w L E M lv pc (.int x :: st) :=
  fun H locs ls h1 h2 h3 => lv_if_lt cx.1 cx.2.1 hd ht (fun h => ka (if_t hf h) H locs ls h1 h2 h3) (fun h => kb (if_f hf h) H locs ls h1 h2 h3)
theorem g_if_ge (cx : Ok w L E own cc maxL n) {x : Int32} (hd : decode cc pc = .ok (.ifCond .ge off, 3)) (ht : (pc : Int) + off = (tgt : Int)) (hf : (if x < 0 then A else B) = some R0) (ka : A = some R0 → G l w L E M lv (pc + 3) st) (kb : B = some R0 → G l w L E M lv tgt st) : G l w L E M lv pc (.int x :: st) :=
  fun H locs ls h1 h2 h3 => lv_if_ge cx.1 cx.2.1 hd ht (fun h => kb (if_f hf (Int32.not_lt.mpr h)) H locs ls h1 h2 h3) (fun h => ka (if_t hf (Int32.not_le.mp h)) H locs ls h1 h2 h3)
theorem g_if_gt (cx : Ok w L E own cc maxL n) {x : Int32} (hd : decode cc pc = .ok (.ifCond .gt off, 3)) (ht : (pc : Int) + off = (tgt : Int)) (hf : (if 0 < x then A else B) = some R0) (ka : A = some R0 → G l w L E M lv tgt st) (kb : B = some R0 → G l w L E M lv (pc + 3) st) : G l w L E M lv pc (.int x :: st) :=
  fun H locs ls h1 h2 h3 => lv_if_gt cx.1 cx.2.1 hd ht (fun h => ka (if_t hf h) H locs ls h1 h2 h3) (fun h => kb (if_f hf h) H locs ls h1 h2 h3)
theorem g_if_le (cx : Ok w L E own cc maxL n) {x : Int32} (hd : decode cc pc = .ok (.ifCond .le off, 3)) (ht : (pc : Int) + off = (tgt : Int)) (hf : (if 0 < x then A else B) = some R0) (ka : A = some R0 → G l w L E M lv (pc + 3) st) (kb : B = some R0 → G l w L E M lv tgt st) : G l w L E M lv pc (.int x :: st) :=
  fun H locs ls h1 h2 h3 => lv_if_le cx.1 cx.2.1 hd ht (fun h => kb (if_f hf (Int32.not_lt.mpr h)) H locs ls h1 h2 h3) (fun h => ka (if_t hf (Int32.not_le.mp h)) H locs ls h1 h2 h3)
theorem g_icmp_eq (cx : Ok w L E own cc maxL n) {x y : Int32} (hd : decode cc pc = .ok (.if_icmp .eq off, 3)) (ht : (pc : Int) + off = (tgt : Int)) (hf : (if x = y then A else B) = some R0) (ka : A = some R0 → G l w L E M lv tgt st) (kb : B = some R0 → G l w L E M lv (pc + 3) st) : G l w L E M lv pc (.int y :: .int x :: st) :=
  fun H locs ls h1 h2 h3 => lv_icmp_eq cx.1 cx.2.1 hd ht (fun h => ka (if_t hf h) H locs ls h1 h2 h3) (fun h => kb (if_f hf h) H locs ls h1 h2 h3)
theorem g_icmp_ne (cx : Ok w L E own cc maxL n) {x y : Int32} (hd : decode cc pc = .ok (.if_icmp .ne off, 3)) (ht : (pc : Int) + off = (tgt : Int)) (hf : (if x = y then A else B) = some R0) (ka : A = some R0 → G l w L E M lv (pc + 3) st) (kb : B = some R0 → G l w L E M lv tgt st) : G l w L E M lv pc (.int y :: .int x :: st) :=
  fun H locs ls h1 h2 h3 => lv_icmp_ne cx.1 cx.2.1 hd ht (fun h => kb (if_f hf h) H locs ls h1 h2 h3) (fun h => ka (if_t hf h) H locs ls h1 h2 h3)
theorem g_icmp_lt (cx : Ok w L E own cc maxL n) {x y : Int32} (hd : decode cc pc = .ok (.if_icmp .lt off, 3)) (ht : (pc : Int) + off = (tgt : Int)) (hf : (if x < y then A else B) = some R0) (ka : A = some R0 → G l w L E M lv tgt st) (kb : B = some R0 → G l w L E M lv (pc + 3) st) : G l w L E M lv pc (.int y :: .int x :: st) :=
  fun H locs ls h1 h2 h3 => lv_icmp_lt cx.1 cx.2.1 hd ht (fun h => ka (if_t hf h) H locs ls h1 h2 h3) (fun h => kb (if_f hf h) H locs ls h1 h2 h3)
theorem g_icmp_ge (cx : Ok w L E own cc maxL n) {x y : Int32} (hd : decode cc pc = .ok (.if_icmp .ge off, 3)) (ht : (pc : Int) + off = (tgt : Int)) (hf : (if x < y then A else B) = some R0) (ka : A = some R0 → G l w L E M lv (pc + 3) st) (kb : B = some R0 → G l w L E M lv tgt st) : G l w L E M lv pc (.int y :: .int x :: st) :=
  fun H locs ls h1 h2 h3 => lv_icmp_ge cx.1 cx.2.1 hd ht (fun h => kb (if_f hf (Int32.not_lt.mpr h)) H locs ls h1 h2 h3) (fun h => ka (if_t hf (Int32.not_le.mp h)) H locs ls h1 h2 h3)
theorem g_icmp_gt (cx : Ok w L E own cc maxL n) {x y : Int32} (hd : decode cc pc = .ok (.if_icmp .gt off, 3)) (ht : (pc : Int) + off = (tgt : Int)) (hf : (if y < x then A else B) = some R0) (ka : A = some R0 → G l w L E M lv tgt st) (kb : B = some R0 → G l w L E M lv (pc + 3) st) : G l w L E M lv pc (.int y :: .int x :: st) :=
  fun H locs ls h1 h2 h3 => lv_icmp_gt cx.1 cx.2.1 hd ht (fun h => ka (if_t hf h) H locs ls h1 h2 h3) (fun h => kb (if_f hf h) H locs ls h1 h2 h3)
theorem g_icmp_le (cx : Ok w L E own cc maxL n) {x y : Int32} (hd : decode cc pc = .ok (.if_icmp .le off, 3)) (ht : (pc : Int) + off = (tgt : Int)) (hf : (if y < x then A else B) = some R0) (ka : A = some R0 → G l w L E M lv (pc + 3) st) (kb : B = some R0 → G l w L E M lv tgt st) : G l w L E M lv pc (.int y :: .int x :: st) :=
  fun H locs ls h1 h2 h3 => lv_icmp_le cx.1 cx.2.1 hd ht (fun h => kb (if_f hf (Int32.not_lt.mpr h)) H locs ls h1 h2 h3) (fun h => ka (if_t hf (Int32.not_le.mp h)) H locs ls h1 h2 h3)
end GB
section GH
variable {l : Launch} {w : Wp} {L : Ly} {E : Cx} {M : Mm} {lv : List (Nat × Value)} {pc : Nat} {st : List Value} {own : String} {cc : ByteArray} {maxL n : Nat} {R0 : Int32 × Mm}
theorem g_getI (cx : Ok w L E own cc maxL n) {a ci N index : Nat} {C ref : String} {T : u_T} (hc : vwCl[ci]? = some (C, T, N)) (hin : ∀ q ∈ u_ws C T N, q ∈ TB) (k : Nat) (hk : k < N) (hlink : Cond.fieldLink own index ref (T k).2.1 (T k).2.2.1 ∈ TB) (hsame : (T k).1 = ref) {ks : List (Option Nat)} (hL : L a = some (gO ci ks)) (hl : k < ks.length) (hks : ks.getD k none = none)
    (hd : decode cc pc = .ok (.getfield index, 3)) (kk : G l w L E M lv (pc + 3) (.int (M a k) :: st)) : G l w L E M lv pc (.ref a :: st) := by
  intro H locs ls h1 h2 h3
  have hP : va_P w.1 vwCl [(a, gO ci ks (M a))] H := fun j q hq => by
    have hj : j < 1 := (List.getElem?_eq_some_iff.mp hq).1
    have hj0 : j = 0 := by omega
    subst hj0
    cases hq
    exact h1 a _ hL
  exact va_get (D := w.1) cx.1 cx.2.1 cx.2.2.2.2.1 hin cx.2.2.2.1 cx.2.2.2.2.2.1.1 hP 0 rfl hc k hk (cx.2.2.2.2.1 _ hlink) (fun x h => by rw [← hsame]; exact h) (v := .int (M a k)) (by rw [fO_get hl, hks]; rfl) hd (kk H locs ls h1 h2 h3)
theorem g_getR (cx : Ok w L E own cc maxL n) {a ci N index b : Nat} {C ref : String} {T : u_T} (hc : vwCl[ci]? = some (C, T, N)) (hin : ∀ q ∈ u_ws C T N, q ∈ TB) (k : Nat) (hk : k < N) (hlink : Cond.fieldLink own index ref (T k).2.1 (T k).2.2.1 ∈ TB) (hsame : (T k).1 = ref) {ks : List (Option Nat)} (hL : L a = some (gO ci ks)) (hl : k < ks.length) (hks : ks.getD k none = some b)
    (hd : decode cc pc = .ok (.getfield index, 3)) (kk : G l w L E M lv (pc + 3) (.ref b :: st)) : G l w L E M lv pc (.ref a :: st) := by
  intro H locs ls h1 h2 h3
  have hP : va_P w.1 vwCl [(a, gO ci ks (M a))] H := fun j q hq => by
    have hj : j < 1 := (List.getElem?_eq_some_iff.mp hq).1
    have hj0 : j = 0 := by omega
    subst hj0
    cases hq
    exact h1 a _ hL
  exact va_get (D := w.1) cx.1 cx.2.1 cx.2.2.2.2.1 hin cx.2.2.2.1 cx.2.2.2.2.2.1.1 hP 0 rfl hc k hk (cx.2.2.2.2.1 _ hlink) (fun x h => by rw [← hsame]; exact h) (v := .ref b) (by rw [fO_get hl, hks]; rfl) hd (kk H locs ls h1 h2 h3)
theorem g_putI (cx : Ok w L E own cc maxL n) {a ci N index : Nat} {C ref : String} {T : u_T} (hc : vwCl[ci]? = some (C, T, N)) (hin : ∀ q ∈ u_ws C T N, q ∈ TB) (ty0 : Nat → FieldType) (hty : ∀ k, k < N → parseFieldDescriptor (T k).2.2.1 = some (ty0 k)) (hnm : ∀ a, a < N → ∀ b, b < N → a ≠ b → (T a).2.1 ≠ (T b).2.1) (k : Nat) (hk : k < N) (hlink : Cond.fieldLink own index ref (T k).2.1 (T k).2.2.1 ∈ TB) (hsame : (T k).1 = ref) (hfin : (T k).2.2.2 = false) (hd0 : parseFieldDescriptor (T k).2.2.1 = some .int) {ks : List (Option Nat)} (hL : L a = some (gO ci ks)) (hl : k < ks.length) (hks : ks.getD k none = none) {x : Int32} {A : Mm → OR}
    (hd : decode cc pc = .ok (.putfield index, 3)) (hf : bnd (mst M a k x) A = some R0) (kk : ∀ M1 : Mm, A M1 = some R0 → G l w L E M1 lv (pc + 3) st) : G l w L E M lv pc (.int x :: .ref a :: st) := by
  intro H locs ls h1 h2 h3
  obtain ⟨r, q0, cell, q1, q2, q3, q4⟩ := h1 a _ hL
  have hr : r = (C, T, N) := Option.some.inj (q0.symm.trans hc)
  subst hr
  have hts := cx.2.2.2.2.1
  have hap := va_apart (own := own) hts hin ty0 hty hnm cx.2.2.2.2.2.1.1 hc
  obtain ⟨hS, hfc, kC, hkC, hkind⟩ := cx.2.2.2.2.2.1.u hc
  obtain ⟨cf, kf, fi, f, hi, hsl⟩ := hS k hk
  have hlay := hts _ (hin _ (u_in_lay hk))
  unfold u_lay at hlay
  rw [if_neg (by rw [hfin]; decide)] at hlay
  have hst := (u_facts hfc hkC (u_lays hts hin hk) hi).1
  have h6 := u_store hfc hkC hkind hlay hi hd0 (v := .int x) rfl rfl
  refine W.putK cx.1 cx.2.1 (f := f) ⟨cx.2.2.2.1, hts _ hlink, ⟨_, _, _, by rw [← hsame]; exact hi⟩, hst⟩ (by rw [q2]; exact h6) q1 q3 (by rw [hsl]; exact k2_hasslot (q4 k hk)) rfl rfl hd fun H' e1 e2 e3 => ?_
  rw [hsl] at e1 ⊢
  have he : va_at w.1 vwCl (a, gO ci ks (upd (M a) k x)) H' := by
    refine ⟨_, hc, t_OB.to (V := updV (vp_V (fO ks (M a))) k (.int x)) ⟨_, e1, q2, q3, t_set q4 hap hk (.int x)⟩ (fun j _ => ?_)⟩
    rw [vp_updV_set (by rw [fO_len]; exact hl)]
    show _ = vp_V (fO ks (upd (M a) k x)) j
    rw [fO_set hks]
  have hM := h1.put hL he e3
  rw [← mst_row] at hM
  exact kk _ hf H' _ ls hM (h2.put e2 e3 (cx.2.2.2.2.2.2.1 a (by rw [hL]; simp))) h3
theorem g_iald (cx : Ok w L E own cc maxL n) {a m : Nat} {i : Int32} {A : OR} (hL : L a = some (gI w m)) (hd : decode cc pc = .ok (.iaload, 1)) (hf : ckd i m A = some R0) (kk : A = some R0 → G l w L E M lv (pc + 1) (.int (M a (ix i)) :: st)) : G l w L E M lv pc (.int i :: .ref a :: st) := by
  intro H locs ls h1 h2 h3
  obtain ⟨hin, hf⟩ := ckd_in hf
  have hlt : i.toNatClampNeg < m := Nat.not_le.mp fun q => hin (Or.inr q)
  have hc : H[a]? = some (arrV w.2.1 m (fun j => .int (M a j))) := h1 a _ hL
  exact W.iald (v := .int (M a (ix i))) cx.1 cx.2.1 hc (cx.2.2.2.2.2.1.i.1 m _) (fun q => by cases q) (by rw [arrV_size]; exact hin) (by rw [arrV_read _ _ hlt]) rfl rfl hd (kk hf H locs ls h1 h2 h3)
theorem g_zald (cx : Ok w L E own cc maxL n) {a m : Nat} {i : Int32} {A : OR} (hL : L a = some (gZ w m)) (hd : decode cc pc = .ok (.baload, 1)) (hf : ckd i m A = some R0) (kk : A = some R0 → G l w L E M lv (pc + 1) (.int (zb (M a (ix i))) :: st)) : G l w L E M lv pc (.int i :: .ref a :: st) := by
  intro H locs ls h1 h2 h3
  obtain ⟨hin, hf⟩ := ckd_in hf
  have hlt : i.toNatClampNeg < m := Nat.not_le.mp fun q => hin (Or.inr q)
  have hc : H[a]? = some (arrV w.2.2.1 m (fun j => .int (zb (M a j)))) := h1 a _ hL
  exact W.zald (v := .int (zb (M a (ix i)))) cx.1 cx.2.1 hc (cx.2.2.2.2.2.1.z.1 m _) (fun q => by cases q) (by rw [arrV_size]; exact hin) (by rw [arrV_read _ _ hlt]) rfl rfl hd (kk hf H locs ls h1 h2 h3)
theorem g_aald (cx : Ok w L E own cc maxL n) {a m : Nat} {i : Int32} {A : OR} (hL : L a = some (gR w m)) (hd : decode cc pc = .ok (.aaload, 1)) (hf : ckd i m A = some R0) (kk : A = some R0 → G l w L E M lv (pc + 1) (.ref (w.2.2.2.2 + 32 * ix (M a (ix i))) :: st)) : G l w L E M lv pc (.int i :: .ref a :: st) := by
  intro H locs ls h1 h2 h3
  obtain ⟨hin, hf⟩ := ckd_in hf
  have hlt : i.toNatClampNeg < m := Nat.not_le.mp fun q => hin (Or.inr q)
  have hc : H[a]? = some (arrV w.2.2.2.1 m (fun j => .ref (w.2.2.2.2 + 32 * ix (M a j)))) := h1 a _ hL
  exact W.aald (v := .ref (w.2.2.2.2 + 32 * ix (M a (ix i)))) (ty := .object RX7) cx.1 cx.2.1 hc (cx.2.2.2.2.2.1.r.1 m _) rfl (fun q => by cases q) (by rw [arrV_size]; exact hin) (by rw [arrV_read _ _ hlt]) rfl rfl hd (kk hf H locs ls h1 h2 h3)
theorem g_iast (cx : Ok w L E own cc maxL n) {a m : Nat} {i x : Int32} {A : Mm → OR} (hL : L a = some (gI w m)) (hd : decode cc pc = .ok (.iastore, 1)) (hf : ckd i m (bnd (mst M a (ix i) x) A) = some R0) (kk : ∀ M1 : Mm, A M1 = some R0 → G l w L E M1 lv (pc + 1) st) : G l w L E M lv pc (.int x :: .int i :: .ref a :: st) := by
  intro H locs ls h1 h2 h3
  obtain ⟨hin, hf⟩ := ckd_in hf
  have hc : H[a]? = some (arrV w.2.1 m (fun j => .int (M a j))) := h1 a _ hL
  refine W.iast cx.1 cx.2.1 hc (cx.2.2.2.2.2.1.i.1 m _) (fun q => by cases q) (by rw [arrV_size]; exact hin) rfl rfl hd fun H1 e z oq => ?_
  have he : va_at w.1 vwCl (a, gI w m (upd (M a) (ix i) x)) H1 := by
    show H1[a]? = some (arrV w.2.1 m (fun j => .int (upd (M a) (ix i) x j)))
    rw [e, arrV_store]
    congr 2
    funext q
    by_cases hq : q = i.toNatClampNeg
    · subst hq; simp [updV, upd]
    · simp [updV, upd, hq]
  have hM := h1.put hL he oq
  rw [← mst_row] at hM
  exact kk _ hf H1 _ ls hM (h2.put z oq (cx.2.2.2.2.2.2.1 a (by rw [hL]; simp))) h3
theorem g_zast (cx : Ok w L E own cc maxL n) {a m : Nat} {i x : Int32} {A : Mm → OR} (hL : L a = some (gZ w m)) (hd : decode cc pc = .ok (.bastore, 1)) (hf : ckd i m (bnd (mst M a (ix i) x) A) = some R0) (kk : ∀ M1 : Mm, A M1 = some R0 → G l w L E M1 lv (pc + 1) st) : G l w L E M lv pc (.int x :: .int i :: .ref a :: st) := by
  intro H locs ls h1 h2 h3
  obtain ⟨hin, hf⟩ := ckd_in hf
  have hc : H[a]? = some (arrV w.2.2.1 m (fun j => .int (zb (M a j)))) := h1 a _ hL
  refine W.zast cx.1 cx.2.1 hc (cx.2.2.2.2.2.1.z.1 m _) (fun q => by cases q) (by rw [arrV_size]; exact hin) rfl rfl hd fun H1 e z oq => ?_
  have he : va_at w.1 vwCl (a, gZ w m (upd (M a) (ix i) x)) H1 := by
    show H1[a]? = some (arrV w.2.2.1 m (fun j => .int (zb (upd (M a) (ix i) x j))))
    rw [e, arrV_store]
    congr 2
    funext q
    by_cases hq : q = i.toNatClampNeg
    · subst hq
      simp [updV, upd, zb]
      try rfl
    · simp [updV, upd, hq]
  have hM := h1.put hL he oq
  rw [← mst_row] at hM
  exact kk _ hf H1 _ ls hM (h2.put z oq (cx.2.2.2.2.2.2.1 a (by rw [hL]; simp))) h3
theorem g_alenZ (cx : Ok w L E own cc maxL n) {a m : Nat} {v : Int32} (hL : L a = some (gZ w m)) (hv : Int32.ofNat m = v) (hd : decode cc pc = .ok (.arraylength, 1)) (kk : G l w L E M lv (pc + 1) (.int v :: st)) : G l w L E M lv pc (.ref a :: st) := by
  intro H locs ls h1 h2 h3
  have hc : H[a]? = some (arrV w.2.2.1 m (fun j => .int (zb (M a j)))) := h1 a _ hL
  exact W.alen cx.1 cx.2.1 hc (cx.2.2.2.2.2.1.z.1 m _) (by rw [arrV_size, ← hv] <;> rfl) rfl rfl hd (kk H locs ls h1 h2 h3)
/-- the store of a wires' address: its number in the pool -/
theorem g_aast (cx : Ok w L E own cc maxL n) {a m : Nat} {i j : Int32} {A : Mm → OR} {ks : List (Option Nat)} (hL : L a = some (gR w m)) (hW : L (w.2.2.2.2 + 32 * ix j) = some (gO 7 ks)) (hd : decode cc pc = .ok (.aastore, 1)) (hf : ckd i m (bnd (mst M a (ix i) j) A) = some R0) (kk : ∀ M1 : Mm, A M1 = some R0 → G l w L E M1 lv (pc + 1) st) : G l w L E M lv pc (.ref (w.2.2.2.2 + 32 * ix j) :: .int i :: .ref a :: st) := by
  intro H locs ls h1 h2 h3
  obtain ⟨hin, hf⟩ := ckd_in hf
  have hlt : i.toNatClampNeg < m := Nat.not_le.mp fun q => hin (Or.inr q)
  have h0 : ¬ i < 0 := fun q => hin (Or.inl q)
  have hc : H[a]? = some (arrV w.2.2.2.1 m (fun j => .ref (w.2.2.2.2 + 32 * ix (M a j)))) := h1 a _ hL
  obtain ⟨r', hr', cellV, g1, g2, g3, -⟩ := h1 _ _ hW
  have hcls := (cx.2.2.2.2.2.1.1.1 7 _ (show vwCl[7]? = some (RX7, TX7, 5) from rfl)).2
  obtain ⟨kA, comp, k1, k2, k3, -⟩ := cx.2.2.2.2.2.1.r.2
  have hcomp : comp = w.1.1 7 := Option.some.inj (k3.symm.trans hcls.1)
  subst hcomp
  obtain ⟨kC, hkC, -⟩ := hcls.2
  refine W.aast cx.1 cx.2.1 hc (fun q h => by cases h) (fun h => by cases h) k1 k2 rfl hkC ⟨h0, by rw [arrV_size]; exact hlt⟩ g1 (fun q h => by rw [g3] at h; cases h) (by rw [g2]; exact hkC) (by rw [g2]; exact va_assign hcls) rfl rfl hd fun H1 e z oq => ?_
  have he : va_at w.1 vwCl (a, gR w m (upd (M a) (ix i) j)) H1 := by
    show H1[a]? = some (arrV w.2.2.2.1 m (fun k => .ref (w.2.2.2.2 + 32 * ix (upd (M a) (ix i) j k))))
    rw [e, arrV_store]
    congr 2
    funext q
    by_cases hq : q = i.toNatClampNeg
    · subst hq; simp [updV, upd]
    · simp [updV, upd, hq]
  have hM := h1.put hL he oq
  rw [← mst_row] at hM
  exact kk _ hf H1 _ ls hM (h2.put z oq (cx.2.2.2.2.2.2.1 a (by rw [hL]; simp))) h3
theorem nn_i (z : Int32) (hz : ¬ z < 0) : z.toInt = (ix z : Int) := by
  have hz0 : (0 : Int) ≤ z.toInt := by
    have := Int32.not_lt.mp hz
    simpa using Int32.le_iff_toInt_le.mp this
  show z.toInt = ((z.toInt.toNat : Nat) : Int)
  omega
theorem cpk_in {sp dp n : Int32} {n0 n1 : Nat} {A : OR} {R0 : Int32 × Mm} (h : cpk sp dp n n0 n1 A = some R0) : ¬ sp < 0 ∧ ¬ dp < 0 ∧ ¬ n < 0 ∧ ix sp + ix n ≤ n0 ∧ ix dp + ix n ≤ n1 ∧ A = some R0 := by
  unfold cpk at h
  split at h
  · cases h
  · rename_i q
    simp only [not_or] at q
    exact ⟨q.1, q.2.1, q.2.2.1, by omega, by omega, h⟩
/-- a row over a row, both of one kind of words -/
theorem g_cpy {ty : FieldType} {cA : ClassId} {mk : Int32 → Value} (cx : Ok w L E own cc maxL n) (hn1 : 1 ≤ n) {index : Nat} (hlink : Cond.methodLink own index arraycopyName ∈ TB) (hnat : Cond.native arraycopyName ∈ TB) (hstat : Cond.static arraycopyName ∈ TB) (hini : Cond.initialized "java/lang/System" ∈ TB)
    {a0 a n0 n1 : Nat} {g0 g1 : (Nat → Int32) → va_E} (hL0 : L a0 = some g0) (hL1 : L a = some g1) (hc0 : ∀ f, va_at w.1 vwCl (a0, g0 f) = fun H => H[a0]? = some (arrV cA n0 (fun j => mk (f j)))) (hc1 : ∀ f, va_at w.1 vwCl (a, g1 f) = fun H => H[a]? = some (arrV cA n1 (fun j => mk (f j)))) (hAr : ArrOfT (xS E) cA ty) (hprim : refKind ty = false) (hfit : ∀ x, fits ty (mk x) = true)
    {sp dp nn : Int32} {A : Mm → OR} (hd : decode cc pc = .ok (.invokestatic index, 3)) (hf : cpk sp dp nn n0 n1 (bnd (mrow M a (va_cpy (M a0) (M a) (ix sp) (ix dp) (ix nn))) A) = some R0) (hst : (st.map fun v => v.category).sum ≤ 8) (kk : ∀ M1 : Mm, A M1 = some R0 → G l w L E M1 lv (pc + 3) st) : G l w L E M lv pc (.int nn :: .int dp :: .ref a :: .int sp :: .ref a0 :: st) := by
  intro H locs ls h1 h2 h3
  obtain ⟨c1, c2, c3, c4, c5, hf⟩ := cpk_in hf
  intro T hT X
  have e0 : H[a0]? = some (arrV cA n0 (fun j => mk (M a0 j))) := by have := h1 a0 _ hL0; rw [hc0] at this; exact this
  have e1 : H[a]? = some (arrV cA n1 (fun j => mk (M a j))) := by have := h1 a _ hL1; rw [hc1] at this; exact this
  obtain ⟨-, k0, hk0, cm0, hkk0⟩ := hAr n0 (fun j => mk (M a0 j))
  obtain ⟨-, k1, hk1, cm1, hkk1⟩ := hAr n1 (fun j => mk (M a j))
  obtain ⟨vm', X', step⟩ := X.arraycopy cx.1 cx.2.2.2.1 (cx.2.2.2.2.1 _ hlink) (cx.2.2.2.2.1 _ hnat) (cx.2.2.2.2.1 _ hstat) (cx.2.2.2.2.1 _ hini) (src := a0) (dst := a) (cs := arrV cA n0 (fun j => mk (M a0 j))) (cd := arrV cA n1 (fun j => mk (M a j))) (srcPos := sp) (destPos := dp) (n := nn) (by rw [hT]; exact e0) (by rw [hT]; exact e1)
    (fun _ h => by cases h) (fun _ h => by cases h) (fun h => by cases h) (fun h => by cases h) hk0 hk1 hkk0 hkk1 (by simp [hprim]) c1 c2 c3
    (by rw [nn_i sp c1, nn_i nn c3, arrV_size]; omega)
    (by rw [nn_i dp c2, nn_i nn c3, arrV_size]; omega)
    (fun vm₁ _ i hi => by
      have hi : i < ix nn := hi
      have e : (arrV cA n0 (fun j => mk (M a0 j))).slots.getD (sp.toNatClampNeg + i) .null = mk (M a0 (sp.toNatClampNeg + i)) := by
        rw [Array.getD_eq_getD_getElem?, arrV_read _ _ (by show ix sp + i < n0; omega)]
        rfl
      refine ⟨?_, ?_⟩
      · rw [e]
        exact hfit _
      · rw [e]
        cases hmk : mk (M a0 (sp.toNatClampNeg + i)) <;> first | exact trivial | (exfalso; have hq := hfit (M a0 (sp.toNatClampNeg + i)); rw [hmk] at hq; cases ty <;> simp [fits, refKind] at hq hprim))
    (g := F0 (xM E) pc ls (.int nn :: .int dp :: .ref a :: .int sp :: .ref a0 :: st)) rfl (by rw [h3.1]) (rest := st) rfl (by rw [cx.2.1]; exact hd) (Nat.le_trans hn1 cx.2.2.2.2.2.2.2.1) (by
      have hw : nativeFrameWords "java/lang/System" "arraycopy" 5 + 11 ≤ 24 := by decide +kernel
      have := cx.2.2.2.2.2.2.2.2.1
      show 2 * 0 + _ + _ ≤ _
      omega)
  have e2 : copied (arrV cA n0 (fun j => mk (M a0 j))) (arrV cA n1 (fun j => mk (M a j))) sp dp nn = arrV cA n1 (fun j => mk (va_cpy (M a0) (M a) (ix sp) (ix dp) (ix nn) j)) := va_copied mk cA cA (M a0) (M a) c4
  rw [e2] at X' step
  have hl : a < H.size := (Array.getElem?_eq_some_iff.mp e1).1
  generalize hH1 : H.setIfInBounds a (arrV cA n1 (fun j => mk (va_cpy (M a0) (M a) (ix sp) (ix dp) (ix nn) j))) = H1
  have hheap : ((T.setVm vm').setCell a (arrV cA n1 (fun j => mk (va_cpy (M a0) (M a) (ix sp) (ix dp) (ix nn) j)))).heap = H1 := by rw [← hH1, ← hT]; rfl
  have oq : ∀ q : Nat, q ≠ a → H1[q]? = H[q]? := fun q hq => by rw [← hH1]; simp [Array.getElem?_setIfInBounds, Ne.symm hq]
  have hz : H1.size = H.size := by rw [← hH1]; simp
  have he : va_at w.1 vwCl (a, g1 (va_cpy (M a0) (M a) (ix sp) (ix dp) (ix nn))) H1 := by
    rw [hc1]
    show H1[a]? = _
    rw [← hH1]
    simp [Array.getElem?_setIfInBounds, hl]
  have hM := h1.put hL1 he oq
  have hA := cx.2.2.2.2.2.2.1 a (by rw [hL1]; simp)
  obtain ⟨t, a1, b1⟩ := kk _ hf H1 _ ls hM ⟨by rw [hz]; exact h2.1, fun q g1 g2 => by
      rw [oq q (fun e => g2 (by rw [e]; exact hA))]
      exact h2.2.1 q g1 g2, fun q hq => by
      rcases List.mem_append.mp hq with h | h
      · exact h2.2.2 q h
      · obtain ⟨z, -, hz⟩ := List.mem_map.mp h
        rw [← hz]
        exact hA⟩ h3 _ hheap X'
  exact ⟨t, step t a1, b1⟩
theorem zb_fits (x : Int32) : fits .boolean (.int (zb x)) = true := by
  have h : zb x = 0 ∨ zb x = 1 := by
    unfold zb
    have := pk_and x (m := 1) 1 (by decide)
    rw [this]
    have h2 : x.toBitVec.toNat % 2 ^ 1 < 2 := Nat.mod_lt _ (by decide)
    rcases (show x.toBitVec.toNat % 2 ^ 1 = 0 ∨ x.toBitVec.toNat % 2 ^ 1 = 1 by omega) with h | h
    · exact Or.inl (by rw [h]; rfl)
    · exact Or.inr (by rw [h]; rfl)
  rcases h with h | h <;> rw [h] <;> rfl
theorem g_cpyI (cx : Ok w L E own cc maxL n) (hn1 : 1 ≤ n) {index : Nat} (hlink : Cond.methodLink own index arraycopyName ∈ TB) {a0 a n0 n1 : Nat} (hL0 : L a0 = some (gI w n0)) (hL1 : L a = some (gI w n1))
    {sp dp nn : Int32} {A : Mm → OR} (hd : decode cc pc = .ok (.invokestatic index, 3)) (hf : cpk sp dp nn n0 n1 (bnd (mrow M a (va_cpy (M a0) (M a) (ix sp) (ix dp) (ix nn))) A) = some R0) (hst : (st.map fun v => v.category).sum ≤ 8) (kk : ∀ M1 : Mm, A M1 = some R0 → G l w L E M1 lv (pc + 3) st) : G l w L E M lv pc (.int nn :: .int dp :: .ref a :: .int sp :: .ref a0 :: st) :=
  g_cpy (mk := fun x => .int x) cx hn1 hlink tb_cpy1 tb_cpy2 tb_cpy3 hL0 hL1 (fun f => rfl) (fun f => rfl) cx.2.2.2.2.2.1.i.1 rfl (fun x => rfl) hd hf hst kk
theorem g_cpyZ (cx : Ok w L E own cc maxL n) (hn1 : 1 ≤ n) {index : Nat} (hlink : Cond.methodLink own index arraycopyName ∈ TB) {a0 a n0 n1 : Nat} (hL0 : L a0 = some (gZ w n0)) (hL1 : L a = some (gZ w n1))
    {sp dp nn : Int32} {A : Mm → OR} (hd : decode cc pc = .ok (.invokestatic index, 3)) (hf : cpk sp dp nn n0 n1 (bnd (mrow M a (va_cpy (M a0) (M a) (ix sp) (ix dp) (ix nn))) A) = some R0) (hst : (st.map fun v => v.category).sum ≤ 8) (kk : ∀ M1 : Mm, A M1 = some R0 → G l w L E M1 lv (pc + 3) st) : G l w L E M lv pc (.int nn :: .int dp :: .ref a :: .int sp :: .ref a0 :: st) :=
  g_cpy (mk := fun x => .int (zb x)) cx hn1 hlink tb_cpy1 tb_cpy2 tb_cpy3 hL0 hL1 (fun f => rfl) (fun f => rfl) cx.2.2.2.2.2.1.z.1 rfl zb_fits hd hf hst kk
theorem g_max (cx : Ok w L E own cc maxL n) (hn1 : 1 ≤ n) {index : Nat} (hlink : Cond.methodLink own index Lib.Math.max.name ∈ TB) {x y : Int32} (hd : decode cc pc = .ok (.invokestatic index, 3)) (hst : (st.map fun v => v.category).sum ≤ 8) (kk : G l w L E M lv (pc + 3) (.int (if x < y then y else x) :: st)) : G l w L E M lv pc (.int y :: .int x :: st) := by
  intro H locs ls h1 h2 h3
  refine va_mmax cx.1 cx.2.1 h3.1.symm cx.2.2.2.1 (cx.2.2.2.2.1 _ hlink) (cx.2.2.2.2.1 _ tb_max1) (cx.2.2.2.2.1 _ tb_max2) (cx.2.2.2.2.1 _ tb_max3) (Nat.le_trans hn1 cx.2.2.2.2.2.2.2.1) ?_ cx.2.2.2.2.2.2.2.2.2.1 cx.2.2.2.2.2.2.2.2.2.2 hd (kk H locs ls h1 h2 h3)
  have := cx.2.2.2.2.2.2.2.2.1
  omega
/-! ends -/
theorem g_iret (cx : Ok w L E own cc maxL n) {rt : FieldType} (en : En w L E (some rt) R0) {x : Int32} (hd : decode cc pc = .ok (.ireturn, 1)) (hn : narrow rt (.int x) = .int x) (hf : some (x, M) = some R0) : G l w L E M lv pc [.int x] := by
  intro H locs ls h1 h2 h3
  cases hf
  obtain ⟨e1, e2, e3, e4⟩ := en
  rw [e1]
  exact W.zret cx.1 cx.2.1 e3 hn (fun t ht hW => ⟨rfl, by rw [ht]; exact h1, by rw [e2] at h2; exact h2.F ht⟩) (by rw [← e2]; exact h2.2.2) hd e4
theorem g_vret (cx : Ok w L E own cc maxL n) (en : En w L E none R0) (hd : decode cc pc = .ok (.return_, 1)) (hf : some (0, M) = some R0) : G l w L E M lv pc [] := by
  intro H locs ls h1 h2 h3
  cases hf
  obtain ⟨e1, e2, e3, e4⟩ := en
  rw [e1]
  exact W.vret cx.1 cx.2.1 e3 (fun t ht hW => ⟨rfl, by rw [ht]; exact h1, by rw [e2] at h2; exact h2.F ht⟩) (by rw [← e2]; exact h2.2.2) hd e4
/-! calls -/
theorem fb_Pc {av : List Value} : FrameBlind (va_Pc av (fun U => HM w L M U.heap ∧ KK w U)) :=
  fun a U g mk q => ⟨q.1, q.2.1, KK.same (u := U) (U := U.calling g mk a) rfl q.2.2⟩
theorem CT_of {y : MethodName} {ret : Option FieldType} {av : List Value} {R1 : Int32 × Mm} (hy : plainName y.cls = true) (hl : (lg_sl av).length ≤ maxL)
    (body : ∀ E : Cx, Ok w L E y.cls cc maxL n → En w L E ret R1 → G l w L E M (lv_args 0 av) 0 []) : CT l w L y cc maxL ret n av M R1 := by
  refine Met.ofW (cc := cc) (maxL := maxL) (ret := ret) hy rfl ?_
  intro p e s m args below meth c s₁ B hml hv
  obtain ⟨rfl, hP, hK⟩ := hv
  have hts := atoms_spec (ws := Cond.code y cc maxL ret :: TB) B.pre
  have hown : s.vm.findClass y.cls = some m.cls := findClass_of_methodNamed B.named
  rw [lg_entry_eq]
  exact body (p, e, rmL n, s, m, av.toArray, below, meth, c, dm L, 0, 0, MQ below (QR w L ret R1) av.toArray s 0 0 (dm L))
    ⟨B.exec, B.bytes, hml, hown, fun w hw => hts w (List.mem_cons_of_mem _ hw), hK, fun q h => h, Nat.le_refl _, Nat.le_refl _, Nat.zero_le _, Nat.zero_le _⟩
    ⟨rfl, rfl, B.returns, B.notSynchronized⟩ s.heap [] _ hP va_S.rf (by show lv_has _ c.maxLocals _; rw [hml]; exact lv_entry av hl)
/-- behind a call -/
theorem g_back {av : List Value} {rt : Option FieldType} {R1 : Int32 × Mm} {H : Heap} {locs : List Loc} {ls : Array Slot} {stk : List Value} (cx : Ok w L E own cc maxL n) (h2 : va_S (xF E) (xS E).heap H locs) (h3 : lv_has ls (xC E).maxLocals lv)
    (hr : va_Run (xP E) l (xE E) (xR E) (xS E) (xM E) (xA E) (xB E) (xY E) (xC E) H locs (xN E) (xT E) 0 0 (F0 (xM E) pc ls stk) st (QR w L rt R1 av.toArray) (dm L))
    (kk : G l w L E R1.2 lv (pc + 3) ((rt.map fun _ => Value.int R1.1).toList ++ st)) : W (xP E) l (xE E) (xR E) (xS E) (xM E) (xA E) (xB E) (xY E) (xC E) H locs (xN E) (xT E) (xQ E) (F0 (xM E) pc ls stk) := by
  intro T hT X
  obtain ⟨v, st₀, t, T', Lw, h0, X', hL, e1, e2, ⟨hv, hb, hz, hk⟩, stp⟩ := hr T hT X
  cases hv
  rw [h0] at hz hk
  have sub := cx.2.2.2.2.2.2.1
  obtain ⟨t2, a1, b1⟩ := kk T'.heap (locs ++ Lw) ls (by rw [e1]; exact hb)
    ⟨Nat.le_trans h2.1 (by rw [e1]; exact hz), fun q h4 h5 => by rw [e1, hk q (Nat.lt_of_lt_of_le h4 h2.1) (fun z => h5 (sub q z))]; exact h2.2.1 q h4 h5, fun q hq => by
      rcases List.mem_append.mp hq with h | h
      · exact h2.2.2 q h
      · exact sub _ (hL q h)⟩ h3 T' rfl X'
  exact ⟨t2, stp t2 a1, b1⟩
/-- the words of a call's callee, n1 its depth -/
theorem rm_fit {n1 maxL1 : Nat} (cx : Ok w L E own cc maxL n) (h : n1 + 1 ≤ n) (hm : maxL1 ≤ 13) : (rmL n1).frames + 1 ≤ (xR E).frames ∧ 8 + (maxL1 + 11) + (rmL n1).locals ≤ (xR E).locals := by
  have h4 := cx.2.2.2.2.2.2.2.1
  have h5 := cx.2.2.2.2.2.2.2.2.1
  refine ⟨?_, ?_⟩
  · show n1 + 1 ≤ _; omega
  · show 8 + (maxL1 + 11) + 32 * n1 ≤ _; omega
theorem pay_tb {y : MethodName} {c1 : ByteArray} {m1 : Nat} {rt : Option FieldType} {s : State} {args : Array Value} (hts : ∀ w ∈ TB, w.before args s = true) (hcode : Cond.code y c1 m1 rt ∈ TB) :
    ∀ w ∈ Cond.code y c1 m1 rt :: TB, ∀ (a' : Array Value) (U : State), s.WarmedH U.vm → w.before a' U = true := by
  intro w hw a' U hW
  have hm : w ∈ TB := by
    rcases List.mem_cons.mp hw with rfl | h
    · exact hcode
    · exact h
  exact word_at hW (good_of_word (tb_g hm)) (hts w hm)
def LkV (own : String) (index : Nat) (C : String) (y : MethodName) (c1 : ByteArray) (m1 : Nat) (rt : Option FieldType) (k : Nat) : Prop :=
  Cond.methodLink own index y ∈ TB ∧ Cond.instanceMethod y ∈ TB ∧ Cond.selects C y y ∈ TB ∧ Cond.initialized y.cls ∈ TB ∧ Cond.code y c1 m1 rt ∈ TB ∧ (y.cls ≠ "java/lang/invoke/MethodHandle" ∧ y.cls ≠ "java/lang/invoke/VarHandle" ∧ (parseMethodDescriptor y.desc).map (fun d => d.parameters.length) = some k) ∧ m1 ≤ 13
theorem g_callV {index : Nat} {C : String} {y : MethodName} {c1 : ByteArray} {m1 n1 ci : Nat} {rt : Option FieldType} {As : List Value} {b : Nat} {R1 : Int32 × Mm} {ks : List (Option Nat)} {T : u_T} {N : Nat} (cx : Ok w L E own cc maxL n) (lk : LkV own index C y c1 m1 rt As.length) (hc : vwCl[ci]? = some (C, T, N)) (hL : L b = some (gO ci ks)) (hn : n1 + 1 ≤ n)
    (hM : CT l w L y c1 m1 rt n1 (.ref b :: As) M R1) (hd : decode cc pc = .ok (.invokevirtual index, 3)) (hst : (st.map fun v => v.category).sum ≤ 8) (kk : G l w L E R1.2 lv (pc + 3) ((rt.map fun _ => Value.int R1.1).toList ++ st)) : G l w L E M lv pc (As.reverse ++ .ref b :: st) := by
  intro H locs ls h1 h2 h3
  obtain ⟨k1, k2, k3, k4, k5, ⟨k6, k7, k8⟩, k9⟩ := lk
  have hts := cx.2.2.2.2.1
  have hfit := rm_fit cx hn k9
  refine g_back cx h2 h3 (va_runV (As := As) (rest := st) (b := b) (nL := maxL) (C := C) (n := As.length) ⟨cx.1, cx.2.1, cx.2.2.1, cx.2.2.2.1, hts⟩ hM ⟨⟨rfl, rfl, hfit.1, hfit.2, pay_tb hts k5, List.mem_cons_self, hts _ k5, hts _ k4, ⟨k6, k7⟩, fun sig h => ?_, hts _ k1⟩, hts _ k2, hts _ k3⟩ ⟨fb_Pc, ?_, fun U hU hW => ⟨rfl, by rw [hU]; exact h1, cx.2.2.2.2.2.1.warm hW⟩⟩ rfl rfl (by rw [← cx.2.2.1]; exact h3.1) rfl (lv_room hst) hd ⟨cx.2.2.2.2.2.2.2.2.2.1, cx.2.2.2.2.2.2.2.2.2.2⟩) kk
  · rw [h] at k8
    exact (Option.some.inj k8).symm
  · obtain ⟨q', g0, cell, g1, g2, g3, -⟩ := h1 b _ hL
    exact ⟨cell, g1, by rw [g3]; rfl, by rw [g2]; exact (cx.2.2.2.2.2.1.1.1 ci _ hc).2.1⟩
def LkS (own : String) (index : Nat) (y : MethodName) (c1 : ByteArray) (m1 : Nat) (rt : Option FieldType) (k : Nat) : Prop :=
  Cond.methodLink own index y ∈ TB ∧ Cond.static y ∈ TB ∧ Cond.initialized y.cls ∈ TB ∧ Cond.code y c1 m1 rt ∈ TB ∧ (y.cls ≠ "java/lang/invoke/MethodHandle" ∧ y.cls ≠ "java/lang/invoke/VarHandle" ∧ (parseMethodDescriptor y.desc).map (fun d => d.parameters.length) = some k) ∧ m1 ≤ 13
theorem g_callS {index : Nat} {y : MethodName} {c1 : ByteArray} {m1 n1 : Nat} {rt : Option FieldType} {As : List Value} {R1 : Int32 × Mm} (cx : Ok w L E own cc maxL n) (lk : LkS own index y c1 m1 rt As.length) (hn : n1 + 1 ≤ n)
    (hM : CT l w L y c1 m1 rt n1 As M R1) (hd : decode cc pc = .ok (.invokestatic index, 3)) (hst : (st.map fun v => v.category).sum ≤ 8) (kk : G l w L E R1.2 lv (pc + 3) ((rt.map fun _ => Value.int R1.1).toList ++ st)) : G l w L E M lv pc (As.reverse ++ st) := by
  intro H locs ls h1 h2 h3
  obtain ⟨k1, k2, k4, k5, ⟨k6, k7, k8⟩, k9⟩ := lk
  have hts := cx.2.2.2.2.1
  have hfit := rm_fit cx hn k9
  refine g_back cx h2 h3 (va_runS (As := As) (rest := st) (nL := maxL) (n := As.length) ⟨cx.1, cx.2.1, cx.2.2.1, cx.2.2.2.1, hts⟩ hM ⟨⟨rfl, rfl, hfit.1, hfit.2, pay_tb hts k5, List.mem_cons_self, hts _ k5, hts _ k4, ⟨k6, k7⟩, fun sig h => ?_, hts _ k1⟩, hts _ k2⟩ ⟨fb_Pc, fun U hU hW => ⟨rfl, by rw [hU]; exact h1, cx.2.2.2.2.2.1.warm hW⟩⟩ rfl rfl (by rw [← cx.2.2.1]; exact h3.1) rfl (lv_room hst) hd ⟨cx.2.2.2.2.2.2.2.2.2.1, cx.2.2.2.2.2.2.2.2.2.2⟩) kk
  rw [h] at k8
  exact (Option.some.inj k8).symm
def LkN (own : String) (index : Nat) (host : String) (y : MethodName) (c1 : ByteArray) (m1 : Nat) (rt : Option FieldType) (k : Nat) : Prop :=
  Cond.methodLinkNest own index y host ∈ nwL ∧ Cond.static y ∈ TB ∧ Cond.initialized y.cls ∈ TB ∧ Cond.code y c1 m1 rt ∈ TB ∧ (y.cls ≠ "java/lang/invoke/MethodHandle" ∧ y.cls ≠ "java/lang/invoke/VarHandle" ∧ (parseMethodDescriptor y.desc).map (fun d => d.parameters.length) = some k) ∧ m1 ≤ 13
theorem g_callN {index : Nat} {host : String} {y : MethodName} {c1 : ByteArray} {m1 n1 : Nat} {rt : Option FieldType} {As : List Value} {R1 : Int32 × Mm} (cx : Ok w L E own cc maxL n) (lk : LkN own index host y c1 m1 rt As.length) (hn : n1 + 1 ≤ n)
    (hM : CT l w L y c1 m1 rt n1 As M R1) (hd : decode cc pc = .ok (.invokestatic index, 3)) (hst : (st.map fun v => v.category).sum ≤ 8) (kk : G l w L E R1.2 lv (pc + 3) ((rt.map fun _ => Value.int R1.1).toList ++ st)) : G l w L E M lv pc (As.reverse ++ st) := by
  intro H locs ls h1 h2 h3
  obtain ⟨k1, k2, k4, k5, ⟨k6, k7, k8⟩, k9⟩ := lk
  have hts := cx.2.2.2.2.1
  have hfit := rm_fit cx hn k9
  refine g_back cx h2 h3 (va_runSN (As := As) (rest := st) (nL := maxL) (n := As.length) (host := host) ⟨cx.1, cx.2.1, cx.2.2.1, cx.2.2.2.1, hts⟩ hM ⟨⟨⟨rfl, rfl, hfit.1, hfit.2, pay_tb hts k5, List.mem_cons_self⟩, hts _ k5, hts _ k4, ⟨k6, k7⟩, fun sig h => ?_, va_Nw.use rfl (cx.2.2.2.2.2.1.2 _ k1)⟩, hts _ k2, trivial⟩ ⟨fb_Pc, fun U hU hW => ⟨rfl, by rw [hU]; exact h1, cx.2.2.2.2.2.1.warm hW⟩⟩ rfl rfl (by rw [← cx.2.2.1]; exact h3.1) rfl (lv_room hst) hd ⟨cx.2.2.2.2.2.2.2.2.2.1, cx.2.2.2.2.2.2.2.2.2.2⟩) kk
  rw [h] at k8
  exact (Option.some.inj k8).symm
end GH

/-! for the walks' programs -/
def wck (e : Int32) (A : OR) : OR := if ix e < 5 then A else none
def zrk (x : Int32) (A : OR) : OR := if zb x = x then A else none
def jrem (x y : Int32) : Int32 := x - x / y * y
def FU : Nat := 4000
theorem obn_some2 {α β : Type} {x : OQ α} {k : α → Mm → OQ β} {R0 : β × Mm} (h : obn x k = some R0) : ∃ (r : α) (M1 : Mm), x = some (r, M1) ∧ k r M1 = some R0 := by
  obtain ⟨⟨r, M1⟩, h1, h2⟩ := obn_some h
  exact ⟨r, M1, h1, h2⟩
theorem wck_in {e : Int32} {A : OR} {R0 : Int32 × Mm} (h : wck e A = some R0) : ix e < 5 ∧ A = some R0 := by
  unfold wck at h
  split at h
  · rename_i q
    exact ⟨q, h⟩
  · cases h
theorem zrk_in {x : Int32} {A : OR} {R0 : Int32 × Mm} (h : zrk x A = some R0) : zb x = x ∧ A = some R0 := by
  unfold zrk at h
  split at h
  · rename_i q
    exact ⟨q, h⟩
  · cases h
section GP
variable {l : Launch} {w : Wp} {L : Ly} {E : Cx} {M : Mm} {lv : List (Nat × Value)} {pc : Nat} {st : List Value} {own : String} {cc : ByteArray} {maxL n : Nat} {R0 : Int32 × Mm} {A B : OR} {off : Int} {tgt : Nat}
theorem g_jrem (cx : Ok w L E own cc maxL n) {x y : Int32} (hd : decode cc pc = .ok (.irem, 1)) (hy : ¬ y = 0) (k : G l w L E M lv (pc + 1) (.int (jrem x y) :: st)) : G l w L E M lv pc (.int y :: .int x :: st) := g_irem cx hd hy k
theorem g_aaldH (cx : Ok w L E own cc maxL n) {a m b0 : Nat} {i : Int32} {F : Int32 → OR} (hL : L a = some (gR w m)) (hb : w.2.2.2.2 = b0) (hd : decode cc pc = .ok (.aaload, 1)) (hf : ckd i m (bnd (M a (ix i)) fun r => wck r (F r)) = some R0) (kk : ∀ r : Int32, ix r < 5 → F r = some R0 → G l w L E M lv (pc + 1) (.ref (b0 + 32 * ix r) :: st)) : G l w L E M lv pc (.int i :: .ref a :: st) := by
  subst hb
  exact g_aald cx hL hd hf fun hf => kk _ (wck_in hf).1 (wck_in hf).2
theorem g_aastH (cx : Ok w L E own cc maxL n) {a m b0 : Nat} {i j : Int32} {F : Mm → OR} {ks : List (Option Nat)} (hL : L a = some (gR w m)) (hb : w.2.2.2.2 = b0) (hW : L (b0 + 32 * ix j) = some (gO 7 ks)) (hd : decode cc pc = .ok (.aastore, 1)) (hf : ckd i m (bnd (mst M a (ix i) j) F) = some R0) (kk : ∀ M1 : Mm, F M1 = some R0 → G l w L E M1 lv (pc + 1) st) : G l w L E M lv pc (.ref (b0 + 32 * ix j) :: .int i :: .ref a :: st) := by
  subst hb
  exact g_aast cx hL hW hd hf kk
theorem g_zret (cx : Ok w L E own cc maxL n) (en : En w L E (some .boolean) R0) {x : Int32} (hd : decode cc pc = .ok (.ireturn, 1)) (hf : zrk x (some (x, M)) = some R0) : G l w L E M lv pc [.int x] := by
  obtain ⟨h1, h2⟩ := zrk_in hf
  exact g_iret cx en hd (show Value.int (zb x) = .int x by rw [h1]) h2
theorem g_swk (cx : Ok w L E own cc maxL n) {dflt lo hi : Int} {offs : Array Int} {len : Nat} {x kx : Int32} (hd : decode cc pc = .ok (.tableswitch dflt lo hi offs, len)) (h1 : ¬ kx.toInt < lo) (h2 : ¬ hi < kx.toInt) (ho : offs[(kx.toInt - lo).toNat]? = some off) (ht : (pc : Int) + off = (tgt : Int)) (hf : (if x = kx then A else B) = some R0) (ka : A = some R0 → G l w L E M lv tgt st) (kb : ¬ x = kx → B = some R0 → G l w L E M lv pc (.int x :: st)) : G l w L E M lv pc (.int x :: st) := by
  by_cases h : x = kx
  · subst h
    intro H locs ls q1 q2 q3
    exact lv_tableIn cx.1 cx.2.1 hd h1 h2 ho ht (ka (if_t hf rfl) H locs ls q1 q2 q3)
  · exact kb h (if_f hf h)
theorem g_swo (cx : Ok w L E own cc maxL n) {dflt lo hi : Int} {offs : Array Int} {len : Nat} {x : Int32} (hd : decode cc pc = .ok (.tableswitch dflt lo hi offs, len)) (h : x.toInt < lo ∨ hi < x.toInt) (ht : (pc : Int) + dflt = (tgt : Int)) (k : G l w L E M lv tgt st) : G l w L E M lv pc (.int x :: st) :=
  fun H locs ls q1 q2 q3 => lv_tableOut cx.1 cx.2.1 hd h ht (k H locs ls q1 q2 q3)
theorem g_lks (cx : Ok w L E own cc maxL n) {dflt : Int} {ps : Array (Int × Int)} {len : Nat} {x kx : Int32} (hd : decode cc pc = .ok (.lookupswitch dflt ps, len)) (hp : (ps.toList.zip (ps.toList.drop 1)).all (fun (a, next) => a.1 < next.1) = true) (ho : Op.lookupswitch.offset ps.toList dflt kx.toInt = off) (ht : (pc : Int) + off = (tgt : Int)) (hf : (if x = kx then A else B) = some R0) (ka : A = some R0 → G l w L E M lv tgt st) (kb : ¬ x = kx → B = some R0 → G l w L E M lv pc (.int x :: st)) : G l w L E M lv pc (.int x :: st) := by
  by_cases h : x = kx
  · subst h
    intro H locs ls q1 q2 q3
    exact lv_lookup cx.1 cx.2.1 hd hp ho ht (ka (if_t hf rfl) H locs ls q1 q2 q3)
  · exact kb h (if_f hf h)
theorem g_lko (cx : Ok w L E own cc maxL n) {dflt : Int} {ps : Array (Int × Int)} {len : Nat} {x : Int32} (hd : decode cc pc = .ok (.lookupswitch dflt ps, len)) (hp : (ps.toList.zip (ps.toList.drop 1)).all (fun (a, next) => a.1 < next.1) = true) (ho : Op.lookupswitch.offset ps.toList dflt x.toInt = off) (ht : (pc : Int) + off = (tgt : Int)) (k : G l w L E M lv tgt st) : G l w L E M lv pc (.int x :: st) :=
  fun H locs ls q1 q2 q3 => lv_lookup cx.1 cx.2.1 hd hp ho ht (k H locs ls q1 q2 q3)
variable {index : Nat} {C : String} {y : MethodName} {c1 : ByteArray} {m1 n1 ci : Nat} {rt : FieldType} {b : Nat} {r : Int32} {M1 : Mm} {ks : List (Option Nat)} {T : u_T} {N : Nat} {host : String}
theorem g_callVi (As : List Value) (st : List Value) (cx : Ok w L E own cc maxL n) (lk : LkV own index C y c1 m1 (some rt) As.length) (hc : vwCl[ci]? = some (C, T, N)) (hL : L b = some (gO ci ks)) (hn : n1 + 1 ≤ n)
    (hM : CT l w L y c1 m1 (some rt) n1 (.ref b :: As) M (r, M1)) (hd : decode cc pc = .ok (.invokevirtual index, 3)) (hst : (st.map fun v => v.category).sum ≤ 8) (kk : G l w L E M1 lv (pc + 3) (.int r :: st)) : G l w L E M lv pc (As.reverse ++ .ref b :: st) := g_callV cx lk hc hL hn hM hd hst kk
theorem g_callVv (As : List Value) (st : List Value) (cx : Ok w L E own cc maxL n) (lk : LkV own index C y c1 m1 none As.length) (hc : vwCl[ci]? = some (C, T, N)) (hL : L b = some (gO ci ks)) (hn : n1 + 1 ≤ n)
    (hM : CT l w L y c1 m1 none n1 (.ref b :: As) M (r, M1)) (hd : decode cc pc = .ok (.invokevirtual index, 3)) (hst : (st.map fun v => v.category).sum ≤ 8) (kk : G l w L E M1 lv (pc + 3) st) : G l w L E M lv pc (As.reverse ++ .ref b :: st) := g_callV cx lk hc hL hn hM hd hst kk
theorem g_callSi (As : List Value) (st : List Value) (cx : Ok w L E own cc maxL n) (lk : LkS own index y c1 m1 (some rt) As.length) (hn : n1 + 1 ≤ n)
    (hM : CT l w L y c1 m1 (some rt) n1 As M (r, M1)) (hd : decode cc pc = .ok (.invokestatic index, 3)) (hst : (st.map fun v => v.category).sum ≤ 8) (kk : G l w L E M1 lv (pc + 3) (.int r :: st)) : G l w L E M lv pc (As.reverse ++ st) := g_callS cx lk hn hM hd hst kk
theorem g_callNi (As : List Value) (st : List Value) (cx : Ok w L E own cc maxL n) (lk : LkN own index host y c1 m1 (some rt) As.length) (hn : n1 + 1 ≤ n)
    (hM : CT l w L y c1 m1 (some rt) n1 As M (r, M1)) (hd : decode cc pc = .ok (.invokestatic index, 3)) (hst : (st.map fun v => v.category).sum ≤ 8) (kk : G l w L E M1 lv (pc + 3) (.int r :: st)) : G l w L E M lv pc (As.reverse ++ st) := g_callN cx lk hn hM hd hst kk
end GP

/-! longs -/
def jcmp (x y : Int64) : Int32 := lg_cmp x y
section GJ
variable {l : Launch} {w : Wp} {L : Ly} {E : Cx} {M : Mm} {lv : List (Nat × Value)} {pc : Nat} {st : List Value} {own : String} {cc : ByteArray} {maxL n : Nat}
theorem g_nmJ {β : Type} {x : Int64} {A : Int64 → OQ β} {R0 : β × Mm} (hf : bnd x A = some R0) (k : ∀ y : Int64, A y = some R0 → G l w L E M lv pc (.long y :: st)) : G l w L E M lv pc (.long x :: st) := k x hf
theorem g_lconst (cx : Ok w L E own cc maxL n) {nn : Fin 2} {v : Int64} (hd : decode cc pc = .ok (.lconst nn, 1)) (hv : Int64.ofNat (nn : Nat) = v) (k : G l w L E M lv (pc + 1) (.long v :: st)) : G l w L E M lv pc st :=
  fun H locs ls h1 h2 h3 => lv_lconst cx.1 cx.2.1 hd hv (k H locs ls h1 h2 h3)
theorem g_ldc2 (cx : Ok w L E own cc maxL n) {i : Nat} {v : Int64} (hw : Cond.constantLong own i v ∈ TB) (hd : decode cc pc = .ok (.ldc2_w i, 3)) (k : G l w L E M lv (pc + 3) (.long v :: st)) : G l w L E M lv pc st :=
  fun H locs ls h1 h2 h3 => lv_ldc2 cx.1 cx.2.1 cx.2.2.2.1 (cx.2.2.2.2.1 _ hw) hd (k H locs ls h1 h2 h3)
theorem g_lload_n (cx : Ok w L E own cc maxL n) {j : Fin 4} {i : Nat} {x : Int64} (hd : decode cc pc = .ok (.lload_n j, 1)) (hi : (j : Nat) = i) (p : Nat) (hp : lv[p]? = some (i, .long x)) (k : G l w L E M lv (pc + 1) (.long x :: st)) : G l w L E M lv pc st :=
  fun H locs ls h1 h2 h3 => lv_lload_n cx.1 cx.2.1 hd hi (lv_at h3 p hp) (k H locs ls h1 h2 h3)
theorem g_lload (cx : Ok w L E own cc maxL n) {i : Nat} {x : Int64} (hd : decode cc pc = .ok (.lload i, 2)) (p : Nat) (hp : lv[p]? = some (i, .long x)) (k : G l w L E M lv (pc + 2) (.long x :: st)) : G l w L E M lv pc st :=
  fun H locs ls h1 h2 h3 => lv_lload cx.1 cx.2.1 hd (lv_at h3 p hp) (k H locs ls h1 h2 h3)
theorem g_lstore_n (cx : Ok w L E own cc maxL n) {j : Fin 4} {i : Nat} {x : Int64} (lv' : List (Nat × Value)) (hd : decode cc pc = .ok (.lstore_n j, 1)) (hi : (j : Nat) = i) (hn : i + 1 < maxL) (hl : (i, Value.long x) :: lv.filter (fun q => !(q.1 == i) && (!(q.1 == i + 1) && !(q.1 + 1 == i && q.2.category == 2))) = lv') (k : G l w L E M lv' (pc + 1) st) : G l w L E M lv pc (.long x :: st) :=
  fun H locs _ h1 h2 h3 => lv_lstore_n cx.1 cx.2.1 hd hi h3 (by rw [cx.2.2.1]; exact hn) hl (fun ls h => k H locs ls h1 h2 h)
theorem g_lstore (cx : Ok w L E own cc maxL n) {i : Nat} {x : Int64} (lv' : List (Nat × Value)) (hd : decode cc pc = .ok (.lstore i, 2)) (hn : i + 1 < maxL) (hl : (i, Value.long x) :: lv.filter (fun q => !(q.1 == i) && (!(q.1 == i + 1) && !(q.1 + 1 == i && q.2.category == 2))) = lv') (k : G l w L E M lv' (pc + 2) st) : G l w L E M lv pc (.long x :: st) :=
  fun H locs _ h1 h2 h3 => lv_lstore cx.1 cx.2.1 hd h3 (by rw [cx.2.2.1]; exact hn) hl (fun ls h => k H locs ls h1 h2 h)
theorem g_ladd (cx : Ok w L E own cc maxL n) {x y : Int64} (hd : decode cc pc = .ok (.ladd, 1)) (k : G l w L E M lv (pc + 1) (.long (x + y) :: st)) : G l w L E M lv pc (.long y :: .long x :: st) :=
  fun H locs ls h1 h2 h3 => lv_ladd cx.1 cx.2.1 hd (k H locs ls h1 h2 h3)
theorem g_lmul (cx : Ok w L E own cc maxL n) {x y : Int64} (hd : decode cc pc = .ok (.lmul, 1)) (k : G l w L E M lv (pc + 1) (.long (x * y) :: st)) : G l w L E M lv pc (.long y :: .long x :: st) :=
  fun H locs ls h1 h2 h3 => lv_lmul cx.1 cx.2.1 hd (k H locs ls h1 h2 h3)
theorem g_land (cx : Ok w L E own cc maxL n) {x y : Int64} (hd : decode cc pc = .ok (.land, 1)) (k : G l w L E M lv (pc + 1) (.long (x &&& y) :: st)) : G l w L E M lv pc (.long y :: .long x :: st) :=
  fun H locs ls h1 h2 h3 => lv_land cx.1 cx.2.1 hd (k H locs ls h1 h2 h3)
theorem g_lshr (cx : Ok w L E own cc maxL n) {x : Int64} {y : Int32} (hd : decode cc pc = .ok (.lshr, 1)) (k : G l w L E M lv (pc + 1) (.long (x >>> (y.toInt64 &&& 63)) :: st)) : G l w L E M lv pc (.int y :: .long x :: st) :=
  fun H locs ls h1 h2 h3 => lv_lshr cx.1 cx.2.1 hd rfl (k H locs ls h1 h2 h3)
theorem g_i2l (cx : Ok w L E own cc maxL n) {x : Int32} (hd : decode cc pc = .ok (.i2l, 1)) (k : G l w L E M lv (pc + 1) (.long x.toInt64 :: st)) : G l w L E M lv pc (.int x :: st) :=
  fun H locs ls h1 h2 h3 => lv_i2l cx.1 cx.2.1 hd rfl (k H locs ls h1 h2 h3)
theorem g_l2i (cx : Ok w L E own cc maxL n) {x : Int64} (hd : decode cc pc = .ok (.l2i, 1)) (k : G l w L E M lv (pc + 1) (.int x.toInt32 :: st)) : G l w L E M lv pc (.long x :: st) :=
  fun H locs ls h1 h2 h3 => lv_l2i cx.1 cx.2.1 hd rfl (k H locs ls h1 h2 h3)
theorem g_lcmp (cx : Ok w L E own cc maxL n) {x y : Int64} (hd : decode cc pc = .ok (.lcmp, 1)) (k : G l w L E M lv (pc + 1) (.int (jcmp x y) :: st)) : G l w L E M lv pc (.long y :: .long x :: st) :=
  fun H locs ls h1 h2 h3 => W.lcmp cx.1 cx.2.1 hd (k H locs ls h1 h2 h3)
/-- a remainder by a number that is not written -/
theorem g_jremK (cx : Ok w L E own cc maxL n) {x y : Int32} {A : OR} {R0 : Int32 × Mm} (hd : decode cc pc = .ok (.irem, 1)) (hf : dvk y A = some R0) (k : A = some R0 → G l w L E M lv (pc + 1) (.int (jrem x y) :: st)) : G l w L E M lv pc (.int y :: .int x :: st) := by
  unfold dvk at hf
  split at hf
  · cases hf
  · rename_i hy
    exact g_irem cx hd hy (k hf)
theorem g_idivK (cx : Ok w L E own cc maxL n) {x y : Int32} {A : OR} {R0 : Int32 × Mm} (hd : decode cc pc = .ok (.idiv, 1)) (hf : dvk y A = some R0) (k : A = some R0 → G l w L E M lv (pc + 1) (.int (x / y) :: st)) : G l w L E M lv pc (.int y :: .int x :: st) := by
  unfold dvk at hf
  split at hf
  · cases hf
  · rename_i hy
    exact g_idiv cx hd hy (k hf)
/-! methods that answer a long -/
def QJ (w : Wp) (L : Ly) (R0 : Int64 × Mm) : Array Value → State → Outcome → State → Prop := fun _ st oc t =>
  oc = .returned (some (.long R0.1)) ∧ HM w L R0.2 t.heap ∧ va_F (dm L) st t
def EnJ (w : Wp) (L : Ly) (E : Cx) (R0 : Int64 × Mm) : Prop :=
  xQ E = MQ (xB E) (QJ w L R0) (xA E) (xS E) (xN E) (xT E) (dm L) ∧ xF E = dm L ∧ (xY E).sig.returnType = some .long ∧ (xY E).locks = false
def CJ (l : Launch) (w : Wp) (L : Ly) (y : MethodName) (cc : ByteArray) (maxL : Nat) (n : Nat) (av : List Value) (M : Mm) (R0 : Int64 × Mm) : Prop :=
  Met l y (Cond.code y cc maxL (some .long) :: TB) (rmL n) (va_Pc av (fun U => HM w L M U.heap ∧ KK w U)) (QJ w L R0) 0 0 (dm L)
theorem g_lret (cx : Ok w L E own cc maxL n) {R0 : Int64 × Mm} (en : EnJ w L E R0) {x : Int64} (hd : decode cc pc = .ok (.lreturn, 1)) (hf : some (x, M) = some R0) : G l w L E M lv pc [.long x] := by
  intro H locs ls h1 h2 h3
  cases hf
  obtain ⟨e1, e2, e3, e4⟩ := en
  rw [e1]
  exact W.lret cx.1 cx.2.1 e3 (fun t ht hW => ⟨rfl, by rw [ht]; exact h1, by rw [e2] at h2; exact h2.F ht⟩) (by rw [← e2]; exact h2.2.2) hd e4
theorem CJ_of {y : MethodName} {av : List Value} {R1 : Int64 × Mm} (hy : plainName y.cls = true) (hl : (lg_sl av).length ≤ maxL)
    (body : ∀ E : Cx, Ok w L E y.cls cc maxL n → EnJ w L E R1 → G l w L E M (lv_args 0 av) 0 []) : CJ l w L y cc maxL n av M R1 := by
  refine Met.ofW (cc := cc) (maxL := maxL) (ret := some .long) hy rfl ?_
  intro p e s m args below meth c s₁ B hml hv
  obtain ⟨rfl, hP, hK⟩ := hv
  have hts := atoms_spec (ws := Cond.code y cc maxL (some .long) :: TB) B.pre
  have hown : s.vm.findClass y.cls = some m.cls := findClass_of_methodNamed B.named
  rw [lg_entry_eq]
  exact body (p, e, rmL n, s, m, av.toArray, below, meth, c, dm L, 0, 0, MQ below (QJ w L R1) av.toArray s 0 0 (dm L))
    ⟨B.exec, B.bytes, hml, hown, fun w hw => hts w (List.mem_cons_of_mem _ hw), hK, fun q h => h, Nat.le_refl _, Nat.le_refl _, Nat.zero_le _, Nat.zero_le _⟩
    ⟨rfl, rfl, B.returns, B.notSynchronized⟩ s.heap [] _ hP va_S.rf (by show lv_has _ c.maxLocals _; rw [hml]; exact lv_entry av hl)
theorem g_backJ {av : List Value} {R1 : Int64 × Mm} {H : Heap} {locs : List Loc} {ls : Array Slot} {stk : List Value} (cx : Ok w L E own cc maxL n) (h2 : va_S (xF E) (xS E).heap H locs) (h3 : lv_has ls (xC E).maxLocals lv)
    (hr : va_Run (xP E) l (xE E) (xR E) (xS E) (xM E) (xA E) (xB E) (xY E) (xC E) H locs (xN E) (xT E) 0 0 (F0 (xM E) pc ls stk) st (QJ w L R1 av.toArray) (dm L))
    (kk : G l w L E R1.2 lv (pc + 3) (.long R1.1 :: st)) : W (xP E) l (xE E) (xR E) (xS E) (xM E) (xA E) (xB E) (xY E) (xC E) H locs (xN E) (xT E) (xQ E) (F0 (xM E) pc ls stk) := by
  intro T hT X
  obtain ⟨v, st₀, t, T', Lw, h0, X', hL, e1, e2, ⟨hv, hb, hz, hk⟩, stp⟩ := hr T hT X
  cases hv
  rw [h0] at hz hk
  have sub := cx.2.2.2.2.2.2.1
  obtain ⟨t2, a1, b1⟩ := kk T'.heap (locs ++ Lw) ls (by rw [e1]; exact hb)
    ⟨Nat.le_trans h2.1 (by rw [e1]; exact hz), fun q h4 h5 => by rw [e1, hk q (Nat.lt_of_lt_of_le h4 h2.1) (fun z => h5 (sub q z))]; exact h2.2.1 q h4 h5, fun q hq => by
      rcases List.mem_append.mp hq with h | h
      · exact h2.2.2 q h
      · exact sub _ (hL q h)⟩ h3 T' rfl X'
  exact ⟨t2, stp t2 a1, b1⟩
theorem g_callSj {index : Nat} {y : MethodName} {c1 : ByteArray} {m1 n1 : Nat} {r : Int64} {M1 : Mm} (As : List Value) (st : List Value) (cx : Ok w L E own cc maxL n) (lk : LkS own index y c1 m1 (some .long) As.length) (hn : n1 + 1 ≤ n)
    (hM : CJ l w L y c1 m1 n1 As M (r, M1)) (hd : decode cc pc = .ok (.invokestatic index, 3)) (hst : (st.map fun v => v.category).sum ≤ 8) (kk : G l w L E M1 lv (pc + 3) (.long r :: st)) : G l w L E M lv pc (As.reverse ++ st) := by
  intro H locs ls h1 h2 h3
  obtain ⟨k1, k2, k4, k5, ⟨k6, k7, k8⟩, k9⟩ := lk
  have hts := cx.2.2.2.2.1
  have hfit := rm_fit cx hn k9
  refine g_backJ cx h2 h3 (va_runS (As := As) (rest := st) (nL := maxL) (n := As.length) ⟨cx.1, cx.2.1, cx.2.2.1, cx.2.2.2.1, hts⟩ hM ⟨⟨rfl, rfl, hfit.1, hfit.2, pay_tb hts k5, List.mem_cons_self, hts _ k5, hts _ k4, ⟨k6, k7⟩, fun sig h => ?_, hts _ k1⟩, hts _ k2⟩ ⟨fb_Pc, fun U hU hW => ⟨rfl, by rw [hU]; exact h1, cx.2.2.2.2.2.1.warm hW⟩⟩ rfl rfl (by rw [← cx.2.2.1]; exact h3.1) rfl (lv_room hst) hd ⟨cx.2.2.2.2.2.2.2.2.2.1, cx.2.2.2.2.2.2.2.2.2.2⟩) kk
  rw [h] at k8
  exact (Option.some.inj k8).symm
theorem g_callSv {index : Nat} {y : MethodName} {c1 : ByteArray} {m1 n1 : Nat} {r : Int32} {M1 : Mm} (As : List Value) (st : List Value) (cx : Ok w L E own cc maxL n) (lk : LkS own index y c1 m1 none As.length) (hn : n1 + 1 ≤ n)
    (hM : CT l w L y c1 m1 none n1 As M (r, M1)) (hd : decode cc pc = .ok (.invokestatic index, 3)) (hst : (st.map fun v => v.category).sum ≤ 8) (kk : G l w L E M1 lv (pc + 3) st) : G l w L E M lv pc (As.reverse ++ st) := g_callS cx lk hn hM hd hst kk
/-! the script, which is only read -/
def Sc (E : Cx) (b N : Nat) (xs : Nat → Int32) : Prop := va_X b N xs (xS E) (xS E).heap ∧ b < (xS E).heap.size ∧ ¬ xF E b
theorem g_sld (cx : Ok w L E own cc maxL n) {R0 : Int32 × Mm} {b N : Nat} {xs : Nat → Int32} {i : Int32} {A : OR} (sc : Sc E b N xs) (hd : decode cc pc = .ok (.iaload, 1)) (hf : ckd i N A = some R0) (kk : A = some R0 → G l w L E M lv (pc + 1) (.int (xs (ix i)) :: st)) : G l w L E M lv pc (.int i :: .ref b :: st) := by
  intro H locs ls h1 h2 h3
  obtain ⟨hin, hf⟩ := ckd_in hf
  exact va_sld cx.1 cx.2.1 sc.1 sc.2.1 sc.2.2 h2 hin hd (kk hf H locs ls h1 h2 h3)
theorem g_slen (cx : Ok w L E own cc maxL n) {b N : Nat} {xs : Nat → Int32} (sc : Sc E b N xs) (hd : decode cc pc = .ok (.arraylength, 1)) (kk : G l w L E M lv (pc + 1) (.int (nI N) :: st)) : G l w L E M lv pc (.ref b :: st) := by
  intro H locs ls h1 h2 h3
  exact va_slen cx.1 cx.2.1 sc.1 sc.2.1 sc.2.2 h2 hd (kk H locs ls h1 h2 h3)
theorem va_X_same {b N : Nat} {xs : Nat → Int32} {s U : State} {H0 H : Heap} (hW : s.vm.Alike U.vm) (h : va_X b N xs s H0) (e : H[b]? = H0[b]?) : va_X b N xs U H := by
  obtain ⟨scr, h1, h2, h3⟩ := h
  exact ⟨scr, by rw [e]; exact h1, State.isArrayOf_alike hW h2, h3⟩
def CTs (l : Launch) (w : Wp) (L : Ly) (y : MethodName) (cc : ByteArray) (maxL : Nat) (ret : Option FieldType) (n : Nat) (av : List Value) (M : Mm) (b N : Nat) (xs : Nat → Int32) (R0 : Int32 × Mm) : Prop :=
  Met l y (Cond.code y cc maxL ret :: TB) (rmL n) (va_Pc av (fun U => HM w L M U.heap ∧ KK w U ∧ va_X b N xs U U.heap ∧ b < U.heap.size)) (QR w L ret R0) 0 0 (dm L)
theorem CTs_of {y : MethodName} {ret : Option FieldType} {av : List Value} {R1 : Int32 × Mm} {b N : Nat} {xs : Nat → Int32} (hLb : L b = none) (hy : plainName y.cls = true) (hl : (lg_sl av).length ≤ maxL)
    (body : ∀ E : Cx, Ok w L E y.cls cc maxL n → En w L E ret R1 → Sc E b N xs → G l w L E M (lv_args 0 av) 0 []) : CTs l w L y cc maxL ret n av M b N xs R1 := by
  refine Met.ofW (cc := cc) (maxL := maxL) (ret := ret) hy rfl ?_
  intro p e s m args below meth c s₁ B hml hv
  obtain ⟨rfl, hP, hK, hX, hb⟩ := hv
  have hts := atoms_spec (ws := Cond.code y cc maxL ret :: TB) B.pre
  have hown : s.vm.findClass y.cls = some m.cls := findClass_of_methodNamed B.named
  rw [lg_entry_eq]
  exact body (p, e, rmL n, s, m, av.toArray, below, meth, c, dm L, 0, 0, MQ below (QR w L ret R1) av.toArray s 0 0 (dm L))
    ⟨B.exec, B.bytes, hml, hown, fun w hw => hts w (List.mem_cons_of_mem _ hw), hK, fun q h => h, Nat.le_refl _, Nat.le_refl _, Nat.zero_le _, Nat.zero_le _⟩
    ⟨rfl, rfl, B.returns, B.notSynchronized⟩ ⟨hX, hb, fun h => h hLb⟩ s.heap [] _ hP va_S.rf (by show lv_has _ c.maxLocals _; rw [hml]; exact lv_entry av hl)
theorem fb_PcS {av : List Value} {b N : Nat} {xs : Nat → Int32} : FrameBlind (va_Pc av (fun U => HM w L M U.heap ∧ KK w U ∧ va_X b N xs U U.heap ∧ b < U.heap.size)) :=
  fun a U g mk q => ⟨q.1, q.2.1, KK.same (u := U) (U := U.calling g mk a) rfl q.2.2.1, va_X_same (Vm.Alike.refl U.vm) q.2.2.2.1 rfl, q.2.2.2.2⟩
theorem g_callSiS {index : Nat} {y : MethodName} {c1 : ByteArray} {m1 n1 : Nat} {rt : FieldType} {r : Int32} {M1 : Mm} {b N : Nat} {xs : Nat → Int32} (As : List Value) (st : List Value) (cx : Ok w L E own cc maxL n) (sc : Sc E b N xs) (lk : LkS own index y c1 m1 (some rt) As.length) (hn : n1 + 1 ≤ n)
    (hM : CTs l w L y c1 m1 (some rt) n1 As M b N xs (r, M1)) (hd : decode cc pc = .ok (.invokestatic index, 3)) (hst : (st.map fun v => v.category).sum ≤ 8) (kk : G l w L E M1 lv (pc + 3) (.int r :: st)) : G l w L E M lv pc (As.reverse ++ st) := by
  intro H locs ls h1 h2 h3
  obtain ⟨k1, k2, k4, k5, ⟨k6, k7, k8⟩, k9⟩ := lk
  have hts := cx.2.2.2.2.1
  have hfit := rm_fit cx hn k9
  refine g_back (R1 := (r, M1)) (rt := some rt) cx h2 h3 (va_runS (As := As) (rest := st) (nL := maxL) (n := As.length) ⟨cx.1, cx.2.1, cx.2.2.1, cx.2.2.2.1, hts⟩ hM ⟨⟨rfl, rfl, hfit.1, hfit.2, pay_tb hts k5, List.mem_cons_self, hts _ k5, hts _ k4, ⟨k6, k7⟩, fun sig h => ?_, hts _ k1⟩, hts _ k2⟩ ⟨fb_PcS, fun U hU hW => ⟨rfl, by rw [hU]; exact h1, cx.2.2.2.2.2.1.warm hW, va_X_same hW.alike sc.1 (by rw [hU]; exact h2.2.1 b sc.2.1 sc.2.2), by rw [hU]; exact Nat.lt_of_lt_of_le sc.2.1 h2.1⟩⟩ rfl rfl (by rw [← cx.2.2.1]; exact h3.1) rfl (lv_room hst) hd ⟨cx.2.2.2.2.2.2.2.2.2.1, cx.2.2.2.2.2.2.2.2.2.2⟩) kk
  rw [h] at k8
  exact (Option.some.inj k8).symm
end GJ
