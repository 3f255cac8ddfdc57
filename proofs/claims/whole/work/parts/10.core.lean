/-! THE LAYER G: a walk's goal with its locals, its stack and its world as plain lists. -/
abbrev EX : Type := va_G × ClassId × ClassId × ClassId
abbrev tyE (E : EX) : List (ClassId × FieldType) := [(E.2.1, .int), (E.2.2.1, .boolean), (E.2.2.2, .object RX6)]
abbrev iA (E : EX) (n : Nat) (f : Nat → Int32) : va_E := .inl (E.2.1, n, .inl f)
abbrev zA (E : EX) (n : Nat) (f : Nat → Int32) : va_E := .inl (E.2.2.1, n, .inl f)
abbrev kA (E : EX) (n : Nat) (f : Nat → Option Nat) : va_E := .inl (E.2.2.2, n, .inr (.inr (.inr (.inr f))))
abbrev oB (ci : Nat) (fs : List Value) : va_E := .inr (ci, fs)
/-- what a method's walk stands on: machine, room, start, code, names, the cells that it may change, how many locals, the end -/
abbrev KX : Type := Program × Launch × Env × Room × State × MethodId × Array Value × List Frame × Method × Code × EX × (Nat → Prop) × Nat × (State → Prop)
def G (K : KX) (cs sl pc : Nat) (lv : List (Nat × Value)) (st : List Value) (ws : va_W) : Prop :=
  match K with
  | (p, l, e, R, s, m, args, below, meth, c, E, A, nL, Q) => ∀ (H : Heap) (locs : List Loc) (ls : Array Slot), va_P E.1 vwCl ws H → va_D A ws → va_S A s.heap H locs → lv_has ls nL lv → W p l e R s m args below meth c H locs cs sl Q (F0 m pc ls st)
def CX (K : KX) (l0 : Launch) (E0 : EX) (own : String) (Ts : List Cond) (cc : ByteArray) (rm : Room) (n0 : Nat) : Prop :=
  match K with
  | (p, l, _, R, s, m, args, _, _, c, E, A, nL, _) => p.tables.exec = Jvm.exec ∧ c.code = cc ∧ c.maxLocals = nL ∧ s.vm.findClass own = some m.cls ∧ (∀ w ∈ Ts, w.before args s = true) ∧ va_K E.1 vwCl (tyE E) s ∧ (∀ q, s.heap.size ≤ q → A q) ∧ R = rm ∧ l = l0 ∧ E = E0 ∧ nL = n0
/-- a method's end, in the words of its post -/
def Qo (E : EX) (A : Nat → Prop) (Po : Option Value → va_W → Prop) : Array Value → State → Outcome → State → Prop := fun _ st oc t => (∃ (v : Option Value) (w' : va_W), oc = .returned v ∧ Po v w' ∧ va_P E.1 vwCl w' t.heap ∧ va_K E.1 vwCl (tyE E) t ∧ va_D A w') ∧ va_F A st t
def RX (K : KX) (rt : Option FieldType) (mc ms : Nat) (Po : Option Value → va_W → Prop) : Prop :=
  match K with
  | (_, _, _, _, s, _, args, below, meth, _, E, A, _, Q) => Q = MQ below (Qo E A Po) args s mc ms A ∧ meth.sig.returnType = rt ∧ meth.locks = false
def IX (K : KX) : Prop :=
  match K with
  | (_, _, _, _, _, _, _, _, meth, _, _, _, _, _) => meth.name = "<init>"
/-- a method's contract: from the world w, by the values av, to an answer and a world with Po -/
def M (l : Launch) (E : EX) (y : MethodName) (ws : List Cond) (rm : Room) (mc ms : Nat) (av : List Value) (w : va_W) (Po : Option Value → va_W → Prop) : Prop :=
  ∀ sz : Nat, Met l y ws rm (va_Pc av (fun U => U.heap.size = sz ∧ va_P E.1 vwCl w U.heap ∧ va_K E.1 vwCl (tyE E) U ∧ va_D (fun _ => True) w)) (Qo E (va_A w sz) Po) mc ms (va_A w sz)
abbrev is1 (r : Option Value) (w1 : va_W) : Option Value → va_W → Prop := fun v w' => v = r ∧ w' = w1
theorem M.ofG {l : Launch} {E : EX} {y : MethodName} {ws ws' : List Cond} {rm : Room} {mc ms : Nat} {av : List Value} {w : va_W} {Po : Option Value → va_W → Prop} {cc : ByteArray} {maxL : Nat} {ret : Option FieldType} {lv : List (Nat × Value)} {own : String}
    (hy : plainName y.cls = true) (ho : y.cls = own) (hw : ws = Cond.code y cc maxL ret :: ws') (hlen : (lg_sl av).length ≤ maxL) (hlv : lv_args 0 av = lv)
    (body : ∀ K : KX, CX K l E own ws cc rm maxL → RX K ret mc ms Po → (y.name = "<init>" → IX K) → G K 0 0 0 lv [] w) : M l E y ws rm mc ms av w Po := by
  subst ho
  intro sz
  refine Met.ofW (cc := cc) (maxL := maxL) (ret := ret) hy hw ?_
  intro p e s m args below meth c s₁ B hml hv
  obtain ⟨rfl, hsz, hP, hK, hD0⟩ := hv
  subst hsz
  have hD := hD0.self (sz := s.heap.size)
  have hl := lv_entry av (n := maxL) hlen
  rw [lg_entry_eq]
  refine body (p, l, e, (headSpec ws rm).room, s, m, av.toArray, below, meth, c, E, va_A w s.heap.size, maxL, _) ⟨B.exec, B.bytes, hml, findClass_of_methodNamed B.named, atoms_spec (ws := ws) B.pre, hK, fun q h => Or.inr h, rfl, rfl, rfl, rfl⟩ ⟨rfl, B.returns, B.notSynchronized⟩ (fun hn => ?_) _ _ _ hP hD va_S.rf (hlv ▸ hl)
  exact (name_of_methodNamed B.named B.method).1.trans hn
section GR
variable {K : KX} {l0 : Launch} {E0 : EX} {own : String} {Ts : List Cond} {cc : ByteArray} {rm : Room} {n0 cs sl pc : Nat} {lv lv' : List (Nat × Value)} {st : List Value} {ws ws' : va_W}
theorem g_sub (ks : List Nat) (hl : lv_pick lv ks = lv') (kk : G K cs sl pc lv' st ws) : G K cs sl pc lv st ws := by
  obtain ⟨p, l, e, R, s, m, args, below, meth, c, E, A, nL, Q⟩ := K
  exact fun H locs ls hP hD hS h => kk H locs ls hP hD hS (lv_sub h ks hl)
theorem g_eq {st' : List Value} (h1 : lv = lv') (h2 : st = st') (h3 : ws = ws') (kk : G K cs sl pc lv' st' ws') : G K cs sl pc lv st ws := by
  subst h1; subst h2; subst h3; exact kk
theorem g_nm {x : Int32} (kk : ∀ y : Int32, y = x → G K cs sl pc lv (.int y :: st) ws) : G K cs sl pc lv (.int x :: st) ws := kk x rfl
theorem g_nml {x : Int64} (kk : ∀ y : Int64, y = x → G K cs sl pc lv (.long y :: st) ws) : G K cs sl pc lv (.long x :: st) ws := kk x rfl
theorem g_as {x y : Int32} (h : x = y) (kk : G K cs sl pc lv (.int y :: st) ws) : G K cs sl pc lv (.int x :: st) ws := h ▸ kk
theorem g_asl {x y : Int64} (h : x = y) (kk : G K cs sl pc lv (.long y :: st) ws) : G K cs sl pc lv (.long x :: st) ws := h ▸ kk

theorem g_iconst (C : CX K l0 E0 own Ts cc rm n0) {n : Int} (v : Int32) (hdg : decode cc pc = .ok (.iconst n, 1)) (hv : Int32.ofInt n = v)
    (kk : G K cs sl (pc + 1) lv (.int v :: st) ws) : G K cs sl pc lv st ws := by
  obtain ⟨p, l, e, R, s, m, args, below, meth, c, E, A, nL, Q⟩ := K
  obtain ⟨hx, hb, hml, hown, hts, hK, hA, rfl, rfl, rfl, rfl⟩ := C
  exact fun H locs ls hP hD hS h => lv_iconst hx hb hdg hv (kk H locs ls hP hD hS h)

theorem g_bipush (C : CX K l0 E0 own Ts cc rm n0) {n : Int} (v : Int32) (hdg : decode cc pc = .ok (.bipush n, 2)) (hv : (Int8.ofInt n).toInt32 = v)
    (kk : G K cs sl (pc + 2) lv (.int v :: st) ws) : G K cs sl pc lv st ws := by
  obtain ⟨p, l, e, R, s, m, args, below, meth, c, E, A, nL, Q⟩ := K
  obtain ⟨hx, hb, hml, hown, hts, hK, hA, rfl, rfl, rfl, rfl⟩ := C
  exact fun H locs ls hP hD hS h => lv_bipush hx hb hdg hv (kk H locs ls hP hD hS h)

theorem g_sipush (C : CX K l0 E0 own Ts cc rm n0) {n : Int} (v : Int32) (hdg : decode cc pc = .ok (.sipush n, 3)) (hv : (Int16.ofInt n).toInt32 = v)
    (kk : G K cs sl (pc + 3) lv (.int v :: st) ws) : G K cs sl pc lv st ws := by
  obtain ⟨p, l, e, R, s, m, args, below, meth, c, E, A, nL, Q⟩ := K
  obtain ⟨hx, hb, hml, hown, hts, hK, hA, rfl, rfl, rfl, rfl⟩ := C
  exact fun H locs ls hP hD hS h => lv_sipush hx hb hdg hv (kk H locs ls hP hD hS h)

theorem g_lconst (C : CX K l0 E0 own Ts cc rm n0) {n : Fin 2} (v : Int64) (hdg : decode cc pc = .ok (.lconst n, 1)) (hv : Int64.ofNat (n : Nat) = v)
    (kk : G K cs sl (pc + 1) lv (.long v :: st) ws) : G K cs sl pc lv st ws := by
  obtain ⟨p, l, e, R, s, m, args, below, meth, c, E, A, nL, Q⟩ := K
  obtain ⟨hx, hb, hml, hown, hts, hK, hA, rfl, rfl, rfl, rfl⟩ := C
  exact fun H locs ls hP hD hS h => lv_lconst hx hb hdg hv (kk H locs ls hP hD hS h)

theorem g_iload_n (C : CX K l0 E0 own Ts cc rm n0) {k : Fin 4} {i : Nat} {x : Int32} (hdg : decode cc pc = .ok (.iload_n k, 1)) (hi : (k : Nat) = i) (j : Nat) (hl : lv[j]? = some (i, .int x))
    (kk : G K cs sl (pc + 1) lv (.int x :: st) ws) : G K cs sl pc lv st ws := by
  obtain ⟨p, l, e, R, s, m, args, below, meth, c, E, A, nL, Q⟩ := K
  obtain ⟨hx, hb, hml, hown, hts, hK, hA, rfl, rfl, rfl, rfl⟩ := C
  exact fun H locs ls hP hD hS h => lv_iload_n hx hb hdg hi (lv_at h j hl) (kk H locs ls hP hD hS h)

theorem g_iload (C : CX K l0 E0 own Ts cc rm n0) {i : Nat} {x : Int32} (hdg : decode cc pc = .ok (.iload i, 2)) (j : Nat) (hl : lv[j]? = some (i, .int x))
    (kk : G K cs sl (pc + 2) lv (.int x :: st) ws) : G K cs sl pc lv st ws := by
  obtain ⟨p, l, e, R, s, m, args, below, meth, c, E, A, nL, Q⟩ := K
  obtain ⟨hx, hb, hml, hown, hts, hK, hA, rfl, rfl, rfl, rfl⟩ := C
  exact fun H locs ls hP hD hS h => lv_iload hx hb hdg (lv_at h j hl) (kk H locs ls hP hD hS h)

theorem g_lload_n (C : CX K l0 E0 own Ts cc rm n0) {k : Fin 4} {i : Nat} {x : Int64} (hdg : decode cc pc = .ok (.lload_n k, 1)) (hi : (k : Nat) = i) (j : Nat) (hl : lv[j]? = some (i, .long x))
    (kk : G K cs sl (pc + 1) lv (.long x :: st) ws) : G K cs sl pc lv st ws := by
  obtain ⟨p, l, e, R, s, m, args, below, meth, c, E, A, nL, Q⟩ := K
  obtain ⟨hx, hb, hml, hown, hts, hK, hA, rfl, rfl, rfl, rfl⟩ := C
  exact fun H locs ls hP hD hS h => lv_lload_n hx hb hdg hi (lv_at h j hl) (kk H locs ls hP hD hS h)

theorem g_lload (C : CX K l0 E0 own Ts cc rm n0) {i : Nat} {x : Int64} (hdg : decode cc pc = .ok (.lload i, 2)) (j : Nat) (hl : lv[j]? = some (i, .long x))
    (kk : G K cs sl (pc + 2) lv (.long x :: st) ws) : G K cs sl pc lv st ws := by
  obtain ⟨p, l, e, R, s, m, args, below, meth, c, E, A, nL, Q⟩ := K
  obtain ⟨hx, hb, hml, hown, hts, hK, hA, rfl, rfl, rfl, rfl⟩ := C
  exact fun H locs ls hP hD hS h => lv_lload hx hb hdg (lv_at h j hl) (kk H locs ls hP hD hS h)

theorem g_aload_n (C : CX K l0 E0 own Ts cc rm n0) {k : Fin 4} {i : Nat} {x : Nat} (hdg : decode cc pc = .ok (.aload_n k, 1)) (hi : (k : Nat) = i) (j : Nat) (hl : lv[j]? = some (i, .ref x))
    (kk : G K cs sl (pc + 1) lv (.ref x :: st) ws) : G K cs sl pc lv st ws := by
  obtain ⟨p, l, e, R, s, m, args, below, meth, c, E, A, nL, Q⟩ := K
  obtain ⟨hx, hb, hml, hown, hts, hK, hA, rfl, rfl, rfl, rfl⟩ := C
  exact fun H locs ls hP hD hS h => lv_aload_n hx hb hdg hi (lv_at h j hl) (kk H locs ls hP hD hS h)

theorem g_aload (C : CX K l0 E0 own Ts cc rm n0) {i : Nat} {x : Nat} (hdg : decode cc pc = .ok (.aload i, 2)) (j : Nat) (hl : lv[j]? = some (i, .ref x))
    (kk : G K cs sl (pc + 2) lv (.ref x :: st) ws) : G K cs sl pc lv st ws := by
  obtain ⟨p, l, e, R, s, m, args, below, meth, c, E, A, nL, Q⟩ := K
  obtain ⟨hx, hb, hml, hown, hts, hK, hA, rfl, rfl, rfl, rfl⟩ := C
  exact fun H locs ls hP hD hS h => lv_aload hx hb hdg (lv_at h j hl) (kk H locs ls hP hD hS h)

theorem g_istore_n (C : CX K l0 E0 own Ts cc rm n0) {k : Fin 4} {i : Nat} {x : Int32} (hdg : decode cc pc = .ok (.istore_n k, 1)) (hi : (k : Nat) = i) (hn : i < n0) (hl : (i, Value.int x) :: lv.filter (fun q => !(q.1 == i) && !(q.1 + 1 == i && q.2.category == 2)) = lv')
    (kk : G K cs sl (pc + 1) lv' st ws) : G K cs sl pc lv (.int x :: st) ws := by
  obtain ⟨p, l, e, R, s, m, args, below, meth, c, E, A, nL, Q⟩ := K
  obtain ⟨hx, hb, hml, hown, hts, hK, hA, rfl, rfl, rfl, rfl⟩ := C
  exact fun H locs ls hP hD hS h => lv_istore_n hx hb hdg hi h hn hl (fun ls2 h2 => kk H locs ls2 hP hD hS h2)

theorem g_istore (C : CX K l0 E0 own Ts cc rm n0) {i : Nat} {x : Int32} (hdg : decode cc pc = .ok (.istore i, 2)) (hn : i < n0) (hl : (i, Value.int x) :: lv.filter (fun q => !(q.1 == i) && !(q.1 + 1 == i && q.2.category == 2)) = lv')
    (kk : G K cs sl (pc + 2) lv' st ws) : G K cs sl pc lv (.int x :: st) ws := by
  obtain ⟨p, l, e, R, s, m, args, below, meth, c, E, A, nL, Q⟩ := K
  obtain ⟨hx, hb, hml, hown, hts, hK, hA, rfl, rfl, rfl, rfl⟩ := C
  exact fun H locs ls hP hD hS h => lv_istore hx hb hdg h hn hl (fun ls2 h2 => kk H locs ls2 hP hD hS h2)

theorem g_lstore_n (C : CX K l0 E0 own Ts cc rm n0) {k : Fin 4} {i : Nat} {x : Int64} (hdg : decode cc pc = .ok (.lstore_n k, 1)) (hi : (k : Nat) = i) (hn : i + 1 < n0) (hl : (i, Value.long x) :: lv.filter (fun q => !(q.1 == i) && (!(q.1 == i + 1) && !(q.1 + 1 == i && q.2.category == 2))) = lv')
    (kk : G K cs sl (pc + 1) lv' st ws) : G K cs sl pc lv (.long x :: st) ws := by
  obtain ⟨p, l, e, R, s, m, args, below, meth, c, E, A, nL, Q⟩ := K
  obtain ⟨hx, hb, hml, hown, hts, hK, hA, rfl, rfl, rfl, rfl⟩ := C
  exact fun H locs ls hP hD hS h => lv_lstore_n hx hb hdg hi h hn hl (fun ls2 h2 => kk H locs ls2 hP hD hS h2)

theorem g_lstore (C : CX K l0 E0 own Ts cc rm n0) {i : Nat} {x : Int64} (hdg : decode cc pc = .ok (.lstore i, 2)) (hn : i + 1 < n0) (hl : (i, Value.long x) :: lv.filter (fun q => !(q.1 == i) && (!(q.1 == i + 1) && !(q.1 + 1 == i && q.2.category == 2))) = lv')
    (kk : G K cs sl (pc + 2) lv' st ws) : G K cs sl pc lv (.long x :: st) ws := by
  obtain ⟨p, l, e, R, s, m, args, below, meth, c, E, A, nL, Q⟩ := K
  obtain ⟨hx, hb, hml, hown, hts, hK, hA, rfl, rfl, rfl, rfl⟩ := C
  exact fun H locs ls hP hD hS h => lv_lstore hx hb hdg h hn hl (fun ls2 h2 => kk H locs ls2 hP hD hS h2)

theorem g_astore_n (C : CX K l0 E0 own Ts cc rm n0) {k : Fin 4} {i : Nat} {x : Nat} (hdg : decode cc pc = .ok (.astore_n k, 1)) (hi : (k : Nat) = i) (hn : i < n0) (hl : (i, Value.ref x) :: lv.filter (fun q => !(q.1 == i) && !(q.1 + 1 == i && q.2.category == 2)) = lv')
    (kk : G K cs sl (pc + 1) lv' st ws) : G K cs sl pc lv (.ref x :: st) ws := by
  obtain ⟨p, l, e, R, s, m, args, below, meth, c, E, A, nL, Q⟩ := K
  obtain ⟨hx, hb, hml, hown, hts, hK, hA, rfl, rfl, rfl, rfl⟩ := C
  exact fun H locs ls hP hD hS h => lv_astore_n hx hb hdg hi h hn hl (fun ls2 h2 => kk H locs ls2 hP hD hS h2)

theorem g_astore (C : CX K l0 E0 own Ts cc rm n0) {i : Nat} {x : Nat} (hdg : decode cc pc = .ok (.astore i, 2)) (hn : i < n0) (hl : (i, Value.ref x) :: lv.filter (fun q => !(q.1 == i) && !(q.1 + 1 == i && q.2.category == 2)) = lv')
    (kk : G K cs sl (pc + 2) lv' st ws) : G K cs sl pc lv (.ref x :: st) ws := by
  obtain ⟨p, l, e, R, s, m, args, below, meth, c, E, A, nL, Q⟩ := K
  obtain ⟨hx, hb, hml, hown, hts, hK, hA, rfl, rfl, rfl, rfl⟩ := C
  exact fun H locs ls hP hD hS h => lv_astore hx hb hdg h hn hl (fun ls2 h2 => kk H locs ls2 hP hD hS h2)

theorem g_iinc (C : CX K l0 E0 own Ts cc rm n0) {i : Nat} {n : Int} {x : Int32} (v : Int32) (hdg : decode cc pc = .ok (.iinc i n, 3)) (j : Nat) (hk : lv[j]? = some (i, .int x)) (hv : x + Int32.ofInt n = v) (hn : i < n0) (hl : (i, Value.int v) :: lv.filter (fun q => !(q.1 == i) && !(q.1 + 1 == i && q.2.category == 2)) = lv')
    (kk : G K cs sl (pc + 3) lv' st ws) : G K cs sl pc lv st ws := by
  obtain ⟨p, l, e, R, s, m, args, below, meth, c, E, A, nL, Q⟩ := K
  obtain ⟨hx, hb, hml, hown, hts, hK, hA, rfl, rfl, rfl, rfl⟩ := C
  exact fun H locs ls hP hD hS h => lv_iinc hx hb hdg h hk hv hn hl (fun ls2 h2 => kk H locs ls2 hP hD hS h2)

theorem g_iadd (C : CX K l0 E0 own Ts cc rm n0) {x y : Int32} (hdg : decode cc pc = .ok (.iadd, 1))
    (kk : G K cs sl (pc + 1) lv (.int (x + y) :: st) ws) : G K cs sl pc lv (.int y :: .int x :: st) ws := by
  obtain ⟨p, l, e, R, s, m, args, below, meth, c, E, A, nL, Q⟩ := K
  obtain ⟨hx, hb, hml, hown, hts, hK, hA, rfl, rfl, rfl, rfl⟩ := C
  exact fun H locs ls hP hD hS h => lv_iadd hx hb hdg (kk H locs ls hP hD hS h)

theorem g_isub (C : CX K l0 E0 own Ts cc rm n0) {x y : Int32} (hdg : decode cc pc = .ok (.isub, 1))
    (kk : G K cs sl (pc + 1) lv (.int (x - y) :: st) ws) : G K cs sl pc lv (.int y :: .int x :: st) ws := by
  obtain ⟨p, l, e, R, s, m, args, below, meth, c, E, A, nL, Q⟩ := K
  obtain ⟨hx, hb, hml, hown, hts, hK, hA, rfl, rfl, rfl, rfl⟩ := C
  exact fun H locs ls hP hD hS h => lv_isub hx hb hdg (kk H locs ls hP hD hS h)

theorem g_imul (C : CX K l0 E0 own Ts cc rm n0) {x y : Int32} (hdg : decode cc pc = .ok (.imul, 1))
    (kk : G K cs sl (pc + 1) lv (.int (x * y) :: st) ws) : G K cs sl pc lv (.int y :: .int x :: st) ws := by
  obtain ⟨p, l, e, R, s, m, args, below, meth, c, E, A, nL, Q⟩ := K
  obtain ⟨hx, hb, hml, hown, hts, hK, hA, rfl, rfl, rfl, rfl⟩ := C
  exact fun H locs ls hP hD hS h => lv_imul hx hb hdg (kk H locs ls hP hD hS h)

theorem g_iand (C : CX K l0 E0 own Ts cc rm n0) {x y : Int32} (hdg : decode cc pc = .ok (.iand, 1))
    (kk : G K cs sl (pc + 1) lv (.int (x &&& y) :: st) ws) : G K cs sl pc lv (.int y :: .int x :: st) ws := by
  obtain ⟨p, l, e, R, s, m, args, below, meth, c, E, A, nL, Q⟩ := K
  obtain ⟨hx, hb, hml, hown, hts, hK, hA, rfl, rfl, rfl, rfl⟩ := C
  exact fun H locs ls hP hD hS h => lv_iand hx hb hdg (kk H locs ls hP hD hS h)

theorem g_ior (C : CX K l0 E0 own Ts cc rm n0) {x y : Int32} (hdg : decode cc pc = .ok (.ior, 1))
    (kk : G K cs sl (pc + 1) lv (.int (x ||| y) :: st) ws) : G K cs sl pc lv (.int y :: .int x :: st) ws := by
  obtain ⟨p, l, e, R, s, m, args, below, meth, c, E, A, nL, Q⟩ := K
  obtain ⟨hx, hb, hml, hown, hts, hK, hA, rfl, rfl, rfl, rfl⟩ := C
  exact fun H locs ls hP hD hS h => lv_ior hx hb hdg (kk H locs ls hP hD hS h)

theorem g_ixor (C : CX K l0 E0 own Ts cc rm n0) {x y : Int32} (hdg : decode cc pc = .ok (.ixor, 1))
    (kk : G K cs sl (pc + 1) lv (.int (x ^^^ y) :: st) ws) : G K cs sl pc lv (.int y :: .int x :: st) ws := by
  obtain ⟨p, l, e, R, s, m, args, below, meth, c, E, A, nL, Q⟩ := K
  obtain ⟨hx, hb, hml, hown, hts, hK, hA, rfl, rfl, rfl, rfl⟩ := C
  exact fun H locs ls hP hD hS h => lv_ixor hx hb hdg (kk H locs ls hP hD hS h)

theorem g_ishl (C : CX K l0 E0 own Ts cc rm n0) {x y : Int32} (hdg : decode cc pc = .ok (.ishl, 1))
    (kk : G K cs sl (pc + 1) lv (.int (x <<< (y &&& 31)) :: st) ws) : G K cs sl pc lv (.int y :: .int x :: st) ws := by
  obtain ⟨p, l, e, R, s, m, args, below, meth, c, E, A, nL, Q⟩ := K
  obtain ⟨hx, hb, hml, hown, hts, hK, hA, rfl, rfl, rfl, rfl⟩ := C
  exact fun H locs ls hP hD hS h => lv_ishl hx hb hdg (kk H locs ls hP hD hS h)

theorem g_ishr (C : CX K l0 E0 own Ts cc rm n0) {x y : Int32} (hdg : decode cc pc = .ok (.ishr, 1))
    (kk : G K cs sl (pc + 1) lv (.int (x >>> (y &&& 31)) :: st) ws) : G K cs sl pc lv (.int y :: .int x :: st) ws := by
  obtain ⟨p, l, e, R, s, m, args, below, meth, c, E, A, nL, Q⟩ := K
  obtain ⟨hx, hb, hml, hown, hts, hK, hA, rfl, rfl, rfl, rfl⟩ := C
  exact fun H locs ls hP hD hS h => lv_ishr hx hb hdg (kk H locs ls hP hD hS h)

theorem g_idiv (C : CX K l0 E0 own Ts cc rm n0) {x y : Int32} (hdg : decode cc pc = .ok (.idiv, 1)) (hne : ¬ y = 0)
    (kk : G K cs sl (pc + 1) lv (.int (x / y) :: st) ws) : G K cs sl pc lv (.int y :: .int x :: st) ws := by
  obtain ⟨p, l, e, R, s, m, args, below, meth, c, E, A, nL, Q⟩ := K
  obtain ⟨hx, hb, hml, hown, hts, hK, hA, rfl, rfl, rfl, rfl⟩ := C
  exact fun H locs ls hP hD hS h => lv_idiv hx hb hdg hne (kk H locs ls hP hD hS h)

theorem g_irem (C : CX K l0 E0 own Ts cc rm n0) {x y : Int32} (hdg : decode cc pc = .ok (.irem, 1)) (hne : ¬ y = 0)
    (kk : G K cs sl (pc + 1) lv (.int (x - x / y * y) :: st) ws) : G K cs sl pc lv (.int y :: .int x :: st) ws := by
  obtain ⟨p, l, e, R, s, m, args, below, meth, c, E, A, nL, Q⟩ := K
  obtain ⟨hx, hb, hml, hown, hts, hK, hA, rfl, rfl, rfl, rfl⟩ := C
  exact fun H locs ls hP hD hS h => lv_irem hx hb hdg hne (kk H locs ls hP hD hS h)

theorem g_iushr (C : CX K l0 E0 own Ts cc rm n0) {x y v : Int32} (hdg : decode cc pc = .ok (.iushr, 1)) (hv : (x.toUInt32 >>> (y.toUInt32 &&& Int32.toUInt32 31)).toInt32 = v)
    (kk : G K cs sl (pc + 1) lv (.int v :: st) ws) : G K cs sl pc lv (.int y :: .int x :: st) ws := by
  obtain ⟨p, l, e, R, s, m, args, below, meth, c, E, A, nL, Q⟩ := K
  obtain ⟨hx, hb, hml, hown, hts, hK, hA, rfl, rfl, rfl, rfl⟩ := C
  exact fun H locs ls hP hD hS h => lv_iushr hx hb hdg hv (kk H locs ls hP hD hS h)

theorem g_ladd (C : CX K l0 E0 own Ts cc rm n0) {x y : Int64} (hdg : decode cc pc = .ok (.ladd, 1))
    (kk : G K cs sl (pc + 1) lv (.long (x + y) :: st) ws) : G K cs sl pc lv (.long y :: .long x :: st) ws := by
  obtain ⟨p, l, e, R, s, m, args, below, meth, c, E, A, nL, Q⟩ := K
  obtain ⟨hx, hb, hml, hown, hts, hK, hA, rfl, rfl, rfl, rfl⟩ := C
  exact fun H locs ls hP hD hS h => lv_ladd hx hb hdg (kk H locs ls hP hD hS h)

theorem g_lsub (C : CX K l0 E0 own Ts cc rm n0) {x y : Int64} (hdg : decode cc pc = .ok (.lsub, 1))
    (kk : G K cs sl (pc + 1) lv (.long (x - y) :: st) ws) : G K cs sl pc lv (.long y :: .long x :: st) ws := by
  obtain ⟨p, l, e, R, s, m, args, below, meth, c, E, A, nL, Q⟩ := K
  obtain ⟨hx, hb, hml, hown, hts, hK, hA, rfl, rfl, rfl, rfl⟩ := C
  exact fun H locs ls hP hD hS h => lv_lsub hx hb hdg (kk H locs ls hP hD hS h)

theorem g_lmul (C : CX K l0 E0 own Ts cc rm n0) {x y : Int64} (hdg : decode cc pc = .ok (.lmul, 1))
    (kk : G K cs sl (pc + 1) lv (.long (x * y) :: st) ws) : G K cs sl pc lv (.long y :: .long x :: st) ws := by
  obtain ⟨p, l, e, R, s, m, args, below, meth, c, E, A, nL, Q⟩ := K
  obtain ⟨hx, hb, hml, hown, hts, hK, hA, rfl, rfl, rfl, rfl⟩ := C
  exact fun H locs ls hP hD hS h => lv_lmul hx hb hdg (kk H locs ls hP hD hS h)

theorem g_ldiv (C : CX K l0 E0 own Ts cc rm n0) {x y : Int64} (hdg : decode cc pc = .ok (.ldiv, 1)) (hne : ¬ y = 0)
    (kk : G K cs sl (pc + 1) lv (.long (x / y) :: st) ws) : G K cs sl pc lv (.long y :: .long x :: st) ws := by
  obtain ⟨p, l, e, R, s, m, args, below, meth, c, E, A, nL, Q⟩ := K
  obtain ⟨hx, hb, hml, hown, hts, hK, hA, rfl, rfl, rfl, rfl⟩ := C
  exact fun H locs ls hP hD hS h => lv_ldiv hx hb hdg hne (kk H locs ls hP hD hS h)

theorem g_lrem (C : CX K l0 E0 own Ts cc rm n0) {x y : Int64} (hdg : decode cc pc = .ok (.lrem, 1)) (hne : ¬ y = 0)
    (kk : G K cs sl (pc + 1) lv (.long (x - x / y * y) :: st) ws) : G K cs sl pc lv (.long y :: .long x :: st) ws := by
  obtain ⟨p, l, e, R, s, m, args, below, meth, c, E, A, nL, Q⟩ := K
  obtain ⟨hx, hb, hml, hown, hts, hK, hA, rfl, rfl, rfl, rfl⟩ := C
  exact fun H locs ls hP hD hS h => lv_lrem hx hb hdg hne (kk H locs ls hP hD hS h)

theorem g_i2l (C : CX K l0 E0 own Ts cc rm n0) {x : Int32} (hdg : decode cc pc = .ok (.i2l, 1))
    (kk : G K cs sl (pc + 1) lv (.long x.toInt64 :: st) ws) : G K cs sl pc lv (.int x :: st) ws := by
  obtain ⟨p, l, e, R, s, m, args, below, meth, c, E, A, nL, Q⟩ := K
  obtain ⟨hx, hb, hml, hown, hts, hK, hA, rfl, rfl, rfl, rfl⟩ := C
  exact fun H locs ls hP hD hS h => lv_i2l hx hb hdg rfl (kk H locs ls hP hD hS h)

theorem g_l2i (C : CX K l0 E0 own Ts cc rm n0) {x : Int64} (hdg : decode cc pc = .ok (.l2i, 1))
    (kk : G K cs sl (pc + 1) lv (.int x.toInt32 :: st) ws) : G K cs sl pc lv (.long x :: st) ws := by
  obtain ⟨p, l, e, R, s, m, args, below, meth, c, E, A, nL, Q⟩ := K
  obtain ⟨hx, hb, hml, hown, hts, hK, hA, rfl, rfl, rfl, rfl⟩ := C
  exact fun H locs ls hP hD hS h => lv_l2i hx hb hdg rfl (kk H locs ls hP hD hS h)

theorem g_lcmp (C : CX K l0 E0 own Ts cc rm n0) {x y : Int64} (hdg : decode cc pc = .ok (.lcmp, 1))
    (kk : G K cs sl (pc + 1) lv (.int (lg_cmp x y) :: st) ws) : G K cs sl pc lv (.long y :: .long x :: st) ws := by
  obtain ⟨p, l, e, R, s, m, args, below, meth, c, E, A, nL, Q⟩ := K
  obtain ⟨hx, hb, hml, hown, hts, hK, hA, rfl, rfl, rfl, rfl⟩ := C
  exact fun H locs ls hP hD hS h => W.lcmp hx hb hdg (kk H locs ls hP hD hS h)

theorem g_ldc2 (C : CX K l0 E0 own Ts cc rm n0) {index : Nat} {v : Int64} (hm : Cond.constantLong own index v ∈ Ts) (hdg : decode cc pc = .ok (.ldc2_w index, 3))
    (kk : G K cs sl (pc + 3) lv (.long v :: st) ws) : G K cs sl pc lv st ws := by
  obtain ⟨p, l, e, R, s, m, args, below, meth, c, E, A, nL, Q⟩ := K
  obtain ⟨hx, hb, hml, hown, hts, hK, hA, rfl, rfl, rfl, rfl⟩ := C
  exact fun H locs ls hP hD hS h => lv_ldc2 hx hb hown (hts _ hm) hdg (kk H locs ls hP hD hS h)

theorem g_ldc (C : CX K l0 E0 own Ts cc rm n0) {index : Nat} {v : Int32} (hm : Cond.constant own index v ∈ Ts) (hdg : decode cc pc = .ok (.ldc index, 2))
    (kk : G K cs sl (pc + 2) lv (.int v :: st) ws) : G K cs sl pc lv st ws := by
  obtain ⟨p, l, e, R, s, m, args, below, meth, c, E, A, nL, Q⟩ := K
  obtain ⟨hx, hb, hml, hown, hts, hK, hA, rfl, rfl, rfl, rfl⟩ := C
  exact fun H locs ls hP hD hS h => lv_ldc hx hb hown (hts _ hm) hdg (kk H locs ls hP hD hS h)

theorem g_ldcw (C : CX K l0 E0 own Ts cc rm n0) {index : Nat} {v : Int32} (hm : Cond.constant own index v ∈ Ts) (hdg : decode cc pc = .ok (.ldc_w index, 3))
    (kk : G K cs sl (pc + 3) lv (.int v :: st) ws) : G K cs sl pc lv st ws := by
  obtain ⟨p, l, e, R, s, m, args, below, meth, c, E, A, nL, Q⟩ := K
  obtain ⟨hx, hb, hml, hown, hts, hK, hA, rfl, rfl, rfl, rfl⟩ := C
  exact fun H locs ls hP hD hS h => lv_ldcw hx hb hown (hts _ hm) hdg (kk H locs ls hP hD hS h)

theorem g_dup (C : CX K l0 E0 own Ts cc rm n0) {va : Value} (hdg : decode cc pc = .ok (.dup, 1)) (hva : va.category = 1)
    (kk : G K cs sl (pc + 1) lv (va :: va :: st) ws) : G K cs sl pc lv (va :: st) ws := by
  obtain ⟨p, l, e, R, s, m, args, below, meth, c, E, A, nL, Q⟩ := K
  obtain ⟨hx, hb, hml, hown, hts, hK, hA, rfl, rfl, rfl, rfl⟩ := C
  exact fun H locs ls hP hD hS h => lv_dup hx hb hdg hva (kk H locs ls hP hD hS h)

theorem g_pop (C : CX K l0 E0 own Ts cc rm n0) {va : Value} (hdg : decode cc pc = .ok (.pop, 1)) (hva : va.category = 1)
    (kk : G K cs sl (pc + 1) lv st ws) : G K cs sl pc lv (va :: st) ws := by
  obtain ⟨p, l, e, R, s, m, args, below, meth, c, E, A, nL, Q⟩ := K
  obtain ⟨hx, hb, hml, hown, hts, hK, hA, rfl, rfl, rfl, rfl⟩ := C
  exact fun H locs ls hP hD hS h => lv_pop hx hb hdg hva (kk H locs ls hP hD hS h)

theorem g_dup2 (C : CX K l0 E0 own Ts cc rm n0) {va vb : Value} (hdg : decode cc pc = .ok (.dup2, 1)) (hva : va.category = 1) (hvb : vb.category = 1)
    (kk : G K cs sl (pc + 1) lv (va :: vb :: va :: vb :: st) ws) : G K cs sl pc lv (va :: vb :: st) ws := by
  obtain ⟨p, l, e, R, s, m, args, below, meth, c, E, A, nL, Q⟩ := K
  obtain ⟨hx, hb, hml, hown, hts, hK, hA, rfl, rfl, rfl, rfl⟩ := C
  exact fun H locs ls hP hD hS h => lv_dup2_11 hx hb hdg hva hvb (kk H locs ls hP hD hS h)

theorem g_goto (C : CX K l0 E0 own Ts cc rm n0) {off : Int} (tgt : Nat) (hdg : decode cc pc = .ok (.goto off, 3)) (ht : (pc : Int) + off = (tgt : Int))
    (kk : G K cs sl tgt lv st ws) : G K cs sl pc lv st ws := by
  obtain ⟨p, l, e, R, s, m, args, below, meth, c, E, A, nL, Q⟩ := K
  obtain ⟨hx, hb, hml, hown, hts, hK, hA, rfl, rfl, rfl, rfl⟩ := C
  exact fun H locs ls hP hD hS h => lv_goto hx hb hdg ht (kk H locs ls hP hD hS h)

theorem g_if_eq (C : CX K l0 E0 own Ts cc rm n0) {x : Int32} {off : Int} (tgt : Nat) (hdg : decode cc pc = .ok (.ifCond .eq off, 3)) (ht : (pc : Int) + off = (tgt : Int))
    (kt : x = 0 → G K cs sl tgt lv st ws) (kf : ¬ x = 0 → G K cs sl (pc + 3) lv st ws) : G K cs sl pc lv (.int x :: st) ws := by
  obtain ⟨p, l, e, R, s, m, args, below, meth, c, E, A, nL, Q⟩ := K
  obtain ⟨hx, hb, hml, hown, hts, hK, hA, rfl, rfl, rfl, rfl⟩ := C
  exact fun H locs ls hP hD hS h => lv_if_eq hx hb hdg ht (fun q => kt q H locs ls hP hD hS h) (fun q => kf q H locs ls hP hD hS h)

theorem g_if_ne (C : CX K l0 E0 own Ts cc rm n0) {x : Int32} {off : Int} (tgt : Nat) (hdg : decode cc pc = .ok (.ifCond .ne off, 3)) (ht : (pc : Int) + off = (tgt : Int))
    (kt : ¬ x = 0 → G K cs sl tgt lv st ws) (kf : x = 0 → G K cs sl (pc + 3) lv st ws) : G K cs sl pc lv (.int x :: st) ws := by
  obtain ⟨p, l, e, R, s, m, args, below, meth, c, E, A, nL, Q⟩ := K
  obtain ⟨hx, hb, hml, hown, hts, hK, hA, rfl, rfl, rfl, rfl⟩ := C
  exact fun H locs ls hP hD hS h => lv_if_ne hx hb hdg ht (fun q => kt q H locs ls hP hD hS h) (fun q => kf q H locs ls hP hD hS h)

theorem g_if_lt (C : CX K l0 E0 own Ts cc rm n0) {x : Int32} {off : Int} (tgt : Nat) (hdg : decode cc pc = .ok (.ifCond .lt off, 3)) (ht : (pc : Int) + off = (tgt : Int))
    (kt : x < 0 → G K cs sl tgt lv st ws) (kf : ¬ x < 0 → G K cs sl (pc + 3) lv st ws) : G K cs sl pc lv (.int x :: st) ws := by
  obtain ⟨p, l, e, R, s, m, args, below, meth, c, E, A, nL, Q⟩ := K
  obtain ⟨hx, hb, hml, hown, hts, hK, hA, rfl, rfl, rfl, rfl⟩ := C
  exact fun H locs ls hP hD hS h => lv_if_lt hx hb hdg ht (fun q => kt q H locs ls hP hD hS h) (fun q => kf q H locs ls hP hD hS h)

theorem g_if_ge (C : CX K l0 E0 own Ts cc rm n0) {x : Int32} {off : Int} (tgt : Nat) (hdg : decode cc pc = .ok (.ifCond .ge off, 3)) (ht : (pc : Int) + off = (tgt : Int))
    (kt : 0 ≤ x → G K cs sl tgt lv st ws) (kf : ¬ 0 ≤ x → G K cs sl (pc + 3) lv st ws) : G K cs sl pc lv (.int x :: st) ws := by
  obtain ⟨p, l, e, R, s, m, args, below, meth, c, E, A, nL, Q⟩ := K
  obtain ⟨hx, hb, hml, hown, hts, hK, hA, rfl, rfl, rfl, rfl⟩ := C
  exact fun H locs ls hP hD hS h => lv_if_ge hx hb hdg ht (fun q => kt q H locs ls hP hD hS h) (fun q => kf q H locs ls hP hD hS h)

theorem g_if_gt (C : CX K l0 E0 own Ts cc rm n0) {x : Int32} {off : Int} (tgt : Nat) (hdg : decode cc pc = .ok (.ifCond .gt off, 3)) (ht : (pc : Int) + off = (tgt : Int))
    (kt : 0 < x → G K cs sl tgt lv st ws) (kf : ¬ 0 < x → G K cs sl (pc + 3) lv st ws) : G K cs sl pc lv (.int x :: st) ws := by
  obtain ⟨p, l, e, R, s, m, args, below, meth, c, E, A, nL, Q⟩ := K
  obtain ⟨hx, hb, hml, hown, hts, hK, hA, rfl, rfl, rfl, rfl⟩ := C
  exact fun H locs ls hP hD hS h => lv_if_gt hx hb hdg ht (fun q => kt q H locs ls hP hD hS h) (fun q => kf q H locs ls hP hD hS h)

theorem g_if_le (C : CX K l0 E0 own Ts cc rm n0) {x : Int32} {off : Int} (tgt : Nat) (hdg : decode cc pc = .ok (.ifCond .le off, 3)) (ht : (pc : Int) + off = (tgt : Int))
    (kt : x ≤ 0 → G K cs sl tgt lv st ws) (kf : ¬ x ≤ 0 → G K cs sl (pc + 3) lv st ws) : G K cs sl pc lv (.int x :: st) ws := by
  obtain ⟨p, l, e, R, s, m, args, below, meth, c, E, A, nL, Q⟩ := K
  obtain ⟨hx, hb, hml, hown, hts, hK, hA, rfl, rfl, rfl, rfl⟩ := C
  exact fun H locs ls hP hD hS h => lv_if_le hx hb hdg ht (fun q => kt q H locs ls hP hD hS h) (fun q => kf q H locs ls hP hD hS h)

theorem g_icmp_eq (C : CX K l0 E0 own Ts cc rm n0) {x y : Int32} {off : Int} (tgt : Nat) (hdg : decode cc pc = .ok (.if_icmp .eq off, 3)) (ht : (pc : Int) + off = (tgt : Int))
    (kt : x = y → G K cs sl tgt lv st ws) (kf : ¬ x = y → G K cs sl (pc + 3) lv st ws) : G K cs sl pc lv (.int y :: .int x :: st) ws := by
  obtain ⟨p, l, e, R, s, m, args, below, meth, c, E, A, nL, Q⟩ := K
  obtain ⟨hx, hb, hml, hown, hts, hK, hA, rfl, rfl, rfl, rfl⟩ := C
  exact fun H locs ls hP hD hS h => lv_icmp_eq hx hb hdg ht (fun q => kt q H locs ls hP hD hS h) (fun q => kf q H locs ls hP hD hS h)

theorem g_icmp_ne (C : CX K l0 E0 own Ts cc rm n0) {x y : Int32} {off : Int} (tgt : Nat) (hdg : decode cc pc = .ok (.if_icmp .ne off, 3)) (ht : (pc : Int) + off = (tgt : Int))
    (kt : ¬ x = y → G K cs sl tgt lv st ws) (kf : x = y → G K cs sl (pc + 3) lv st ws) : G K cs sl pc lv (.int y :: .int x :: st) ws := by
  obtain ⟨p, l, e, R, s, m, args, below, meth, c, E, A, nL, Q⟩ := K
  obtain ⟨hx, hb, hml, hown, hts, hK, hA, rfl, rfl, rfl, rfl⟩ := C
  exact fun H locs ls hP hD hS h => lv_icmp_ne hx hb hdg ht (fun q => kt q H locs ls hP hD hS h) (fun q => kf q H locs ls hP hD hS h)

theorem g_icmp_lt (C : CX K l0 E0 own Ts cc rm n0) {x y : Int32} {off : Int} (tgt : Nat) (hdg : decode cc pc = .ok (.if_icmp .lt off, 3)) (ht : (pc : Int) + off = (tgt : Int))
    (kt : x < y → G K cs sl tgt lv st ws) (kf : ¬ x < y → G K cs sl (pc + 3) lv st ws) : G K cs sl pc lv (.int y :: .int x :: st) ws := by
  obtain ⟨p, l, e, R, s, m, args, below, meth, c, E, A, nL, Q⟩ := K
  obtain ⟨hx, hb, hml, hown, hts, hK, hA, rfl, rfl, rfl, rfl⟩ := C
  exact fun H locs ls hP hD hS h => lv_icmp_lt hx hb hdg ht (fun q => kt q H locs ls hP hD hS h) (fun q => kf q H locs ls hP hD hS h)

theorem g_icmp_ge (C : CX K l0 E0 own Ts cc rm n0) {x y : Int32} {off : Int} (tgt : Nat) (hdg : decode cc pc = .ok (.if_icmp .ge off, 3)) (ht : (pc : Int) + off = (tgt : Int))
    (kt : y ≤ x → G K cs sl tgt lv st ws) (kf : ¬ y ≤ x → G K cs sl (pc + 3) lv st ws) : G K cs sl pc lv (.int y :: .int x :: st) ws := by
  obtain ⟨p, l, e, R, s, m, args, below, meth, c, E, A, nL, Q⟩ := K
  obtain ⟨hx, hb, hml, hown, hts, hK, hA, rfl, rfl, rfl, rfl⟩ := C
  exact fun H locs ls hP hD hS h => lv_icmp_ge hx hb hdg ht (fun q => kt q H locs ls hP hD hS h) (fun q => kf q H locs ls hP hD hS h)

theorem g_icmp_gt (C : CX K l0 E0 own Ts cc rm n0) {x y : Int32} {off : Int} (tgt : Nat) (hdg : decode cc pc = .ok (.if_icmp .gt off, 3)) (ht : (pc : Int) + off = (tgt : Int))
    (kt : y < x → G K cs sl tgt lv st ws) (kf : ¬ y < x → G K cs sl (pc + 3) lv st ws) : G K cs sl pc lv (.int y :: .int x :: st) ws := by
  obtain ⟨p, l, e, R, s, m, args, below, meth, c, E, A, nL, Q⟩ := K
  obtain ⟨hx, hb, hml, hown, hts, hK, hA, rfl, rfl, rfl, rfl⟩ := C
  exact fun H locs ls hP hD hS h => lv_icmp_gt hx hb hdg ht (fun q => kt q H locs ls hP hD hS h) (fun q => kf q H locs ls hP hD hS h)

theorem g_icmp_le (C : CX K l0 E0 own Ts cc rm n0) {x y : Int32} {off : Int} (tgt : Nat) (hdg : decode cc pc = .ok (.if_icmp .le off, 3)) (ht : (pc : Int) + off = (tgt : Int))
    (kt : x ≤ y → G K cs sl tgt lv st ws) (kf : ¬ x ≤ y → G K cs sl (pc + 3) lv st ws) : G K cs sl pc lv (.int y :: .int x :: st) ws := by
  obtain ⟨p, l, e, R, s, m, args, below, meth, c, E, A, nL, Q⟩ := K
  obtain ⟨hx, hb, hml, hown, hts, hK, hA, rfl, rfl, rfl, rfl⟩ := C
  exact fun H locs ls hP hD hS h => lv_icmp_le hx hb hdg ht (fun q => kt q H locs ls hP hD hS h) (fun q => kf q H locs ls hP hD hS h)

theorem nI_zero : (0 : Int32) = nI 0 := rfl
theorem g_icmp_eqN (C : CX K l0 E0 own Ts cc rm n0) {a b : Nat} {off : Int} (tgt : Nat) (hdg : decode cc pc = .ok (.if_icmp .eq off, 3)) (ht : (pc : Int) + off = (tgt : Int)) (ha : a < 2 ^ 31) (hb : b < 2 ^ 31)
    (kt : a = b → G K cs sl tgt lv st ws) (kf : ¬ a = b → G K cs sl (pc + 3) lv st ws) : G K cs sl pc lv (.int (nI b) :: .int (nI a) :: st) ws :=
  g_icmp_eq C tgt hdg ht (fun q => kt ((nI_eq ha hb).mp q)) (fun q => kf (fun z => q ((nI_eq ha hb).mpr z)))

theorem g_icmp_neN (C : CX K l0 E0 own Ts cc rm n0) {a b : Nat} {off : Int} (tgt : Nat) (hdg : decode cc pc = .ok (.if_icmp .ne off, 3)) (ht : (pc : Int) + off = (tgt : Int)) (ha : a < 2 ^ 31) (hb : b < 2 ^ 31)
    (kt : ¬ a = b → G K cs sl tgt lv st ws) (kf : a = b → G K cs sl (pc + 3) lv st ws) : G K cs sl pc lv (.int (nI b) :: .int (nI a) :: st) ws :=
  g_icmp_ne C tgt hdg ht (fun q => kt (fun z => q ((nI_eq ha hb).mpr z))) (fun q => kf ((nI_eq ha hb).mp q))

theorem g_icmp_ltN (C : CX K l0 E0 own Ts cc rm n0) {a b : Nat} {off : Int} (tgt : Nat) (hdg : decode cc pc = .ok (.if_icmp .lt off, 3)) (ht : (pc : Int) + off = (tgt : Int)) (ha : a < 2 ^ 31) (hb : b < 2 ^ 31)
    (kt : a < b → G K cs sl tgt lv st ws) (kf : b ≤ a → G K cs sl (pc + 3) lv st ws) : G K cs sl pc lv (.int (nI b) :: .int (nI a) :: st) ws :=
  g_icmp_lt C tgt hdg ht (fun q => kt ((nI_ltI ha hb).mp q)) (fun q => kf (Nat.not_lt.mp (fun z => q ((nI_ltI ha hb).mpr z))))

theorem g_icmp_geN (C : CX K l0 E0 own Ts cc rm n0) {a b : Nat} {off : Int} (tgt : Nat) (hdg : decode cc pc = .ok (.if_icmp .ge off, 3)) (ht : (pc : Int) + off = (tgt : Int)) (ha : a < 2 ^ 31) (hb : b < 2 ^ 31)
    (kt : b ≤ a → G K cs sl tgt lv st ws) (kf : a < b → G K cs sl (pc + 3) lv st ws) : G K cs sl pc lv (.int (nI b) :: .int (nI a) :: st) ws :=
  g_icmp_ge C tgt hdg ht (fun q => kt ((nI_leI hb ha).mp q)) (fun q => kf (Nat.not_le.mp (fun z => q ((nI_leI hb ha).mpr z))))

theorem g_icmp_gtN (C : CX K l0 E0 own Ts cc rm n0) {a b : Nat} {off : Int} (tgt : Nat) (hdg : decode cc pc = .ok (.if_icmp .gt off, 3)) (ht : (pc : Int) + off = (tgt : Int)) (ha : a < 2 ^ 31) (hb : b < 2 ^ 31)
    (kt : b < a → G K cs sl tgt lv st ws) (kf : a ≤ b → G K cs sl (pc + 3) lv st ws) : G K cs sl pc lv (.int (nI b) :: .int (nI a) :: st) ws :=
  g_icmp_gt C tgt hdg ht (fun q => kt ((nI_ltI hb ha).mp q)) (fun q => kf (Nat.not_lt.mp (fun z => q ((nI_ltI hb ha).mpr z))))

theorem g_icmp_leN (C : CX K l0 E0 own Ts cc rm n0) {a b : Nat} {off : Int} (tgt : Nat) (hdg : decode cc pc = .ok (.if_icmp .le off, 3)) (ht : (pc : Int) + off = (tgt : Int)) (ha : a < 2 ^ 31) (hb : b < 2 ^ 31)
    (kt : a ≤ b → G K cs sl tgt lv st ws) (kf : b < a → G K cs sl (pc + 3) lv st ws) : G K cs sl pc lv (.int (nI b) :: .int (nI a) :: st) ws :=
  g_icmp_le C tgt hdg ht (fun q => kt ((nI_leI ha hb).mp q)) (fun q => kf (Nat.not_le.mp (fun z => q ((nI_leI ha hb).mpr z))))

theorem g_if_eqN (C : CX K l0 E0 own Ts cc rm n0) {a : Nat} {off : Int} (tgt : Nat) (hdg : decode cc pc = .ok (.ifCond .eq off, 3)) (ht : (pc : Int) + off = (tgt : Int)) (ha : a < 2 ^ 31)
    (kt : a = 0 → G K cs sl tgt lv st ws) (kf : ¬ a = 0 → G K cs sl (pc + 3) lv st ws) : G K cs sl pc lv (.int (nI a) :: st) ws :=
  g_if_eq C tgt hdg ht (fun q => kt ((nI_eq ha (by decide)).mp q)) (fun q => kf (fun z => q ((nI_eq ha (by decide)).mpr z)))

theorem g_if_neN (C : CX K l0 E0 own Ts cc rm n0) {a : Nat} {off : Int} (tgt : Nat) (hdg : decode cc pc = .ok (.ifCond .ne off, 3)) (ht : (pc : Int) + off = (tgt : Int)) (ha : a < 2 ^ 31)
    (kt : ¬ a = 0 → G K cs sl tgt lv st ws) (kf : a = 0 → G K cs sl (pc + 3) lv st ws) : G K cs sl pc lv (.int (nI a) :: st) ws :=
  g_if_ne C tgt hdg ht (fun q => kt (fun z => q ((nI_eq ha (by decide)).mpr z))) (fun q => kf ((nI_eq ha (by decide)).mp q))

theorem g_if_leN (C : CX K l0 E0 own Ts cc rm n0) {a : Nat} {off : Int} (tgt : Nat) (hdg : decode cc pc = .ok (.ifCond .le off, 3)) (ht : (pc : Int) + off = (tgt : Int)) (ha : a < 2 ^ 31)
    (kt : a = 0 → G K cs sl tgt lv st ws) (kf : 0 < a → G K cs sl (pc + 3) lv st ws) : G K cs sl pc lv (.int (nI a) :: st) ws :=
  g_if_le C tgt hdg ht (fun q => kt (Nat.le_zero.mp ((nI_leI ha (by decide)).mp q))) (fun q => kf (Nat.not_le.mp (fun z => q ((nI_leI ha (by decide)).mpr z))))

theorem g_if_gtN (C : CX K l0 E0 own Ts cc rm n0) {a : Nat} {off : Int} (tgt : Nat) (hdg : decode cc pc = .ok (.ifCond .gt off, 3)) (ht : (pc : Int) + off = (tgt : Int)) (ha : a < 2 ^ 31)
    (kt : 0 < a → G K cs sl tgt lv st ws) (kf : a = 0 → G K cs sl (pc + 3) lv st ws) : G K cs sl pc lv (.int (nI a) :: st) ws :=
  g_if_gt C tgt hdg ht (fun q => kt ((nI_ltI (by decide) ha).mp q)) (fun q => kf (Nat.le_zero.mp (Nat.not_lt.mp (fun z => q ((nI_ltI (by decide) ha).mpr z)))))

theorem g_if_ltN (C : CX K l0 E0 own Ts cc rm n0) {a : Nat} {off : Int} (tgt : Nat) (hdg : decode cc pc = .ok (.ifCond .lt off, 3)) (ht : (pc : Int) + off = (tgt : Int)) (ha : a < 2 ^ 31)
    (kf : G K cs sl (pc + 3) lv st ws) : G K cs sl pc lv (.int (nI a) :: st) ws :=
  g_if_lt C tgt hdg ht (fun q => absurd q (nI_pos ha)) (fun _ => kf)
theorem g_if_geN (C : CX K l0 E0 own Ts cc rm n0) {a : Nat} {off : Int} (tgt : Nat) (hdg : decode cc pc = .ok (.ifCond .ge off, 3)) (ht : (pc : Int) + off = (tgt : Int)) (ha : a < 2 ^ 31)
    (kt : G K cs sl tgt lv st ws) : G K cs sl pc lv (.int (nI a) :: st) ws :=
  g_if_ge C tgt hdg ht (fun _ => kt) (fun q => absurd (nI_pos' ha) q)
/-- a truth value as the machine has it -/
def bI (c : Prop) [Decidable c] : Int32 := if c then nI 1 else nI 0
theorem bI_t {c : Prop} [Decidable c] (h : c) : bI c = nI 1 := if_pos h
theorem bI_f {c : Prop} [Decidable c] (h : ¬ c) : bI c = nI 0 := if_neg h
theorem bI_0 {c : Prop} [Decidable c] : bI c = 0 ↔ ¬ c := by
  unfold bI
  by_cases h : c
  · rw [if_pos h]; exact ⟨fun q => absurd q (by decide), fun q => absurd h q⟩
  · rw [if_neg h]; exact ⟨fun _ => h, fun _ => rfl⟩
theorem g_if_eqB (C : CX K l0 E0 own Ts cc rm n0) {c : Prop} [Decidable c] {off : Int} (tgt : Nat) (hdg : decode cc pc = .ok (.ifCond .eq off, 3)) (ht : (pc : Int) + off = (tgt : Int))
    (kt : ¬ c → G K cs sl tgt lv st ws) (kf : c → G K cs sl (pc + 3) lv st ws) : G K cs sl pc lv (.int (bI c) :: st) ws :=
  g_if_eq C tgt hdg ht (fun q => kt (bI_0.mp q)) (fun q => kf (Decidable.not_not.mp (fun z => q (bI_0.mpr z))))
theorem g_if_neB (C : CX K l0 E0 own Ts cc rm n0) {c : Prop} [Decidable c] {off : Int} (tgt : Nat) (hdg : decode cc pc = .ok (.ifCond .ne off, 3)) (ht : (pc : Int) + off = (tgt : Int))
    (kt : c → G K cs sl tgt lv st ws) (kf : ¬ c → G K cs sl (pc + 3) lv st ws) : G K cs sl pc lv (.int (bI c) :: st) ws :=
  g_if_ne C tgt hdg ht (fun q => kt (Decidable.not_not.mp (fun z => q (bI_0.mpr z)))) (fun q => kf (bI_0.mp q))
theorem g_iaddN (C : CX K l0 E0 own Ts cc rm n0) {a b : Nat} (hdg : decode cc pc = .ok (.iadd, 1)) (kk : G K cs sl (pc + 1) lv (.int (nI (a + b)) :: st) ws) : G K cs sl pc lv (.int (nI b) :: .int (nI a) :: st) ws :=
  g_iadd C hdg (g_as (nI_add a b) kk)
theorem g_imulN (C : CX K l0 E0 own Ts cc rm n0) {a b : Nat} (hdg : decode cc pc = .ok (.imul, 1)) (kk : G K cs sl (pc + 1) lv (.int (nI (a * b)) :: st) ws) : G K cs sl pc lv (.int (nI b) :: .int (nI a) :: st) ws :=
  g_imul C hdg (g_as (pk_mul a b) kk)
theorem g_isubN (C : CX K l0 E0 own Ts cc rm n0) {a b : Nat} (hdg : decode cc pc = .ok (.isub, 1)) (h : b ≤ a) (kk : G K cs sl (pc + 1) lv (.int (nI (a - b)) :: st) ws) : G K cs sl pc lv (.int (nI b) :: .int (nI a) :: st) ws :=
  g_isub C hdg (g_as (pk_sub h) kk)
theorem g_idivN (C : CX K l0 E0 own Ts cc rm n0) {a b : Nat} (hdg : decode cc pc = .ok (.idiv, 1)) (ha : a < 2 ^ 31) (h0 : 0 < b) (hb : b < 2 ^ 31) (kk : G K cs sl (pc + 1) lv (.int (nI (a / b)) :: st) ws) : G K cs sl pc lv (.int (nI b) :: .int (nI a) :: st) ws :=
  g_idiv C hdg (nI_ne0 h0 hb) (g_as (pk_div ha h0 hb) kk)
theorem g_iremN (C : CX K l0 E0 own Ts cc rm n0) {a b : Nat} (hdg : decode cc pc = .ok (.irem, 1)) (ha : a < 2 ^ 31) (h0 : 0 < b) (hb : b < 2 ^ 31) (kk : G K cs sl (pc + 1) lv (.int (nI (a % b)) :: st) ws) : G K cs sl pc lv (.int (nI b) :: .int (nI a) :: st) ws :=
  g_irem C hdg (nI_ne0 h0 hb) (g_as (pk_rem ha h0 hb) kk)
theorem shl_cnt : ∀ k : Nat, k < 32 → ((nI k &&& 31).toBitVec.smod 32).toNat = k := by decide +kernel
theorem shl_1 {k : Nat} (h : k < 31) : nI 1 <<< (nI k &&& 31) = nI (2 ^ k) := by
  have e := pk_shlN (n := 1) (nI k &&& 31) k (shl_cnt k (by omega)) (by rw [Nat.one_mul]; exact Nat.pow_lt_pow_right (by decide) (by omega))
  rw [e, Nat.one_mul]
theorem g_ishl1 (C : CX K l0 E0 own Ts cc rm n0) {k : Nat} (hdg : decode cc pc = .ok (.ishl, 1)) (h : k < 31) (kk : G K cs sl (pc + 1) lv (.int (nI (2 ^ k)) :: st) ws) : G K cs sl pc lv (.int (nI k) :: .int (nI 1) :: st) ws :=
  g_ishl C hdg (g_as (shl_1 h) kk)
theorem g_iincN (C : CX K l0 E0 own Ts cc rm n0) {i a : Nat} (hdg : decode cc pc = .ok (.iinc i 1, 3)) (j : Nat) (hk : lv[j]? = some (i, .int (nI a))) (hn : i < n0) (hl : (i, Value.int (nI (a + 1))) :: lv.filter (fun q => !(q.1 == i) && !(q.1 + 1 == i && q.2.category == 2)) = lv') (kk : G K cs sl (pc + 3) lv' st ws) : G K cs sl pc lv st ws :=
  g_iinc C (nI (a + 1)) hdg j hk (nI_1 a) hn hl kk
theorem g_iincM (C : CX K l0 E0 own Ts cc rm n0) {i a : Nat} (hdg : decode cc pc = .ok (.iinc i (-1), 3)) (j : Nat) (hk : lv[j]? = some (i, .int (nI (a + 1)))) (hn : i < n0) (hl : (i, Value.int (nI a)) :: lv.filter (fun q => !(q.1 == i) && !(q.1 + 1 == i && q.2.category == 2)) = lv') (kk : G K cs sl (pc + 3) lv' st ws) : G K cs sl pc lv st ws :=
  g_iinc C (nI a) hdg j hk (pk_m1 a) hn hl kk
theorem g_iandN (C : CX K l0 E0 own Ts cc rm n0) {a b : Nat} (hdg : decode cc pc = .ok (.iand, 1)) (kk : G K cs sl (pc + 1) lv (.int (nI (a &&& b)) :: st) ws) : G K cs sl pc lv (.int (nI b) :: .int (nI a) :: st) ws :=
  g_iand C hdg (g_as (by rw [← Int32.toBitVec_inj]; simp [nI, BitVec.ofNat_and]) kk)
theorem g_iorN (C : CX K l0 E0 own Ts cc rm n0) {a b : Nat} (hdg : decode cc pc = .ok (.ior, 1)) (kk : G K cs sl (pc + 1) lv (.int (nI (a ||| b)) :: st) ws) : G K cs sl pc lv (.int (nI b) :: .int (nI a) :: st) ws :=
  g_ior C hdg (g_as (by rw [← Int32.toBitVec_inj]; simp [nI, BitVec.ofNat_or]) kk)

theorem g_get (C : CX K l0 E0 own Ts cc rm n0) {Cn ref : String} {T : u_T} {N ci index a : Nat} (hin : ∀ w ∈ u_ws Cn T N, w ∈ Ts) (q0 : Nat) {fs : List Value} (he : ws[q0]? = some (a, .inr (ci, fs))) (hc : vwCl[ci]? = some (Cn, T, N)) (k : Nat) (hk : k < N) (hlink : Cond.fieldLink own index ref (T k).2.1 (T k).2.2.1 ∈ Ts) (hsame : ref = (T k).1) {v : Value} (hv : fs[k]? = some v) (hdg : decode cc pc = .ok (.getfield index, 3))
    (kk : G K cs sl (pc + 3) lv (v :: st) ws) : G K cs sl pc lv (.ref a :: st) ws := by
  obtain ⟨p, l, e, R, s, m, args, below, meth, c, E, A, nL, Q⟩ := K
  obtain ⟨hx, hb, hml, hown, hts, hK, hA, rfl, rfl, rfl, rfl⟩ := C
  subst hsame
  exact fun H locs ls hP hD hS h => va_get hx hb hts hin hown hK hP q0 he hc k hk (hts _ hlink) (fun _ z => z) hv hdg (kk H locs ls hP hD hS h)
theorem g_put (C : CX K l0 E0 own Ts cc rm n0) {Cn ref : String} {T : u_T} {N ci index a : Nat} (hin : ∀ w ∈ u_ws Cn T N, w ∈ Ts) (ty0 : Nat → FieldType) (hty : ∀ k, k < N → parseFieldDescriptor (T k).2.2.1 = some (ty0 k)) (hnm : ∀ a, a < N → ∀ b, b < N → a ≠ b → (T a).2.1 ≠ (T b).2.1) (q0 : Nat) {fs : List Value} (he : ws[q0]? = some (a, .inr (ci, fs))) (hc : vwCl[ci]? = some (Cn, T, N)) (k : Nat) (hk : k < N) (hlink : Cond.fieldLink own index ref (T k).2.1 (T k).2.2.1 ∈ Ts) (hsame : ref = (T k).1) (hfin : (T k).2.2.2 = false) {ty : FieldType} {v : Value} (hd : ty0 k = ty) (hn : narrow ty v = v) (hfit : fits ty v = true) (hl : k < fs.length) (hdg : decode cc pc = .ok (.putfield index, 3)) (hw : ws.set q0 (a, .inr (ci, fs.set k v)) = ws')
    (kk : G K cs sl (pc + 3) lv st ws') : G K cs sl pc lv (v :: .ref a :: st) ws := by
  obtain ⟨p, l, e, R, s, m, args, below, meth, c, E, A, nL, Q⟩ := K
  obtain ⟨hx, hb, hml, hown, hts, hK, hA, rfl, rfl, rfl, rfl⟩ := C
  subst hsame
  subst hw
  subst hd
  exact fun H locs ls hP hD hS h => va_put hx hb hts hin ty0 hty hnm hown hK hP hD hS q0 he hc k hk (hts _ hlink) (fun _ z => z) hfin (hty k hk) hn hfit hl hdg (fun H1 locs1 hP hD hS => kk H1 locs1 ls hP hD hS h)
theorem g_putF (C : CX K l0 E0 own Ts cc rm n0) (I : IX K) {Cn ref : String} {T : u_T} {N ci index a : Nat} (hin : ∀ w ∈ u_ws Cn T N, w ∈ Ts) (ty0 : Nat → FieldType) (hty : ∀ k, k < N → parseFieldDescriptor (T k).2.2.1 = some (ty0 k)) (hnm : ∀ a, a < N → ∀ b, b < N → a ≠ b → (T a).2.1 ≠ (T b).2.1) (q0 : Nat) {fs : List Value} (he : ws[q0]? = some (a, .inr (ci, fs))) (hc : vwCl[ci]? = some (Cn, T, N)) (k : Nat) (hk : k < N) (hlink : Cond.fieldLink own index ref (T k).2.1 (T k).2.2.1 ∈ Ts) (hsame : ref = (T k).1) (hfin : (T k).2.2.2 = true) (hdecl : (T k).1 = own) {ty : FieldType} {v : Value} (hd : ty0 k = ty) (hn : narrow ty v = v) (hfit : fits ty v = true) (hl : k < fs.length) (hdg : decode cc pc = .ok (.putfield index, 3)) (hw : ws.set q0 (a, .inr (ci, fs.set k v)) = ws')
    (kk : G K cs sl (pc + 3) lv st ws') : G K cs sl pc lv (v :: .ref a :: st) ws := by
  obtain ⟨p, l, e, R, s, m, args, below, meth, c, E, A, nL, Q⟩ := K
  obtain ⟨hx, hb, hml, hown, hts, hK, hA, rfl, rfl, rfl, rfl⟩ := C
  subst hsame
  subst hw
  subst hd
  exact fun H locs ls hP hD hS h => va_putF hx hb hts hin ty0 hty hnm hown hK hP hD hS q0 he hc k hk (hts _ hlink) (fun _ z => z) hfin I hdecl (hty k hk) hn hfit hl hdg (fun H1 locs1 hP hD hS => kk H1 locs1 ls hP hD hS h)

theorem clN {k n : Nat} (h : k < n) (hn : n < 2 ^ 31) : vp_in (nI k) n ∧ (nI k).toNatClampNeg = k := ⟨vp_in_nI h hn, nI_clamp (Nat.lt_trans h hn)⟩
theorem g_iald (C : CX K l0 E0 own Ts cc rm n0) (q0 : Nat) {a n k : Nat} {f : Nat → Int32} (ha : ws[q0]? = some (a, .inl (E0.2.1, n, .inl f))) (hk : k < n) (hn : n < 2 ^ 31) (hdg : decode cc pc = .ok (.iaload, 1))
    (kk : G K cs sl (pc + 1) lv (.int (f k) :: st) ws) : G K cs sl pc lv (.int (nI k) :: .ref a :: st) ws := by
  obtain ⟨p, l, e, R, s, m, args, below, meth, c, E, A, nL, Q⟩ := K
  obtain ⟨hx, hb, hml, hown, hts, hK, hA, rfl, rfl, rfl, rfl⟩ := C
  obtain ⟨h1, h2⟩ := clN hk hn
  exact fun H locs ls hP hD hS h => va_iald hx hb hK hP q0 0 ha rfl h1 hdg (by rw [h2]; exact kk H locs ls hP hD hS h)
theorem g_zald (C : CX K l0 E0 own Ts cc rm n0) (q0 : Nat) {a n k : Nat} {f : Nat → Int32} (ha : ws[q0]? = some (a, .inl (E0.2.2.1, n, .inl f))) (hk : k < n) (hn : n < 2 ^ 31) (hdg : decode cc pc = .ok (.baload, 1))
    (kk : G K cs sl (pc + 1) lv (.int (f k) :: st) ws) : G K cs sl pc lv (.int (nI k) :: .ref a :: st) ws := by
  obtain ⟨p, l, e, R, s, m, args, below, meth, c, E, A, nL, Q⟩ := K
  obtain ⟨hx, hb, hml, hown, hts, hK, hA, rfl, rfl, rfl, rfl⟩ := C
  obtain ⟨h1, h2⟩ := clN hk hn
  exact fun H locs ls hP hD hS h => va_zald hx hb hK hP q0 1 ha rfl h1 hdg (by rw [h2]; exact kk H locs ls hP hD hS h)
theorem g_aald (C : CX K l0 E0 own Ts cc rm n0) (q0 : Nat) {a n k r : Nat} {f : Nat → Option Nat} (ha : ws[q0]? = some (a, .inl (E0.2.2.2, n, .inr (.inr (.inr (.inr f)))))) (hk : k < n) (hn : n < 2 ^ 31) (hr : f k = some r) (hdg : decode cc pc = .ok (.aaload, 1))
    (kk : G K cs sl (pc + 1) lv (.ref r :: st) ws) : G K cs sl pc lv (.int (nI k) :: .ref a :: st) ws := by
  obtain ⟨p, l, e, R, s, m, args, below, meth, c, E, A, nL, Q⟩ := K
  obtain ⟨hx, hb, hml, hown, hts, hK, hA, rfl, rfl, rfl, rfl⟩ := C
  obtain ⟨h1, h2⟩ := clN hk hn
  exact fun H locs ls hP hD hS h => va_aldq hx hb hK hP q0 2 ha rfl h1 hdg (by rw [h2, hr]; exact kk H locs ls hP hD hS h)
theorem g_iast (C : CX K l0 E0 own Ts cc rm n0) {ws' : (Nat → Int32) → va_W} (q0 : Nat) {a n k : Nat} {f : Nat → Int32} {x : Int32} (ha : ws[q0]? = some (a, .inl (E0.2.1, n, .inl f))) (hk : k < n) (hn : n < 2 ^ 31) (hdg : decode cc pc = .ok (.iastore, 1)) (hw : ∀ f' : Nat → Int32, f' = upd f k x → ws.set q0 (a, .inl (E0.2.1, n, .inl f')) = ws' f')
    (kk : ∀ f' : Nat → Int32, f' = upd f k x → G K cs sl (pc + 1) lv st (ws' f')) : G K cs sl pc lv (.int x :: .int (nI k) :: .ref a :: st) ws := by
  obtain ⟨p, l, e, R, s, m, args, below, meth, c, E, A, nL, Q⟩ := K
  obtain ⟨hx, hb, hml, hown, hts, hK, hA, rfl, rfl, rfl, rfl⟩ := C
  obtain ⟨h1, h2⟩ := clN hk hn
  intro H locs ls hP hD hS h
  refine va_iast hx hb hK hP hD hS q0 0 ha rfl h1 hdg (fun H1 locs1 hP hD hS => ?_)
  rw [h2, hw _ rfl] at hP hD
  exact kk _ rfl H1 locs1 ls hP hD hS h
theorem g_zast (C : CX K l0 E0 own Ts cc rm n0) {ws' : (Nat → Int32) → va_W} (q0 : Nat) {a n k : Nat} {f : Nat → Int32} {x : Int32} (ha : ws[q0]? = some (a, .inl (E0.2.2.1, n, .inl f))) (hk : k < n) (hn : n < 2 ^ 31) (hx01 : vp_nar .boolean x = x) (hdg : decode cc pc = .ok (.bastore, 1)) (hw : ∀ f' : Nat → Int32, f' = upd f k x → ws.set q0 (a, .inl (E0.2.2.1, n, .inl f')) = ws' f')
    (kk : ∀ f' : Nat → Int32, f' = upd f k x → G K cs sl (pc + 1) lv st (ws' f')) : G K cs sl pc lv (.int x :: .int (nI k) :: .ref a :: st) ws := by
  obtain ⟨p, l, e, R, s, m, args, below, meth, c, E, A, nL, Q⟩ := K
  obtain ⟨hx, hb, hml, hown, hts, hK, hA, rfl, rfl, rfl, rfl⟩ := C
  obtain ⟨h1, h2⟩ := clN hk hn
  intro H locs ls hP hD hS h
  refine va_zast hx hb hK hP hD hS q0 1 ha rfl h1 hdg (fun H1 locs1 hP hD hS => ?_)
  rw [h2, hx01, hw _ rfl] at hP hD
  exact kk _ rfl H1 locs1 ls hP hD hS h
theorem g_alen (C : CX K l0 E0 own Ts cc rm n0) (q0 : Nat) {a n : Nat} {f : Nat → Int32} (ha : ws[q0]? = some (a, .inl (E0.2.1, n, .inl f))) (hdg : decode cc pc = .ok (.arraylength, 1))
    (kk : G K cs sl (pc + 1) lv (.int (nI n) :: st) ws) : G K cs sl pc lv (.ref a :: st) ws := by
  obtain ⟨p, l, e, R, s, m, args, below, meth, c, E, A, nL, Q⟩ := K
  obtain ⟨hx, hb, hml, hown, hts, hK, hA, rfl, rfl, rfl, rfl⟩ := C
  exact fun H locs ls hP hD hS h => va_alen hx hb hK hP q0 0 ha (ty := .int) rfl rfl hdg (kk H locs ls hP hD hS h)
theorem g_alenK (C : CX K l0 E0 own Ts cc rm n0) (q0 : Nat) {a n : Nat} {f : Nat → Option Nat} (ha : ws[q0]? = some (a, .inl (E0.2.2.2, n, .inr (.inr (.inr (.inr f)))))) (hdg : decode cc pc = .ok (.arraylength, 1))
    (kk : G K cs sl (pc + 1) lv (.int (nI n) :: st) ws) : G K cs sl pc lv (.ref a :: st) ws := by
  obtain ⟨p, l, e, R, s, m, args, below, meth, c, E, A, nL, Q⟩ := K
  obtain ⟨hx, hb, hml, hown, hts, hK, hA, rfl, rfl, rfl, rfl⟩ := C
  exact fun H locs ls hP hD hS h => va_alen hx hb hK hP q0 2 ha (ty := .object RX6) rfl rfl hdg (kk H locs ls hP hD hS h)

theorem g_iret (C : CX K l0 E0 own Ts cc rm n0) {Po : Option Value → va_W → Prop} (X : RX K (some .int) cs sl Po) {v : Int32} (hdg : decode cc pc = .ok (.ireturn, 1)) (kk : Po (some (.int v)) ws) : G K cs sl pc lv [.int v] ws := by
  obtain ⟨p, l, e, R, s, m, args, below, meth, c, E, A, nL, Q⟩ := K
  obtain ⟨hx, hb, hml, hown, hts, hK, hA, rfl, rfl, rfl, rfl⟩ := C
  obtain ⟨rfl, hr, hlk⟩ := X
  exact fun H locs ls hP hD hS h => W.iret hx hb hr (fun t ht hW => ⟨⟨_, _, rfl, kk, by rw [ht]; exact hP, va_K.moved hW.alike hK, hD⟩, hS.F ht⟩) hS.2.2 hdg hlk
theorem g_zret (C : CX K l0 E0 own Ts cc rm n0) {Po : Option Value → va_W → Prop} (X : RX K (some .boolean) cs sl Po) {v : Int32} (hn : narrow .boolean (.int v) = .int v) (hdg : decode cc pc = .ok (.ireturn, 1)) (kk : Po (some (.int v)) ws) : G K cs sl pc lv [.int v] ws := by
  obtain ⟨p, l, e, R, s, m, args, below, meth, c, E, A, nL, Q⟩ := K
  obtain ⟨hx, hb, hml, hown, hts, hK, hA, rfl, rfl, rfl, rfl⟩ := C
  obtain ⟨rfl, hr, hlk⟩ := X
  exact fun H locs ls hP hD hS h => W.zret hx hb hr hn (fun t ht hW => ⟨⟨_, _, rfl, kk, by rw [ht]; exact hP, va_K.moved hW.alike hK, hD⟩, hS.F ht⟩) hS.2.2 hdg hlk
theorem g_lret (C : CX K l0 E0 own Ts cc rm n0) {Po : Option Value → va_W → Prop} (X : RX K (some .long) cs sl Po) {v : Int64} (hdg : decode cc pc = .ok (.lreturn, 1)) (kk : Po (some (.long v)) ws) : G K cs sl pc lv [.long v] ws := by
  obtain ⟨p, l, e, R, s, m, args, below, meth, c, E, A, nL, Q⟩ := K
  obtain ⟨hx, hb, hml, hown, hts, hK, hA, rfl, rfl, rfl, rfl⟩ := C
  obtain ⟨rfl, hr, hlk⟩ := X
  exact fun H locs ls hP hD hS h => W.lret hx hb hr (fun t ht hW => ⟨⟨_, _, rfl, kk, by rw [ht]; exact hP, va_K.moved hW.alike hK, hD⟩, hS.F ht⟩) hS.2.2 hdg hlk
theorem g_vret (C : CX K l0 E0 own Ts cc rm n0) {Po : Option Value → va_W → Prop} (X : RX K none cs sl Po) (hdg : decode cc pc = .ok (.return_, 1)) (kk : Po none ws) : G K cs sl pc lv [] ws := by
  obtain ⟨p, l, e, R, s, m, args, below, meth, c, E, A, nL, Q⟩ := K
  obtain ⟨hx, hb, hml, hown, hts, hK, hA, rfl, rfl, rfl, rfl⟩ := C
  obtain ⟨rfl, hr, hlk⟩ := X
  exact fun H locs ls hP hD hS h => W.vret hx hb hr (fun t ht hW => ⟨⟨_, _, rfl, kk, by rw [ht]; exact hP, va_K.moved hW.alike hK, hD⟩, hS.F ht⟩) hS.2.2 hdg hlk
theorem nar_bI (c : Prop) [Decidable c] : narrow .boolean (.int (bI c)) = .int (bI c) := by
  unfold bI; by_cases h : c
  · rw [if_pos h]; rfl
  · rw [if_neg h]; rfl

theorem va_callo {p : Program} {l : Launch} {e : Env} {R : Room} {s : State} {m : MethodId} {args : Array Value} {below : List Frame} {meth : Method} {c : Code} {H : Heap} {locs : List Loc} {cells slots : Nat} {Q : State → Prop} {pc : Nat} {ls : Array Slot} {rest st0 : List Value} {a : Array Value} {A0 A1 : Nat → Prop} {H0 : Heap} {mc ms : Nat} {free : Addr → Prop} {E : EX} {Po : Option Value → va_W → Prop}
    (hr : va_Run p l e R s m args below meth c H locs cells slots mc ms (F0 m pc ls st0) rest (Qo E A1 Po a) free) (hS : va_S A0 H0 H locs) (hA : ∀ q, q < H.size → A1 q → A0 q) (hf : ∀ q, free q → A0 q)
    (kk : ∀ (v : Option Value) (w' : va_W) (H1 : Heap) (locs1 : List Loc), Po v w' → va_P E.1 vwCl w' H1 → va_D A1 w' → (∀ q : Nat, q < H.size → ¬ A1 q → H1[q]? = H[q]?) → va_S A0 H0 H1 locs1 → W p l e R s m args below meth c H1 locs1 (cells + mc) (slots + ms) Q (F0 m (pc + 3) ls (v.toList ++ rest))) : W p l e R s m args below meth c H locs cells slots Q (F0 m pc ls st0) := by
  intro T hT X
  obtain ⟨v, st₀, t, T', L, h0, X', hL, e1, e2, ⟨⟨v2, w', hv, hp, hP1, hK1, hD1⟩, hz, hk⟩, st⟩ := hr T hT X
  cases hv
  rw [h0] at hz hk
  obtain ⟨t2, a1, b1⟩ := kk v w' T'.heap (locs ++ L) hp (by rw [e1]; exact hP1) hD1 (fun q h1 h2 => by rw [e1]; exact hk q h1 h2)
    ⟨Nat.le_trans hS.1 (by rw [e1]; exact hz), fun q h1 h2 => by rw [e1, hk q (Nat.lt_of_lt_of_le h1 hS.1) (fun z => h2 (hA q (Nat.lt_of_lt_of_le h1 hS.1) z))]; exact hS.2.1 q h1 h2, fun q hq => by
      rcases List.mem_append.mp hq with h | h
      · exact hS.2.2 q h
      · exact hf _ (hL q h)⟩ T' rfl X'
  exact ⟨t2, st t2 a1, b1⟩
theorem va_P.pick {D : va_G} {cl : List vw_C} {ws ws' : va_W} {H : Heap} (h : va_P D cl ws H) (is : List Nat) (hs : is.map (fun i => ws[i]?) = ws'.map some) : va_P D cl ws' H := by
  intro k q hk
  have h1 : (is.map (fun i => ws[i]?))[k]? = some (some q) := by rw [hs, List.getElem?_map, hk]; rfl
  rw [List.getElem?_map] at h1
  cases hi : is[k]? with
  | none => rw [hi] at h1; cases h1
  | some i => rw [hi] at h1; exact h i q (Option.some.inj h1)
def wpk (ws : va_W) (is : List Nat) : va_W := is.filterMap (fun i => ws[i]?)
theorem wpk_ok (ws : va_W) : ∀ is : List Nat, is.all (fun i => decide (i < ws.length)) = true → is.map (fun i => ws[i]?) = (wpk ws is).map some
  | [], _ => rfl
  | i :: is, h => by
    simp only [List.all_cons, Bool.and_eq_true, decide_eq_true_eq] at h
    have ih := wpk_ok ws is h.2
    have e : ws[i]? = some (ws[i]'h.1) := List.getElem?_eq_getElem h.1
    unfold wpk at ih ⊢
    rw [List.map_cons, List.filterMap_cons, e, ih]
    rfl
theorem frameBlind {E : EX} {av : List Value} {sz : Nat} {w : va_W} : FrameBlind (va_Pc av (fun U => U.heap.size = sz ∧ va_P E.1 vwCl w U.heap ∧ va_K E.1 vwCl (tyE E) U ∧ va_D (fun _ => True) w)) :=
  fun a U g mk q => by obtain ⟨q0, q1, qP, qK, qD⟩ := q; exact ⟨q0, q1, qP, va_K.moved (u := U) (U := U.calling g mk a) (Vm.Alike.refl U.vm) qK, qD⟩
/-- the places of a call: the callee's cells, the rest's, and whether they are apart and there -/
def okP (n : Nat) (isC isR : List Nat) : Bool := va_nd isC && (va_nd isR && (isR.all (fun i => decide (i < n)) && isR.all (fun i => !(isC.contains i))))
theorem okP_dis {n : Nat} {isC isR : List Nat} (h : okP n isC isR = true) : va_nd isC = true ∧ va_nd isR = true ∧ isR.all (fun i => decide (i < n)) = true ∧ ∀ i ∈ isR, i ∉ isC := by
  simp only [okP, Bool.and_eq_true] at h
  refine ⟨h.1, h.2.1, h.2.2.1, fun i hi hc => ?_⟩
  have := List.all_eq_true.mp h.2.2.2 i hi
  simp at this
  exact this hc
/-- a call behind its run: the callee's cells come back, the rest stays -/
theorem g_run {p : Program} {l : Launch} {e : Env} {R : Room} {s : State} {m : MethodId} {args : Array Value} {below : List Frame} {meth : Method} {c : Code} {E : EX} {A : Nat → Prop} {nL : Nat} {Q : State → Prop} {H : Heap} {locs : List Loc} {ls : Array Slot} {a : Array Value} {mc ms : Nat} {rest : List Value} {Po : Option Value → va_W → Prop} {wc : va_W} (hA : ∀ q, s.heap.size ≤ q → A q) (isC isR : List Nat) (ok : okP ws.length isC isR = true) (hC : isC.map (fun i => ws[i]?) = wc.map some)
    (hP : va_P E.1 vwCl ws H) (hD : va_D A ws) (hS : va_S A s.heap H locs) (h : lv_has ls nL lv)
    (hr : va_P E.1 vwCl wc H → va_D (fun _ => True) wc → va_Run p l e R s m args below meth c H locs cs sl mc ms (F0 m pc ls st) rest (Qo E (va_A wc H.size) Po a) (va_A wc H.size))
    (kk : ∀ v w', Po v w' → G (p, l, e, R, s, m, args, below, meth, c, E, A, nL, Q) (cs + mc) (sl + ms) (pc + 3) lv (v.toList ++ rest) (wpk ws isR ++ w')) : W p l e R s m args below meth c H locs cs sl Q (F0 m pc ls st) := by
  obtain ⟨n1, n2, n3, n4⟩ := okP_dis ok
  have hF := va_free (wc := wc) hD hS hA isC hC
  refine va_callo (hr (hP.pick isC hC) ((hD.sub isC n1 hC).weaken (fun _ _ _ _ => trivial))) hS (fun q _ z => hF q z) hF (fun v w' H1 locs1 hp hP1 hD1 hk hS1 => ?_)
  obtain ⟨hP2, hD2⟩ := va_join (wr := wpk ws isR) (w1 := w') hP hD isC isR hC (wpk_ok ws isR n3) n2 n4 hk hF hP1 hD1
  exact kk v w' hp H1 locs1 ls hP2 hD2 hS1 h

theorem g_callV (C : CX K l0 E0 own Ts cc rm n0) {y : MethodName} {wsy wsy' : List Cond} {rmy : Room} {bytes : ByteArray} {maxL index mc ms : Nat} {ret : Option FieldType} {Po : Option Value → va_W → Prop} {wc : va_W} {rest As : List Value} {n : Nat} {b : Nat} {Cn : String} (hM : M l0 E0 y wsy rmy mc ms (.ref b :: As) wc Po) (hG : GoodIn Ts (wsV own index Cn y wsy)) (hw : wsy = Cond.code y bytes maxL ret :: wsy') (hcs : rmy.cells = mc ∧ rmy.slots = ms) (hR : rmy.frames + 1 ≤ rm.frames ∧ 8 + (maxL + 11) + rmy.locals ≤ rm.locals ∧ cs + mc ≤ rm.cells ∧ sl + ms ≤ rm.slots) (hcat : (rest.map fun v => v.category).sum ≤ 8) (hn : As.length = n) (hd : y.cls = Cn ∧ y.cls ≠ "java/lang/invoke/MethodHandle" ∧ y.cls ≠ "java/lang/invoke/VarHandle" ∧ (parseMethodDescriptor y.desc).map (fun d => d.parameters.length) = some n)
    (hst : st = As.reverse ++ .ref b :: rest) (hdg : decode cc pc = .ok (.invokevirtual index, 3)) {ci : Nat} {T : u_T} {N : Nat} {fs : List Value} (q0 : Nat) (hq : wc[q0]? = some (b, .inr (ci, fs))) (hcl : vwCl[ci]? = some (Cn, T, N)) (isC isR : List Nat) (ok : okP ws.length isC isR = true) (hC : isC.map (fun i => ws[i]?) = wc.map some) (kk : ∀ v w', Po v w' → G K (cs + mc) (sl + ms) (pc + 3) lv (v.toList ++ rest) (wpk ws isR ++ w')) : G K cs sl pc lv st ws := by
  obtain ⟨p, l, e, R, s, m, args, below, meth, c, E, A, nL, Q⟩ := K
  obtain ⟨hx, hb, hml, hown, hts, hK, hA, rfl, rfl, rfl, rfl⟩ := C
  intro H locs ls hP hD hS h
  subst hst
  refine g_run (a := (Value.ref b :: As).toArray) hA isC isR ok hC hP hD hS h (fun hPc hDc => ?_) kk
  exact va_runV ⟨hx, hb, hml, hown, hts⟩ (hM H.size) (cwV n hts hG hw hcs.1 hcs.2 hd ⟨hR.1, hR.2.1⟩) ⟨frameBlind, va_recv hK hPc hcl hq, fun U hU hW => ⟨rfl, by rw [hU], by rw [hU]; exact hPc, va_K.moved hW.alike hK, hDc⟩⟩ rfl hn h.1 rfl (lv_room hcat) hdg ⟨hR.2.2.1, hR.2.2.2⟩
theorem g_callS (C : CX K l0 E0 own Ts cc rm n0) {y : MethodName} {wsy wsy' : List Cond} {rmy : Room} {bytes : ByteArray} {maxL index mc ms : Nat} {ret : Option FieldType} {Po : Option Value → va_W → Prop} {wc : va_W} {rest As : List Value} {n : Nat} (hM : M l0 E0 y wsy rmy mc ms As wc Po) (hG : GoodIn Ts (va_wsS own index y wsy)) (hw : wsy = Cond.code y bytes maxL ret :: wsy') (hcs : rmy.cells = mc ∧ rmy.slots = ms) (hR : rmy.frames + 1 ≤ rm.frames ∧ 8 + (maxL + 11) + rmy.locals ≤ rm.locals ∧ cs + mc ≤ rm.cells ∧ sl + ms ≤ rm.slots) (hcat : (rest.map fun v => v.category).sum ≤ 8) (hn : As.length = n) (hd : y.cls ≠ "java/lang/invoke/MethodHandle" ∧ y.cls ≠ "java/lang/invoke/VarHandle" ∧ (parseMethodDescriptor y.desc).map (fun d => d.parameters.length) = some n)
    (hst : st = As.reverse ++ rest) (hdg : decode cc pc = .ok (.invokestatic index, 3)) (isC isR : List Nat) (ok : okP ws.length isC isR = true) (hC : isC.map (fun i => ws[i]?) = wc.map some) (kk : ∀ v w', Po v w' → G K (cs + mc) (sl + ms) (pc + 3) lv (v.toList ++ rest) (wpk ws isR ++ w')) : G K cs sl pc lv st ws := by
  obtain ⟨p, l, e, R, s, m, args, below, meth, c, E, A, nL, Q⟩ := K
  obtain ⟨hx, hb, hml, hown, hts, hK, hA, rfl, rfl, rfl, rfl⟩ := C
  intro H locs ls hP hD hS h
  subst hst
  refine g_run (a := As.toArray) hA isC isR ok hC hP hD hS h (fun hPc hDc => ?_) kk
  exact va_runS ⟨hx, hb, hml, hown, hts⟩ (hM H.size) (va_cwS n hts hG hw hcs.1 hcs.2 hd ⟨hR.1, hR.2.1⟩) ⟨frameBlind, fun U hU hW => ⟨rfl, by rw [hU], by rw [hU]; exact hPc, va_K.moved hW.alike hK, hDc⟩⟩ rfl hn h.1 rfl (lv_room hcat) hdg ⟨hR.2.2.1, hR.2.2.2⟩
/-- one outcome: the world behind the call in the caller's order -/
theorem g_is1 {r : Option Value} {w1 wr ws2 : va_W} {st2 : List Value} (pm : List Nat) (hn : va_nd pm = true) (hp : pm.map (fun i => (wr ++ w1)[i]?) = ws2.map some) (hs : r.toList ++ st = st2) (kk : G K cs sl pc lv st2 ws2) : ∀ v w', is1 r w1 v w' → G K cs sl pc lv (v.toList ++ st) (wr ++ w') := by
  intro v w' hv
  obtain ⟨rfl, rfl⟩ := hv
  subst hs
  obtain ⟨p, l, e, R, s, m, args, below, meth, c, E, A, nL, Q⟩ := K
  exact fun H locs ls hP hD hS h => kk H locs ls (hP.pick pm hp) (hD.sub pm hn hp) hS h
theorem g_tableIn (C : CX K l0 E0 own Ts cc rm n0) {dflt lo hi : Int} {offs : Array Int} {len : Nat} {x : Int32} {off : Int} (tgt : Nat) (hdg : decode cc pc = .ok (.tableswitch dflt lo hi offs, len)) (h1 : ¬ x.toInt < lo) (h2 : ¬ hi < x.toInt) (ho : offs[(x.toInt - lo).toNat]? = some off) (ht : (pc : Int) + off = (tgt : Int)) (kk : G K cs sl tgt lv st ws) : G K cs sl pc lv (.int x :: st) ws := by
  obtain ⟨p, l, e, R, s, m, args, below, meth, c, E, A, nL, Q⟩ := K
  obtain ⟨hx, hb, hml, hown, hts, hK, hA, rfl, rfl, rfl, rfl⟩ := C
  exact fun H locs ls hP hD hS h => lv_tableIn hx hb hdg h1 h2 ho ht (kk H locs ls hP hD hS h)
theorem g_tableOut (C : CX K l0 E0 own Ts cc rm n0) {dflt lo hi : Int} {offs : Array Int} {len : Nat} {x : Int32} (tgt : Nat) (hdg : decode cc pc = .ok (.tableswitch dflt lo hi offs, len)) (h : x.toInt < lo ∨ hi < x.toInt) (ht : (pc : Int) + dflt = (tgt : Int)) (kk : G K cs sl tgt lv st ws) : G K cs sl pc lv (.int x :: st) ws := by
  obtain ⟨p, l, e, R, s, m, args, below, meth, c, E, A, nL, Q⟩ := K
  obtain ⟨hx, hb, hml, hown, hts, hK, hA, rfl, rfl, rfl, rfl⟩ := C
  exact fun H locs ls hP hD hS z => lv_tableOut hx hb hdg h ht (kk H locs ls hP hD hS z)
theorem g_lookup (C : CX K l0 E0 own Ts cc rm n0) {dflt : Int} {ps : Array (Int × Int)} {len : Nat} {x : Int32} {off : Int} (tgt : Nat) (hdg : decode cc pc = .ok (.lookupswitch dflt ps, len)) (hp : (ps.toList.zip (ps.toList.drop 1)).all (fun (a, next) => a.1 < next.1) = true) (ho : Op.lookupswitch.offset ps.toList dflt x.toInt = off) (ht : (pc : Int) + off = (tgt : Int)) (kk : G K cs sl tgt lv st ws) : G K cs sl pc lv (.int x :: st) ws := by
  obtain ⟨p, l, e, R, s, m, args, below, meth, c, E, A, nL, Q⟩ := K
  obtain ⟨hx, hb, hml, hown, hts, hK, hA, rfl, rfl, rfl, rfl⟩ := C
  exact fun H locs ls hP hD hS z => lv_lookup hx hb hdg hp ho ht (kk H locs ls hP hD hS z)
def imin (x y : Int32) : Int32 := if y < x then y else x
def imax (x y : Int32) : Int32 := if x < y then y else x
theorem g_mmin (C : CX K l0 E0 own Ts cc rm n0) {index : Nat} (h1 : Cond.methodLink own index Lib.Math.min.name ∈ Ts) (h2 : Cond.static Lib.Math.min.name ∈ Ts) (h3 : Cond.initialized "java/lang/Math" ∈ Ts) (h4 : Cond.code Lib.Math.min.name Lib.Math.min.code 2 (some .int) ∈ Ts) (hf : 1 ≤ rm.frames) {x y : Int32} (hl : (st.map fun v => v.category).sum + 13 ≤ rm.locals) (hc : cs ≤ rm.cells ∧ sl ≤ rm.slots) (hdg : decode cc pc = .ok (.invokestatic index, 3)) (kk : G K cs sl (pc + 3) lv (.int (imin x y) :: st) ws) : G K cs sl pc lv (.int y :: .int x :: st) ws := by
  obtain ⟨p, l, e, R, s, m, args, below, meth, c, E, A, nL, Q⟩ := K
  obtain ⟨hx, hb, hml, hown, hts, hK, hA, rfl, rfl, rfl, rfl⟩ := C
  exact fun H locs ls hP hD hS h => va_mmin hx hb (hml.trans h.1.symm) hown (hts _ h1) (hts _ h2) (hts _ h3) (hts _ h4) hf hl hc.1 hc.2 hdg (kk H locs ls hP hD hS h)
theorem g_mmax (C : CX K l0 E0 own Ts cc rm n0) {index : Nat} (h1 : Cond.methodLink own index Lib.Math.max.name ∈ Ts) (h2 : Cond.static Lib.Math.max.name ∈ Ts) (h3 : Cond.initialized "java/lang/Math" ∈ Ts) (h4 : Cond.code Lib.Math.max.name Lib.Math.max.code 2 (some .int) ∈ Ts) (hf : 1 ≤ rm.frames) {x y : Int32} (hl : (st.map fun v => v.category).sum + 13 ≤ rm.locals) (hc : cs ≤ rm.cells ∧ sl ≤ rm.slots) (hdg : decode cc pc = .ok (.invokestatic index, 3)) (kk : G K cs sl (pc + 3) lv (.int (imax x y) :: st) ws) : G K cs sl pc lv (.int y :: .int x :: st) ws := by
  obtain ⟨p, l, e, R, s, m, args, below, meth, c, E, A, nL, Q⟩ := K
  obtain ⟨hx, hb, hml, hown, hts, hK, hA, rfl, rfl, rfl, rfl⟩ := C
  exact fun H locs ls hP hD hS h => va_mmax hx hb (hml.trans h.1.symm) hown (hts _ h1) (hts _ h2) (hts _ h3) (hts _ h4) hf hl hc.1 hc.2 hdg (kk H locs ls hP hD hS h)
theorem g_copy (C : CX K l0 E0 own Ts cc rm n0) {ws' : (Nat → Int32) → va_W} {index : Nat} (h1 : Cond.methodLink own index arraycopyName ∈ Ts) (h2 : Cond.native arraycopyName ∈ Ts) (h3 : Cond.static arraycopyName ∈ Ts) (h4 : Cond.initialized "java/lang/System" ∈ Ts) (q0 q1 : Nat) {a a0 m0 m1 sp dp n : Nat} {f g : Nat → Int32} (ha0 : ws[q0]? = some (a0, .inl (E0.2.1, m0, .inl f))) (ha1 : ws[q1]? = some (a, .inl (E0.2.1, m1, .inl g))) (hs0 : sp + n ≤ m0) (hs1 : dp + n ≤ m1) (hm0 : m0 < 2 ^ 31) (hm1 : m1 < 2 ^ 31) (hf : 1 ≤ rm.frames) (hl : (st.map fun v => v.category).sum + 18 ≤ rm.locals) (hdg : decode cc pc = .ok (.invokestatic index, 3)) (hw : ∀ f' : Nat → Int32, f' = va_cpy f g sp dp n → ws.set q1 (a, .inl (E0.2.1, m1, .inl f')) = ws' f') (kk : ∀ f' : Nat → Int32, f' = va_cpy f g sp dp n → G K cs sl (pc + 3) lv st (ws' f')) : G K cs sl pc lv (.int (nI n) :: .int (nI dp) :: .ref a :: .int (nI sp) :: .ref a0 :: st) ws := by
  obtain ⟨p, l, e, R, s, m, args, below, meth, c, E, A, nL, Q⟩ := K
  obtain ⟨hx, hb, hml, hown, hts, hK, hA, rfl, rfl, rfl, rfl⟩ := C
  intro H locs ls hP hD hS h
  have e1 : (nI n).toNatClampNeg = n := nI_clamp (by omega)
  have e2 : (nI sp).toNatClampNeg = sp := nI_clamp (by omega)
  have e3 : (nI dp).toNatClampNeg = dp := nI_clamp (by omega)
  refine va_copyi hx hb (hml.trans h.1.symm) hown (hts _ h1) (hts _ h2) (hts _ h3) (hts _ h4) hK hP hD hS q0 q1 0 0 ha0 ha1 (ty := .int) rfl rfl rfl (nI_pos (by omega)) (nI_pos (by omega)) (nI_pos (by omega)) (by rw [e1, e2]; exact hs0) (by rw [e1, e3]; exact hs1) (fun _ _ => rfl) hf (by exact hl) hdg (fun H1 locs1 hP hD hS => ?_)
  rw [e1, e2, e3, hw _ rfl] at hP hD
  exact kk _ rfl H1 locs1 ls hP hD hS h
theorem imin_nI {a b : Nat} (ha : a < 2 ^ 31) (hb : b < 2 ^ 31) : imin (nI a) (nI b) = nI (min a b) := by
  unfold imin
  by_cases h : b < a
  · rw [if_pos ((nI_ltI hb ha).mpr h), Nat.min_eq_right (by omega)]
  · rw [if_neg (fun z => h ((nI_ltI hb ha).mp z)), Nat.min_eq_left (by omega)]
theorem g_iincD (C : CX K l0 E0 own Ts cc rm n0) {i : Nat} {x : Int32} (hdg : decode cc pc = .ok (.iinc i (-1), 3)) (j : Nat) (hk : lv[j]? = some (i, .int x)) (hn : i < n0) (hl : (i, Value.int (x - nI 1)) :: lv.filter (fun q => !(q.1 == i) && !(q.1 + 1 == i && q.2.category == 2)) = lv') (kk : G K cs sl (pc + 3) lv' st ws) : G K cs sl pc lv st ws :=
  g_iinc C (x - nI 1) hdg j hk (by rw [Int32.sub_eq_add_neg]; rfl) hn hl kk
theorem nI_prd (j : Nat) : nI (j + 1) - nI 1 = nI j := pk_sub (a := j + 1) (b := 1) (by omega)
end GR
theorem toInt_ne {x : Int32} {j : Nat} (hj : j < 2 ^ 31) (h : ¬ x = nI j) : x.toInt ≠ (j : Int) := fun z => h (Int32.toInt_inj.mp (by rw [z, nI_toInt hj]))
theorem ts_out3 {x : Int32} (h0 : ¬ x = nI 0) (h1 : ¬ x = nI 1) (h2 : ¬ x = nI 2) : x.toInt < 0 ∨ 2 < x.toInt := by
  have a0 := toInt_ne (by decide) h0; have a1 := toInt_ne (by decide) h1; have a2 := toInt_ne (by decide) h2
  omega
theorem ts_out4 {x : Int32} (h0 : ¬ x = nI 0) (h1 : ¬ x = nI 1) (h2 : ¬ x = nI 2) (h3 : ¬ x = nI 3) : x.toInt < 0 ∨ 3 < x.toInt := by
  have a0 := toInt_ne (by decide) h0; have a1 := toInt_ne (by decide) h1; have a2 := toInt_ne (by decide) h2; have a3 := toInt_ne (by decide) h3
  omega
theorem ts_out5 {x : Int32} (h0 : ¬ x = nI 0) (h1 : ¬ x = nI 1) (h2 : ¬ x = nI 2) (h3 : ¬ x = nI 3) (h4 : ¬ x = nI 4) : x.toInt < 0 ∨ 4 < x.toInt := by
  have a0 := toInt_ne (by decide) h0; have a1 := toInt_ne (by decide) h1; have a2 := toInt_ne (by decide) h2; have a3 := toInt_ne (by decide) h3; have a4 := toInt_ne (by decide) h4
  omega
theorem ts_out6 {x : Int32} (h0 : ¬ x = nI 0) (h1 : ¬ x = nI 1) (h2 : ¬ x = nI 2) (h3 : ¬ x = nI 3) (h4 : ¬ x = nI 4) (h5 : ¬ x = nI 5) : x.toInt < 0 ∨ 5 < x.toInt := by
  have a0 := toInt_ne (by decide) h0; have a1 := toInt_ne (by decide) h1; have a2 := toInt_ne (by decide) h2; have a3 := toInt_ne (by decide) h3; have a4 := toInt_ne (by decide) h4; have a5 := toInt_ne (by decide) h5
  omega
