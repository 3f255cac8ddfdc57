/-! THE CLAIM OUT OF ONE WALK OF THE LAW'S BODY. Your part is whole_start (and what it stands on); all else here is the same for every law, but numbers. -/
def R_law : String := "PillowCourtLaw"
def lw_P (b : Addr) (xs : List Int32) (args : Array Value) (s : State) : Prop := args = #[.ref b] ∧ s.IntsAt b xs ∧ xs.length ≤ 320 ∧ (Jvm.Cond.and given_1 narrow_1).before args s = true
def lw_Q (_ : Array Value) (s : State) (o : Outcome) (t : State) : Prop := o = .returned (some (.int 1)) ∧ Framed s o t [] 42 2875
def lw_Z (below : List Frame) (a : Array Value) (s : State) : State → Prop := fun t => ∃ o, t.status = .running ∧ Ended t below o ∧ lw_Q a s o t
/-- the law's own end, with 1 on the stack, nothing written that was there before, its room as the claim has it -/
theorem lw_ret {p : Program} {l : Launch} {e : Env} {s : State} {m : MethodId} {below : List Frame} {meth : Method} {c : Code} {b : Nat} (hx : p.tables.exec = Jvm.exec) (hb : c.code = code) (hr : meth.sig.returnType = ret) (hlocks : meth.locks = false) {pc : Nat} {H : Heap} {ls : Array Slot} (hdg : decode code pc = .ok (.ireturn, 1)) : W p l e room_1 s m #[Value.ref b] below meth c H [] 42 2875 (lw_Z below #[Value.ref b] s) (F0 m pc ls [.int 1]) := by
  intro T hT X
  obtain ⟨fs, hret, hrun, hended, hW, hframe⟩ := X.leave (v := some (.int 1)) (hlocks := hlocks) (fun h => by rw [hr] at h; cases h)
  have hmeth' : T.vm.method? m = some meth := X.method'
  refine ⟨T.setFrames fs, ?_, .returned (some (.int 1)), hrun, hended, rfl, ⟨_, rfl⟩, hW, hframe⟩
  jvm_step X.here [X.here.top, hx, hb, hdg, hmeth', hr, ret, narrow_b1]
  (try refine ⟨rfl, ?_⟩); (try refine ⟨rfl, ?_⟩)
  first | (intro acts; rw [hret _ acts rfl rfl rfl]) | rw [hret _ _ rfl rfl rfl]
  exact Steps.refl _
/-- what holds at the law's entry: the machine, the code, the tables' words (any of lw_tbl by 'hts w (by decide +kernel)'), the script of L ints xs at the cell b, what the Statement gives of the start (any of its parts by flat_of_before) -/
def lw_At (p : Program) (s : State) (m : MethodId) (meth : Method) (c : Code) (b L : Nat) (xs : Nat → Int32) : Prop :=
  p.tables.exec = Jvm.exec ∧ c.code = code ∧ meth.sig.returnType = ret ∧ c.maxLocals = 4 ∧ s.vm.findClass R_law = some m.cls ∧ (∀ w ∈ lw_tbl, w.before #[Value.ref b] s = true) ∧ va_X b L xs s s.heap ∧ b < s.heap.size ∧ meth.locks = false ∧ (Jvm.Cond.and given_1 narrow_1).before #[Value.ref b] s = true

set_option maxHeartbeats 4000000 in
set_option maxRecDepth 100000 in
/-- the law's loop -/
theorem law_loop (l : Launch) (E : EX) (K : KX) (b L : Nat) (xs : Nat → Int32) (c0 r0 r1 h0 h1 s0 s1 s2 s3 g0 g1 g2 ka k0 k1 k2 k3 k4 k5 n1 n2 n3 ea m0 x0 x1 x2 x3 x4 x5 x6 x7 x8 x9 : Nat) (kf : Nat → Option Nat) (C : CX K l E RL wsL_law cL_law { frames := 10, cells := 42, slots := 2875, locals := 344 } 4) (Y : XX K b L xs) (hL : L ≤ 320) (hk0 : kf 0 = some k0) (hk1 : kf 1 = some k1) (hk2 : kf 2 = some k2) (hk3 : kf 3 = some k3) (hk4 : kf 4 = some k4) (hk5 : kf 5 = some k5) (fin : ∀ (lv : List (Nat × Value)) (ws : va_W), G K 42 2875 946 lv [] ws) : ∀ (zz i : Nat) (n und top nt t0 t1 t2 t3 u0 u1 u2 u3 : Nat) (R Q : RS) (T V : TS) (tr b0 b1 b2 b3 b4 b5 : Int64) (tx f pa im kp ga mo ee rd un fi asd no nw ke : Nat → Int32), i ≤ L → L - i < zz → INV n T f und top pa un im kp ke nt no → G K 42 2875 18 [(0, .ref b), (1, .ref c0), (2, .ref m0), (3, .int (nI i))] [] [(c0, oB 11 [.ref r0, .ref h0, .ref s0, .ref g0, .ref ka, .ref n1, .ref n2, .ref n3, .ref ea, .ref t0, .ref u0, .int (nI nt), .long tr]), (r0, oB 7 [.ref r1, .int (nI n), .int (nI R.1), .int R.2.1, .int (nI R.2.2.1), .int R.2.2.2]), (r1, iA E 200 tx), (h0, oB 8 [.ref h1]), (h1, iA E 50 f), (s0, oB 9 [.ref s1, .ref s2, .ref s3, .int (nI und), .int (nI top)]), (s1, iA E 500 pa), (s2, iA E 100 im), (s3, zA E 2 kp), (g0, oB 0 [.ref g1, .ref g2]), (g1, iA E 36 ga), (g2, iA E 448 mo), (ka, kA E 6 kf), (k0, oB 6 [.long b0]), (k1, oB 3 [.long b1]), (k2, oB 2 [.long b2]), (k3, oB 4 [.long b3]), (k4, oB 5 [.long b4]), (k5, oB 1 [.long b5]), (n1, iA E 5 (n1O no)), (n2, iA E 5 (n2O no)), (n3, iA E 5 (n3O no)), (ea, iA E 6 ee), (t0, oB 10 [.ref t1, .ref t2, .ref t3, .int (nI T.1), .int (nI T.2.1)]), (t1, iA E 6 T.2.2.1), (t2, iA E 6 T.2.2.2.1), (t3, iA E 7 T.2.2.2.2), (u0, oB 10 [.ref u1, .ref u2, .ref u3, .int (nI V.1), .int (nI V.2.1)]), (u1, iA E 6 V.2.2.1), (u2, iA E 6 V.2.2.2.1), (u3, iA E 7 V.2.2.2.2), (m0, oB 12 [.ref x0, .int (nI n), .int (nI Q.1), .int (nI Q.2.2.1), .int Q.2.1, .int Q.2.2.2, .ref x1, .ref x2, .ref x3, .ref x4, .int (nI und), .ref x5, .ref x6, .int (nI nt), .ref x7, .ref x8, .long tr, .ref x9]), (x0, iA E 200 tx), (x1, iA E 21 rd), (x2, iA E 21 (papO T)), (x3, iA E 50 (nowO f)), (x4, iA E 500 un), (x5, iA E 448 fi), (x6, iA E 50 asd), (x7, iA E 15 no), (x8, iA E 6 nw), (x9, iA E 102 ke)] := by
  intro zz
  induction zz with
  | zero => intro i n und top nt t0 t1 t2 t3 u0 u1 u2 u3 R Q T V tr b0 b1 b2 b3 b4 b5 tx f pa im kp ga mo ee rd un fi asd no nw ke hi hz hI; exact absurd hz (Nat.not_lt_zero _)
  | succ zz ih =>
    intro i n und top nt t0 t1 t2 t3 u0 u1 u2 u3 R Q T V tr b0 b1 b2 b3 b4 b5 tx f pa im kp ga mo ee rd un fi asd no nw ke hi hz hI
    have kk : i + 5 ≤ L → ∀ (n und top nt t0 t1 t2 t3 u0 u1 u2 u3 : Nat) (R Q : RS) (T V : TS) (tr b0 b1 b2 b3 b4 b5 : Int64) (tx f pa im kp ga mo ee rd un fi asd no nw ke : Nat → Int32), INV n T f und top pa un im kp ke nt no → G K 42 2875 940 [(0, .ref b), (1, .ref c0), (2, .ref m0), (3, .int (nI i))] [] [(c0, oB 11 [.ref r0, .ref h0, .ref s0, .ref g0, .ref ka, .ref n1, .ref n2, .ref n3, .ref ea, .ref t0, .ref u0, .int (nI nt), .long tr]), (r0, oB 7 [.ref r1, .int (nI n), .int (nI R.1), .int R.2.1, .int (nI R.2.2.1), .int R.2.2.2]), (r1, iA E 200 tx), (h0, oB 8 [.ref h1]), (h1, iA E 50 f), (s0, oB 9 [.ref s1, .ref s2, .ref s3, .int (nI und), .int (nI top)]), (s1, iA E 500 pa), (s2, iA E 100 im), (s3, zA E 2 kp), (g0, oB 0 [.ref g1, .ref g2]), (g1, iA E 36 ga), (g2, iA E 448 mo), (ka, kA E 6 kf), (k0, oB 6 [.long b0]), (k1, oB 3 [.long b1]), (k2, oB 2 [.long b2]), (k3, oB 4 [.long b3]), (k4, oB 5 [.long b4]), (k5, oB 1 [.long b5]), (n1, iA E 5 (n1O no)), (n2, iA E 5 (n2O no)), (n3, iA E 5 (n3O no)), (ea, iA E 6 ee), (t0, oB 10 [.ref t1, .ref t2, .ref t3, .int (nI T.1), .int (nI T.2.1)]), (t1, iA E 6 T.2.2.1), (t2, iA E 6 T.2.2.2.1), (t3, iA E 7 T.2.2.2.2), (u0, oB 10 [.ref u1, .ref u2, .ref u3, .int (nI V.1), .int (nI V.2.1)]), (u1, iA E 6 V.2.2.1), (u2, iA E 6 V.2.2.2.1), (u3, iA E 7 V.2.2.2.2), (m0, oB 12 [.ref x0, .int (nI n), .int (nI Q.1), .int (nI Q.2.2.1), .int Q.2.1, .int Q.2.2.2, .ref x1, .ref x2, .ref x3, .ref x4, .int (nI und), .ref x5, .ref x6, .int (nI nt), .ref x7, .ref x8, .long tr, .ref x9]), (x0, iA E 200 tx), (x1, iA E 21 rd), (x2, iA E 21 (papO T)), (x3, iA E 50 (nowO f)), (x4, iA E 500 un), (x5, iA E 448 fi), (x6, iA E 50 asd), (x7, iA E 15 no), (x8, iA E 6 nw), (x9, iA E 102 ke)] := by
      intro h5 nz undz topz ntz t0z t1z t2z t3z u0z u1z u2z u3z Rz Qz Tz Vz trz b0z b1z b2z b3z b4z b5z txz fz paz imz kpz gaz moz eez rdz unz fiz asdz noz nwz kez hI9
      refine g_iinc C (nI (i + 5)) (lv' := [(3, .int (nI (i + 5))), (0, .ref b), (1, .ref c0), (2, .ref m0)]) dL_law_940 3 rfl (show nI i + Int32.ofInt 5 = nI (i + 5) from nI_add i 5) (by decide) rfl ?_
      refine g_goto C 18 dL_law_943 (by decide) ?_
      refine g_sub (lv' := [(0, .ref b), (1, .ref c0), (2, .ref m0), (3, .int (nI (i + 5)))]) [1, 2, 3, 0] rfl ?_
      exact ih (i + 5) nz undz topz ntz t0z t1z t2z t3z u0z u1z u2z u3z Rz Qz Tz Vz trz b0z b1z b2z b3z b4z b5z txz fz paz imz kpz gaz moz eez rdz unz fiz asdz noz nwz kez (by omega) (by omega) hI9
    refine g_iload_n C dL_law_18 rfl 3 rfl ?_
    refine g_aload_n C dL_law_19 rfl 0 rfl ?_
    refine g_slen C Y dL_law_20 ?_
    refine g_iconst C (nI 5) dL_law_21 (by decide) ?_
    refine g_isub C dL_law_22 ?_
    refine g_icmp_gt C 946 dL_law_23 (by decide) (fun _ => fin _ _) (fun hc => ?_)
    rw [len5 hL (by omega)] at hc
    have h5 : i + 5 ≤ L := by omega
    refine g_aload_n C dL_law_26 rfl 0 rfl ?_
    refine g_iload_n C dL_law_27 rfl 3 rfl ?_
    refine g_sld C Y (by omega) (by omega) dL_law_28 ?_
    refine g_bipush C (nI 31) dL_law_29 (by decide) ?_
    refine g_iand C dL_law_31 ?_
    by_cases hj : ∃ j, j < 30 ∧ xs i &&& nI 31 = nI j
    · obtain ⟨j, hj, e⟩ := hj
      obtain rfl | rfl | rfl | rfl | rfl | rfl | rfl | rfl | rfl | rfl | rfl | rfl | rfl | rfl | rfl | rfl | rfl | rfl | rfl | rfl | rfl | rfl | rfl | rfl | rfl | rfl | rfl | rfl | rfl | rfl : j = 0 ∨ j = 1 ∨ j = 2 ∨ j = 3 ∨ j = 4 ∨ j = 5 ∨ j = 6 ∨ j = 7 ∨ j = 8 ∨ j = 9 ∨ j = 10 ∨ j = 11 ∨ j = 12 ∨ j = 13 ∨ j = 14 ∨ j = 15 ∨ j = 16 ∨ j = 17 ∨ j = 18 ∨ j = 19 ∨ j = 20 ∨ j = 21 ∨ j = 22 ∨ j = 23 ∨ j = 24 ∨ j = 25 ∨ j = 26 ∨ j = 27 ∨ j = 28 ∨ j = 29 := by omega
      · refine g_tableIn C 168 dL_law_32 (by rw [e]; decide) (by rw [e]; decide) (off := 136) (by rw [e]; rfl) (by decide) ?_
        exact law_0 l E K b L i xs c0 r0 r1 h0 h1 s0 s1 s2 s3 g0 g1 g2 ka k0 k1 k2 k3 k4 k5 n1 n2 n3 ea m0 x0 x1 x2 x3 x4 x5 x6 x7 x8 x9 kf C Y h5 hL hk0 hk1 hk2 hk3 hk4 hk5 n und top nt t0 t1 t2 t3 u0 u1 u2 u3 R Q T V tr b0 b1 b2 b3 b4 b5 tx f pa im kp ga mo ee rd un fi asd no nw ke hI (kk h5)
      · refine g_tableIn C 191 dL_law_32 (by rw [e]; decide) (by rw [e]; decide) (off := 159) (by rw [e]; rfl) (by decide) ?_
        exact law_1 l E K b L i xs c0 r0 r1 h0 h1 s0 s1 s2 s3 g0 g1 g2 ka k0 k1 k2 k3 k4 k5 n1 n2 n3 ea m0 x0 x1 x2 x3 x4 x5 x6 x7 x8 x9 kf C Y h5 hL hk0 hk1 hk2 hk3 hk4 hk5 n und top nt t0 t1 t2 t3 u0 u1 u2 u3 R Q T V tr b0 b1 b2 b3 b4 b5 tx f pa im kp ga mo ee rd un fi asd no nw ke hI (kk h5)
      · refine g_tableIn C 204 dL_law_32 (by rw [e]; decide) (by rw [e]; decide) (off := 172) (by rw [e]; rfl) (by decide) ?_
        exact law_2 l E K b L i xs c0 r0 r1 h0 h1 s0 s1 s2 s3 g0 g1 g2 ka k0 k1 k2 k3 k4 k5 n1 n2 n3 ea m0 x0 x1 x2 x3 x4 x5 x6 x7 x8 x9 kf C Y h5 hL hk0 hk1 hk2 hk3 hk4 hk5 n und top nt t0 t1 t2 t3 u0 u1 u2 u3 R Q T V tr b0 b1 b2 b3 b4 b5 tx f pa im kp ga mo ee rd un fi asd no nw ke hI (kk h5)
      · refine g_tableIn C 217 dL_law_32 (by rw [e]; decide) (by rw [e]; decide) (off := 185) (by rw [e]; rfl) (by decide) ?_
        exact law_3 l E K b L i xs c0 r0 r1 h0 h1 s0 s1 s2 s3 g0 g1 g2 ka k0 k1 k2 k3 k4 k5 n1 n2 n3 ea m0 x0 x1 x2 x3 x4 x5 x6 x7 x8 x9 kf C Y h5 hL hk0 hk1 hk2 hk3 hk4 hk5 n und top nt t0 t1 t2 t3 u0 u1 u2 u3 R Q T V tr b0 b1 b2 b3 b4 b5 tx f pa im kp ga mo ee rd un fi asd no nw ke hI (kk h5)
      · refine g_tableIn C 250 dL_law_32 (by rw [e]; decide) (by rw [e]; decide) (off := 218) (by rw [e]; rfl) (by decide) ?_
        exact law_4 l E K b L i xs c0 r0 r1 h0 h1 s0 s1 s2 s3 g0 g1 g2 ka k0 k1 k2 k3 k4 k5 n1 n2 n3 ea m0 x0 x1 x2 x3 x4 x5 x6 x7 x8 x9 kf C Y h5 hL hk0 hk1 hk2 hk3 hk4 hk5 n und top nt t0 t1 t2 t3 u0 u1 u2 u3 R Q T V tr b0 b1 b2 b3 b4 b5 tx f pa im kp ga mo ee rd un fi asd no nw ke hI (kk h5)
      · refine g_tableIn C 273 dL_law_32 (by rw [e]; decide) (by rw [e]; decide) (off := 241) (by rw [e]; rfl) (by decide) ?_
        exact law_5 l E K b L i xs c0 r0 r1 h0 h1 s0 s1 s2 s3 g0 g1 g2 ka k0 k1 k2 k3 k4 k5 n1 n2 n3 ea m0 x0 x1 x2 x3 x4 x5 x6 x7 x8 x9 kf C Y h5 hL hk0 hk1 hk2 hk3 hk4 hk5 n und top nt t0 t1 t2 t3 u0 u1 u2 u3 R Q T V tr b0 b1 b2 b3 b4 b5 tx f pa im kp ga mo ee rd un fi asd no nw ke hI (kk h5)
      · refine g_tableIn C 306 dL_law_32 (by rw [e]; decide) (by rw [e]; decide) (off := 274) (by rw [e]; rfl) (by decide) ?_
        exact law_6 l E K b L i xs c0 r0 r1 h0 h1 s0 s1 s2 s3 g0 g1 g2 ka k0 k1 k2 k3 k4 k5 n1 n2 n3 ea m0 x0 x1 x2 x3 x4 x5 x6 x7 x8 x9 kf C Y h5 hL hk0 hk1 hk2 hk3 hk4 hk5 n und top nt t0 t1 t2 t3 u0 u1 u2 u3 R Q T V tr b0 b1 b2 b3 b4 b5 tx f pa im kp ga mo ee rd un fi asd no nw ke hI (kk h5)
      · refine g_tableIn C 339 dL_law_32 (by rw [e]; decide) (by rw [e]; decide) (off := 307) (by rw [e]; rfl) (by decide) ?_
        exact law_7 l E K b L i xs c0 r0 r1 h0 h1 s0 s1 s2 s3 g0 g1 g2 ka k0 k1 k2 k3 k4 k5 n1 n2 n3 ea m0 x0 x1 x2 x3 x4 x5 x6 x7 x8 x9 kf C Y h5 hL hk0 hk1 hk2 hk3 hk4 hk5 n und top nt t0 t1 t2 t3 u0 u1 u2 u3 R Q T V tr b0 b1 b2 b3 b4 b5 tx f pa im kp ga mo ee rd un fi asd no nw ke hI (kk h5)
      · refine g_tableIn C 362 dL_law_32 (by rw [e]; decide) (by rw [e]; decide) (off := 330) (by rw [e]; rfl) (by decide) ?_
        exact law_8 l E K b L i xs c0 r0 r1 h0 h1 s0 s1 s2 s3 g0 g1 g2 ka k0 k1 k2 k3 k4 k5 n1 n2 n3 ea m0 x0 x1 x2 x3 x4 x5 x6 x7 x8 x9 kf C Y h5 hL hk0 hk1 hk2 hk3 hk4 hk5 n und top nt t0 t1 t2 t3 u0 u1 u2 u3 R Q T V tr b0 b1 b2 b3 b4 b5 tx f pa im kp ga mo ee rd un fi asd no nw ke hI (kk h5)
      · refine g_tableIn C 395 dL_law_32 (by rw [e]; decide) (by rw [e]; decide) (off := 363) (by rw [e]; rfl) (by decide) ?_
        exact law_9 l E K b L i xs c0 r0 r1 h0 h1 s0 s1 s2 s3 g0 g1 g2 ka k0 k1 k2 k3 k4 k5 n1 n2 n3 ea m0 x0 x1 x2 x3 x4 x5 x6 x7 x8 x9 kf C Y h5 hL hk0 hk1 hk2 hk3 hk4 hk5 n und top nt t0 t1 t2 t3 u0 u1 u2 u3 R Q T V tr b0 b1 b2 b3 b4 b5 tx f pa im kp ga mo ee rd un fi asd no nw ke hI (kk h5)
      · refine g_tableIn C 418 dL_law_32 (by rw [e]; decide) (by rw [e]; decide) (off := 386) (by rw [e]; rfl) (by decide) ?_
        exact law_10 l E K b L i xs c0 r0 r1 h0 h1 s0 s1 s2 s3 g0 g1 g2 ka k0 k1 k2 k3 k4 k5 n1 n2 n3 ea m0 x0 x1 x2 x3 x4 x5 x6 x7 x8 x9 kf C Y h5 hL hk0 hk1 hk2 hk3 hk4 hk5 n und top nt t0 t1 t2 t3 u0 u1 u2 u3 R Q T V tr b0 b1 b2 b3 b4 b5 tx f pa im kp ga mo ee rd un fi asd no nw ke hI (kk h5)
      · refine g_tableIn C 441 dL_law_32 (by rw [e]; decide) (by rw [e]; decide) (off := 409) (by rw [e]; rfl) (by decide) ?_
        exact law_11 l E K b L i xs c0 r0 r1 h0 h1 s0 s1 s2 s3 g0 g1 g2 ka k0 k1 k2 k3 k4 k5 n1 n2 n3 ea m0 x0 x1 x2 x3 x4 x5 x6 x7 x8 x9 kf C Y h5 hL hk0 hk1 hk2 hk3 hk4 hk5 n und top nt t0 t1 t2 t3 u0 u1 u2 u3 R Q T V tr b0 b1 b2 b3 b4 b5 tx f pa im kp ga mo ee rd un fi asd no nw ke hI (kk h5)
      · refine g_tableIn C 474 dL_law_32 (by rw [e]; decide) (by rw [e]; decide) (off := 442) (by rw [e]; rfl) (by decide) ?_
        exact law_12 l E K b L i xs c0 r0 r1 h0 h1 s0 s1 s2 s3 g0 g1 g2 ka k0 k1 k2 k3 k4 k5 n1 n2 n3 ea m0 x0 x1 x2 x3 x4 x5 x6 x7 x8 x9 kf C Y h5 hL hk0 hk1 hk2 hk3 hk4 hk5 n und top nt t0 t1 t2 t3 u0 u1 u2 u3 R Q T V tr b0 b1 b2 b3 b4 b5 tx f pa im kp ga mo ee rd un fi asd no nw ke hI (kk h5)
      · refine g_tableIn C 497 dL_law_32 (by rw [e]; decide) (by rw [e]; decide) (off := 465) (by rw [e]; rfl) (by decide) ?_
        exact law_13 l E K b L i xs c0 r0 r1 h0 h1 s0 s1 s2 s3 g0 g1 g2 ka k0 k1 k2 k3 k4 k5 n1 n2 n3 ea m0 x0 x1 x2 x3 x4 x5 x6 x7 x8 x9 kf C Y h5 hL hk0 hk1 hk2 hk3 hk4 hk5 n und top nt t0 t1 t2 t3 u0 u1 u2 u3 R Q T V tr b0 b1 b2 b3 b4 b5 tx f pa im kp ga mo ee rd un fi asd no nw ke hI (kk h5)
      · refine g_tableIn C 510 dL_law_32 (by rw [e]; decide) (by rw [e]; decide) (off := 478) (by rw [e]; rfl) (by decide) ?_
        exact law_14 l E K b L i xs c0 r0 r1 h0 h1 s0 s1 s2 s3 g0 g1 g2 ka k0 k1 k2 k3 k4 k5 n1 n2 n3 ea m0 x0 x1 x2 x3 x4 x5 x6 x7 x8 x9 kf C Y h5 hL hk0 hk1 hk2 hk3 hk4 hk5 n und top nt t0 t1 t2 t3 u0 u1 u2 u3 R Q T V tr b0 b1 b2 b3 b4 b5 tx f pa im kp ga mo ee rd un fi asd no nw ke hI (kk h5)
      · refine g_tableIn C 543 dL_law_32 (by rw [e]; decide) (by rw [e]; decide) (off := 511) (by rw [e]; rfl) (by decide) ?_
        exact law_15 l E K b L i xs c0 r0 r1 h0 h1 s0 s1 s2 s3 g0 g1 g2 ka k0 k1 k2 k3 k4 k5 n1 n2 n3 ea m0 x0 x1 x2 x3 x4 x5 x6 x7 x8 x9 kf C Y h5 hL hk0 hk1 hk2 hk3 hk4 hk5 n und top nt t0 t1 t2 t3 u0 u1 u2 u3 R Q T V tr b0 b1 b2 b3 b4 b5 tx f pa im kp ga mo ee rd un fi asd no nw ke hI (kk h5)
      · refine g_tableIn C 566 dL_law_32 (by rw [e]; decide) (by rw [e]; decide) (off := 534) (by rw [e]; rfl) (by decide) ?_
        exact law_16 l E K b L i xs c0 r0 r1 h0 h1 s0 s1 s2 s3 g0 g1 g2 ka k0 k1 k2 k3 k4 k5 n1 n2 n3 ea m0 x0 x1 x2 x3 x4 x5 x6 x7 x8 x9 kf C Y h5 hL hk0 hk1 hk2 hk3 hk4 hk5 n und top nt t0 t1 t2 t3 u0 u1 u2 u3 R Q T V tr b0 b1 b2 b3 b4 b5 tx f pa im kp ga mo ee rd un fi asd no nw ke hI (kk h5)
      · refine g_tableIn C 599 dL_law_32 (by rw [e]; decide) (by rw [e]; decide) (off := 567) (by rw [e]; rfl) (by decide) ?_
        exact law_17 l E K b L i xs c0 r0 r1 h0 h1 s0 s1 s2 s3 g0 g1 g2 ka k0 k1 k2 k3 k4 k5 n1 n2 n3 ea m0 x0 x1 x2 x3 x4 x5 x6 x7 x8 x9 kf C Y h5 hL hk0 hk1 hk2 hk3 hk4 hk5 n und top nt t0 t1 t2 t3 u0 u1 u2 u3 R Q T V tr b0 b1 b2 b3 b4 b5 tx f pa im kp ga mo ee rd un fi asd no nw ke hI (kk h5)
      · refine g_tableIn C 622 dL_law_32 (by rw [e]; decide) (by rw [e]; decide) (off := 590) (by rw [e]; rfl) (by decide) ?_
        exact law_18 l E K b L i xs c0 r0 r1 h0 h1 s0 s1 s2 s3 g0 g1 g2 ka k0 k1 k2 k3 k4 k5 n1 n2 n3 ea m0 x0 x1 x2 x3 x4 x5 x6 x7 x8 x9 kf C Y h5 hL hk0 hk1 hk2 hk3 hk4 hk5 n und top nt t0 t1 t2 t3 u0 u1 u2 u3 R Q T V tr b0 b1 b2 b3 b4 b5 tx f pa im kp ga mo ee rd un fi asd no nw ke hI (kk h5)
      · refine g_tableIn C 635 dL_law_32 (by rw [e]; decide) (by rw [e]; decide) (off := 603) (by rw [e]; rfl) (by decide) ?_
        exact law_19 l E K b L i xs c0 r0 r1 h0 h1 s0 s1 s2 s3 g0 g1 g2 ka k0 k1 k2 k3 k4 k5 n1 n2 n3 ea m0 x0 x1 x2 x3 x4 x5 x6 x7 x8 x9 kf C Y h5 hL hk0 hk1 hk2 hk3 hk4 hk5 n und top nt t0 t1 t2 t3 u0 u1 u2 u3 R Q T V tr b0 b1 b2 b3 b4 b5 tx f pa im kp ga mo ee rd un fi asd no nw ke hI (kk h5)
      · refine g_tableIn C 648 dL_law_32 (by rw [e]; decide) (by rw [e]; decide) (off := 616) (by rw [e]; rfl) (by decide) ?_
        exact law_20 l E K b L i xs c0 r0 r1 h0 h1 s0 s1 s2 s3 g0 g1 g2 ka k0 k1 k2 k3 k4 k5 n1 n2 n3 ea m0 x0 x1 x2 x3 x4 x5 x6 x7 x8 x9 kf C Y h5 hL hk0 hk1 hk2 hk3 hk4 hk5 n und top nt t0 t1 t2 t3 u0 u1 u2 u3 R Q T V tr b0 b1 b2 b3 b4 b5 tx f pa im kp ga mo ee rd un fi asd no nw ke hI (kk h5)
      · refine g_tableIn C 691 dL_law_32 (by rw [e]; decide) (by rw [e]; decide) (off := 659) (by rw [e]; rfl) (by decide) ?_
        exact law_21 l E K b L i xs c0 r0 r1 h0 h1 s0 s1 s2 s3 g0 g1 g2 ka k0 k1 k2 k3 k4 k5 n1 n2 n3 ea m0 x0 x1 x2 x3 x4 x5 x6 x7 x8 x9 kf C Y h5 hL hk0 hk1 hk2 hk3 hk4 hk5 n und top nt t0 t1 t2 t3 u0 u1 u2 u3 R Q T V tr b0 b1 b2 b3 b4 b5 tx f pa im kp ga mo ee rd un fi asd no nw ke hI (kk h5)
      · refine g_tableIn C 734 dL_law_32 (by rw [e]; decide) (by rw [e]; decide) (off := 702) (by rw [e]; rfl) (by decide) ?_
        exact law_22 l E K b L i xs c0 r0 r1 h0 h1 s0 s1 s2 s3 g0 g1 g2 ka k0 k1 k2 k3 k4 k5 n1 n2 n3 ea m0 x0 x1 x2 x3 x4 x5 x6 x7 x8 x9 kf C Y h5 hL hk0 hk1 hk2 hk3 hk4 hk5 n und top nt t0 t1 t2 t3 u0 u1 u2 u3 R Q T V tr b0 b1 b2 b3 b4 b5 tx f pa im kp ga mo ee rd un fi asd no nw ke hI (kk h5)
      · refine g_tableIn C 747 dL_law_32 (by rw [e]; decide) (by rw [e]; decide) (off := 715) (by rw [e]; rfl) (by decide) ?_
        exact law_23 l E K b L i xs c0 r0 r1 h0 h1 s0 s1 s2 s3 g0 g1 g2 ka k0 k1 k2 k3 k4 k5 n1 n2 n3 ea m0 x0 x1 x2 x3 x4 x5 x6 x7 x8 x9 kf C Y h5 hL hk0 hk1 hk2 hk3 hk4 hk5 n und top nt t0 t1 t2 t3 u0 u1 u2 u3 R Q T V tr b0 b1 b2 b3 b4 b5 tx f pa im kp ga mo ee rd un fi asd no nw ke hI (kk h5)
      · refine g_tableIn C 770 dL_law_32 (by rw [e]; decide) (by rw [e]; decide) (off := 738) (by rw [e]; rfl) (by decide) ?_
        exact law_24 l E K b L i xs c0 r0 r1 h0 h1 s0 s1 s2 s3 g0 g1 g2 ka k0 k1 k2 k3 k4 k5 n1 n2 n3 ea m0 x0 x1 x2 x3 x4 x5 x6 x7 x8 x9 kf C Y h5 hL hk0 hk1 hk2 hk3 hk4 hk5 n und top nt t0 t1 t2 t3 u0 u1 u2 u3 R Q T V tr b0 b1 b2 b3 b4 b5 tx f pa im kp ga mo ee rd un fi asd no nw ke hI (kk h5)
      · refine g_tableIn C 824 dL_law_32 (by rw [e]; decide) (by rw [e]; decide) (off := 792) (by rw [e]; rfl) (by decide) ?_
        exact law_25 l E K b L i xs c0 r0 r1 h0 h1 s0 s1 s2 s3 g0 g1 g2 ka k0 k1 k2 k3 k4 k5 n1 n2 n3 ea m0 x0 x1 x2 x3 x4 x5 x6 x7 x8 x9 kf C Y h5 hL hk0 hk1 hk2 hk3 hk4 hk5 n und top nt t0 t1 t2 t3 u0 u1 u2 u3 R Q T V tr b0 b1 b2 b3 b4 b5 tx f pa im kp ga mo ee rd un fi asd no nw ke hI (kk h5)
      · refine g_tableIn C 857 dL_law_32 (by rw [e]; decide) (by rw [e]; decide) (off := 825) (by rw [e]; rfl) (by decide) ?_
        exact law_26 l E K b L i xs c0 r0 r1 h0 h1 s0 s1 s2 s3 g0 g1 g2 ka k0 k1 k2 k3 k4 k5 n1 n2 n3 ea m0 x0 x1 x2 x3 x4 x5 x6 x7 x8 x9 kf C Y h5 hL hk0 hk1 hk2 hk3 hk4 hk5 n und top nt t0 t1 t2 t3 u0 u1 u2 u3 R Q T V tr b0 b1 b2 b3 b4 b5 tx f pa im kp ga mo ee rd un fi asd no nw ke hI (kk h5)
      · refine g_tableIn C 880 dL_law_32 (by rw [e]; decide) (by rw [e]; decide) (off := 848) (by rw [e]; rfl) (by decide) ?_
        exact law_27 l E K b L i xs c0 r0 r1 h0 h1 s0 s1 s2 s3 g0 g1 g2 ka k0 k1 k2 k3 k4 k5 n1 n2 n3 ea m0 x0 x1 x2 x3 x4 x5 x6 x7 x8 x9 kf C Y h5 hL hk0 hk1 hk2 hk3 hk4 hk5 n und top nt t0 t1 t2 t3 u0 u1 u2 u3 R Q T V tr b0 b1 b2 b3 b4 b5 tx f pa im kp ga mo ee rd un fi asd no nw ke hI (kk h5)
      · refine g_tableIn C 903 dL_law_32 (by rw [e]; decide) (by rw [e]; decide) (off := 871) (by rw [e]; rfl) (by decide) ?_
        exact law_28 l E K b L i xs c0 r0 r1 h0 h1 s0 s1 s2 s3 g0 g1 g2 ka k0 k1 k2 k3 k4 k5 n1 n2 n3 ea m0 x0 x1 x2 x3 x4 x5 x6 x7 x8 x9 kf C Y h5 hL hk0 hk1 hk2 hk3 hk4 hk5 n und top nt t0 t1 t2 t3 u0 u1 u2 u3 R Q T V tr b0 b1 b2 b3 b4 b5 tx f pa im kp ga mo ee rd un fi asd no nw ke hI (kk h5)
      · refine g_tableIn C 926 dL_law_32 (by rw [e]; decide) (by rw [e]; decide) (off := 894) (by rw [e]; rfl) (by decide) ?_
        exact law_29 l E K b L i xs c0 r0 r1 h0 h1 s0 s1 s2 s3 g0 g1 g2 ka k0 k1 k2 k3 k4 k5 n1 n2 n3 ea m0 x0 x1 x2 x3 x4 x5 x6 x7 x8 x9 kf C Y h5 hL hk0 hk1 hk2 hk3 hk4 hk5 n und top nt t0 t1 t2 t3 u0 u1 u2 u3 R Q T V tr b0 b1 b2 b3 b4 b5 tx f pa im kp ga mo ee rd un fi asd no nw ke hI (kk h5)
    · refine g_tableOut C 940 dL_law_32 (ts_out30 (fun j hj2 e => hj ⟨j, hj2, e⟩)) (by decide) ?_
      exact kk h5 n und top nt t0 t1 t2 t3 u0 u1 u2 u3 R Q T V tr b0 b1 b2 b3 b4 b5 tx f pa im kp ga mo ee rd un fi asd no nw ke hI

theorem gNw_of {w : Cond} (g : gNw w) {A : Array Value} {U : State} (h : w.before A U = true) : va_Nw w U := by
  rcases g with ⟨a, i, x, h9, rfl⟩ | ⟨C, T, rfl⟩ | ⟨C, rfl⟩
  · exact va_Nw.of rfl h
  · exact va_Nw.of rfl h
  · exact va_AO.of h
theorem arr_of {s : State} {A : Array Value} {ty : FieldType} (hr : ∀ cA : ClassId, s.vm.findClass ("[" ++ ty.toString) = some cA → va_RA s cA ty) (h : (Cond.arrayClass ty).before A s = true) : ∃ cA : ClassId, ArrOfT s cA ty ∧ va_RA s cA ty := by
  obtain ⟨cA, kA, comp, h1, h2, h3⟩ := Cond.arrayClass_spec h
  exact ⟨cA, fun n z => ⟨fun k h => (by cases h), kA, h2, comp, h3⟩, hr cA h1⟩
theorem arr_over {s : State} {A : Array Value} {C : String} (h : (Cond.arrayOver (.object C)).before A s = true) : ∃ cA : ClassId, ArrOfT s cA (.object C) ∧ va_RA s cA (.object C) := by
  obtain ⟨comp, cA, kA, h1, h2, h3, h4, h5⟩ := Cond.arrayOver_spec h
  exact ⟨cA, fun n z => ⟨fun k h => (by cases h), kA, h3, comp, h4⟩, kA, comp, h3, h4, h1, h5⟩

set_option maxHeartbeats 4000000 in
theorem law_E {s : State} {b : Nat} (hts : ∀ w ∈ wsL_law, w.before #[Value.ref b] s = true) (hN : ∀ w ∈ nwX11, w.before #[Value.ref b] s = true) : ∃ E : EX, va_K E.1 vwCl (tyE E) s := by
  obtain ⟨d0, e0, q0⟩ := u_known (C := RX0) (T := TX0) (N := 2) (n := 2) hts inlX0 (hts (.instantiable RX0 2) (List.mem_of_getElem? (i := 25) rfl))
  obtain ⟨d1, e1, q1⟩ := u_known (C := RX1) (T := TX1) (N := 1) (n := 1) hts inlX1 (hts (.instantiable RX1 1) (List.mem_of_getElem? (i := 44) rfl))
  obtain ⟨d2, e2, q2⟩ := u_known (C := RX2) (T := TX2) (N := 1) (n := 1) hts inlX2 (hts (.instantiable RX2 1) (List.mem_of_getElem? (i := 35) rfl))
  obtain ⟨d3, e3, q3⟩ := u_known (C := RX3) (T := TX3) (N := 1) (n := 1) hts inlX3 (hts (.instantiable RX3 1) (List.mem_of_getElem? (i := 32) rfl))
  obtain ⟨d4, e4, q4⟩ := u_known (C := RX4) (T := TX4) (N := 1) (n := 1) hts inlX4 (hts (.instantiable RX4 1) (List.mem_of_getElem? (i := 38) rfl))
  obtain ⟨d5, e5, q5⟩ := u_known (C := RX5) (T := TX5) (N := 1) (n := 1) hts inlX5 (hts (.instantiable RX5 1) (List.mem_of_getElem? (i := 41) rfl))
  obtain ⟨d6, e6, q6⟩ := u_known (C := RX6) (T := TX6) (N := 1) (n := 1) hts inlX6 (hts (.instantiable RX6 1) (List.mem_of_getElem? (i := 29) rfl))
  obtain ⟨d7, e7, q7⟩ := u_known (C := RX7) (T := TX7) (N := 6) (n := 6) hts inlX7 (hts (.instantiable RX7 6) (List.mem_of_getElem? (i := 13) rfl))
  obtain ⟨d8, e8, q8⟩ := u_known (C := RX8) (T := TX8) (N := 1) (n := 1) hts inlX8 (hts (.instantiable RX8 1) (List.mem_of_getElem? (i := 17) rfl))
  obtain ⟨d9, e9, q9⟩ := u_known (C := RX9) (T := TX9) (N := 5) (n := 5) hts inlX9 (hts (.instantiable RX9 5) (List.mem_of_getElem? (i := 21) rfl))
  obtain ⟨d10, e10, q10⟩ := u_known (C := RX10) (T := TX10) (N := 5) (n := 5) hts inlX10 (hts (.instantiable RX10 5) (List.mem_of_getElem? (i := 53) rfl))
  obtain ⟨d11, e11, q11⟩ := u_known (C := RX11) (T := TX11) (N := 13) (n := 13) hts inlX11 (hts (.instantiable RX11 13) (List.mem_of_getElem? (i := 1) rfl))
  obtain ⟨d12, e12, q12⟩ := u_known (C := RX12) (T := TX12) (N := 18) (n := 18) hts inlX12 (hts (.instantiable RX12 18) (List.mem_of_getElem? (i := 4) rfl))
  obtain ⟨cI, hI1, hI2⟩ := arr_of (ty := .int) (fun _ h => h) (hts (.arrayClass .int) (List.mem_of_getElem? (i := 47) rfl))
  obtain ⟨cZ, hZ1, hZ2⟩ := arr_of (ty := .boolean) (fun _ h => h) (hts (.arrayClass .boolean) (List.mem_of_getElem? (i := 70) rfl))
  obtain ⟨cK, hK1, hK2⟩ := arr_over (C := RX6) (hN (.arrayOver (.object RX6)) (List.mem_of_getElem? (i := 0) rfl))
  refine ⟨((fun k => match k with | 0 => d0 | 1 => d1 | 2 => d2 | 3 => d3 | 4 => d4 | 5 => d5 | 6 => d6 | 7 => d7 | 8 => d8 | 9 => d9 | 10 => d10 | 11 => d11 | _ => d12, fun k => match k with | 0 => e0 | 1 => e1 | 2 => e2 | 3 => e3 | 4 => e4 | 5 => e5 | 6 => e6 | 7 => e7 | 8 => e8 | 9 => e9 | 10 => e10 | 11 => e11 | _ => e12), cI, cZ, cK), ?_, ?_⟩
  · intro k q hq
    match k, hq with
    | 0, hq => cases hq; exact q0
    | 1, hq => cases hq; exact q1
    | 2, hq => cases hq; exact q2
    | 3, hq => cases hq; exact q3
    | 4, hq => cases hq; exact q4
    | 5, hq => cases hq; exact q5
    | 6, hq => cases hq; exact q6
    | 7, hq => cases hq; exact q7
    | 8, hq => cases hq; exact q8
    | 9, hq => cases hq; exact q9
    | 10, hq => cases hq; exact q10
    | 11, hq => cases hq; exact q11
    | 12, hq => cases hq; exact q12
    | k + 13, hq => simp [vwCl] at hq
  · intro k q hq
    match k, hq with
    | 0, hq => cases hq; exact ⟨hI1, hI2⟩
    | 1, hq => cases hq; exact ⟨hZ1, hZ2⟩
    | 2, hq => cases hq; exact ⟨hK1, hK2⟩
    | k + 3, hq => simp [tyE] at hq
set_option maxHeartbeats 4000000 in
set_option maxRecDepth 100000 in
/-- from the law's entry to its loop -/
theorem law_start (l : Launch) (E : EX) (K : KX) (b L : Nat) (xs : Nat → Int32) (C : CX K l E RL wsL_law cL_law { frames := 10, cells := 42, slots := 2875, locals := 344 } 4) (N : NX K nwX11) (Y : XX K b L xs) (hL : L ≤ 320) (fin : ∀ (lv : List (Nat × Value)) (ws : va_W), G K 42 2875 946 lv [] ws) : G K 0 0 0 [(0, .ref b)] [] [] := by
  have i11 := inlX11
  have i12 := inlX12
  refine g_new C (ci := 11) (cs' := 1) (sl' := 13) (fs := [.null, .null, .null, .null, .null, .null, .null, .null, .null, .null, .null, .int (nI 0), .long 0]) (ws' := fun nq1 => [(nq1, oB 11 [.null, .null, .null, .null, .null, .null, .null, .null, .null, .null, .null, .int (nI 0), .long 0])]) i11 tyX11 tyX11_ok (List.mem_of_getElem? (i := 0) rfl) (List.mem_of_getElem? (i := 1) rfl) (List.mem_of_getElem? (i := 2) rfl) rfl (fun j hj => by rcases (show j = 0 ∨ j = 1 ∨ j = 2 ∨ j = 3 ∨ j = 4 ∨ j = 5 ∨ j = 6 ∨ j = 7 ∨ j = 8 ∨ j = 9 ∨ j = 10 ∨ j = 11 ∨ j = 12 by omega) with rfl | rfl | rfl | rfl | rfl | rfl | rfl | rfl | rfl | rfl | rfl | rfl | rfl <;> rfl) (by decide) rfl rfl dL_law_0 (fun _ => rfl) (fun nq1 => ?_)
  refine g_dup C dL_law_3 rfl ?_
  refine g_callI2 C (rest := [.ref nq1]) (n := 0) N (kX11_init l E nq1) (fun _ h => h) gL_law_X11_init rfl ⟨rfl, rfl⟩ (by decide) (Nat.le_of_ble_eq_true rfl) rfl (List.mem_of_getElem? (i := 6) rfl) (List.mem_of_getElem? (i := 2) rfl) (List.mem_of_getElem? (i := 7) rfl) rfl (by decide +kernel) rfl dL_law_4 [0] [] rfl rfl ?_
  intro v w' hv
  obtain ⟨rfl, nq2, nq3, nq4, nq5, nq6, nq7, nq8, nq9, nq10, nq11, nq12, nq13, nq14, nq15, nq16, nq17, nq18, nq19, nq20, nq21, nq22, nq23, nq24, nq25, nq26, nq27, nq28, nq29, nq30, nq31, rfl⟩ := hv
  refine g_perm (ws2 := [(nq1, oB 11 [.ref nq2, .ref nq4, .ref nq6, .ref nq10, .ref nq13, .ref nq20, .ref nq21, .ref nq22, .ref nq23, .ref nq24, .ref nq28, .int (nI 0), .long 0]), (nq2, oB 7 [.ref nq3, .int (nI 0), .int (nI 0), .int (nI 0), .int (nI 0), .int (nI 0)]), (nq3, iA E 200 zF), (nq4, oB 8 [.ref nq5]), (nq5, iA E 50 (begA zF 0 3 6)), (nq6, oB 9 [.ref nq7, .ref nq8, .ref nq9, .int (nI 0), .int (nI 0)]), (nq7, iA E 500 zF), (nq8, iA E 100 zF), (nq9, zA E 2 zF), (nq10, oB 0 [.ref nq11, .ref nq12]), (nq11, iA E 36 zF), (nq12, iA E 448 zF), (nq13, kA E 6 (va_up (va_up (va_up (va_up (va_up (va_up (fun _ => none) 0 (some nq14)) 1 (some nq15)) 2 (some nq16)) 3 (some nq17)) 4 (some nq18)) 5 (some nq19))), (nq14, oB 6 [.long 0]), (nq15, oB 3 [.long 0]), (nq16, oB 2 [.long 0]), (nq17, oB 4 [.long 0]), (nq18, oB 5 [.long 0]), (nq19, oB 1 [.long 0]), (nq20, iA E 5 zF), (nq21, iA E 5 zF), (nq22, iA E 5 zF), (nq23, iA E 6 zF), (nq24, oB 10 [.ref nq25, .ref nq26, .ref nq27, .int (nI 0), .int (nI 3)]), (nq25, iA E 6 zF), (nq26, iA E 6 zF), (nq27, iA E 7 zF), (nq28, oB 10 [.ref nq29, .ref nq30, .ref nq31, .int (nI 0), .int (nI 3)]), (nq29, iA E 6 zF), (nq30, iA E 6 zF), (nq31, iA E 7 zF)]) (st2 := [.ref nq1]) [0, 1, 2, 3, 4, 5, 6, 7, 8, 9, 10, 11, 12, 13, 14, 15, 16, 17, 18, 19, 20, 21, 22, 23, 24, 25, 26, 27, 28, 29, 30] rfl rfl rfl ?_
  refine g_astore_n C (lv' := [(1, .ref nq1), (0, .ref b)]) dL_law_7 rfl (by decide) rfl ?_
  refine g_new C (ci := 12) (cs' := 32) (sl' := 1462) (fs := [.null, .int (nI 0), .int (nI 0), .int (nI 0), .int (nI 0), .int (nI 0), .null, .null, .null, .null, .int (nI 0), .null, .null, .int (nI 0), .null, .null, .long 0, .null]) (ws' := fun nq32 => [(nq1, oB 11 [.ref nq2, .ref nq4, .ref nq6, .ref nq10, .ref nq13, .ref nq20, .ref nq21, .ref nq22, .ref nq23, .ref nq24, .ref nq28, .int (nI 0), .long 0]), (nq2, oB 7 [.ref nq3, .int (nI 0), .int (nI 0), .int (nI 0), .int (nI 0), .int (nI 0)]), (nq3, iA E 200 zF), (nq4, oB 8 [.ref nq5]), (nq5, iA E 50 (begA zF 0 3 6)), (nq6, oB 9 [.ref nq7, .ref nq8, .ref nq9, .int (nI 0), .int (nI 0)]), (nq7, iA E 500 zF), (nq8, iA E 100 zF), (nq9, zA E 2 zF), (nq10, oB 0 [.ref nq11, .ref nq12]), (nq11, iA E 36 zF), (nq12, iA E 448 zF), (nq13, kA E 6 (va_up (va_up (va_up (va_up (va_up (va_up (fun _ => none) 0 (some nq14)) 1 (some nq15)) 2 (some nq16)) 3 (some nq17)) 4 (some nq18)) 5 (some nq19))), (nq14, oB 6 [.long 0]), (nq15, oB 3 [.long 0]), (nq16, oB 2 [.long 0]), (nq17, oB 4 [.long 0]), (nq18, oB 5 [.long 0]), (nq19, oB 1 [.long 0]), (nq20, iA E 5 zF), (nq21, iA E 5 zF), (nq22, iA E 5 zF), (nq23, iA E 6 zF), (nq24, oB 10 [.ref nq25, .ref nq26, .ref nq27, .int (nI 0), .int (nI 3)]), (nq25, iA E 6 zF), (nq26, iA E 6 zF), (nq27, iA E 7 zF), (nq28, oB 10 [.ref nq29, .ref nq30, .ref nq31, .int (nI 0), .int (nI 3)]), (nq29, iA E 6 zF), (nq30, iA E 6 zF), (nq31, iA E 7 zF), (nq32, oB 12 [.null, .int (nI 0), .int (nI 0), .int (nI 0), .int (nI 0), .int (nI 0), .null, .null, .null, .null, .int (nI 0), .null, .null, .int (nI 0), .null, .null, .long 0, .null])]) i12 tyX12 tyX12_ok (List.mem_of_getElem? (i := 3) rfl) (List.mem_of_getElem? (i := 4) rfl) (List.mem_of_getElem? (i := 5) rfl) rfl (fun j hj => by rcases (show j = 0 ∨ j = 1 ∨ j = 2 ∨ j = 3 ∨ j = 4 ∨ j = 5 ∨ j = 6 ∨ j = 7 ∨ j = 8 ∨ j = 9 ∨ j = 10 ∨ j = 11 ∨ j = 12 ∨ j = 13 ∨ j = 14 ∨ j = 15 ∨ j = 16 ∨ j = 17 by omega) with rfl | rfl | rfl | rfl | rfl | rfl | rfl | rfl | rfl | rfl | rfl | rfl | rfl | rfl | rfl | rfl | rfl | rfl <;> rfl) (by decide) rfl rfl dL_law_8 (fun _ => rfl) (fun nq32 => ?_)
  refine g_dup C dL_law_11 rfl ?_
  refine g_callI2 C (rest := [.ref nq32]) (n := 0) N (kX12_init l E nq32) (fun _ h => absurd h List.not_mem_nil) gL_law_X12_init rfl ⟨rfl, rfl⟩ (by decide) (Nat.le_of_ble_eq_true rfl) rfl (List.mem_of_getElem? (i := 118) rfl) (List.mem_of_getElem? (i := 5) rfl) (List.mem_of_getElem? (i := 119) rfl) rfl (by decide +kernel) rfl dL_law_12 [31] [0, 1, 2, 3, 4, 5, 6, 7, 8, 9, 10, 11, 12, 13, 14, 15, 16, 17, 18, 19, 20, 21, 22, 23, 24, 25, 26, 27, 28, 29, 30] rfl rfl ?_
  intro v w' hv
  obtain ⟨rfl, nq33, nq34, nq35, nq36, nq37, nq38, nq39, nq40, nq41, nq42, rfl⟩ := hv
  refine g_perm (ws2 := [(nq1, oB 11 [.ref nq2, .ref nq4, .ref nq6, .ref nq10, .ref nq13, .ref nq20, .ref nq21, .ref nq22, .ref nq23, .ref nq24, .ref nq28, .int (nI 0), .long 0]), (nq2, oB 7 [.ref nq3, .int (nI 0), .int (nI 0), .int (nI 0), .int (nI 0), .int (nI 0)]), (nq3, iA E 200 zF), (nq4, oB 8 [.ref nq5]), (nq5, iA E 50 (begA zF 0 3 6)), (nq6, oB 9 [.ref nq7, .ref nq8, .ref nq9, .int (nI 0), .int (nI 0)]), (nq7, iA E 500 zF), (nq8, iA E 100 zF), (nq9, zA E 2 zF), (nq10, oB 0 [.ref nq11, .ref nq12]), (nq11, iA E 36 zF), (nq12, iA E 448 zF), (nq13, kA E 6 (va_up (va_up (va_up (va_up (va_up (va_up (fun _ => none) 0 (some nq14)) 1 (some nq15)) 2 (some nq16)) 3 (some nq17)) 4 (some nq18)) 5 (some nq19))), (nq14, oB 6 [.long 0]), (nq15, oB 3 [.long 0]), (nq16, oB 2 [.long 0]), (nq17, oB 4 [.long 0]), (nq18, oB 5 [.long 0]), (nq19, oB 1 [.long 0]), (nq20, iA E 5 zF), (nq21, iA E 5 zF), (nq22, iA E 5 zF), (nq23, iA E 6 zF), (nq24, oB 10 [.ref nq25, .ref nq26, .ref nq27, .int (nI 0), .int (nI 3)]), (nq25, iA E 6 zF), (nq26, iA E 6 zF), (nq27, iA E 7 zF), (nq28, oB 10 [.ref nq29, .ref nq30, .ref nq31, .int (nI 0), .int (nI 3)]), (nq29, iA E 6 zF), (nq30, iA E 6 zF), (nq31, iA E 7 zF), (nq32, oB 12 [.ref nq33, .int (nI 0), .int (nI ((0, nI 0, 0, nI 0).1)), .int (nI ((0, nI 0, 0, nI 0).2.2.1)), .int ((0, nI 0, 0, nI 0).2.1), .int ((0, nI 0, 0, nI 0).2.2.2), .ref nq34, .ref nq35, .ref nq36, .ref nq37, .int (nI 0), .ref nq38, .ref nq39, .int (nI 0), .ref nq40, .ref nq41, .long 0, .ref nq42]), (nq33, iA E 200 zF), (nq34, iA E 21 (plnS zF)), (nq35, iA E 21 (cpA (plnS zF) zF 21)), (nq36, iA E 50 (nowO (begA zF 0 3 6))), (nq37, iA E 500 zF), (nq38, iA E 448 zF), (nq39, iA E 50 zF), (nq40, iA E 15 zF), (nq41, iA E 6 zF), (nq42, iA E 102 (upd (upd zF 0 (nI 0)) 51 (nI 0)))]) (st2 := [.ref nq32]) [0, 1, 2, 3, 4, 5, 6, 7, 8, 9, 10, 11, 12, 13, 14, 15, 16, 17, 18, 19, 20, 21, 22, 23, 24, 25, 26, 27, 28, 29, 30, 31, 32, 33, 34, 35, 36, 37, 38, 39, 40, 41] rfl rfl rfl ?_
  refine g_astore_n C (lv' := [(2, .ref nq32), (1, .ref nq1), (0, .ref b)]) dL_law_15 rfl (by decide) rfl ?_
  refine g_iconst C (nI 0) dL_law_16 (by decide) ?_
  refine g_istore_n C (lv' := [(3, .int (nI 0)), (2, .ref nq32), (1, .ref nq1), (0, .ref b)]) dL_law_17 rfl (by decide) rfl ?_
  refine g_perm (ws2 := [(nq1, oB 11 [.ref nq2, .ref nq4, .ref nq6, .ref nq10, .ref nq13, .ref nq20, .ref nq21, .ref nq22, .ref nq23, .ref nq24, .ref nq28, .int (nI 0), .long 0]), (nq2, oB 7 [.ref nq3, .int (nI 0), .int (nI 0), .int (nI 0), .int (nI 0), .int (nI 0)]), (nq3, iA E 200 zF), (nq4, oB 8 [.ref nq5]), (nq5, iA E 50 (begA zF 0 3 6)), (nq6, oB 9 [.ref nq7, .ref nq8, .ref nq9, .int (nI 0), .int (nI 0)]), (nq7, iA E 500 zF), (nq8, iA E 100 zF), (nq9, zA E 2 zF), (nq10, oB 0 [.ref nq11, .ref nq12]), (nq11, iA E 36 zF), (nq12, iA E 448 zF), (nq13, kA E 6 (va_up (va_up (va_up (va_up (va_up (va_up (fun _ => none) 0 (some nq14)) 1 (some nq15)) 2 (some nq16)) 3 (some nq17)) 4 (some nq18)) 5 (some nq19))), (nq14, oB 6 [.long 0]), (nq15, oB 3 [.long 0]), (nq16, oB 2 [.long 0]), (nq17, oB 4 [.long 0]), (nq18, oB 5 [.long 0]), (nq19, oB 1 [.long 0]), (nq20, iA E 5 zF), (nq21, iA E 5 zF), (nq22, iA E 5 zF), (nq23, iA E 6 zF), (nq24, oB 10 [.ref nq25, .ref nq26, .ref nq27, .int (nI 0), .int (nI 3)]), (nq25, iA E 6 zF), (nq26, iA E 6 zF), (nq27, iA E 7 zF), (nq28, oB 10 [.ref nq29, .ref nq30, .ref nq31, .int (nI 0), .int (nI 3)]), (nq29, iA E 6 zF), (nq30, iA E 6 zF), (nq31, iA E 7 zF), (nq32, oB 12 [.ref nq33, .int (nI 0), .int (nI ((0, nI 0, 0, nI 0).1)), .int (nI ((0, nI 0, 0, nI 0).2.2.1)), .int ((0, nI 0, 0, nI 0).2.1), .int ((0, nI 0, 0, nI 0).2.2.2), .ref nq34, .ref nq35, .ref nq36, .ref nq37, .int (nI 0), .ref nq38, .ref nq39, .int (nI 0), .ref nq40, .ref nq41, .long 0, .ref nq42]), (nq33, iA E 200 zF), (nq34, iA E 21 (plnS zF)), (nq35, iA E 21 (cpA (plnS zF) zF 21)), (nq36, iA E 50 (nowO (begA zF 0 3 6))), (nq37, iA E 500 zF), (nq38, iA E 448 zF), (nq39, iA E 50 zF), (nq40, iA E 15 zF), (nq41, iA E 6 zF), (nq42, iA E 102 (upd (upd zF 0 (nI 0)) 51 (nI 0)))]) (st2 := []) [0, 1, 2, 3, 4, 5, 6, 7, 8, 9, 10, 11, 12, 13, 14, 15, 16, 17, 18, 19, 20, 21, 22, 23, 24, 25, 26, 27, 28, 29, 30, 31, 32, 33, 34, 35, 36, 37, 38, 39, 40, 41] rfl rfl rfl ?_
  refine g_eq (lv' := [(3, .int (nI 0)), (2, .ref nq32), (1, .ref nq1), (0, .ref b)]) (ws' := [(nq1, oB 11 [.ref nq2, .ref nq4, .ref nq6, .ref nq10, .ref nq13, .ref nq20, .ref nq21, .ref nq22, .ref nq23, .ref nq24, .ref nq28, .int (nI 0), .long 0]), (nq2, oB 7 [.ref nq3, .int (nI 0), .int (nI ((0, nI 0, 0, nI 0).1)), .int ((0, nI 0, 0, nI 0).2.1), .int (nI ((0, nI 0, 0, nI 0).2.2.1)), .int ((0, nI 0, 0, nI 0).2.2.2)]), (nq3, iA E 200 zF), (nq4, oB 8 [.ref nq5]), (nq5, iA E 50 (begA zF 0 3 6)), (nq6, oB 9 [.ref nq7, .ref nq8, .ref nq9, .int (nI 0), .int (nI 0)]), (nq7, iA E 500 zF), (nq8, iA E 100 zF), (nq9, zA E 2 zF), (nq10, oB 0 [.ref nq11, .ref nq12]), (nq11, iA E 36 zF), (nq12, iA E 448 zF), (nq13, kA E 6 (va_up (va_up (va_up (va_up (va_up (va_up (fun _ => none) 0 (some nq14)) 1 (some nq15)) 2 (some nq16)) 3 (some nq17)) 4 (some nq18)) 5 (some nq19))), (nq14, oB 6 [.long 0]), (nq15, oB 3 [.long 0]), (nq16, oB 2 [.long 0]), (nq17, oB 4 [.long 0]), (nq18, oB 5 [.long 0]), (nq19, oB 1 [.long 0]), (nq20, iA E 5 (n1O zF)), (nq21, iA E 5 (n2O zF)), (nq22, iA E 5 (n3O zF)), (nq23, iA E 6 zF), (nq24, oB 10 [.ref nq25, .ref nq26, .ref nq27, .int (nI T00.1), .int (nI T00.2.1)]), (nq25, iA E 6 T00.2.2.1), (nq26, iA E 6 T00.2.2.2.1), (nq27, iA E 7 T00.2.2.2.2), (nq28, oB 10 [.ref nq29, .ref nq30, .ref nq31, .int (nI T00.1), .int (nI T00.2.1)]), (nq29, iA E 6 T00.2.2.1), (nq30, iA E 6 T00.2.2.2.1), (nq31, iA E 7 T00.2.2.2.2), (nq32, oB 12 [.ref nq33, .int (nI 0), .int (nI ((0, nI 0, 0, nI 0).1)), .int (nI ((0, nI 0, 0, nI 0).2.2.1)), .int ((0, nI 0, 0, nI 0).2.1), .int ((0, nI 0, 0, nI 0).2.2.2), .ref nq34, .ref nq35, .ref nq36, .ref nq37, .int (nI 0), .ref nq38, .ref nq39, .int (nI 0), .ref nq40, .ref nq41, .long 0, .ref nq42]), (nq33, iA E 200 zF), (nq34, iA E 21 (plnS zF)), (nq35, iA E 21 (papO T00)), (nq36, iA E 50 (nowO (begA zF 0 3 6))), (nq37, iA E 500 zF), (nq38, iA E 448 zF), (nq39, iA E 50 zF), (nq40, iA E 15 zF), (nq41, iA E 6 zF), (nq42, iA E 102 (upd (upd zF 0 (nI 0)) 51 (nI 0)))]) rfl rfl (by rw [pap_z] <;> rfl) ?_
  refine g_sub (lv' := [(0, .ref b), (1, .ref nq1), (2, .ref nq32), (3, .int (nI 0))]) [3, 2, 1, 0] rfl ?_
  exact law_loop l E K b L xs nq1 nq2 nq3 nq4 nq5 nq6 nq7 nq8 nq9 nq10 nq11 nq12 nq13 nq14 nq15 nq16 nq17 nq18 nq19 nq20 nq21 nq22 nq23 nq32 nq33 nq34 nq35 nq36 nq37 nq38 nq39 nq40 nq41 nq42 (va_up (va_up (va_up (va_up (va_up (va_up (fun _ => none) 0 (some nq14)) 1 (some nq15)) 2 (some nq16)) 3 (some nq17)) 4 (some nq18)) 5 (some nq19)) C Y hL rfl rfl rfl rfl rfl rfl fin (L + 1) 0 0 0 0 0 nq24 nq25 nq26 nq27 nq28 nq29 nq30 nq31 (0, nI 0, 0, nI 0) (0, nI 0, 0, nI 0) T00 T00 0 0 0 0 0 0 0 zF (begA zF 0 3 6) zF zF zF zF zF zF (plnS zF) zF zF zF zF zF (upd (upd zF 0 (nI 0)) 51 (nI 0)) (Nat.zero_le _) (by omega) INV_0
set_option maxHeartbeats 4000000 in
theorem whole_start {p : Program} {e : Env} {s : State} {m : MethodId} {below : List Frame} {meth : Method} {c : Code} (l : Launch) {b L : Nat} {xs : Nat → Int32} (hL : L ≤ 320) (C0 : lw_At p s m meth c b L xs) : W p l e room_1 s m #[Value.ref b] below meth c s.heap [] 0 0 (lw_Z below #[Value.ref b] s) (entryFrame m ([Value.ref b] : List Value).toArray 4) := by
  obtain ⟨hx, hb, hr, hml, hown, hts, hX, hbl, hlocks, hgv⟩ := C0
  have htl : ∀ w ∈ wsL_law, w.before #[Value.ref b] s = true := fun w hw => hts w (wsL_law_in w hw)
  have htn : ∀ w ∈ nwX11, w.before #[Value.ref b] s = true := fun w hw => hts w (nwX11_in w hw)
  obtain ⟨E, hK⟩ := law_E htl htn
  have hl := lv_entry ([.ref b]) (n := 4) (Nat.le_of_ble_eq_true rfl)
  rw [lg_entry_eq]
  have C : CX (p, l, e, room_1, s, m, #[Value.ref b], below, meth, c, E, (fun q : Nat => s.heap.size ≤ q), 4, lw_Z below #[Value.ref b] s) l E RL wsL_law cL_law { frames := 10, cells := 42, slots := 2875, locals := 344 } 4 := ⟨hx, hb, hml, hown, htl, hK, fun _ h => h, rfl, rfl, rfl, rfl⟩
  have fin : ∀ (lv : List (Nat × Value)) (ws : va_W), G (p, l, e, room_1, s, m, #[Value.ref b], below, meth, c, E, (fun q : Nat => s.heap.size ≤ q), 4, lw_Z below #[Value.ref b] s) 42 2875 946 lv [] ws := by
    intro lv ws
    refine g_iconst C 1 dL_law_946 (by decide) ?_
    intro H locs ls hP hD hS h
    exact va_forget (fun q hq => hS.2.2 q hq) (lw_ret hx hb hr hlocks dL_law_947)
  exact law_start l E _ b L xs C (fun x hx => gNw_of (nwX11_ok x hx) (htn x hx)) ⟨hX, hbl, Nat.not_le.mpr hbl⟩ hL fin s.heap [] _ (fun k q h => by simp at h) ⟨fun i j p q h => by simp at h, fun k q h => by simp at h⟩ va_S.rf hl


set_option maxHeartbeats 4000000 in
theorem lw_walk (l : Launch) (b : Addr) (xs : List Int32) : MetFree l x (headSpec (Jvm.Cond.code x code maxLocals ret :: tables_1) room_1) (lw_P b xs) (fun _ _ _ _ _ => True) lw_Q := by
  refine MetFree.of_bodyS (code := code) (maxLocals := maxLocals) (ret := ret) (by decide) ?_ ?_
  · intro args s m h hn
    obtain ⟨meth, c, h1, h2, h3, h4, h5, h6, -, -⟩ := Cond.code_spec hn (atoms_spec (ws := Jvm.Cond.code x code maxLocals ret :: tables_1) h _ List.mem_cons_self)
    exact ⟨meth, c, h1, h2, h3, h4, h5, h6⟩
  · intro p e s m args below meth c s₁ B hml0 hP _
    obtain ⟨rfl, hx, hbd, hgv⟩ := hP
    obtain ⟨scr, harrAt, hlist, hof, hsmall⟩ := hx
    obtain ⟨hcb, hkn, -, -⟩ := State.arrayAt?_spec harrAt
    have hown : s.vm.findClass R_law = some m.cls := findClass_of_methodNamed B.named
    have hts0 : ∀ c ∈ (Jvm.Cond.code x code maxLocals ret :: tables_1), c.before #[Value.ref b] s = true := atoms_spec (ws := Jvm.Cond.code x code maxLocals ret :: tables_1) B.pre
    have hts : ∀ w ∈ lw_tbl, w.before #[Value.ref b] s = true := k2_hts_sels lw_privs (fun w hw => hts0 w (List.mem_cons_of_mem _ hw)) lw_privs_ok
    have hml : c.maxLocals = 4 := B.maxLocals_eq (hts0 _ List.mem_cons_self)
    have X₀ : Stand p l e room_1 s m #[Value.ref b] below meth c s₁ [] 0 0 := Stand.of_body B
    have hh0 : s₁.heap = s.heap := by rw [B.state]; rfl
    have hsz : scr.slots.size = xs.length := by rw [← Array.length_toList, hlist, List.length_map]
    have hval : ∀ j : Nat, j < xs.length → scr.slots[j]? = some (.int (xs.getD j 0)) := fun j hj => by
      rw [← Array.getElem?_toList, hlist]
      simp [hj]
    have hbl : b < s.heap.size := (Array.getElem?_eq_some_iff.mp hcb).1
    have hX : va_X b xs.length (fun j => xs.getD j 0) s s.heap := ⟨scr, hcb, hof, hkn, hsz, hval⟩
    have K : W p l e room_1 s m #[Value.ref b] below meth c s₁.heap [] 0 0 (lw_Z below #[Value.ref b] s) (entryFrame m ([Value.ref b] : List Value).toArray 4) := by
      rw [hh0]
      exact whole_start l hbd ⟨B.exec, B.bytes, B.returns, hml, hown, hts, hX, hbl, B.notSynchronized, hgv⟩
    obtain ⟨t, a1, o, b1, b2, b3⟩ := K s₁ rfl X₀
    exact ⟨t, o, a1, b1, b2, b3⟩
theorem lw_pre_spec {args : Array Value} {s : State} (h : (Jvm.Cond.and given_1 narrow_1).before args s = true) (hr : rest_1_c.before args s = true) : ∃ (b : Addr) (xs : List Int32), lw_P b xs args s := by
  have hs := flat_of_before _ h
  have hq := flat_of_before _ hr
  have hc : (Cond.count 1).before args s = true := hs _ (by decide +kernel)
  have harr : (Cond.arrayOf (.arg 0) .int).before args s = true := hs _ (by decide +kernel)
  have hle : (Cond.le (.length (.arg 0)) (.int 320)).before args s = true := hs _ (by decide +kernel)
  have hlen : (Cond.isInt (.length (.arg 0))).before args s = true := hq _ (by decide +kernel)
  have hall : (Cond.all (.arg 0) (.isInt (.elem (.arg 0) (.index 0)))).before args s = true := hq _ (by decide +kernel)
  obtain ⟨b, xs, hb, hx⟩ := State.ints_of_pre rfl harr hlen hall
  have hsm : xs.length < 2 ^ 31 := hx.choose_spec.2.2.2
  have hev : (Term.length (.arg 0)).eval args s none [] s = some (.int xs.length.toInt32) := hx.length_eval hb
  have hv := Cond.le_ints hev (show (Term.int 320).eval args s none [] s = some (.int 320) from rfl)
  have hd : xs.length.toInt32 ≤ 320 := by
    simpa [Cond.before, Cond.holds, hv] using hle
  have hN : xs.length ≤ 320 := (Int32.ofNat_le_ofNat hsm (by decide)).mp (show Int32.ofNat xs.length ≤ Int32.ofNat 320 from hd)
  exact ⟨b, xs, Cond.one_arg hc (show args[0]? = some (.ref b) from hb), hx, hN, h⟩
theorem lw_comes (l : Launch) : Comes l x (Jvm.Cond.code x code maxLocals ret :: tables_1) room_1 (fun tb e args s => Calls_1 tb e args s ∧ rest_1 tb e args s ∧ Pre_1 tb e args s)
    (fun _ _ args s o t => lw_Q args s o t) := by
  intro p e ha hc hk s m args below hf hfit hheap happ hpre
  obtain ⟨b, xs, hP⟩ := lw_pre_spec hpre.2.2 hpre.2.1
  obtain ⟨k, o, h1, h2, h3, hQ⟩ := lw_walk l b xs p e ha hc hk s m args below hf ((Spec.applies_iff_loose hf).mp happ).1 hP trivial
  exact ⟨k, o, h1, h2, h3, hQ⟩
theorem lw_frame {s t : State} {o : Outcome} {args : Array Value} (h : Framed s o t [] 42 2875) :
    Framed s o t (fieldLocs frame_1_writes args s ++ arrayLocs frame_1_arrays args s ++ staticLocs frame_1_statics s) 42 2875 := h
theorem lw_limb (L : Cond) (hL : ∀ (args : Array Value) (s t : State), L.after args s (.returned (some (.int 1))) t = true) :
    ArmFor flags0 classFile x code maxLocals ret World_1 tables_1 room_1 Calls_1 rest_1 Pre_1
      (fun tb e a s o t => postC L tb e a s o t ∧ Framed s o t (fieldLocs frame_1_writes a s ++ arrayLocs frame_1_arrays a s ++ staticLocs frame_1_statics s) 42 2875) := by
  intro l _ _ _ p e ha hc hk s m args below hf hfit hheap happ hpre
  obtain ⟨k, o, h1, h2, h3, rfl, hF⟩ := lw_comes l p e ha hc hk s m args below hf hfit hheap happ hpre
  exact ⟨k, _, h1, h2, h3, hL args s _, lw_frame hF⟩
theorem i_vc : Claimed_1_1 ∧ Claimed_1_2 := ⟨lw_limb limb_1_1 (fun args s t => by simp [limb_1_1, Cond.after, Cond.holds, Cond.value]), lw_limb limb_1_2 (fun args s t => Cond.after_iff.mpr (by
  first | (rw [show limb_1_2 = Cond.eq .result (.int 1) from rfl, Cond.eq_ints (x := 1) (y := 1) rfl rfl]; simp; done) | (simp [limb_1_2, Cond.value, Term.eval]; done)))⟩
