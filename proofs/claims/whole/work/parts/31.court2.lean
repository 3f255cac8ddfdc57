/-! PillowCourt: the plain calls -/
def tyS (n : Nat) (x : Int32) : Int32 := if x < 0 then (-1) else if x ≤ nI 255 then (if n < 200 then nI (n + 1) else (-3)) else (-1)
abbrev tyO (n : Nat) (x : Int32) : Prop := ¬ x < 0 ∧ x ≤ nI 255 ∧ n < 200
def perS (T : TS) (f : Nat → Int32) (p what : Int32) : Int32 := if inR p T.1 then (if what = nI 0 then T.2.2.1 p.toNatClampNeg else if what = nI 1 then T.2.2.2.1 p.toNatClampNeg else if what = nI 2 then f (42 + p.toNatClampNeg) else if what = nI 3 then sfS T.2.2.1 f T.1 p.toNatClampNeg T.2.1 else (-1)) else (-1)
def clhS (cl : Nat → Int32) (t : Int32) : Int32 := if inR t 7 then cl t.toNatClampNeg else (-1)
def pilS (m : Nat) (f : Nat → Int32) (q what : Int32) : Int32 := if inR q m then (if what = nI 0 then thOn f q.toNatClampNeg 7 else if what = nI 1 then slOn f q.toNatClampNeg 6 else if what = nI 2 then bI (¬ tb (f 48) q.toNatClampNeg = 0) else (-1)) else (-1)
def hrdS (m : Nat) (f : Nat → Int32) (q t : Int32) : Int32 := if inR q m then (if inR t 7 then f (q.toNatClampNeg * 7 + t.toNatClampNeg) else (-1)) else (-1)
def nowS (T : TS) (f : Nat → Int32) (und : Nat) (what : Int32) : Int32 := if what = nI 0 then f 49 else if what = nI 1 then thSet f (f 48) 6 else if what = nI 2 then clW T.2.2.2.2 (thSet f (nI 63) 6) 7 / nI 2 else if what = nI 3 then thSet f (nI 63) 6 else if what = nI 4 then (kn1 T.2.2.1 T.1).1 &&& ((kn1 T.2.2.1 T.1).2 ^^^ (-1)) else if what = nI 5 then nI und else (-1)
abbrev layO (T : TS) (p q : Int32) : Prop := inR p T.1 ∧ (q = (-1) ∨ inR q T.2.1)
def layV (q : Int32) : Int32 := if q = (-1) then (-9) else q
def layF (f : Nat → Int32) (p q : Int32) : Nat → Int32 := upd f (42 + p.toNatClampNeg) (layV q)
abbrev ngtO (f : Nat → Int32) (z : Int32) : Prop := inR z 10000 ∧ f 49 < nI 999
def ngtF (T : TS) (f : Nat → Int32) (z : Int32) : Nat → Int32 := upd (slpS T.2.2.1 T.2.2.2.1 z (f 49) f T.1).2 49 ((slpS T.2.2.1 T.2.2.2.1 z (f 49) f T.1).2 49 + nI 1)
def ngtS (T : TS) (f : Nat → Int32) (z : Int32) : Int32 := if inR z 10000 then (if f 49 < nI 999 then nI (slpS T.2.2.1 T.2.2.2.1 z (f 49) f T.1).1 else (-2)) else (-1)
abbrev mixO (m : Nat) (a b : Int32) : Prop := inR a m ∧ inR b m ∧ ¬ a = b
abbrev exaO (m : Nat) (f : Nat → Int32) (q : Int32) : Prop := inR q m ∧ ¬ ¬ tb (f 48) q.toNatClampNeg = 0
def exaF (f : Nat → Int32) (q : Nat) : Nat → Int32 := upd f 48 (f 48 ||| nI (2 ^ q))
def exaS (m : Nat) (f : Nat → Int32) (q : Int32) : Int32 := if inR q m then (if ¬ tb (f 48) q.toNatClampNeg = 0 then (-2) else bc (thSet (exaF f q.toNatClampNeg) (exaF f q.toNatClampNeg 48) 6 &&& (thSet f (f 48) 6 ^^^ (-1)))) else (-1)
def cntS (T : TS) (nt n : Nat) (what : Int32) : Int32 := if what = nI 0 then nI T.1 else if what = nI 1 then nI T.2.1 else if what = nI 2 then nI nt else if what = nI 3 then nI n else (-1)

set_option maxHeartbeats 4000000 in
set_option maxRecDepth 100000 in
theorem kX11_type (l : Launch) (E : EX) (c0 r0 h0 s0 g0 ka n1 n2 n3 ea t0 u0 nt : Nat) (tr : Int64) (r1 n : Nat) (tx : Nat → Int32) (R : RS) (x : Int32) (hn : n ≤ 200) : M l E yX11_type wsX11_type { frames := 1, cells := 0, slots := 0, locals := 21 } 0 0 [.ref c0, .int x] [(c0, oB 11 [.ref r0, .ref h0, .ref s0, .ref g0, .ref ka, .ref n1, .ref n2, .ref n3, .ref ea, .ref t0, .ref u0, .int (nI nt), .long tr]), (r0, oB 7 [.ref r1, .int (nI n), .int (nI R.1), .int R.2.1, .int (nI R.2.2.1), .int R.2.2.2]), (r1, iA E 200 tx)] (is1 (some (.int (tyS n x))) [(c0, oB 11 [.ref r0, .ref h0, .ref s0, .ref g0, .ref ka, .ref n1, .ref n2, .ref n3, .ref ea, .ref t0, .ref u0, .int (nI nt), .long tr]), (r0, oB 7 [.ref r1, .int (nI (if tyO n x then n + 1 else n)), .int (nI R.1), .int R.2.1, .int (nI R.2.2.1), .int R.2.2.2]), (r1, iA E 200 (if tyO n x then upd tx n x else tx))]) := by
  refine M.ofG (cc := cX11_type) (maxL := 2) (ret := (some .int)) (lv := [(0, .ref c0), (1, .int x)]) (own := RX11) (by decide) rfl rfl (Nat.le_of_ble_eq_true rfl) rfl ?_
  intro K C X _
  have i7 : ∀ w ∈ wsX70, w ∈ wsX11_type := by decide +kernel
  have i11 : ∀ w ∈ wsX110, w ∈ wsX11_type := by decide +kernel
  refine g_iload_n C dX11_type_0 rfl 1 rfl ?_
  refine g_if_lt C 11 dX11_type_1 (by decide) (fun cq1 => ?_) (fun cq1 => ?_)
  · refine g_iconst C ((-1)) dX11_type_11 (by decide) ?_
    exact g_iret C X dX11_type_12 (⟨by unfold tyS; first | (rw [if_pos cq1]; done) | (rw [if_neg cq1, if_neg trivial]; done), by first | (rw [if_neg (fun z => z.1 cq1), if_neg (fun z => z.1 cq1)]; done) | (rw [if_neg (fun z => trivial z.2.1), if_neg (fun z => trivial z.2.1)]; done)⟩)
  · refine g_iload_n C dX11_type_4 rfl 1 rfl ?_
    refine g_sipush C (nI 255) dX11_type_5 (by decide) ?_
    refine g_icmp_le C 13 dX11_type_8 (by decide) (fun cq2 => ?_) (fun cq2 => ?_)
    · refine g_aload_n C dX11_type_13 rfl 0 rfl ?_
      refine g_get C i11 0 rfl rfl 0 (by decide) (List.mem_of_getElem? (i := 1) rfl) rfl rfl dX11_type_14 ?_
      refine g_iload_n C dX11_type_17 rfl 1 rfl ?_
      refine g_callV C (rest := []) (n := 1) (kX7_append l E r0 r1 n tx R x (by omega)) gX11_type_X7_append rfl ⟨rfl, rfl⟩ (by decide) (Nat.le_of_ble_eq_true rfl) rfl (by decide +kernel) rfl dX11_type_18 0 rfl rfl [1, 2] [0] rfl rfl ?_
      refine g_is1 (ws2 := [(c0, oB 11 [.ref r0, .ref h0, .ref s0, .ref g0, .ref ka, .ref n1, .ref n2, .ref n3, .ref ea, .ref t0, .ref u0, .int (nI nt), .long tr]), (r0, oB 7 [.ref r1, .int (nI (if n < 200 then n + 1 else n)), .int (nI R.1), .int R.2.1, .int (nI R.2.2.1), .int R.2.2.2]), (r1, iA E 200 (if n < 200 then upd tx n x else tx))]) (st2 := [.int (bI (n < 200))]) [0, 1, 2] rfl rfl rfl ?_
      refine g_if_eqB C 34 dX11_type_21 (by decide) (fun cq3 => ?_) (fun cq3 => ?_)
      · refine g_bipush C ((-3)) dX11_type_34 (by decide) ?_
        exact g_iret C X dX11_type_36 (⟨by unfold tyS; rw [if_neg cq1, if_pos cq2]; first | (rw [if_pos cq3, if_pos cq3]; done) | (rw [if_neg cq3]; done), by first | (rw [if_pos cq3, if_pos cq3, if_pos ⟨cq1, cq2, cq3⟩, if_pos ⟨cq1, cq2, cq3⟩]; done) | (rw [if_neg cq3, if_neg cq3, if_neg (fun z => cq3 z.2.2), if_neg (fun z => cq3 z.2.2)]; done)⟩)
      · refine g_aload_n C dX11_type_24 rfl 0 rfl ?_
        refine g_get C i11 0 rfl rfl 0 (by decide) (List.mem_of_getElem? (i := 1) rfl) rfl rfl dX11_type_25 ?_
        refine g_get C i7 1 rfl rfl 1 (by decide) (List.mem_of_getElem? (i := 2) rfl) rfl rfl dX11_type_28 ?_
        refine g_goto C 36 dX11_type_31 (by decide) ?_
        exact g_iret C X dX11_type_36 (⟨by unfold tyS; rw [if_neg cq1, if_pos cq2]; first | (rw [if_pos cq3, if_pos cq3]; done) | (rw [if_neg cq3]; done), by first | (rw [if_pos cq3, if_pos cq3, if_pos ⟨cq1, cq2, cq3⟩, if_pos ⟨cq1, cq2, cq3⟩]; done) | (rw [if_neg cq3, if_neg cq3, if_neg (fun z => cq3 z.2.2), if_neg (fun z => cq3 z.2.2)]; done)⟩)
    · refine g_iconst C ((-1)) dX11_type_11 (by decide) ?_
      exact g_iret C X dX11_type_12 (⟨by unfold tyS; first | (rw [if_pos cq1]; done) | (rw [if_neg cq1, if_neg cq2]; done), by first | (rw [if_neg (fun z => z.1 cq1), if_neg (fun z => z.1 cq1)]; done) | (rw [if_neg (fun z => cq2 z.2.1), if_neg (fun z => cq2 z.2.1)]; done)⟩)

set_option maxHeartbeats 4000000 in
set_option maxRecDepth 100000 in
theorem kX11_clear (l : Launch) (E : EX) (c0 r0 h0 s0 g0 ka n1 n2 n3 ea t0 u0 nt : Nat) (tr : Int64) (r1 n : Nat) (tx : Nat → Int32) (R : RS)  : M l E yX11_clear wsX11_clear { frames := 1, cells := 0, slots := 0, locals := 21 } 0 0 [.ref c0] [(c0, oB 11 [.ref r0, .ref h0, .ref s0, .ref g0, .ref ka, .ref n1, .ref n2, .ref n3, .ref ea, .ref t0, .ref u0, .int (nI nt), .long tr]), (r0, oB 7 [.ref r1, .int (nI n), .int (nI R.1), .int R.2.1, .int (nI R.2.2.1), .int R.2.2.2])] (is1 (some (.int (nI n))) [(c0, oB 11 [.ref r0, .ref h0, .ref s0, .ref g0, .ref ka, .ref n1, .ref n2, .ref n3, .ref ea, .ref t0, .ref u0, .int (nI nt), .long tr]), (r0, oB 7 [.ref r1, .int (nI 0), .int (nI R.1), .int R.2.1, .int (nI R.2.2.1), .int R.2.2.2])]) := by
  refine M.ofG (cc := cX11_clear) (maxL := 1) (ret := (some .int)) (lv := [(0, .ref c0)]) (own := RX11) (by decide) rfl rfl (Nat.le_of_ble_eq_true rfl) rfl ?_
  intro K C X _
  have i11 : ∀ w ∈ wsX110, w ∈ wsX11_clear := by decide +kernel
  refine g_aload_n C dX11_clear_0 rfl 0 rfl ?_
  refine g_get C i11 0 rfl rfl 0 (by decide) (List.mem_of_getElem? (i := 1) rfl) rfl rfl dX11_clear_1 ?_
  refine g_callV C (rest := []) (n := 0) (kX7_empty l E r0 r1 n tx R ) gX11_clear_X7_empty rfl ⟨rfl, rfl⟩ (by decide) (Nat.le_of_ble_eq_true rfl) rfl (by decide +kernel) rfl dX11_clear_4 0 rfl rfl [1] [0] rfl rfl ?_
  refine g_is1 (ws2 := [(c0, oB 11 [.ref r0, .ref h0, .ref s0, .ref g0, .ref ka, .ref n1, .ref n2, .ref n3, .ref ea, .ref t0, .ref u0, .int (nI nt), .long tr]), (r0, oB 7 [.ref r1, .int (nI 0), .int (nI R.1), .int R.2.1, .int (nI R.2.2.1), .int R.2.2.2])]) (st2 := [.int (nI n)]) [0, 1] rfl rfl rfl ?_
  exact g_iret C X dX11_clear_7 (⟨rfl, rfl⟩)

set_option maxHeartbeats 4000000 in
set_option maxRecDepth 100000 in
theorem kX11_person (l : Launch) (E : EX) (c0 r0 h0 s0 g0 ka n1 n2 n3 ea t0 u0 nt : Nat) (tr : Int64) (t1 t2 t3 : Nat) (T : TS) (h1 : Nat) (f : Nat → Int32) (p what : Int32) (hn : T.1 ≤ 6) (hm : T.2.1 ≤ 6) : M l E yX11_person wsX11_person { frames := 3, cells := 0, slots := 0, locals := 68 } 0 0 [.ref c0, .int p, .int what] [(c0, oB 11 [.ref r0, .ref h0, .ref s0, .ref g0, .ref ka, .ref n1, .ref n2, .ref n3, .ref ea, .ref t0, .ref u0, .int (nI nt), .long tr]), (t0, oB 10 [.ref t1, .ref t2, .ref t3, .int (nI T.1), .int (nI T.2.1)]), (t1, iA E 6 T.2.2.1), (t2, iA E 6 T.2.2.2.1), (h0, oB 8 [.ref h1]), (h1, iA E 50 f)] (is1 (some (.int (perS T f p what))) [(c0, oB 11 [.ref r0, .ref h0, .ref s0, .ref g0, .ref ka, .ref n1, .ref n2, .ref n3, .ref ea, .ref t0, .ref u0, .int (nI nt), .long tr]), (t0, oB 10 [.ref t1, .ref t2, .ref t3, .int (nI T.1), .int (nI T.2.1)]), (t1, iA E 6 T.2.2.1), (t2, iA E 6 T.2.2.2.1), (h0, oB 8 [.ref h1]), (h1, iA E 50 f)]) := by
  refine M.ofG (cc := cX11_person) (maxL := 3) (ret := (some .int)) (lv := [(0, .ref c0), (1, .int p), (2, .int what)]) (own := RX11) (by decide) rfl rfl (Nat.le_of_ble_eq_true rfl) rfl ?_
  intro K C X _
  have i10 : ∀ w ∈ wsX100, w ∈ wsX11_person := by decide +kernel
  have i11 : ∀ w ∈ wsX110, w ∈ wsX11_person := by decide +kernel
  refine g_aload_n C dX11_person_0 rfl 0 rfl ?_
  refine g_get C i11 0 rfl rfl 9 (by decide) (List.mem_of_getElem? (i := 1) rfl) rfl rfl dX11_person_1 ?_
  refine g_iload_n C dX11_person_4 rfl 1 rfl ?_
  refine g_callV C (rest := []) (n := 1) (kX10_hasPerson l E t0 t1 t2 t3 T.1 T.2.1 p ) gX11_person_X10_hasPerson rfl ⟨rfl, rfl⟩ (by decide) (Nat.le_of_ble_eq_true rfl) rfl (by decide +kernel) rfl dX11_person_5 0 rfl rfl [1] [0, 2, 3, 4, 5] rfl rfl ?_
  refine g_is1 (ws2 := [(c0, oB 11 [.ref r0, .ref h0, .ref s0, .ref g0, .ref ka, .ref n1, .ref n2, .ref n3, .ref ea, .ref t0, .ref u0, .int (nI nt), .long tr]), (t0, oB 10 [.ref t1, .ref t2, .ref t3, .int (nI T.1), .int (nI T.2.1)]), (t1, iA E 6 T.2.2.1), (t2, iA E 6 T.2.2.2.1), (h0, oB 8 [.ref h1]), (h1, iA E 50 f)]) (st2 := [.int (bI (inR p T.1))]) [0, 5, 1, 2, 3, 4] rfl rfl rfl ?_
  refine g_if_neB C 13 dX11_person_8 (by decide) (fun cq1 => ?_) (fun cq1 => ?_)
  · obtain ⟨j, hj_j, rfl⟩ := inR_of (n := T.1) (by omega) cq1
    have hcl_j : (nI j).toNatClampNeg = j := nI_clamp (by omega)
    refine g_iload_n C dX11_person_13 rfl 2 rfl ?_
    by_cases cq2 : what = nI 0
    · refine g_tableIn C 44 dX11_person_14 (by rw [cq2]; decide) (by rw [cq2]; decide) (off := 30) (by rw [cq2]; rfl) (by decide) ?_
      refine g_aload_n C dX11_person_44 rfl 0 rfl ?_
      refine g_get C i11 0 rfl rfl 9 (by decide) (List.mem_of_getElem? (i := 1) rfl) rfl rfl dX11_person_45 ?_
      refine g_get C i10 1 rfl rfl 0 (by decide) (List.mem_of_getElem? (i := 2) rfl) rfl rfl dX11_person_48 ?_
      refine g_iload_n C dX11_person_51 rfl 1 rfl ?_
      refine g_iald C 2 rfl (by omega) (by decide) dX11_person_52 ?_
      exact g_iret C X dX11_person_53 (⟨by unfold perS; rw [if_pos cq1, if_pos cq2, hcl_j], rfl⟩)
    by_cases cq3 : what = nI 1
    · refine g_tableIn C 54 dX11_person_14 (by rw [cq3]; decide) (by rw [cq3]; decide) (off := 40) (by rw [cq3]; rfl) (by decide) ?_
      refine g_aload_n C dX11_person_54 rfl 0 rfl ?_
      refine g_get C i11 0 rfl rfl 9 (by decide) (List.mem_of_getElem? (i := 1) rfl) rfl rfl dX11_person_55 ?_
      refine g_get C i10 1 rfl rfl 1 (by decide) (List.mem_of_getElem? (i := 3) rfl) rfl rfl dX11_person_58 ?_
      refine g_iload_n C dX11_person_61 rfl 1 rfl ?_
      refine g_iald C 3 rfl (by omega) (by decide) dX11_person_62 ?_
      exact g_iret C X dX11_person_63 (⟨by unfold perS; rw [if_pos cq1, if_neg cq2, if_pos cq3, hcl_j], rfl⟩)
    by_cases cq4 : what = nI 2
    · refine g_tableIn C 64 dX11_person_14 (by rw [cq4]; decide) (by rw [cq4]; decide) (off := 50) (by rw [cq4]; rfl) (by decide) ?_
      refine g_aload_n C dX11_person_64 rfl 0 rfl ?_
      refine g_get C i11 0 rfl rfl 1 (by decide) (List.mem_of_getElem? (i := 4) rfl) rfl rfl dX11_person_65 ?_
      refine g_iload_n C dX11_person_68 rfl 1 rfl ?_
      refine g_callV C (rest := []) (n := 1) (kX8_bedOf l E h0 h1 f j (by omega)) gX11_person_X8_bedOf rfl ⟨rfl, rfl⟩ (by decide) (Nat.le_of_ble_eq_true rfl) rfl (by decide +kernel) rfl dX11_person_69 0 rfl rfl [4, 5] [0, 1, 2, 3] rfl rfl ?_
      refine g_is1 (ws2 := [(c0, oB 11 [.ref r0, .ref h0, .ref s0, .ref g0, .ref ka, .ref n1, .ref n2, .ref n3, .ref ea, .ref t0, .ref u0, .int (nI nt), .long tr]), (t0, oB 10 [.ref t1, .ref t2, .ref t3, .int (nI T.1), .int (nI T.2.1)]), (t1, iA E 6 T.2.2.1), (t2, iA E 6 T.2.2.2.1), (h0, oB 8 [.ref h1]), (h1, iA E 50 f)]) (st2 := [.int (f (42 + j))]) [0, 1, 2, 3, 4, 5] rfl rfl rfl ?_
      exact g_iret C X dX11_person_72 (⟨by unfold perS; rw [if_pos cq1, if_neg cq2, if_neg cq3, if_pos cq4, hcl_j], rfl⟩)
    by_cases cq5 : what = nI 3
    · refine g_tableIn C 73 dX11_person_14 (by rw [cq5]; decide) (by rw [cq5]; decide) (off := 59) (by rw [cq5]; rfl) (by decide) ?_
      refine g_aload_n C dX11_person_73 rfl 0 rfl ?_
      refine g_iload_n C dX11_person_74 rfl 1 rfl ?_
      refine g_callV C (rest := []) (n := 1) (kX11_safePillows l E c0 r0 h0 s0 g0 ka n1 n2 n3 ea t0 u0 nt tr t1 t2 t3 T h1 f j (by omega) (by omega) (by omega)) gX11_person_X11_safePillows rfl ⟨rfl, rfl⟩ (by decide) (Nat.le_of_ble_eq_true rfl) rfl (by decide +kernel) rfl dX11_person_75 0 rfl rfl [0, 1, 2, 4, 5] [3] rfl rfl ?_
      refine g_is1 (ws2 := [(c0, oB 11 [.ref r0, .ref h0, .ref s0, .ref g0, .ref ka, .ref n1, .ref n2, .ref n3, .ref ea, .ref t0, .ref u0, .int (nI nt), .long tr]), (t0, oB 10 [.ref t1, .ref t2, .ref t3, .int (nI T.1), .int (nI T.2.1)]), (t1, iA E 6 T.2.2.1), (t2, iA E 6 T.2.2.2.1), (h0, oB 8 [.ref h1]), (h1, iA E 50 f)]) (st2 := [.int (sfS T.2.2.1 f T.1 j T.2.1)]) [1, 2, 3, 0, 4, 5] rfl rfl rfl ?_
      exact g_iret C X dX11_person_78 (⟨by unfold perS; rw [if_pos cq1, if_neg cq2, if_neg cq3, if_neg cq4, if_pos cq5, hcl_j], rfl⟩)
    refine g_tableOut C 79 dX11_person_14 (ts_out4 cq2 cq3 cq4 cq5) (by decide) ?_
    refine g_iconst C ((-1)) dX11_person_79 (by decide) ?_
    exact g_iret C X dX11_person_80 (⟨by unfold perS; rw [if_pos cq1, if_neg cq2, if_neg cq3, if_neg cq4, if_neg cq5], rfl⟩)
  · refine g_iconst C ((-1)) dX11_person_11 (by decide) ?_
    exact g_iret C X dX11_person_12 (⟨by unfold perS; rw [if_neg cq1], rfl⟩)

set_option maxHeartbeats 4000000 in
set_option maxRecDepth 100000 in
theorem kX11_clashes (l : Launch) (E : EX) (c0 r0 h0 s0 g0 ka n1 n2 n3 ea t0 u0 nt : Nat) (tr : Int64) (t1 t2 t3 : Nat) (T : TS) (t : Int32)  : M l E yX11_clashes wsX11_clashes { frames := 1, cells := 0, slots := 0, locals := 20 } 0 0 [.ref c0, .int t] [(c0, oB 11 [.ref r0, .ref h0, .ref s0, .ref g0, .ref ka, .ref n1, .ref n2, .ref n3, .ref ea, .ref t0, .ref u0, .int (nI nt), .long tr]), (t0, oB 10 [.ref t1, .ref t2, .ref t3, .int (nI T.1), .int (nI T.2.1)]), (t3, iA E 7 T.2.2.2.2)] (is1 (some (.int (clhS T.2.2.2.2 t))) [(c0, oB 11 [.ref r0, .ref h0, .ref s0, .ref g0, .ref ka, .ref n1, .ref n2, .ref n3, .ref ea, .ref t0, .ref u0, .int (nI nt), .long tr]), (t0, oB 10 [.ref t1, .ref t2, .ref t3, .int (nI T.1), .int (nI T.2.1)]), (t3, iA E 7 T.2.2.2.2)]) := by
  refine M.ofG (cc := cX11_clashes) (maxL := 2) (ret := (some .int)) (lv := [(0, .ref c0), (1, .int t)]) (own := RX11) (by decide) rfl rfl (Nat.le_of_ble_eq_true rfl) rfl ?_
  intro K C X _
  have i10 : ∀ w ∈ wsX100, w ∈ wsX11_clashes := by decide +kernel
  have i11 : ∀ w ∈ wsX110, w ∈ wsX11_clashes := by decide +kernel
  refine g_iload_n C dX11_clashes_0 rfl 1 rfl ?_
  refine g_callS C (rest := []) (n := 1) (kX11_isThing l E t ) gX11_clashes_X11_isThing rfl ⟨rfl, rfl⟩ (by decide) (Nat.le_of_ble_eq_true rfl) rfl (by decide +kernel) rfl dX11_clashes_1 [] [0, 1, 2] rfl rfl ?_
  refine g_is1 (ws2 := [(c0, oB 11 [.ref r0, .ref h0, .ref s0, .ref g0, .ref ka, .ref n1, .ref n2, .ref n3, .ref ea, .ref t0, .ref u0, .int (nI nt), .long tr]), (t0, oB 10 [.ref t1, .ref t2, .ref t3, .int (nI T.1), .int (nI T.2.1)]), (t3, iA E 7 T.2.2.2.2)]) (st2 := [.int (bI (inR t 7))]) [0, 1, 2] rfl rfl rfl ?_
  refine g_if_eqB C 19 dX11_clashes_4 (by decide) (fun cq1 => ?_) (fun cq1 => ?_)
  · refine g_iconst C ((-1)) dX11_clashes_19 (by decide) ?_
    exact g_iret C X dX11_clashes_20 (⟨by unfold clhS; first | (rw [if_pos cq1, hcl_j]; done) | (rw [if_neg cq1]; done), rfl⟩)
  · obtain ⟨j, hj_j, rfl⟩ := inR_of (n := 7) (by decide) cq1
    have hcl_j : (nI j).toNatClampNeg = j := nI_clamp (by omega)
    refine g_aload_n C dX11_clashes_7 rfl 0 rfl ?_
    refine g_get C i11 0 rfl rfl 9 (by decide) (List.mem_of_getElem? (i := 1) rfl) rfl rfl dX11_clashes_8 ?_
    refine g_get C i10 1 rfl rfl 2 (by decide) (List.mem_of_getElem? (i := 2) rfl) rfl rfl dX11_clashes_11 ?_
    refine g_iload_n C dX11_clashes_14 rfl 1 rfl ?_
    refine g_iald C 2 rfl (by omega) (by decide) dX11_clashes_15 ?_
    refine g_goto C 20 dX11_clashes_16 (by decide) ?_
    exact g_iret C X dX11_clashes_20 (⟨by unfold clhS; first | (rw [if_pos cq1, hcl_j]; done) | (rw [if_neg cq1]; done), rfl⟩)

set_option maxHeartbeats 4000000 in
set_option maxRecDepth 100000 in
theorem kX11_pillow (l : Launch) (E : EX) (c0 r0 h0 s0 g0 ka n1 n2 n3 ea t0 u0 nt : Nat) (tr : Int64) (t1 t2 t3 : Nat) (T : TS) (h1 : Nat) (f : Nat → Int32) (q what : Int32) (hm : T.2.1 ≤ 6) : M l E yX11_pillow wsX11_pillow { frames := 2, cells := 0, slots := 0, locals := 45 } 0 0 [.ref c0, .int q, .int what] [(c0, oB 11 [.ref r0, .ref h0, .ref s0, .ref g0, .ref ka, .ref n1, .ref n2, .ref n3, .ref ea, .ref t0, .ref u0, .int (nI nt), .long tr]), (t0, oB 10 [.ref t1, .ref t2, .ref t3, .int (nI T.1), .int (nI T.2.1)]), (h0, oB 8 [.ref h1]), (h1, iA E 50 f)] (is1 (some (.int (pilS T.2.1 f q what))) [(c0, oB 11 [.ref r0, .ref h0, .ref s0, .ref g0, .ref ka, .ref n1, .ref n2, .ref n3, .ref ea, .ref t0, .ref u0, .int (nI nt), .long tr]), (t0, oB 10 [.ref t1, .ref t2, .ref t3, .int (nI T.1), .int (nI T.2.1)]), (h0, oB 8 [.ref h1]), (h1, iA E 50 f)]) := by
  refine M.ofG (cc := cX11_pillow) (maxL := 3) (ret := (some .int)) (lv := [(0, .ref c0), (1, .int q), (2, .int what)]) (own := RX11) (by decide) rfl rfl (Nat.le_of_ble_eq_true rfl) rfl ?_
  intro K C X _
  have i11 : ∀ w ∈ wsX110, w ∈ wsX11_pillow := by decide +kernel
  refine g_aload_n C dX11_pillow_0 rfl 0 rfl ?_
  refine g_get C i11 0 rfl rfl 9 (by decide) (List.mem_of_getElem? (i := 1) rfl) rfl rfl dX11_pillow_1 ?_
  refine g_iload_n C dX11_pillow_4 rfl 1 rfl ?_
  refine g_callV C (rest := []) (n := 1) (kX10_hasPillow l E t0 t1 t2 t3 T.1 T.2.1 q ) gX11_pillow_X10_hasPillow rfl ⟨rfl, rfl⟩ (by decide) (Nat.le_of_ble_eq_true rfl) rfl (by decide +kernel) rfl dX11_pillow_5 0 rfl rfl [1] [0, 2, 3] rfl rfl ?_
  refine g_is1 (ws2 := [(c0, oB 11 [.ref r0, .ref h0, .ref s0, .ref g0, .ref ka, .ref n1, .ref n2, .ref n3, .ref ea, .ref t0, .ref u0, .int (nI nt), .long tr]), (t0, oB 10 [.ref t1, .ref t2, .ref t3, .int (nI T.1), .int (nI T.2.1)]), (h0, oB 8 [.ref h1]), (h1, iA E 50 f)]) (st2 := [.int (bI (inR q T.2.1))]) [0, 3, 1, 2] rfl rfl rfl ?_
  refine g_if_neB C 13 dX11_pillow_8 (by decide) (fun cq1 => ?_) (fun cq1 => ?_)
  · obtain ⟨j, hj_j, rfl⟩ := inR_of (n := T.2.1) (by omega) cq1
    have hcl_j : (nI j).toNatClampNeg = j := nI_clamp (by omega)
    refine g_iload_n C dX11_pillow_13 rfl 2 rfl ?_
    by_cases cq2 : what = nI 0
    · refine g_tableIn C 40 dX11_pillow_14 (by rw [cq2]; decide) (by rw [cq2]; decide) (off := 26) (by rw [cq2]; rfl) (by decide) ?_
      refine g_aload_n C dX11_pillow_40 rfl 0 rfl ?_
      refine g_get C i11 0 rfl rfl 1 (by decide) (List.mem_of_getElem? (i := 2) rfl) rfl rfl dX11_pillow_41 ?_
      refine g_iload_n C dX11_pillow_44 rfl 1 rfl ?_
      refine g_callV C (rest := []) (n := 1) (kX8_thingsOn l E h0 h1 f j (by omega)) gX11_pillow_X8_thingsOn rfl ⟨rfl, rfl⟩ (by decide) (Nat.le_of_ble_eq_true rfl) rfl (by decide +kernel) rfl dX11_pillow_45 0 rfl rfl [2, 3] [0, 1] rfl rfl ?_
      refine g_is1 (ws2 := [(c0, oB 11 [.ref r0, .ref h0, .ref s0, .ref g0, .ref ka, .ref n1, .ref n2, .ref n3, .ref ea, .ref t0, .ref u0, .int (nI nt), .long tr]), (t0, oB 10 [.ref t1, .ref t2, .ref t3, .int (nI T.1), .int (nI T.2.1)]), (h0, oB 8 [.ref h1]), (h1, iA E 50 f)]) (st2 := [.int (thOn f j 7)]) [0, 1, 2, 3] rfl rfl rfl ?_
      exact g_iret C X dX11_pillow_48 (⟨by unfold pilS; rw [if_pos cq1, if_pos cq2, hcl_j], rfl⟩)
    by_cases cq3 : what = nI 1
    · refine g_tableIn C 49 dX11_pillow_14 (by rw [cq3]; decide) (by rw [cq3]; decide) (off := 35) (by rw [cq3]; rfl) (by decide) ?_
      refine g_aload_n C dX11_pillow_49 rfl 0 rfl ?_
      refine g_get C i11 0 rfl rfl 1 (by decide) (List.mem_of_getElem? (i := 2) rfl) rfl rfl dX11_pillow_50 ?_
      refine g_iload_n C dX11_pillow_53 rfl 1 rfl ?_
      refine g_callV C (rest := []) (n := 1) (kX8_sleepersOn l E h0 h1 f j ) gX11_pillow_X8_sleepersOn rfl ⟨rfl, rfl⟩ (by decide) (Nat.le_of_ble_eq_true rfl) rfl (by decide +kernel) rfl dX11_pillow_54 0 rfl rfl [2, 3] [0, 1] rfl rfl ?_
      refine g_is1 (ws2 := [(c0, oB 11 [.ref r0, .ref h0, .ref s0, .ref g0, .ref ka, .ref n1, .ref n2, .ref n3, .ref ea, .ref t0, .ref u0, .int (nI nt), .long tr]), (t0, oB 10 [.ref t1, .ref t2, .ref t3, .int (nI T.1), .int (nI T.2.1)]), (h0, oB 8 [.ref h1]), (h1, iA E 50 f)]) (st2 := [.int (slOn f j 6)]) [0, 1, 2, 3] rfl rfl rfl ?_
      exact g_iret C X dX11_pillow_57 (⟨by unfold pilS; rw [if_pos cq1, if_neg cq2, if_pos cq3, hcl_j], rfl⟩)
    by_cases cq4 : what = nI 2
    · refine g_tableIn C 58 dX11_pillow_14 (by rw [cq4]; decide) (by rw [cq4]; decide) (off := 44) (by rw [cq4]; rfl) (by decide) ?_
      refine g_aload_n C dX11_pillow_58 rfl 0 rfl ?_
      refine g_get C i11 0 rfl rfl 1 (by decide) (List.mem_of_getElem? (i := 2) rfl) rfl rfl dX11_pillow_59 ?_
      refine g_iload_n C dX11_pillow_62 rfl 1 rfl ?_
      refine g_callV C (rest := []) (n := 1) (kX8_isExamined l E h0 h1 f j ) gX11_pillow_X8_isExamined rfl ⟨rfl, rfl⟩ (by decide) (Nat.le_of_ble_eq_true rfl) rfl (by decide +kernel) rfl dX11_pillow_63 0 rfl rfl [2, 3] [0, 1] rfl rfl ?_
      refine g_is1 (ws2 := [(c0, oB 11 [.ref r0, .ref h0, .ref s0, .ref g0, .ref ka, .ref n1, .ref n2, .ref n3, .ref ea, .ref t0, .ref u0, .int (nI nt), .long tr]), (t0, oB 10 [.ref t1, .ref t2, .ref t3, .int (nI T.1), .int (nI T.2.1)]), (h0, oB 8 [.ref h1]), (h1, iA E 50 f)]) (st2 := [.int (bI (¬ tb (f 48) j = 0))]) [0, 1, 2, 3] rfl rfl rfl ?_
      refine g_if_eqB C 73 dX11_pillow_66 (by decide) (fun cq5 => ?_) (fun cq5 => ?_)
      · refine g_iconst C (nI 0) dX11_pillow_73 (by decide) ?_
        exact g_iret C X dX11_pillow_74 (⟨by unfold pilS; rw [if_pos cq1, if_neg cq2, if_neg cq3, if_pos cq4, hcl_j]; first | (rw [bI_t cq5]; done) | (rw [bI_f cq5]; done), rfl⟩)
      · refine g_iconst C (nI 1) dX11_pillow_69 (by decide) ?_
        refine g_goto C 74 dX11_pillow_70 (by decide) ?_
        exact g_iret C X dX11_pillow_74 (⟨by unfold pilS; rw [if_pos cq1, if_neg cq2, if_neg cq3, if_pos cq4, hcl_j]; first | (rw [bI_t cq5]; done) | (rw [bI_f cq5]; done), rfl⟩)
    refine g_tableOut C 75 dX11_pillow_14 (ts_out3 cq2 cq3 cq4) (by decide) ?_
    refine g_iconst C ((-1)) dX11_pillow_75 (by decide) ?_
    exact g_iret C X dX11_pillow_76 (⟨by unfold pilS; rw [if_pos cq1, if_neg cq2, if_neg cq3, if_neg cq4], rfl⟩)
  · refine g_iconst C ((-1)) dX11_pillow_11 (by decide) ?_
    exact g_iret C X dX11_pillow_12 (⟨by unfold pilS; rw [if_neg cq1], rfl⟩)

set_option maxHeartbeats 4000000 in
set_option maxRecDepth 100000 in
theorem kX11_heard (l : Launch) (E : EX) (c0 r0 h0 s0 g0 ka n1 n2 n3 ea t0 u0 nt : Nat) (tr : Int64) (t1 t2 t3 : Nat) (T : TS) (h1 : Nat) (f : Nat → Int32) (q t : Int32) (hm : T.2.1 ≤ 6) : M l E yX11_heard wsX11_heard { frames := 1, cells := 0, slots := 0, locals := 22 } 0 0 [.ref c0, .int q, .int t] [(c0, oB 11 [.ref r0, .ref h0, .ref s0, .ref g0, .ref ka, .ref n1, .ref n2, .ref n3, .ref ea, .ref t0, .ref u0, .int (nI nt), .long tr]), (t0, oB 10 [.ref t1, .ref t2, .ref t3, .int (nI T.1), .int (nI T.2.1)]), (h0, oB 8 [.ref h1]), (h1, iA E 50 f)] (is1 (some (.int (hrdS T.2.1 f q t))) [(c0, oB 11 [.ref r0, .ref h0, .ref s0, .ref g0, .ref ka, .ref n1, .ref n2, .ref n3, .ref ea, .ref t0, .ref u0, .int (nI nt), .long tr]), (t0, oB 10 [.ref t1, .ref t2, .ref t3, .int (nI T.1), .int (nI T.2.1)]), (h0, oB 8 [.ref h1]), (h1, iA E 50 f)]) := by
  refine M.ofG (cc := cX11_heard) (maxL := 3) (ret := (some .int)) (lv := [(0, .ref c0), (1, .int q), (2, .int t)]) (own := RX11) (by decide) rfl rfl (Nat.le_of_ble_eq_true rfl) rfl ?_
  intro K C X _
  have i11 : ∀ w ∈ wsX110, w ∈ wsX11_heard := by decide +kernel
  refine g_aload_n C dX11_heard_0 rfl 0 rfl ?_
  refine g_get C i11 0 rfl rfl 9 (by decide) (List.mem_of_getElem? (i := 1) rfl) rfl rfl dX11_heard_1 ?_
  refine g_iload_n C dX11_heard_4 rfl 1 rfl ?_
  refine g_callV C (rest := []) (n := 1) (kX10_hasPillow l E t0 t1 t2 t3 T.1 T.2.1 q ) gX11_heard_X10_hasPillow rfl ⟨rfl, rfl⟩ (by decide) (Nat.le_of_ble_eq_true rfl) rfl (by decide +kernel) rfl dX11_heard_5 0 rfl rfl [1] [0, 2, 3] rfl rfl ?_
  refine g_is1 (ws2 := [(c0, oB 11 [.ref r0, .ref h0, .ref s0, .ref g0, .ref ka, .ref n1, .ref n2, .ref n3, .ref ea, .ref t0, .ref u0, .int (nI nt), .long tr]), (t0, oB 10 [.ref t1, .ref t2, .ref t3, .int (nI T.1), .int (nI T.2.1)]), (h0, oB 8 [.ref h1]), (h1, iA E 50 f)]) (st2 := [.int (bI (inR q T.2.1))]) [0, 3, 1, 2] rfl rfl rfl ?_
  refine g_if_eqB C 30 dX11_heard_8 (by decide) (fun cq1 => ?_) (fun cq1 => ?_)
  · refine g_iconst C ((-1)) dX11_heard_30 (by decide) ?_
    exact g_iret C X dX11_heard_31 (⟨by unfold hrdS; first | (rw [if_pos cq1, if_pos trivial, hcl_j, hcl_i]; done) | (rw [if_pos cq1, if_neg trivial]; done) | (rw [if_neg cq1]; done), rfl⟩)
  · refine g_iload_n C dX11_heard_11 rfl 2 rfl ?_
    refine g_callS C (rest := []) (n := 1) (kX11_isThing l E t ) gX11_heard_X11_isThing rfl ⟨rfl, rfl⟩ (by decide) (Nat.le_of_ble_eq_true rfl) rfl (by decide +kernel) rfl dX11_heard_12 [] [0, 1, 2, 3] rfl rfl ?_
    refine g_is1 (ws2 := [(c0, oB 11 [.ref r0, .ref h0, .ref s0, .ref g0, .ref ka, .ref n1, .ref n2, .ref n3, .ref ea, .ref t0, .ref u0, .int (nI nt), .long tr]), (t0, oB 10 [.ref t1, .ref t2, .ref t3, .int (nI T.1), .int (nI T.2.1)]), (h0, oB 8 [.ref h1]), (h1, iA E 50 f)]) (st2 := [.int (bI (inR t 7))]) [0, 1, 2, 3] rfl rfl rfl ?_
    refine g_if_eqB C 30 dX11_heard_15 (by decide) (fun cq2 => ?_) (fun cq2 => ?_)
    · refine g_iconst C ((-1)) dX11_heard_30 (by decide) ?_
      exact g_iret C X dX11_heard_31 (⟨by unfold hrdS; first | (rw [if_pos cq1, if_pos cq2, hcl_j, hcl_i]; done) | (rw [if_pos cq1, if_neg cq2]; done) | (rw [if_neg cq1]; done), rfl⟩)
    · obtain ⟨j, hj_j, rfl⟩ := inR_of (n := T.2.1) (by omega) cq1
      have hcl_j : (nI j).toNatClampNeg = j := nI_clamp (by omega)
      obtain ⟨i, hj_i, rfl⟩ := inR_of (n := 7) (by decide) cq2
      have hcl_i : (nI i).toNatClampNeg = i := nI_clamp (by omega)
      refine g_aload_n C dX11_heard_18 rfl 0 rfl ?_
      refine g_get C i11 0 rfl rfl 1 (by decide) (List.mem_of_getElem? (i := 2) rfl) rfl rfl dX11_heard_19 ?_
      refine g_iload_n C dX11_heard_22 rfl 1 rfl ?_
      refine g_iload_n C dX11_heard_23 rfl 2 rfl ?_
      refine g_callV C (rest := []) (n := 2) (kX8_times l E h0 h1 f j i (by omega) (by omega)) gX11_heard_X8_times rfl ⟨rfl, rfl⟩ (by decide) (Nat.le_of_ble_eq_true rfl) rfl (by decide +kernel) rfl dX11_heard_24 0 rfl rfl [2, 3] [0, 1] rfl rfl ?_
      refine g_is1 (ws2 := [(c0, oB 11 [.ref r0, .ref h0, .ref s0, .ref g0, .ref ka, .ref n1, .ref n2, .ref n3, .ref ea, .ref t0, .ref u0, .int (nI nt), .long tr]), (t0, oB 10 [.ref t1, .ref t2, .ref t3, .int (nI T.1), .int (nI T.2.1)]), (h0, oB 8 [.ref h1]), (h1, iA E 50 f)]) (st2 := [.int (f (j * 7 + i))]) [0, 1, 2, 3] rfl rfl rfl ?_
      refine g_goto C 31 dX11_heard_27 (by decide) ?_
      exact g_iret C X dX11_heard_31 (⟨by unfold hrdS; first | (rw [if_pos cq1, if_pos cq2, hcl_j, hcl_i]; done) | (rw [if_pos cq1, if_neg cq2]; done) | (rw [if_neg cq1]; done), rfl⟩)

set_option maxHeartbeats 4000000 in
set_option maxRecDepth 100000 in
theorem kX11_now (l : Launch) (E : EX) (c0 r0 h0 s0 g0 ka n1 n2 n3 ea t0 u0 nt : Nat) (tr : Int64) (t1 t2 t3 : Nat) (T : TS) (h1 : Nat) (f : Nat → Int32) (s1 s2 s3 und top : Nat) (what : Int32) (hn : T.1 ≤ 6) : M l E yX11_now wsX11_now { frames := 4, cells := 0, slots := 0, locals := 88 } 0 0 [.ref c0, .int what] [(c0, oB 11 [.ref r0, .ref h0, .ref s0, .ref g0, .ref ka, .ref n1, .ref n2, .ref n3, .ref ea, .ref t0, .ref u0, .int (nI nt), .long tr]), (t0, oB 10 [.ref t1, .ref t2, .ref t3, .int (nI T.1), .int (nI T.2.1)]), (t1, iA E 6 T.2.2.1), (t3, iA E 7 T.2.2.2.2), (h0, oB 8 [.ref h1]), (h1, iA E 50 f), (s0, oB 9 [.ref s1, .ref s2, .ref s3, .int (nI und), .int (nI top)])] (is1 (some (.int (nowS T f und what))) [(c0, oB 11 [.ref r0, .ref h0, .ref s0, .ref g0, .ref ka, .ref n1, .ref n2, .ref n3, .ref ea, .ref t0, .ref u0, .int (nI nt), .long tr]), (t0, oB 10 [.ref t1, .ref t2, .ref t3, .int (nI T.1), .int (nI T.2.1)]), (t1, iA E 6 T.2.2.1), (t3, iA E 7 T.2.2.2.2), (h0, oB 8 [.ref h1]), (h1, iA E 50 f), (s0, oB 9 [.ref s1, .ref s2, .ref s3, .int (nI und), .int (nI top)])]) := by
  refine M.ofG (cc := cX11_now) (maxL := 2) (ret := (some .int)) (lv := [(0, .ref c0), (1, .int what)]) (own := RX11) (by decide) rfl rfl (Nat.le_of_ble_eq_true rfl) rfl ?_
  intro K C X _
  have i9 : ∀ w ∈ wsX90, w ∈ wsX11_now := by decide +kernel
  have i11 : ∀ w ∈ wsX110, w ∈ wsX11_now := by decide +kernel
  refine g_iload_n C dX11_now_0 rfl 1 rfl ?_
  by_cases cq1 : what = nI 0
  · refine g_tableIn C 40 dX11_now_1 (by rw [cq1]; decide) (by rw [cq1]; decide) (off := 39) (by rw [cq1]; rfl) (by decide) ?_
    refine g_aload_n C dX11_now_40 rfl 0 rfl ?_
    refine g_get C i11 0 rfl rfl 1 (by decide) (List.mem_of_getElem? (i := 1) rfl) rfl rfl dX11_now_41 ?_
    refine g_callV C (rest := []) (n := 0) (kX8_nightNumber l E h0 h1 f ) gX11_now_X8_nightNumber rfl ⟨rfl, rfl⟩ (by decide) (Nat.le_of_ble_eq_true rfl) rfl (by decide +kernel) rfl dX11_now_44 0 rfl rfl [4, 5] [0, 1, 2, 3, 6] rfl rfl ?_
    refine g_is1 (ws2 := [(c0, oB 11 [.ref r0, .ref h0, .ref s0, .ref g0, .ref ka, .ref n1, .ref n2, .ref n3, .ref ea, .ref t0, .ref u0, .int (nI nt), .long tr]), (t0, oB 10 [.ref t1, .ref t2, .ref t3, .int (nI T.1), .int (nI T.2.1)]), (t1, iA E 6 T.2.2.1), (t3, iA E 7 T.2.2.2.2), (h0, oB 8 [.ref h1]), (h1, iA E 50 f), (s0, oB 9 [.ref s1, .ref s2, .ref s3, .int (nI und), .int (nI top)])]) (st2 := [.int (f 49)]) [0, 1, 2, 3, 5, 6, 4] rfl rfl rfl ?_
    exact g_iret C X dX11_now_47 (⟨by unfold nowS; rw [if_pos cq1], rfl⟩)
  by_cases cq2 : what = nI 1
  · refine g_tableIn C 48 dX11_now_1 (by rw [cq2]; decide) (by rw [cq2]; decide) (off := 47) (by rw [cq2]; rfl) (by decide) ?_
    refine g_aload_n C dX11_now_48 rfl 0 rfl ?_
    refine g_get C i11 0 rfl rfl 1 (by decide) (List.mem_of_getElem? (i := 1) rfl) rfl rfl dX11_now_49 ?_
    refine g_callV C (rest := []) (n := 0) (kX8_knownThings l E h0 h1 f ) gX11_now_X8_knownThings rfl ⟨rfl, rfl⟩ (by decide) (Nat.le_of_ble_eq_true rfl) rfl (by decide +kernel) rfl dX11_now_52 0 rfl rfl [4, 5] [0, 1, 2, 3, 6] rfl rfl ?_
    refine g_is1 (ws2 := [(c0, oB 11 [.ref r0, .ref h0, .ref s0, .ref g0, .ref ka, .ref n1, .ref n2, .ref n3, .ref ea, .ref t0, .ref u0, .int (nI nt), .long tr]), (t0, oB 10 [.ref t1, .ref t2, .ref t3, .int (nI T.1), .int (nI T.2.1)]), (t1, iA E 6 T.2.2.1), (t3, iA E 7 T.2.2.2.2), (h0, oB 8 [.ref h1]), (h1, iA E 50 f), (s0, oB 9 [.ref s1, .ref s2, .ref s3, .int (nI und), .int (nI top)])]) (st2 := [.int (thSet f (f 48) 6)]) [0, 1, 2, 3, 5, 6, 4] rfl rfl rfl ?_
    exact g_iret C X dX11_now_55 (⟨by unfold nowS; rw [if_neg cq1, if_pos cq2], rfl⟩)
  by_cases cq3 : what = nI 2
  · refine g_tableIn C 56 dX11_now_1 (by rw [cq3]; decide) (by rw [cq3]; decide) (off := 55) (by rw [cq3]; rfl) (by decide) ?_
    refine g_aload_n C dX11_now_56 rfl 0 rfl ?_
    refine g_get C i11 0 rfl rfl 9 (by decide) (List.mem_of_getElem? (i := 2) rfl) rfl rfl dX11_now_57 ?_
    refine g_aload_n C dX11_now_60 rfl 0 rfl ?_
    refine g_get C i11 0 rfl rfl 1 (by decide) (List.mem_of_getElem? (i := 1) rfl) rfl rfl dX11_now_61 ?_
    refine g_callV C (rest := [.ref t0]) (n := 0) (kX8_allThings l E h0 h1 f ) gX11_now_X8_allThings rfl ⟨rfl, rfl⟩ (by decide) (Nat.le_of_ble_eq_true rfl) rfl (by decide +kernel) rfl dX11_now_64 0 rfl rfl [4, 5] [0, 1, 2, 3, 6] rfl rfl ?_
    refine g_is1 (ws2 := [(c0, oB 11 [.ref r0, .ref h0, .ref s0, .ref g0, .ref ka, .ref n1, .ref n2, .ref n3, .ref ea, .ref t0, .ref u0, .int (nI nt), .long tr]), (t0, oB 10 [.ref t1, .ref t2, .ref t3, .int (nI T.1), .int (nI T.2.1)]), (t1, iA E 6 T.2.2.1), (t3, iA E 7 T.2.2.2.2), (h0, oB 8 [.ref h1]), (h1, iA E 50 f), (s0, oB 9 [.ref s1, .ref s2, .ref s3, .int (nI und), .int (nI top)])]) (st2 := [.int (thSet f (nI 63) 6), .ref t0]) [0, 1, 2, 3, 5, 6, 4] rfl rfl rfl ?_
    refine g_callV C (rest := []) (n := 1) (kX10_clashesWithin l E t0 t1 t2 t3 T.1 T.2.1 T.2.2.2.2 (thSet f (nI 63) 6) ) gX11_now_X10_clashesWithin rfl ⟨rfl, rfl⟩ (by decide) (Nat.le_of_ble_eq_true rfl) rfl (by decide +kernel) rfl dX11_now_67 0 rfl rfl [1, 3] [0, 2, 4, 5, 6] rfl rfl ?_
    refine g_is1 (ws2 := [(c0, oB 11 [.ref r0, .ref h0, .ref s0, .ref g0, .ref ka, .ref n1, .ref n2, .ref n3, .ref ea, .ref t0, .ref u0, .int (nI nt), .long tr]), (t0, oB 10 [.ref t1, .ref t2, .ref t3, .int (nI T.1), .int (nI T.2.1)]), (t1, iA E 6 T.2.2.1), (t3, iA E 7 T.2.2.2.2), (h0, oB 8 [.ref h1]), (h1, iA E 50 f), (s0, oB 9 [.ref s1, .ref s2, .ref s3, .int (nI und), .int (nI top)])]) (st2 := [.int (clW T.2.2.2.2 (thSet f (nI 63) 6) 7 / nI 2)]) [0, 5, 1, 6, 2, 3, 4] rfl rfl rfl ?_
    exact g_iret C X dX11_now_70 (⟨by unfold nowS; rw [if_neg cq1, if_neg cq2, if_pos cq3], rfl⟩)
  by_cases cq4 : what = nI 3
  · refine g_tableIn C 71 dX11_now_1 (by rw [cq4]; decide) (by rw [cq4]; decide) (off := 70) (by rw [cq4]; rfl) (by decide) ?_
    refine g_aload_n C dX11_now_71 rfl 0 rfl ?_
    refine g_get C i11 0 rfl rfl 1 (by decide) (List.mem_of_getElem? (i := 1) rfl) rfl rfl dX11_now_72 ?_
    refine g_callV C (rest := []) (n := 0) (kX8_allThings l E h0 h1 f ) gX11_now_X8_allThings rfl ⟨rfl, rfl⟩ (by decide) (Nat.le_of_ble_eq_true rfl) rfl (by decide +kernel) rfl dX11_now_75 0 rfl rfl [4, 5] [0, 1, 2, 3, 6] rfl rfl ?_
    refine g_is1 (ws2 := [(c0, oB 11 [.ref r0, .ref h0, .ref s0, .ref g0, .ref ka, .ref n1, .ref n2, .ref n3, .ref ea, .ref t0, .ref u0, .int (nI nt), .long tr]), (t0, oB 10 [.ref t1, .ref t2, .ref t3, .int (nI T.1), .int (nI T.2.1)]), (t1, iA E 6 T.2.2.1), (t3, iA E 7 T.2.2.2.2), (h0, oB 8 [.ref h1]), (h1, iA E 50 f), (s0, oB 9 [.ref s1, .ref s2, .ref s3, .int (nI und), .int (nI top)])]) (st2 := [.int (thSet f (nI 63) 6)]) [0, 1, 2, 3, 5, 6, 4] rfl rfl rfl ?_
    exact g_iret C X dX11_now_78 (⟨by unfold nowS; rw [if_neg cq1, if_neg cq2, if_neg cq3, if_pos cq4], rfl⟩)
  by_cases cq5 : what = nI 4
  · refine g_tableIn C 79 dX11_now_1 (by rw [cq5]; decide) (by rw [cq5]; decide) (off := 78) (by rw [cq5]; rfl) (by decide) ?_
    refine g_aload_n C dX11_now_79 rfl 0 rfl ?_
    refine g_get C i11 0 rfl rfl 9 (by decide) (List.mem_of_getElem? (i := 2) rfl) rfl rfl dX11_now_80 ?_
    refine g_callV C (rest := []) (n := 0) (kX10_knownToOne l E t0 t1 t2 t3 T.1 T.2.1 T.2.2.1 (by omega)) gX11_now_X10_knownToOne rfl ⟨rfl, rfl⟩ (by decide) (Nat.le_of_ble_eq_true rfl) rfl (by decide +kernel) rfl dX11_now_83 0 rfl rfl [1, 2] [0, 3, 4, 5, 6] rfl rfl ?_
    refine g_is1 (ws2 := [(c0, oB 11 [.ref r0, .ref h0, .ref s0, .ref g0, .ref ka, .ref n1, .ref n2, .ref n3, .ref ea, .ref t0, .ref u0, .int (nI nt), .long tr]), (t0, oB 10 [.ref t1, .ref t2, .ref t3, .int (nI T.1), .int (nI T.2.1)]), (t1, iA E 6 T.2.2.1), (t3, iA E 7 T.2.2.2.2), (h0, oB 8 [.ref h1]), (h1, iA E 50 f), (s0, oB 9 [.ref s1, .ref s2, .ref s3, .int (nI und), .int (nI top)])]) (st2 := [.int ((kn1 T.2.2.1 T.1).1 &&& ((kn1 T.2.2.1 T.1).2 ^^^ (-1)))]) [0, 5, 6, 1, 2, 3, 4] rfl rfl rfl ?_
    exact g_iret C X dX11_now_86 (⟨by unfold nowS; rw [if_neg cq1, if_neg cq2, if_neg cq3, if_neg cq4, if_pos cq5], rfl⟩)
  by_cases cq6 : what = nI 5
  · refine g_tableIn C 87 dX11_now_1 (by rw [cq6]; decide) (by rw [cq6]; decide) (off := 86) (by rw [cq6]; rfl) (by decide) ?_
    refine g_aload_n C dX11_now_87 rfl 0 rfl ?_
    refine g_get C i11 0 rfl rfl 2 (by decide) (List.mem_of_getElem? (i := 3) rfl) rfl rfl dX11_now_88 ?_
    refine g_get C i9 6 rfl rfl 3 (by decide) (List.mem_of_getElem? (i := 4) rfl) rfl rfl dX11_now_91 ?_
    exact g_iret C X dX11_now_94 (⟨by unfold nowS; rw [if_neg cq1, if_neg cq2, if_neg cq3, if_neg cq4, if_neg cq5, if_pos cq6], rfl⟩)
  refine g_tableOut C 95 dX11_now_1 (ts_out6 cq1 cq2 cq3 cq4 cq5 cq6) (by decide) ?_
  refine g_iconst C ((-1)) dX11_now_95 (by decide) ?_
  exact g_iret C X dX11_now_96 (⟨by unfold nowS; rw [if_neg cq1, if_neg cq2, if_neg cq3, if_neg cq4, if_neg cq5, if_neg cq6], rfl⟩)

set_option maxHeartbeats 4000000 in
set_option maxRecDepth 100000 in
theorem kX11_lays (l : Launch) (E : EX) (c0 r0 h0 s0 g0 ka n1 n2 n3 ea t0 u0 nt : Nat) (tr : Int64) (t1 t2 t3 : Nat) (T : TS) (h1 : Nat) (f : Nat → Int32) (s1 s2 s3 und top : Nat) (pa : Nat → Int32) (p q : Int32) (hn : T.1 ≤ 6) (hm : T.2.1 ≤ 6) (hu : und ≤ 10) (ht : top < 10) : M l E yX11_lays wsX11_lays { frames := 2, cells := 0, slots := 0, locals := 39 } 0 0 [.ref c0, .int p, .int q] [(c0, oB 11 [.ref r0, .ref h0, .ref s0, .ref g0, .ref ka, .ref n1, .ref n2, .ref n3, .ref ea, .ref t0, .ref u0, .int (nI nt), .long tr]), (t0, oB 10 [.ref t1, .ref t2, .ref t3, .int (nI T.1), .int (nI T.2.1)]), (h0, oB 8 [.ref h1]), (h1, iA E 50 f), (s0, oB 9 [.ref s1, .ref s2, .ref s3, .int (nI und), .int (nI top)]), (s1, iA E 500 pa)] (is1 (some (.int (if layO T p q then f (42 + p.toNatClampNeg) else (-1)))) [(c0, oB 11 [.ref r0, .ref h0, .ref s0, .ref g0, .ref ka, .ref n1, .ref n2, .ref n3, .ref ea, .ref t0, .ref u0, .int (nI nt), .long tr]), (t0, oB 10 [.ref t1, .ref t2, .ref t3, .int (nI T.1), .int (nI T.2.1)]), (h0, oB 8 [.ref h1]), (h1, iA E 50 (if layO T p q then layF f p q else f)), (s0, oB 9 [.ref s1, .ref s2, .ref s3, .int (nI (if layO T p q then min (und + 1) 10 else und)), .int (nI (if layO T p q then (top + 1) % 10 else top))]), (s1, iA E 500 (if layO T p q then va_cpy f pa 0 (top * 50) 50 else pa))]) := by
  refine M.ofG (cc := cX11_lays) (maxL := 4) (ret := (some .int)) (lv := [(0, .ref c0), (1, .int p), (2, .int q)]) (own := RX11) (by decide) rfl rfl (Nat.le_of_ble_eq_true rfl) rfl ?_
  intro K C X _
  have i11 : ∀ w ∈ wsX110, w ∈ wsX11_lays := by decide +kernel
  refine g_aload_n C dX11_lays_0 rfl 0 rfl ?_
  refine g_get C i11 0 rfl rfl 9 (by decide) (List.mem_of_getElem? (i := 1) rfl) rfl rfl dX11_lays_1 ?_
  refine g_iload_n C dX11_lays_4 rfl 1 rfl ?_
  refine g_callV C (rest := []) (n := 1) (kX10_hasPerson l E t0 t1 t2 t3 T.1 T.2.1 p ) gX11_lays_X10_hasPerson rfl ⟨rfl, rfl⟩ (by decide) (Nat.le_of_ble_eq_true rfl) rfl (by decide +kernel) rfl dX11_lays_5 0 rfl rfl [1] [0, 2, 3, 4, 5] rfl rfl ?_
  refine g_is1 (ws2 := [(c0, oB 11 [.ref r0, .ref h0, .ref s0, .ref g0, .ref ka, .ref n1, .ref n2, .ref n3, .ref ea, .ref t0, .ref u0, .int (nI nt), .long tr]), (t0, oB 10 [.ref t1, .ref t2, .ref t3, .int (nI T.1), .int (nI T.2.1)]), (h0, oB 8 [.ref h1]), (h1, iA E 50 f), (s0, oB 9 [.ref s1, .ref s2, .ref s3, .int (nI und), .int (nI top)]), (s1, iA E 500 pa)]) (st2 := [.int (bI (inR p T.1))]) [0, 5, 1, 2, 3, 4] rfl rfl rfl ?_
  refine g_if_eqB C 27 dX11_lays_8 (by decide) (fun cq1 => ?_) (fun cq1 => ?_)
  · have hno : ¬ layO T p q := fun z => cq1 z.1
    refine g_iconst C ((-1)) dX11_lays_27 (by decide) ?_
    exact g_iret C X dX11_lays_28 (⟨by rw [if_neg hno], by rw [if_neg (hno), if_neg (hno), if_neg (hno), if_neg (hno)]⟩)
  · refine g_iload_n C dX11_lays_11 rfl 2 rfl ?_
    refine g_iconst C ((-1)) dX11_lays_12 (by decide) ?_
    refine g_icmp_eq C 29 dX11_lays_13 (by decide) (fun cq2 => ?_) (fun cq2 => ?_)
    · have hok : layO T p q := ⟨cq1, Or.inl cq2⟩
      obtain ⟨j, hj_j, rfl⟩ := inR_of (n := T.1) (by omega) cq1
      have hcl_j : (nI j).toNatClampNeg = j := nI_clamp (by omega)
      refine g_aload_n C dX11_lays_29 rfl 0 rfl ?_
      refine g_get C i11 0 rfl rfl 1 (by decide) (List.mem_of_getElem? (i := 2) rfl) rfl rfl dX11_lays_30 ?_
      refine g_iload_n C dX11_lays_33 rfl 1 rfl ?_
      refine g_callV C (rest := []) (n := 1) (kX8_bedOf l E h0 h1 f j (by omega)) gX11_lays_X8_bedOf rfl ⟨rfl, rfl⟩ (by decide) (Nat.le_of_ble_eq_true rfl) rfl (by decide +kernel) rfl dX11_lays_34 0 rfl rfl [2, 3] [0, 1, 4, 5] rfl rfl ?_
      refine g_is1 (ws2 := [(c0, oB 11 [.ref r0, .ref h0, .ref s0, .ref g0, .ref ka, .ref n1, .ref n2, .ref n3, .ref ea, .ref t0, .ref u0, .int (nI nt), .long tr]), (t0, oB 10 [.ref t1, .ref t2, .ref t3, .int (nI T.1), .int (nI T.2.1)]), (h0, oB 8 [.ref h1]), (h1, iA E 50 f), (s0, oB 9 [.ref s1, .ref s2, .ref s3, .int (nI und), .int (nI top)]), (s1, iA E 500 pa)]) (st2 := [.int (f (42 + j))]) [0, 1, 4, 5, 2, 3] rfl rfl rfl ?_
      refine g_istore_n C (lv' := [(3, .int (f (42 + j))), (0, .ref c0), (1, .int (nI j)), (2, .int q)]) dX11_lays_37 rfl (by decide) rfl ?_
      refine g_aload_n C dX11_lays_38 rfl 1 rfl ?_
      refine g_get C i11 0 rfl rfl 2 (by decide) (List.mem_of_getElem? (i := 3) rfl) rfl rfl dX11_lays_39 ?_
      refine g_aload_n C dX11_lays_42 rfl 1 rfl ?_
      refine g_get C i11 0 rfl rfl 1 (by decide) (List.mem_of_getElem? (i := 2) rfl) rfl rfl dX11_lays_43 ?_
      refine g_callV C (rest := []) (n := 1) (kX9_remember l E s0 s1 s2 s3 und top pa h0 h1 f (by omega) (by omega)) gX11_lays_X9_remember rfl ⟨rfl, rfl⟩ (by decide) (Nat.le_of_ble_eq_true rfl) rfl (by decide +kernel) rfl dX11_lays_46 0 rfl rfl [4, 5, 2, 3] [0, 1] rfl rfl ?_
      refine g_is1 (ws2 := [(c0, oB 11 [.ref r0, .ref h0, .ref s0, .ref g0, .ref ka, .ref n1, .ref n2, .ref n3, .ref ea, .ref t0, .ref u0, .int (nI nt), .long tr]), (t0, oB 10 [.ref t1, .ref t2, .ref t3, .int (nI T.1), .int (nI T.2.1)]), (h0, oB 8 [.ref h1]), (h1, iA E 50 f), (s0, oB 9 [.ref s1, .ref s2, .ref s3, .int (nI (min (und + 1) 10)), .int (nI ((top + 1) % 10))]), (s1, iA E 500 (va_cpy f pa 0 (top * 50) 50))]) (st2 := []) [0, 1, 4, 5, 2, 3] rfl rfl rfl ?_
      refine g_aload_n C dX11_lays_49 rfl 1 rfl ?_
      refine g_get C i11 0 rfl rfl 1 (by decide) (List.mem_of_getElem? (i := 2) rfl) rfl rfl dX11_lays_50 ?_
      refine g_iload_n C dX11_lays_53 rfl 2 rfl ?_
      refine g_iload_n C dX11_lays_54 rfl 3 rfl ?_
      refine g_iconst C ((-1)) dX11_lays_55 (by decide) ?_
      refine g_icmp_ne C 64 dX11_lays_56 (by decide) (fun cq3 => ?_) (fun cq3 => ?_)
      · have hv : layV q = q := if_neg cq3
        refine g_iload_n C dX11_lays_64 rfl 3 rfl ?_
        refine g_callV C (rest := []) (n := 2) (kX8_lay l E h0 h1 f j q (by omega)) gX11_lays_X8_lay rfl ⟨rfl, rfl⟩ (by decide) (Nat.le_of_ble_eq_true rfl) rfl (by decide +kernel) rfl dX11_lays_65 0 rfl rfl [2, 3] [0, 1, 4, 5] rfl rfl ?_
        refine g_is1 (ws2 := [(c0, oB 11 [.ref r0, .ref h0, .ref s0, .ref g0, .ref ka, .ref n1, .ref n2, .ref n3, .ref ea, .ref t0, .ref u0, .int (nI nt), .long tr]), (t0, oB 10 [.ref t1, .ref t2, .ref t3, .int (nI T.1), .int (nI T.2.1)]), (h0, oB 8 [.ref h1]), (h1, iA E 50 (upd f (42 + j) q)), (s0, oB 9 [.ref s1, .ref s2, .ref s3, .int (nI (min (und + 1) 10)), .int (nI ((top + 1) % 10))]), (s1, iA E 500 (va_cpy f pa 0 (top * 50) 50))]) (st2 := []) [0, 1, 4, 5, 2, 3] rfl rfl rfl ?_
        refine g_iload_n C dX11_lays_68 rfl 0 rfl ?_
        exact g_iret C X dX11_lays_69 (⟨by rw [if_pos hok, hcl_j], by rw [if_pos (hok), if_pos (hok), if_pos (hok), if_pos (hok)]; rw [layF, hcl_j, hv]⟩)
      · have hv : layV q = (-9) := if_pos cq3
        refine g_bipush C ((-9)) dX11_lays_59 (by decide) ?_
        refine g_goto C 65 dX11_lays_61 (by decide) ?_
        refine g_callV C (rest := []) (n := 2) (kX8_lay l E h0 h1 f j (-9) (by omega)) gX11_lays_X8_lay rfl ⟨rfl, rfl⟩ (by decide) (Nat.le_of_ble_eq_true rfl) rfl (by decide +kernel) rfl dX11_lays_65 0 rfl rfl [2, 3] [0, 1, 4, 5] rfl rfl ?_
        refine g_is1 (ws2 := [(c0, oB 11 [.ref r0, .ref h0, .ref s0, .ref g0, .ref ka, .ref n1, .ref n2, .ref n3, .ref ea, .ref t0, .ref u0, .int (nI nt), .long tr]), (t0, oB 10 [.ref t1, .ref t2, .ref t3, .int (nI T.1), .int (nI T.2.1)]), (h0, oB 8 [.ref h1]), (h1, iA E 50 (upd f (42 + j) (-9))), (s0, oB 9 [.ref s1, .ref s2, .ref s3, .int (nI (min (und + 1) 10)), .int (nI ((top + 1) % 10))]), (s1, iA E 500 (va_cpy f pa 0 (top * 50) 50))]) (st2 := []) [0, 1, 4, 5, 2, 3] rfl rfl rfl ?_
        refine g_iload_n C dX11_lays_68 rfl 0 rfl ?_
        exact g_iret C X dX11_lays_69 (⟨by rw [if_pos hok, hcl_j], by rw [if_pos (hok), if_pos (hok), if_pos (hok), if_pos (hok)]; rw [layF, hcl_j, hv]⟩)
    · refine g_aload_n C dX11_lays_16 rfl 0 rfl ?_
      refine g_get C i11 0 rfl rfl 9 (by decide) (List.mem_of_getElem? (i := 1) rfl) rfl rfl dX11_lays_17 ?_
      refine g_iload_n C dX11_lays_20 rfl 2 rfl ?_
      refine g_callV C (rest := []) (n := 1) (kX10_hasPillow l E t0 t1 t2 t3 T.1 T.2.1 q ) gX11_lays_X10_hasPillow rfl ⟨rfl, rfl⟩ (by decide) (Nat.le_of_ble_eq_true rfl) rfl (by decide +kernel) rfl dX11_lays_21 0 rfl rfl [1] [0, 2, 3, 4, 5] rfl rfl ?_
      refine g_is1 (ws2 := [(c0, oB 11 [.ref r0, .ref h0, .ref s0, .ref g0, .ref ka, .ref n1, .ref n2, .ref n3, .ref ea, .ref t0, .ref u0, .int (nI nt), .long tr]), (t0, oB 10 [.ref t1, .ref t2, .ref t3, .int (nI T.1), .int (nI T.2.1)]), (h0, oB 8 [.ref h1]), (h1, iA E 50 f), (s0, oB 9 [.ref s1, .ref s2, .ref s3, .int (nI und), .int (nI top)]), (s1, iA E 500 pa)]) (st2 := [.int (bI (inR q T.2.1))]) [0, 5, 1, 2, 3, 4] rfl rfl rfl ?_
      refine g_if_neB C 29 dX11_lays_24 (by decide) (fun cq4 => ?_) (fun cq4 => ?_)
      · have hok : layO T p q := ⟨cq1, Or.inr cq4⟩
        obtain ⟨j, hj_j, rfl⟩ := inR_of (n := T.1) (by omega) cq1
        have hcl_j : (nI j).toNatClampNeg = j := nI_clamp (by omega)
        refine g_aload_n C dX11_lays_29 rfl 0 rfl ?_
        refine g_get C i11 0 rfl rfl 1 (by decide) (List.mem_of_getElem? (i := 2) rfl) rfl rfl dX11_lays_30 ?_
        refine g_iload_n C dX11_lays_33 rfl 1 rfl ?_
        refine g_callV C (rest := []) (n := 1) (kX8_bedOf l E h0 h1 f j (by omega)) gX11_lays_X8_bedOf rfl ⟨rfl, rfl⟩ (by decide) (Nat.le_of_ble_eq_true rfl) rfl (by decide +kernel) rfl dX11_lays_34 0 rfl rfl [2, 3] [0, 1, 4, 5] rfl rfl ?_
        refine g_is1 (ws2 := [(c0, oB 11 [.ref r0, .ref h0, .ref s0, .ref g0, .ref ka, .ref n1, .ref n2, .ref n3, .ref ea, .ref t0, .ref u0, .int (nI nt), .long tr]), (t0, oB 10 [.ref t1, .ref t2, .ref t3, .int (nI T.1), .int (nI T.2.1)]), (h0, oB 8 [.ref h1]), (h1, iA E 50 f), (s0, oB 9 [.ref s1, .ref s2, .ref s3, .int (nI und), .int (nI top)]), (s1, iA E 500 pa)]) (st2 := [.int (f (42 + j))]) [0, 1, 4, 5, 2, 3] rfl rfl rfl ?_
        refine g_istore_n C (lv' := [(3, .int (f (42 + j))), (0, .ref c0), (1, .int (nI j)), (2, .int q)]) dX11_lays_37 rfl (by decide) rfl ?_
        refine g_aload_n C dX11_lays_38 rfl 1 rfl ?_
        refine g_get C i11 0 rfl rfl 2 (by decide) (List.mem_of_getElem? (i := 3) rfl) rfl rfl dX11_lays_39 ?_
        refine g_aload_n C dX11_lays_42 rfl 1 rfl ?_
        refine g_get C i11 0 rfl rfl 1 (by decide) (List.mem_of_getElem? (i := 2) rfl) rfl rfl dX11_lays_43 ?_
        refine g_callV C (rest := []) (n := 1) (kX9_remember l E s0 s1 s2 s3 und top pa h0 h1 f (by omega) (by omega)) gX11_lays_X9_remember rfl ⟨rfl, rfl⟩ (by decide) (Nat.le_of_ble_eq_true rfl) rfl (by decide +kernel) rfl dX11_lays_46 0 rfl rfl [4, 5, 2, 3] [0, 1] rfl rfl ?_
        refine g_is1 (ws2 := [(c0, oB 11 [.ref r0, .ref h0, .ref s0, .ref g0, .ref ka, .ref n1, .ref n2, .ref n3, .ref ea, .ref t0, .ref u0, .int (nI nt), .long tr]), (t0, oB 10 [.ref t1, .ref t2, .ref t3, .int (nI T.1), .int (nI T.2.1)]), (h0, oB 8 [.ref h1]), (h1, iA E 50 f), (s0, oB 9 [.ref s1, .ref s2, .ref s3, .int (nI (min (und + 1) 10)), .int (nI ((top + 1) % 10))]), (s1, iA E 500 (va_cpy f pa 0 (top * 50) 50))]) (st2 := []) [0, 1, 4, 5, 2, 3] rfl rfl rfl ?_
        refine g_aload_n C dX11_lays_49 rfl 1 rfl ?_
        refine g_get C i11 0 rfl rfl 1 (by decide) (List.mem_of_getElem? (i := 2) rfl) rfl rfl dX11_lays_50 ?_
        refine g_iload_n C dX11_lays_53 rfl 2 rfl ?_
        refine g_iload_n C dX11_lays_54 rfl 3 rfl ?_
        refine g_iconst C ((-1)) dX11_lays_55 (by decide) ?_
        refine g_icmp_ne C 64 dX11_lays_56 (by decide) (fun cq5 => ?_) (fun cq5 => ?_)
        · have hv : layV q = q := if_neg cq5
          refine g_iload_n C dX11_lays_64 rfl 3 rfl ?_
          refine g_callV C (rest := []) (n := 2) (kX8_lay l E h0 h1 f j q (by omega)) gX11_lays_X8_lay rfl ⟨rfl, rfl⟩ (by decide) (Nat.le_of_ble_eq_true rfl) rfl (by decide +kernel) rfl dX11_lays_65 0 rfl rfl [2, 3] [0, 1, 4, 5] rfl rfl ?_
          refine g_is1 (ws2 := [(c0, oB 11 [.ref r0, .ref h0, .ref s0, .ref g0, .ref ka, .ref n1, .ref n2, .ref n3, .ref ea, .ref t0, .ref u0, .int (nI nt), .long tr]), (t0, oB 10 [.ref t1, .ref t2, .ref t3, .int (nI T.1), .int (nI T.2.1)]), (h0, oB 8 [.ref h1]), (h1, iA E 50 (upd f (42 + j) q)), (s0, oB 9 [.ref s1, .ref s2, .ref s3, .int (nI (min (und + 1) 10)), .int (nI ((top + 1) % 10))]), (s1, iA E 500 (va_cpy f pa 0 (top * 50) 50))]) (st2 := []) [0, 1, 4, 5, 2, 3] rfl rfl rfl ?_
          refine g_iload_n C dX11_lays_68 rfl 0 rfl ?_
          exact g_iret C X dX11_lays_69 (⟨by rw [if_pos hok, hcl_j], by rw [if_pos (hok), if_pos (hok), if_pos (hok), if_pos (hok)]; rw [layF, hcl_j, hv]⟩)
        · have hv : layV q = (-9) := if_pos cq5
          refine g_bipush C ((-9)) dX11_lays_59 (by decide) ?_
          refine g_goto C 65 dX11_lays_61 (by decide) ?_
          refine g_callV C (rest := []) (n := 2) (kX8_lay l E h0 h1 f j (-9) (by omega)) gX11_lays_X8_lay rfl ⟨rfl, rfl⟩ (by decide) (Nat.le_of_ble_eq_true rfl) rfl (by decide +kernel) rfl dX11_lays_65 0 rfl rfl [2, 3] [0, 1, 4, 5] rfl rfl ?_
          refine g_is1 (ws2 := [(c0, oB 11 [.ref r0, .ref h0, .ref s0, .ref g0, .ref ka, .ref n1, .ref n2, .ref n3, .ref ea, .ref t0, .ref u0, .int (nI nt), .long tr]), (t0, oB 10 [.ref t1, .ref t2, .ref t3, .int (nI T.1), .int (nI T.2.1)]), (h0, oB 8 [.ref h1]), (h1, iA E 50 (upd f (42 + j) (-9))), (s0, oB 9 [.ref s1, .ref s2, .ref s3, .int (nI (min (und + 1) 10)), .int (nI ((top + 1) % 10))]), (s1, iA E 500 (va_cpy f pa 0 (top * 50) 50))]) (st2 := []) [0, 1, 4, 5, 2, 3] rfl rfl rfl ?_
          refine g_iload_n C dX11_lays_68 rfl 0 rfl ?_
          exact g_iret C X dX11_lays_69 (⟨by rw [if_pos hok, hcl_j], by rw [if_pos (hok), if_pos (hok), if_pos (hok), if_pos (hok)]; rw [layF, hcl_j, hv]⟩)
      · have hno : ¬ layO T p q := fun z => z.2.elim cq2 cq4
        refine g_iconst C ((-1)) dX11_lays_27 (by decide) ?_
        exact g_iret C X dX11_lays_28 (⟨by rw [if_neg hno], by rw [if_neg (hno), if_neg (hno), if_neg (hno), if_neg (hno)]⟩)

set_option maxHeartbeats 4000000 in
set_option maxRecDepth 100000 in
theorem kX11_night (l : Launch) (E : EX) (c0 r0 h0 s0 g0 ka n1 n2 n3 ea t0 u0 nt : Nat) (tr : Int64) (t1 t2 t3 : Nat) (T : TS) (h1 : Nat) (f : Nat → Int32) (s1 s2 s3 und top : Nat) (pa : Nat → Int32) (z : Int32) (hn : T.1 ≤ 6) (hu : und ≤ 10) (ht : top < 10) : M l E yX11_night wsX11_night { frames := 4, cells := 0, slots := 0, locals := 85 } 0 0 [.ref c0, .int z] [(c0, oB 11 [.ref r0, .ref h0, .ref s0, .ref g0, .ref ka, .ref n1, .ref n2, .ref n3, .ref ea, .ref t0, .ref u0, .int (nI nt), .long tr]), (t0, oB 10 [.ref t1, .ref t2, .ref t3, .int (nI T.1), .int (nI T.2.1)]), (t1, iA E 6 T.2.2.1), (t2, iA E 6 T.2.2.2.1), (h0, oB 8 [.ref h1]), (h1, iA E 50 f), (s0, oB 9 [.ref s1, .ref s2, .ref s3, .int (nI und), .int (nI top)]), (s1, iA E 500 pa)] (is1 (some (.int (ngtS T f z))) [(c0, oB 11 [.ref r0, .ref h0, .ref s0, .ref g0, .ref ka, .ref n1, .ref n2, .ref n3, .ref ea, .ref t0, .ref u0, .int (nI nt), .long tr]), (t0, oB 10 [.ref t1, .ref t2, .ref t3, .int (nI T.1), .int (nI T.2.1)]), (t1, iA E 6 T.2.2.1), (t2, iA E 6 T.2.2.2.1), (h0, oB 8 [.ref h1]), (h1, iA E 50 (if ngtO f z then ngtF T f z else f)), (s0, oB 9 [.ref s1, .ref s2, .ref s3, .int (nI (if ngtO f z then min (und + 1) 10 else und)), .int (nI (if ngtO f z then (top + 1) % 10 else top))]), (s1, iA E 500 (if ngtO f z then va_cpy f pa 0 (top * 50) 50 else pa))]) := by
  refine M.ofG (cc := cX11_night) (maxL := 2) (ret := (some .int)) (lv := [(0, .ref c0), (1, .int z)]) (own := RX11) (by decide) rfl rfl (Nat.le_of_ble_eq_true rfl) rfl ?_
  intro K C X _
  have i11 : ∀ w ∈ wsX110, w ∈ wsX11_night := by decide +kernel
  refine g_iload_n C dX11_night_0 rfl 1 rfl ?_
  refine g_callS C (rest := []) (n := 1) (kX11_isDraw l E z ) gX11_night_X11_isDraw rfl ⟨rfl, rfl⟩ (by decide) (Nat.le_of_ble_eq_true rfl) rfl (by decide +kernel) rfl dX11_night_1 [] [0, 1, 2, 3, 4, 5, 6, 7] rfl rfl ?_
  refine g_is1 (ws2 := [(c0, oB 11 [.ref r0, .ref h0, .ref s0, .ref g0, .ref ka, .ref n1, .ref n2, .ref n3, .ref ea, .ref t0, .ref u0, .int (nI nt), .long tr]), (t0, oB 10 [.ref t1, .ref t2, .ref t3, .int (nI T.1), .int (nI T.2.1)]), (t1, iA E 6 T.2.2.1), (t2, iA E 6 T.2.2.2.1), (h0, oB 8 [.ref h1]), (h1, iA E 50 f), (s0, oB 9 [.ref s1, .ref s2, .ref s3, .int (nI und), .int (nI top)]), (s1, iA E 500 pa)]) (st2 := [.int (bI (inR z 10000))]) [0, 1, 2, 3, 4, 5, 6, 7] rfl rfl rfl ?_
  refine g_if_neB C 9 dX11_night_4 (by decide) (fun cq1 => ?_) (fun cq1 => ?_)
  · refine g_aload_n C dX11_night_9 rfl 0 rfl ?_
    refine g_get C i11 0 rfl rfl 1 (by decide) (List.mem_of_getElem? (i := 1) rfl) rfl rfl dX11_night_10 ?_
    refine g_callV C (rest := []) (n := 0) (kX8_nightNumber l E h0 h1 f ) gX11_night_X8_nightNumber rfl ⟨rfl, rfl⟩ (by decide) (Nat.le_of_ble_eq_true rfl) rfl (by decide +kernel) rfl dX11_night_13 0 rfl rfl [4, 5] [0, 1, 2, 3, 6, 7] rfl rfl ?_
    refine g_is1 (ws2 := [(c0, oB 11 [.ref r0, .ref h0, .ref s0, .ref g0, .ref ka, .ref n1, .ref n2, .ref n3, .ref ea, .ref t0, .ref u0, .int (nI nt), .long tr]), (t0, oB 10 [.ref t1, .ref t2, .ref t3, .int (nI T.1), .int (nI T.2.1)]), (t1, iA E 6 T.2.2.1), (t2, iA E 6 T.2.2.2.1), (h0, oB 8 [.ref h1]), (h1, iA E 50 f), (s0, oB 9 [.ref s1, .ref s2, .ref s3, .int (nI und), .int (nI top)]), (s1, iA E 500 pa)]) (st2 := [.int (f 49)]) [0, 1, 2, 3, 6, 7, 4, 5] rfl rfl rfl ?_
    refine g_sipush C (nI 999) dX11_night_16 (by decide) ?_
    refine g_icmp_lt C 25 dX11_night_19 (by decide) (fun cq2 => ?_) (fun cq2 => ?_)
    · refine g_aload_n C dX11_night_25 rfl 0 rfl ?_
      refine g_get C i11 0 rfl rfl 2 (by decide) (List.mem_of_getElem? (i := 2) rfl) rfl rfl dX11_night_26 ?_
      refine g_aload_n C dX11_night_29 rfl 0 rfl ?_
      refine g_get C i11 0 rfl rfl 1 (by decide) (List.mem_of_getElem? (i := 1) rfl) rfl rfl dX11_night_30 ?_
      refine g_callV C (rest := []) (n := 1) (kX9_remember l E s0 s1 s2 s3 und top pa h0 h1 f (by omega) (by omega)) gX11_night_X9_remember rfl ⟨rfl, rfl⟩ (by decide) (Nat.le_of_ble_eq_true rfl) rfl (by decide +kernel) rfl dX11_night_33 0 rfl rfl [6, 7, 4, 5] [0, 1, 2, 3] rfl rfl ?_
      refine g_is1 (ws2 := [(c0, oB 11 [.ref r0, .ref h0, .ref s0, .ref g0, .ref ka, .ref n1, .ref n2, .ref n3, .ref ea, .ref t0, .ref u0, .int (nI nt), .long tr]), (t0, oB 10 [.ref t1, .ref t2, .ref t3, .int (nI T.1), .int (nI T.2.1)]), (t1, iA E 6 T.2.2.1), (t2, iA E 6 T.2.2.2.1), (h0, oB 8 [.ref h1]), (h1, iA E 50 f), (s0, oB 9 [.ref s1, .ref s2, .ref s3, .int (nI (min (und + 1) 10)), .int (nI ((top + 1) % 10))]), (s1, iA E 500 (va_cpy f pa 0 (top * 50) 50))]) (st2 := []) [0, 1, 2, 3, 6, 7, 4, 5] rfl rfl rfl ?_
      refine g_aload_n C dX11_night_36 rfl 0 rfl ?_
      refine g_get C i11 0 rfl rfl 1 (by decide) (List.mem_of_getElem? (i := 1) rfl) rfl rfl dX11_night_37 ?_
      refine g_aload_n C dX11_night_40 rfl 0 rfl ?_
      refine g_get C i11 0 rfl rfl 9 (by decide) (List.mem_of_getElem? (i := 3) rfl) rfl rfl dX11_night_41 ?_
      refine g_iload_n C dX11_night_44 rfl 1 rfl ?_
      refine g_callV C (rest := []) (n := 2) (kX8_sleep l E h0 h1 f t0 t1 t2 t3 T.1 T.2.1 T.2.2.1 T.2.2.2.1 z (by omega)) gX11_night_X8_sleep rfl ⟨rfl, rfl⟩ (by decide) (Nat.le_of_ble_eq_true rfl) rfl (by decide +kernel) rfl dX11_night_45 0 rfl rfl [4, 5, 1, 2, 3] [0, 6, 7] rfl rfl ?_
      refine g_is1 (ws2 := [(c0, oB 11 [.ref r0, .ref h0, .ref s0, .ref g0, .ref ka, .ref n1, .ref n2, .ref n3, .ref ea, .ref t0, .ref u0, .int (nI nt), .long tr]), (t0, oB 10 [.ref t1, .ref t2, .ref t3, .int (nI T.1), .int (nI T.2.1)]), (t1, iA E 6 T.2.2.1), (t2, iA E 6 T.2.2.2.1), (h0, oB 8 [.ref h1]), (h1, iA E 50 (upd (slpS T.2.2.1 T.2.2.2.1 z (f 49) f T.1).2 49 ((slpS T.2.2.1 T.2.2.2.1 z (f 49) f T.1).2 49 + nI 1))), (s0, oB 9 [.ref s1, .ref s2, .ref s3, .int (nI (min (und + 1) 10)), .int (nI ((top + 1) % 10))]), (s1, iA E 500 (va_cpy f pa 0 (top * 50) 50))]) (st2 := [.int (nI ((slpS T.2.2.1 T.2.2.2.1 z (f 49) f T.1).1))]) [0, 5, 6, 7, 3, 4, 1, 2] rfl rfl rfl ?_
      exact g_iret C X dX11_night_48 (⟨by unfold ngtS; rw [if_pos cq1, if_pos cq2], by rw [if_pos (⟨cq1, cq2⟩), if_pos (⟨cq1, cq2⟩), if_pos (⟨cq1, cq2⟩), if_pos (⟨cq1, cq2⟩)]; rfl⟩)
    · refine g_bipush C ((-2)) dX11_night_22 (by decide) ?_
      exact g_iret C X dX11_night_24 (⟨by unfold ngtS; rw [if_pos cq1, if_neg cq2], by rw [if_neg (fun w => cq2 w.2), if_neg (fun w => cq2 w.2), if_neg (fun w => cq2 w.2), if_neg (fun w => cq2 w.2)]⟩)
  · refine g_iconst C ((-1)) dX11_night_7 (by decide) ?_
    exact g_iret C X dX11_night_8 (⟨by unfold ngtS; rw [if_neg cq1], by rw [if_neg (fun w => cq1 w.1), if_neg (fun w => cq1 w.1), if_neg (fun w => cq1 w.1), if_neg (fun w => cq1 w.1)]⟩)

set_option maxHeartbeats 4000000 in
set_option maxRecDepth 100000 in
theorem kX11_slips (l : Launch) (E : EX) (c0 r0 h0 s0 g0 ka n1 n2 n3 ea t0 u0 nt : Nat) (tr : Int64) (t1 t2 t3 : Nat) (T : TS) (h1 : Nat) (f : Nat → Int32) (s1 s2 s3 und top : Nat) (pa : Nat → Int32) (q : Int32) (hm : T.2.1 ≤ 6) (hu : und ≤ 10) (ht : top < 10) : M l E yX11_slips wsX11_slips { frames := 3, cells := 0, slots := 0, locals := 60 } 0 0 [.ref c0, .int q] [(c0, oB 11 [.ref r0, .ref h0, .ref s0, .ref g0, .ref ka, .ref n1, .ref n2, .ref n3, .ref ea, .ref t0, .ref u0, .int (nI nt), .long tr]), (t0, oB 10 [.ref t1, .ref t2, .ref t3, .int (nI T.1), .int (nI T.2.1)]), (h0, oB 8 [.ref h1]), (h1, iA E 50 f), (s0, oB 9 [.ref s1, .ref s2, .ref s3, .int (nI und), .int (nI top)]), (s1, iA E 500 pa)] (is1 (some (.int (if inR q T.2.1 then bc (thOn f q.toNatClampNeg 7) else (-1)))) [(c0, oB 11 [.ref r0, .ref h0, .ref s0, .ref g0, .ref ka, .ref n1, .ref n2, .ref n3, .ref ea, .ref t0, .ref u0, .int (nI nt), .long tr]), (t0, oB 10 [.ref t1, .ref t2, .ref t3, .int (nI T.1), .int (nI T.2.1)]), (h0, oB 8 [.ref h1]), (h1, iA E 50 (if inR q T.2.1 then slipS f q.toNatClampNeg else f)), (s0, oB 9 [.ref s1, .ref s2, .ref s3, .int (nI (if inR q T.2.1 then min (und + 1) 10 else und)), .int (nI (if inR q T.2.1 then (top + 1) % 10 else top))]), (s1, iA E 500 (if inR q T.2.1 then va_cpy f pa 0 (top * 50) 50 else pa))]) := by
  refine M.ofG (cc := cX11_slips) (maxL := 3) (ret := (some .int)) (lv := [(0, .ref c0), (1, .int q)]) (own := RX11) (by decide) rfl rfl (Nat.le_of_ble_eq_true rfl) rfl ?_
  intro K C X _
  have i11 : ∀ w ∈ wsX110, w ∈ wsX11_slips := by decide +kernel
  refine g_aload_n C dX11_slips_0 rfl 0 rfl ?_
  refine g_get C i11 0 rfl rfl 9 (by decide) (List.mem_of_getElem? (i := 1) rfl) rfl rfl dX11_slips_1 ?_
  refine g_iload_n C dX11_slips_4 rfl 1 rfl ?_
  refine g_callV C (rest := []) (n := 1) (kX10_hasPillow l E t0 t1 t2 t3 T.1 T.2.1 q ) gX11_slips_X10_hasPillow rfl ⟨rfl, rfl⟩ (by decide) (Nat.le_of_ble_eq_true rfl) rfl (by decide +kernel) rfl dX11_slips_5 0 rfl rfl [1] [0, 2, 3, 4, 5] rfl rfl ?_
  refine g_is1 (ws2 := [(c0, oB 11 [.ref r0, .ref h0, .ref s0, .ref g0, .ref ka, .ref n1, .ref n2, .ref n3, .ref ea, .ref t0, .ref u0, .int (nI nt), .long tr]), (t0, oB 10 [.ref t1, .ref t2, .ref t3, .int (nI T.1), .int (nI T.2.1)]), (h0, oB 8 [.ref h1]), (h1, iA E 50 f), (s0, oB 9 [.ref s1, .ref s2, .ref s3, .int (nI und), .int (nI top)]), (s1, iA E 500 pa)]) (st2 := [.int (bI (inR q T.2.1))]) [0, 5, 1, 2, 3, 4] rfl rfl rfl ?_
  refine g_if_neB C 13 dX11_slips_8 (by decide) (fun cq1 => ?_) (fun cq1 => ?_)
  · obtain ⟨j, hj_j, rfl⟩ := inR_of (n := T.2.1) (by omega) cq1
    have hcl_j : (nI j).toNatClampNeg = j := nI_clamp (by omega)
    refine g_aload_n C dX11_slips_13 rfl 0 rfl ?_
    refine g_get C i11 0 rfl rfl 1 (by decide) (List.mem_of_getElem? (i := 2) rfl) rfl rfl dX11_slips_14 ?_
    refine g_iload_n C dX11_slips_17 rfl 1 rfl ?_
    refine g_callV C (rest := []) (n := 1) (kX8_thingsOn l E h0 h1 f j (by omega)) gX11_slips_X8_thingsOn rfl ⟨rfl, rfl⟩ (by decide) (Nat.le_of_ble_eq_true rfl) rfl (by decide +kernel) rfl dX11_slips_18 0 rfl rfl [2, 3] [0, 1, 4, 5] rfl rfl ?_
    refine g_is1 (ws2 := [(c0, oB 11 [.ref r0, .ref h0, .ref s0, .ref g0, .ref ka, .ref n1, .ref n2, .ref n3, .ref ea, .ref t0, .ref u0, .int (nI nt), .long tr]), (t0, oB 10 [.ref t1, .ref t2, .ref t3, .int (nI T.1), .int (nI T.2.1)]), (h0, oB 8 [.ref h1]), (h1, iA E 50 f), (s0, oB 9 [.ref s1, .ref s2, .ref s3, .int (nI und), .int (nI top)]), (s1, iA E 500 pa)]) (st2 := [.int (thOn f j 7)]) [0, 1, 4, 5, 2, 3] rfl rfl rfl ?_
    refine g_istore_n C (lv' := [(2, .int (thOn f j 7)), (0, .ref c0), (1, .int (nI j))]) dX11_slips_21 rfl (by decide) rfl ?_
    refine g_aload_n C dX11_slips_22 rfl 1 rfl ?_
    refine g_get C i11 0 rfl rfl 2 (by decide) (List.mem_of_getElem? (i := 3) rfl) rfl rfl dX11_slips_23 ?_
    refine g_aload_n C dX11_slips_26 rfl 1 rfl ?_
    refine g_get C i11 0 rfl rfl 1 (by decide) (List.mem_of_getElem? (i := 2) rfl) rfl rfl dX11_slips_27 ?_
    refine g_callV C (rest := []) (n := 1) (kX9_remember l E s0 s1 s2 s3 und top pa h0 h1 f (by omega) (by omega)) gX11_slips_X9_remember rfl ⟨rfl, rfl⟩ (by decide) (Nat.le_of_ble_eq_true rfl) rfl (by decide +kernel) rfl dX11_slips_30 0 rfl rfl [4, 5, 2, 3] [0, 1] rfl rfl ?_
    refine g_is1 (ws2 := [(c0, oB 11 [.ref r0, .ref h0, .ref s0, .ref g0, .ref ka, .ref n1, .ref n2, .ref n3, .ref ea, .ref t0, .ref u0, .int (nI nt), .long tr]), (t0, oB 10 [.ref t1, .ref t2, .ref t3, .int (nI T.1), .int (nI T.2.1)]), (h0, oB 8 [.ref h1]), (h1, iA E 50 f), (s0, oB 9 [.ref s1, .ref s2, .ref s3, .int (nI (min (und + 1) 10)), .int (nI ((top + 1) % 10))]), (s1, iA E 500 (va_cpy f pa 0 (top * 50) 50))]) (st2 := []) [0, 1, 4, 5, 2, 3] rfl rfl rfl ?_
    refine g_aload_n C dX11_slips_33 rfl 1 rfl ?_
    refine g_get C i11 0 rfl rfl 1 (by decide) (List.mem_of_getElem? (i := 2) rfl) rfl rfl dX11_slips_34 ?_
    refine g_iload_n C dX11_slips_37 rfl 2 rfl ?_
    refine g_callV C (rest := []) (n := 1) (kX8_slip l E h0 h1 f j (by omega)) gX11_slips_X8_slip rfl ⟨rfl, rfl⟩ (by decide) (Nat.le_of_ble_eq_true rfl) rfl (by decide +kernel) rfl dX11_slips_38 0 rfl rfl [2, 3] [0, 1, 4, 5] rfl rfl ?_
    refine g_is1 (ws2 := [(c0, oB 11 [.ref r0, .ref h0, .ref s0, .ref g0, .ref ka, .ref n1, .ref n2, .ref n3, .ref ea, .ref t0, .ref u0, .int (nI nt), .long tr]), (t0, oB 10 [.ref t1, .ref t2, .ref t3, .int (nI T.1), .int (nI T.2.1)]), (h0, oB 8 [.ref h1]), (h1, iA E 50 (slipS f j)), (s0, oB 9 [.ref s1, .ref s2, .ref s3, .int (nI (min (und + 1) 10)), .int (nI ((top + 1) % 10))]), (s1, iA E 500 (va_cpy f pa 0 (top * 50) 50))]) (st2 := []) [0, 1, 4, 5, 2, 3] rfl rfl rfl ?_
    refine g_iload_n C dX11_slips_41 rfl 0 rfl ?_
    refine g_callS C (rest := []) (n := 1) (kJ6_bitCount_0f7a4 l E (thOn f j 7) ) gX11_slips_J6_bitCount_0f7a4 rfl ⟨rfl, rfl⟩ (by decide) (Nat.le_of_ble_eq_true rfl) rfl (by decide +kernel) rfl dX11_slips_42 [] [0, 1, 2, 3, 4, 5] rfl rfl ?_
    refine g_is1 (ws2 := [(c0, oB 11 [.ref r0, .ref h0, .ref s0, .ref g0, .ref ka, .ref n1, .ref n2, .ref n3, .ref ea, .ref t0, .ref u0, .int (nI nt), .long tr]), (t0, oB 10 [.ref t1, .ref t2, .ref t3, .int (nI T.1), .int (nI T.2.1)]), (h0, oB 8 [.ref h1]), (h1, iA E 50 (slipS f j)), (s0, oB 9 [.ref s1, .ref s2, .ref s3, .int (nI (min (und + 1) 10)), .int (nI ((top + 1) % 10))]), (s1, iA E 500 (va_cpy f pa 0 (top * 50) 50))]) (st2 := [.int (bc (thOn f j 7))]) [0, 1, 2, 3, 4, 5] rfl rfl rfl ?_
    exact g_iret C X dX11_slips_45 (⟨by rw [if_pos cq1, hcl_j], by rw [if_pos (cq1), if_pos (cq1), if_pos (cq1), if_pos (cq1)]; rw [hcl_j]⟩)
  · refine g_iconst C ((-1)) dX11_slips_11 (by decide) ?_
    exact g_iret C X dX11_slips_12 (⟨by rw [if_neg cq1], by rw [if_neg (cq1), if_neg (cq1), if_neg (cq1), if_neg (cq1)]⟩)

set_option maxHeartbeats 4000000 in
set_option maxRecDepth 100000 in
theorem kX11_mixes (l : Launch) (E : EX) (c0 r0 h0 s0 g0 ka n1 n2 n3 ea t0 u0 nt : Nat) (tr : Int64) (t1 t2 t3 : Nat) (T : TS) (h1 : Nat) (f : Nat → Int32) (s1 s2 s3 und top : Nat) (pa : Nat → Int32) (a b : Int32) (hm : T.2.1 ≤ 6) (hu : und ≤ 10) (ht : top < 10) : M l E yX11_mixes wsX11_mixes { frames := 3, cells := 0, slots := 0, locals := 62 } 0 0 [.ref c0, .int a, .int b] [(c0, oB 11 [.ref r0, .ref h0, .ref s0, .ref g0, .ref ka, .ref n1, .ref n2, .ref n3, .ref ea, .ref t0, .ref u0, .int (nI nt), .long tr]), (t0, oB 10 [.ref t1, .ref t2, .ref t3, .int (nI T.1), .int (nI T.2.1)]), (h0, oB 8 [.ref h1]), (h1, iA E 50 f), (s0, oB 9 [.ref s1, .ref s2, .ref s3, .int (nI und), .int (nI top)]), (s1, iA E 500 pa)] (is1 (some (.int (if mixO T.2.1 a b then bc (thOn (mixA f a.toNatClampNeg b.toNatClampNeg 7) a.toNatClampNeg 7) else (-1)))) [(c0, oB 11 [.ref r0, .ref h0, .ref s0, .ref g0, .ref ka, .ref n1, .ref n2, .ref n3, .ref ea, .ref t0, .ref u0, .int (nI nt), .long tr]), (t0, oB 10 [.ref t1, .ref t2, .ref t3, .int (nI T.1), .int (nI T.2.1)]), (h0, oB 8 [.ref h1]), (h1, iA E 50 (if mixO T.2.1 a b then mixA f a.toNatClampNeg b.toNatClampNeg 7 else f)), (s0, oB 9 [.ref s1, .ref s2, .ref s3, .int (nI (if mixO T.2.1 a b then min (und + 1) 10 else und)), .int (nI (if mixO T.2.1 a b then (top + 1) % 10 else top))]), (s1, iA E 500 (if mixO T.2.1 a b then va_cpy f pa 0 (top * 50) 50 else pa))]) := by
  refine M.ofG (cc := cX11_mixes) (maxL := 3) (ret := (some .int)) (lv := [(0, .ref c0), (1, .int a), (2, .int b)]) (own := RX11) (by decide) rfl rfl (Nat.le_of_ble_eq_true rfl) rfl ?_
  intro K C X _
  have i11 : ∀ w ∈ wsX110, w ∈ wsX11_mixes := by decide +kernel
  refine g_aload_n C dX11_mixes_0 rfl 0 rfl ?_
  refine g_iload_n C dX11_mixes_1 rfl 1 rfl ?_
  refine g_iload_n C dX11_mixes_2 rfl 2 rfl ?_
  refine g_callV C (rest := []) (n := 2) (kX11_areTwoPillows l E c0 r0 h0 s0 g0 ka n1 n2 n3 ea t0 u0 nt tr t1 t2 t3 T a b ) gX11_mixes_X11_areTwoPillows rfl ⟨rfl, rfl⟩ (by decide) (Nat.le_of_ble_eq_true rfl) rfl (by decide +kernel) rfl dX11_mixes_3 0 rfl rfl [0, 1] [2, 3, 4, 5] rfl rfl ?_
  refine g_is1 (ws2 := [(c0, oB 11 [.ref r0, .ref h0, .ref s0, .ref g0, .ref ka, .ref n1, .ref n2, .ref n3, .ref ea, .ref t0, .ref u0, .int (nI nt), .long tr]), (t0, oB 10 [.ref t1, .ref t2, .ref t3, .int (nI T.1), .int (nI T.2.1)]), (h0, oB 8 [.ref h1]), (h1, iA E 50 f), (s0, oB 9 [.ref s1, .ref s2, .ref s3, .int (nI und), .int (nI top)]), (s1, iA E 500 pa)]) (st2 := [.int (bI (inR a T.2.1 ∧ inR b T.2.1 ∧ ¬ a = b))]) [4, 5, 0, 1, 2, 3] rfl rfl rfl ?_
  refine g_if_neB C 11 dX11_mixes_6 (by decide) (fun cq1 => ?_) (fun cq1 => ?_)
  · obtain ⟨i, hj_i, rfl⟩ := inR_of (n := T.2.1) (by omega) cq1.1
    have hcl_i : (nI i).toNatClampNeg = i := nI_clamp (by omega)
    obtain ⟨j, hj_j, rfl⟩ := inR_of (n := T.2.1) (by omega) cq1.2.1
    have hcl_j : (nI j).toNatClampNeg = j := nI_clamp (by omega)
    refine g_aload_n C dX11_mixes_11 rfl 0 rfl ?_
    refine g_get C i11 0 rfl rfl 2 (by decide) (List.mem_of_getElem? (i := 1) rfl) rfl rfl dX11_mixes_12 ?_
    refine g_aload_n C dX11_mixes_15 rfl 0 rfl ?_
    refine g_get C i11 0 rfl rfl 1 (by decide) (List.mem_of_getElem? (i := 2) rfl) rfl rfl dX11_mixes_16 ?_
    refine g_callV C (rest := []) (n := 1) (kX9_remember l E s0 s1 s2 s3 und top pa h0 h1 f (by omega) (by omega)) gX11_mixes_X9_remember rfl ⟨rfl, rfl⟩ (by decide) (Nat.le_of_ble_eq_true rfl) rfl (by decide +kernel) rfl dX11_mixes_19 0 rfl rfl [4, 5, 2, 3] [0, 1] rfl rfl ?_
    refine g_is1 (ws2 := [(c0, oB 11 [.ref r0, .ref h0, .ref s0, .ref g0, .ref ka, .ref n1, .ref n2, .ref n3, .ref ea, .ref t0, .ref u0, .int (nI nt), .long tr]), (t0, oB 10 [.ref t1, .ref t2, .ref t3, .int (nI T.1), .int (nI T.2.1)]), (h0, oB 8 [.ref h1]), (h1, iA E 50 f), (s0, oB 9 [.ref s1, .ref s2, .ref s3, .int (nI (min (und + 1) 10)), .int (nI ((top + 1) % 10))]), (s1, iA E 500 (va_cpy f pa 0 (top * 50) 50))]) (st2 := []) [0, 1, 4, 5, 2, 3] rfl rfl rfl ?_
    refine g_aload_n C dX11_mixes_22 rfl 0 rfl ?_
    refine g_get C i11 0 rfl rfl 1 (by decide) (List.mem_of_getElem? (i := 2) rfl) rfl rfl dX11_mixes_23 ?_
    refine g_iload_n C dX11_mixes_26 rfl 1 rfl ?_
    refine g_iload_n C dX11_mixes_27 rfl 2 rfl ?_
    refine g_callV C (rest := []) (n := 2) (kX8_mix l E h0 h1 f i j (by omega) (by omega)) gX11_mixes_X8_mix rfl ⟨rfl, rfl⟩ (by decide) (Nat.le_of_ble_eq_true rfl) rfl (by decide +kernel) rfl dX11_mixes_28 0 rfl rfl [2, 3] [0, 1, 4, 5] rfl rfl ?_
    refine g_is1 (ws2 := [(c0, oB 11 [.ref r0, .ref h0, .ref s0, .ref g0, .ref ka, .ref n1, .ref n2, .ref n3, .ref ea, .ref t0, .ref u0, .int (nI nt), .long tr]), (t0, oB 10 [.ref t1, .ref t2, .ref t3, .int (nI T.1), .int (nI T.2.1)]), (h0, oB 8 [.ref h1]), (h1, iA E 50 (mixA f i j 7)), (s0, oB 9 [.ref s1, .ref s2, .ref s3, .int (nI (min (und + 1) 10)), .int (nI ((top + 1) % 10))]), (s1, iA E 500 (va_cpy f pa 0 (top * 50) 50))]) (st2 := []) [0, 1, 4, 5, 2, 3] rfl rfl rfl ?_
    refine g_aload_n C dX11_mixes_31 rfl 0 rfl ?_
    refine g_get C i11 0 rfl rfl 1 (by decide) (List.mem_of_getElem? (i := 2) rfl) rfl rfl dX11_mixes_32 ?_
    refine g_iload_n C dX11_mixes_35 rfl 1 rfl ?_
    refine g_callV C (rest := []) (n := 1) (kX8_thingsOn l E h0 h1 (mixA f i j 7) i (by omega)) gX11_mixes_X8_thingsOn rfl ⟨rfl, rfl⟩ (by decide) (Nat.le_of_ble_eq_true rfl) rfl (by decide +kernel) rfl dX11_mixes_36 0 rfl rfl [2, 3] [0, 1, 4, 5] rfl rfl ?_
    refine g_is1 (ws2 := [(c0, oB 11 [.ref r0, .ref h0, .ref s0, .ref g0, .ref ka, .ref n1, .ref n2, .ref n3, .ref ea, .ref t0, .ref u0, .int (nI nt), .long tr]), (t0, oB 10 [.ref t1, .ref t2, .ref t3, .int (nI T.1), .int (nI T.2.1)]), (h0, oB 8 [.ref h1]), (h1, iA E 50 (mixA f i j 7)), (s0, oB 9 [.ref s1, .ref s2, .ref s3, .int (nI (min (und + 1) 10)), .int (nI ((top + 1) % 10))]), (s1, iA E 500 (va_cpy f pa 0 (top * 50) 50))]) (st2 := [.int (thOn (mixA f i j 7) i 7)]) [0, 1, 4, 5, 2, 3] rfl rfl rfl ?_
    refine g_callS C (rest := []) (n := 1) (kJ6_bitCount_0f7a4 l E (thOn (mixA f i j 7) i 7) ) gX11_mixes_J6_bitCount_0f7a4 rfl ⟨rfl, rfl⟩ (by decide) (Nat.le_of_ble_eq_true rfl) rfl (by decide +kernel) rfl dX11_mixes_39 [] [0, 1, 2, 3, 4, 5] rfl rfl ?_
    refine g_is1 (ws2 := [(c0, oB 11 [.ref r0, .ref h0, .ref s0, .ref g0, .ref ka, .ref n1, .ref n2, .ref n3, .ref ea, .ref t0, .ref u0, .int (nI nt), .long tr]), (t0, oB 10 [.ref t1, .ref t2, .ref t3, .int (nI T.1), .int (nI T.2.1)]), (h0, oB 8 [.ref h1]), (h1, iA E 50 (mixA f i j 7)), (s0, oB 9 [.ref s1, .ref s2, .ref s3, .int (nI (min (und + 1) 10)), .int (nI ((top + 1) % 10))]), (s1, iA E 500 (va_cpy f pa 0 (top * 50) 50))]) (st2 := [.int (bc (thOn (mixA f i j 7) i 7))]) [0, 1, 2, 3, 4, 5] rfl rfl rfl ?_
    exact g_iret C X dX11_mixes_42 (⟨by rw [if_pos cq1, hcl_i, hcl_j], by rw [if_pos (cq1), if_pos (cq1), if_pos (cq1), if_pos (cq1)]; rw [hcl_i, hcl_j]⟩)
  · refine g_iconst C ((-1)) dX11_mixes_9 (by decide) ?_
    exact g_iret C X dX11_mixes_10 (⟨by rw [if_neg cq1], by rw [if_neg (cq1), if_neg (cq1), if_neg (cq1), if_neg (cq1)]⟩)

set_option maxHeartbeats 4000000 in
set_option maxRecDepth 100000 in
theorem kX11_examines (l : Launch) (E : EX) (c0 r0 h0 s0 g0 ka n1 n2 n3 ea t0 u0 nt : Nat) (tr : Int64) (t1 t2 t3 : Nat) (T : TS) (h1 : Nat) (f : Nat → Int32) (s1 s2 s3 und top : Nat) (pa : Nat → Int32) (q : Int32) (hm : T.2.1 ≤ 6) (hu : und ≤ 10) (ht : top < 10) : M l E yX11_examines wsX11_examines { frames := 4, cells := 0, slots := 0, locals := 88 } 0 0 [.ref c0, .int q] [(c0, oB 11 [.ref r0, .ref h0, .ref s0, .ref g0, .ref ka, .ref n1, .ref n2, .ref n3, .ref ea, .ref t0, .ref u0, .int (nI nt), .long tr]), (t0, oB 10 [.ref t1, .ref t2, .ref t3, .int (nI T.1), .int (nI T.2.1)]), (h0, oB 8 [.ref h1]), (h1, iA E 50 f), (s0, oB 9 [.ref s1, .ref s2, .ref s3, .int (nI und), .int (nI top)]), (s1, iA E 500 pa)] (is1 (some (.int (exaS T.2.1 f q))) [(c0, oB 11 [.ref r0, .ref h0, .ref s0, .ref g0, .ref ka, .ref n1, .ref n2, .ref n3, .ref ea, .ref t0, .ref u0, .int (nI nt), .long tr]), (t0, oB 10 [.ref t1, .ref t2, .ref t3, .int (nI T.1), .int (nI T.2.1)]), (h0, oB 8 [.ref h1]), (h1, iA E 50 (if exaO T.2.1 f q then exaF f q.toNatClampNeg else f)), (s0, oB 9 [.ref s1, .ref s2, .ref s3, .int (nI (if exaO T.2.1 f q then min (und + 1) 10 else und)), .int (nI (if exaO T.2.1 f q then (top + 1) % 10 else top))]), (s1, iA E 500 (if exaO T.2.1 f q then va_cpy f pa 0 (top * 50) 50 else pa))]) := by
  refine M.ofG (cc := cX11_examines) (maxL := 3) (ret := (some .int)) (lv := [(0, .ref c0), (1, .int q)]) (own := RX11) (by decide) rfl rfl (Nat.le_of_ble_eq_true rfl) rfl ?_
  intro K C X _
  have i11 : ∀ w ∈ wsX110, w ∈ wsX11_examines := by decide +kernel
  refine g_aload_n C dX11_examines_0 rfl 0 rfl ?_
  refine g_get C i11 0 rfl rfl 9 (by decide) (List.mem_of_getElem? (i := 1) rfl) rfl rfl dX11_examines_1 ?_
  refine g_iload_n C dX11_examines_4 rfl 1 rfl ?_
  refine g_callV C (rest := []) (n := 1) (kX10_hasPillow l E t0 t1 t2 t3 T.1 T.2.1 q ) gX11_examines_X10_hasPillow rfl ⟨rfl, rfl⟩ (by decide) (Nat.le_of_ble_eq_true rfl) rfl (by decide +kernel) rfl dX11_examines_5 0 rfl rfl [1] [0, 2, 3, 4, 5] rfl rfl ?_
  refine g_is1 (ws2 := [(c0, oB 11 [.ref r0, .ref h0, .ref s0, .ref g0, .ref ka, .ref n1, .ref n2, .ref n3, .ref ea, .ref t0, .ref u0, .int (nI nt), .long tr]), (t0, oB 10 [.ref t1, .ref t2, .ref t3, .int (nI T.1), .int (nI T.2.1)]), (h0, oB 8 [.ref h1]), (h1, iA E 50 f), (s0, oB 9 [.ref s1, .ref s2, .ref s3, .int (nI und), .int (nI top)]), (s1, iA E 500 pa)]) (st2 := [.int (bI (inR q T.2.1))]) [0, 5, 1, 2, 3, 4] rfl rfl rfl ?_
  refine g_if_neB C 13 dX11_examines_8 (by decide) (fun cq1 => ?_) (fun cq1 => ?_)
  · obtain ⟨j, hj_j, rfl⟩ := inR_of (n := T.2.1) (by omega) cq1
    have hcl_j : (nI j).toNatClampNeg = j := nI_clamp (by omega)
    refine g_aload_n C dX11_examines_13 rfl 0 rfl ?_
    refine g_get C i11 0 rfl rfl 1 (by decide) (List.mem_of_getElem? (i := 2) rfl) rfl rfl dX11_examines_14 ?_
    refine g_iload_n C dX11_examines_17 rfl 1 rfl ?_
    refine g_callV C (rest := []) (n := 1) (kX8_isExamined l E h0 h1 f j ) gX11_examines_X8_isExamined rfl ⟨rfl, rfl⟩ (by decide) (Nat.le_of_ble_eq_true rfl) rfl (by decide +kernel) rfl dX11_examines_18 0 rfl rfl [2, 3] [0, 1, 4, 5] rfl rfl ?_
    refine g_is1 (ws2 := [(c0, oB 11 [.ref r0, .ref h0, .ref s0, .ref g0, .ref ka, .ref n1, .ref n2, .ref n3, .ref ea, .ref t0, .ref u0, .int (nI nt), .long tr]), (t0, oB 10 [.ref t1, .ref t2, .ref t3, .int (nI T.1), .int (nI T.2.1)]), (h0, oB 8 [.ref h1]), (h1, iA E 50 f), (s0, oB 9 [.ref s1, .ref s2, .ref s3, .int (nI und), .int (nI top)]), (s1, iA E 500 pa)]) (st2 := [.int (bI (¬ tb (f 48) j = 0))]) [0, 1, 4, 5, 2, 3] rfl rfl rfl ?_
    refine g_if_eqB C 27 dX11_examines_21 (by decide) (fun cq2 => ?_) (fun cq2 => ?_)
    · refine g_aload_n C dX11_examines_27 rfl 0 rfl ?_
      refine g_get C i11 0 rfl rfl 1 (by decide) (List.mem_of_getElem? (i := 2) rfl) rfl rfl dX11_examines_28 ?_
      refine g_callV C (rest := []) (n := 0) (kX8_knownThings l E h0 h1 f ) gX11_examines_X8_knownThings rfl ⟨rfl, rfl⟩ (by decide) (Nat.le_of_ble_eq_true rfl) rfl (by decide +kernel) rfl dX11_examines_31 0 rfl rfl [2, 3] [0, 1, 4, 5] rfl rfl ?_
      refine g_is1 (ws2 := [(c0, oB 11 [.ref r0, .ref h0, .ref s0, .ref g0, .ref ka, .ref n1, .ref n2, .ref n3, .ref ea, .ref t0, .ref u0, .int (nI nt), .long tr]), (t0, oB 10 [.ref t1, .ref t2, .ref t3, .int (nI T.1), .int (nI T.2.1)]), (h0, oB 8 [.ref h1]), (h1, iA E 50 f), (s0, oB 9 [.ref s1, .ref s2, .ref s3, .int (nI und), .int (nI top)]), (s1, iA E 500 pa)]) (st2 := [.int (thSet f (f 48) 6)]) [0, 1, 4, 5, 2, 3] rfl rfl rfl ?_
      refine g_istore_n C (lv' := [(2, .int (thSet f (f 48) 6)), (0, .ref c0), (1, .int (nI j))]) dX11_examines_34 rfl (by decide) rfl ?_
      refine g_aload_n C dX11_examines_35 rfl 1 rfl ?_
      refine g_get C i11 0 rfl rfl 2 (by decide) (List.mem_of_getElem? (i := 3) rfl) rfl rfl dX11_examines_36 ?_
      refine g_aload_n C dX11_examines_39 rfl 1 rfl ?_
      refine g_get C i11 0 rfl rfl 1 (by decide) (List.mem_of_getElem? (i := 2) rfl) rfl rfl dX11_examines_40 ?_
      refine g_callV C (rest := []) (n := 1) (kX9_remember l E s0 s1 s2 s3 und top pa h0 h1 f (by omega) (by omega)) gX11_examines_X9_remember rfl ⟨rfl, rfl⟩ (by decide) (Nat.le_of_ble_eq_true rfl) rfl (by decide +kernel) rfl dX11_examines_43 0 rfl rfl [4, 5, 2, 3] [0, 1] rfl rfl ?_
      refine g_is1 (ws2 := [(c0, oB 11 [.ref r0, .ref h0, .ref s0, .ref g0, .ref ka, .ref n1, .ref n2, .ref n3, .ref ea, .ref t0, .ref u0, .int (nI nt), .long tr]), (t0, oB 10 [.ref t1, .ref t2, .ref t3, .int (nI T.1), .int (nI T.2.1)]), (h0, oB 8 [.ref h1]), (h1, iA E 50 f), (s0, oB 9 [.ref s1, .ref s2, .ref s3, .int (nI (min (und + 1) 10)), .int (nI ((top + 1) % 10))]), (s1, iA E 500 (va_cpy f pa 0 (top * 50) 50))]) (st2 := []) [0, 1, 4, 5, 2, 3] rfl rfl rfl ?_
      refine g_aload_n C dX11_examines_46 rfl 1 rfl ?_
      refine g_get C i11 0 rfl rfl 1 (by decide) (List.mem_of_getElem? (i := 2) rfl) rfl rfl dX11_examines_47 ?_
      refine g_iload_n C dX11_examines_50 rfl 2 rfl ?_
      refine g_callV C (rest := []) (n := 1) (kX8_examine l E h0 h1 f j (by omega)) gX11_examines_X8_examine rfl ⟨rfl, rfl⟩ (by decide) (Nat.le_of_ble_eq_true rfl) rfl (by decide +kernel) rfl dX11_examines_51 0 rfl rfl [2, 3] [0, 1, 4, 5] rfl rfl ?_
      refine g_is1 (ws2 := [(c0, oB 11 [.ref r0, .ref h0, .ref s0, .ref g0, .ref ka, .ref n1, .ref n2, .ref n3, .ref ea, .ref t0, .ref u0, .int (nI nt), .long tr]), (t0, oB 10 [.ref t1, .ref t2, .ref t3, .int (nI T.1), .int (nI T.2.1)]), (h0, oB 8 [.ref h1]), (h1, iA E 50 (upd f 48 (f 48 ||| nI (2 ^ j)))), (s0, oB 9 [.ref s1, .ref s2, .ref s3, .int (nI (min (und + 1) 10)), .int (nI ((top + 1) % 10))]), (s1, iA E 500 (va_cpy f pa 0 (top * 50) 50))]) (st2 := []) [0, 1, 4, 5, 2, 3] rfl rfl rfl ?_
      refine g_aload_n C dX11_examines_54 rfl 1 rfl ?_
      refine g_get C i11 0 rfl rfl 1 (by decide) (List.mem_of_getElem? (i := 2) rfl) rfl rfl dX11_examines_55 ?_
      refine g_callV C (rest := []) (n := 0) (kX8_knownThings l E h0 h1 (upd f 48 (f 48 ||| nI (2 ^ j))) ) gX11_examines_X8_knownThings rfl ⟨rfl, rfl⟩ (by decide) (Nat.le_of_ble_eq_true rfl) rfl (by decide +kernel) rfl dX11_examines_58 0 rfl rfl [2, 3] [0, 1, 4, 5] rfl rfl ?_
      refine g_is1 (ws2 := [(c0, oB 11 [.ref r0, .ref h0, .ref s0, .ref g0, .ref ka, .ref n1, .ref n2, .ref n3, .ref ea, .ref t0, .ref u0, .int (nI nt), .long tr]), (t0, oB 10 [.ref t1, .ref t2, .ref t3, .int (nI T.1), .int (nI T.2.1)]), (h0, oB 8 [.ref h1]), (h1, iA E 50 (upd f 48 (f 48 ||| nI (2 ^ j)))), (s0, oB 9 [.ref s1, .ref s2, .ref s3, .int (nI (min (und + 1) 10)), .int (nI ((top + 1) % 10))]), (s1, iA E 500 (va_cpy f pa 0 (top * 50) 50))]) (st2 := [.int (thSet (upd f 48 (f 48 ||| nI (2 ^ j))) ((upd f 48 (f 48 ||| nI (2 ^ j))) 48) 6)]) [0, 1, 4, 5, 2, 3] rfl rfl rfl ?_
      refine g_iload_n C dX11_examines_61 rfl 0 rfl ?_
      refine g_iconst C ((-1)) dX11_examines_62 (by decide) ?_
      refine g_ixor C dX11_examines_63 ?_
      refine g_iand C dX11_examines_64 ?_
      refine g_callS C (rest := []) (n := 1) (kJ6_bitCount_0f7a4 l E ((thSet (upd f 48 (f 48 ||| nI (2 ^ j))) ((upd f 48 (f 48 ||| nI (2 ^ j))) 48) 6) &&& ((thSet f (f 48) 6) ^^^ (-1))) ) gX11_examines_J6_bitCount_0f7a4 rfl ⟨rfl, rfl⟩ (by decide) (Nat.le_of_ble_eq_true rfl) rfl (by decide +kernel) rfl dX11_examines_65 [] [0, 1, 2, 3, 4, 5] rfl rfl ?_
      refine g_is1 (ws2 := [(c0, oB 11 [.ref r0, .ref h0, .ref s0, .ref g0, .ref ka, .ref n1, .ref n2, .ref n3, .ref ea, .ref t0, .ref u0, .int (nI nt), .long tr]), (t0, oB 10 [.ref t1, .ref t2, .ref t3, .int (nI T.1), .int (nI T.2.1)]), (h0, oB 8 [.ref h1]), (h1, iA E 50 (upd f 48 (f 48 ||| nI (2 ^ j)))), (s0, oB 9 [.ref s1, .ref s2, .ref s3, .int (nI (min (und + 1) 10)), .int (nI ((top + 1) % 10))]), (s1, iA E 500 (va_cpy f pa 0 (top * 50) 50))]) (st2 := [.int (bc ((thSet (upd f 48 (f 48 ||| nI (2 ^ j))) ((upd f 48 (f 48 ||| nI (2 ^ j))) 48) 6) &&& ((thSet f (f 48) 6) ^^^ (-1))))]) [0, 1, 2, 3, 4, 5] rfl rfl rfl ?_
      exact g_iret C X dX11_examines_68 (⟨by unfold exaS; rw [hcl_j, if_pos cq1, if_neg cq2]; rfl, by rw [if_pos (⟨cq1, by rw [hcl_j]; exact cq2⟩), if_pos (⟨cq1, by rw [hcl_j]; exact cq2⟩), if_pos (⟨cq1, by rw [hcl_j]; exact cq2⟩), if_pos (⟨cq1, by rw [hcl_j]; exact cq2⟩)]; rw [hcl_j]; rfl⟩)
    · refine g_bipush C ((-2)) dX11_examines_24 (by decide) ?_
      exact g_iret C X dX11_examines_26 (⟨by unfold exaS; rw [hcl_j, if_pos cq1, if_pos cq2], by rw [if_neg (fun w => w.2 (by rw [hcl_j]; exact cq2)), if_neg (fun w => w.2 (by rw [hcl_j]; exact cq2)), if_neg (fun w => w.2 (by rw [hcl_j]; exact cq2)), if_neg (fun w => w.2 (by rw [hcl_j]; exact cq2))]⟩)
  · refine g_iconst C ((-1)) dX11_examines_11 (by decide) ?_
    exact g_iret C X dX11_examines_12 (⟨by unfold exaS; rw [if_neg cq1], by rw [if_neg (fun w => cq1 w.1), if_neg (fun w => cq1 w.1), if_neg (fun w => cq1 w.1), if_neg (fun w => cq1 w.1)]⟩)

set_option maxHeartbeats 4000000 in
set_option maxRecDepth 100000 in
theorem kX11_undo (l : Launch) (E : EX) (c0 r0 h0 s0 g0 ka n1 n2 n3 ea t0 u0 nt : Nat) (tr : Int64) (h1 : Nat) (f : Nat → Int32) (s1 s2 s3 und top : Nat) (pa : Nat → Int32) (hu : und ≤ 10) (ht : top < 10) : M l E yX11_undo wsX11_undo { frames := 2, cells := 0, slots := 0, locals := 39 } 0 0 [.ref c0] [(c0, oB 11 [.ref r0, .ref h0, .ref s0, .ref g0, .ref ka, .ref n1, .ref n2, .ref n3, .ref ea, .ref t0, .ref u0, .int (nI nt), .long tr]), (h0, oB 8 [.ref h1]), (h1, iA E 50 f), (s0, oB 9 [.ref s1, .ref s2, .ref s3, .int (nI und), .int (nI top)]), (s1, iA E 500 pa)] (is1 (some (.int (if und = 0 then (-2) else nI (und - 1)))) [(c0, oB 11 [.ref r0, .ref h0, .ref s0, .ref g0, .ref ka, .ref n1, .ref n2, .ref n3, .ref ea, .ref t0, .ref u0, .int (nI nt), .long tr]), (h0, oB 8 [.ref h1]), (h1, iA E 50 (if und = 0 then f else va_cpy pa f ((top + 10 - 1) % 10 * 50) 0 50)), (s0, oB 9 [.ref s1, .ref s2, .ref s3, .int (nI (und - 1)), .int (nI (if und = 0 then top else (top + 10 - 1) % 10))]), (s1, iA E 500 pa)]) := by
  refine M.ofG (cc := cX11_undo) (maxL := 1) (ret := (some .int)) (lv := [(0, .ref c0)]) (own := RX11) (by decide) rfl rfl (Nat.le_of_ble_eq_true rfl) rfl ?_
  intro K C X _
  have i9 : ∀ w ∈ wsX90, w ∈ wsX11_undo := by decide +kernel
  have i11 : ∀ w ∈ wsX110, w ∈ wsX11_undo := by decide +kernel
  refine g_aload_n C dX11_undo_0 rfl 0 rfl ?_
  refine g_get C i11 0 rfl rfl 2 (by decide) (List.mem_of_getElem? (i := 1) rfl) rfl rfl dX11_undo_1 ?_
  refine g_aload_n C dX11_undo_4 rfl 0 rfl ?_
  refine g_get C i11 0 rfl rfl 1 (by decide) (List.mem_of_getElem? (i := 2) rfl) rfl rfl dX11_undo_5 ?_
  refine g_callV C (rest := []) (n := 1) (kX9_restoreLatest l E s0 s1 s2 s3 und top pa h0 h1 f (by omega) (by omega)) gX11_undo_X9_restoreLatest rfl ⟨rfl, rfl⟩ (by decide) (Nat.le_of_ble_eq_true rfl) rfl (by decide +kernel) rfl dX11_undo_8 0 rfl rfl [3, 4, 1, 2] [0] rfl rfl ?_
  refine g_is1 (ws2 := [(c0, oB 11 [.ref r0, .ref h0, .ref s0, .ref g0, .ref ka, .ref n1, .ref n2, .ref n3, .ref ea, .ref t0, .ref u0, .int (nI nt), .long tr]), (h0, oB 8 [.ref h1]), (h1, iA E 50 (if und = 0 then f else va_cpy pa f ((top + 10 - 1) % 10 * 50) 0 50)), (s0, oB 9 [.ref s1, .ref s2, .ref s3, .int (nI (und - 1)), .int (nI (if und = 0 then top else (top + 10 - 1) % 10))]), (s1, iA E 500 pa)]) (st2 := [.int (bI (¬ und = 0))]) [0, 3, 4, 1, 2] rfl rfl rfl ?_
  refine g_if_eqB C 24 dX11_undo_11 (by decide) (fun cq1 => ?_) (fun cq1 => ?_)
  · refine g_bipush C ((-2)) dX11_undo_24 (by decide) ?_
    exact g_iret C X dX11_undo_26 (⟨by first | (rw [if_neg cq1]; done) | (rw [if_pos (Decidable.not_not.mp cq1)]; done), rfl⟩)
  · refine g_aload_n C dX11_undo_14 rfl 0 rfl ?_
    refine g_get C i11 0 rfl rfl 2 (by decide) (List.mem_of_getElem? (i := 1) rfl) rfl rfl dX11_undo_15 ?_
    refine g_get C i9 3 rfl rfl 3 (by decide) (List.mem_of_getElem? (i := 3) rfl) rfl rfl dX11_undo_18 ?_
    refine g_goto C 26 dX11_undo_21 (by decide) ?_
    exact g_iret C X dX11_undo_26 (⟨by first | (rw [if_neg cq1]; done) | (rw [if_pos (Decidable.not_not.mp cq1)]; done), rfl⟩)

set_option maxHeartbeats 4000000 in
set_option maxRecDepth 100000 in
theorem kX11_keep (l : Launch) (E : EX) (c0 r0 h0 s0 g0 ka n1 n2 n3 ea t0 u0 nt : Nat) (tr : Int64) (h1 : Nat) (f : Nat → Int32) (s1 s2 s3 und top : Nat) (im kp : Nat → Int32) (x : Int32)  : M l E yX11_keep wsX11_keep { frames := 2, cells := 0, slots := 0, locals := 40 } 0 0 [.ref c0, .int x] [(c0, oB 11 [.ref r0, .ref h0, .ref s0, .ref g0, .ref ka, .ref n1, .ref n2, .ref n3, .ref ea, .ref t0, .ref u0, .int (nI nt), .long tr]), (h0, oB 8 [.ref h1]), (h1, iA E 50 f), (s0, oB 9 [.ref s1, .ref s2, .ref s3, .int (nI und), .int (nI top)]), (s2, iA E 100 im), (s3, zA E 2 kp)] (is1 (some (.int (if zo x then f 49 else (-1)))) [(c0, oB 11 [.ref r0, .ref h0, .ref s0, .ref g0, .ref ka, .ref n1, .ref n2, .ref n3, .ref ea, .ref t0, .ref u0, .int (nI nt), .long tr]), (h0, oB 8 [.ref h1]), (h1, iA E 50 f), (s0, oB 9 [.ref s1, .ref s2, .ref s3, .int (nI und), .int (nI top)]), (s2, iA E 100 (if zo x then va_cpy f im 0 (x.toNatClampNeg * 50) 50 else im)), (s3, zA E 2 (if zo x then upd kp x.toNatClampNeg (nI 1) else kp))]) := by
  refine M.ofG (cc := cX11_keep) (maxL := 2) (ret := (some .int)) (lv := [(0, .ref c0), (1, .int x)]) (own := RX11) (by decide) rfl rfl (Nat.le_of_ble_eq_true rfl) rfl ?_
  intro K C X _
  have i11 : ∀ w ∈ wsX110, w ∈ wsX11_keep := by decide +kernel
  refine g_iload_n C dX11_keep_0 rfl 1 rfl ?_
  refine g_callS C (rest := []) (n := 1) (kX11_isZeroOrOne l E x ) gX11_keep_X11_isZeroOrOne rfl ⟨rfl, rfl⟩ (by decide) (Nat.le_of_ble_eq_true rfl) rfl (by decide +kernel) rfl dX11_keep_1 [] [0, 1, 2, 3, 4, 5] rfl rfl ?_
  refine g_is1 (ws2 := [(c0, oB 11 [.ref r0, .ref h0, .ref s0, .ref g0, .ref ka, .ref n1, .ref n2, .ref n3, .ref ea, .ref t0, .ref u0, .int (nI nt), .long tr]), (h0, oB 8 [.ref h1]), (h1, iA E 50 f), (s0, oB 9 [.ref s1, .ref s2, .ref s3, .int (nI und), .int (nI top)]), (s2, iA E 100 im), (s3, zA E 2 kp)]) (st2 := [.int (bI (zo x))]) [0, 1, 2, 3, 4, 5] rfl rfl rfl ?_
  refine g_if_neB C 9 dX11_keep_4 (by decide) (fun cq1 => ?_) (fun cq1 => ?_)
  · obtain ⟨j, hj_j, rfl⟩ : ∃ j, j < 2 ∧ x = nI j := by rcases cq1 with h | h; (exact ⟨0, by decide, h⟩); (exact ⟨1, by decide, h⟩)
    have hcl_j : (nI j).toNatClampNeg = j := nI_clamp (by omega)
    refine g_aload_n C dX11_keep_9 rfl 0 rfl ?_
    refine g_get C i11 0 rfl rfl 2 (by decide) (List.mem_of_getElem? (i := 1) rfl) rfl rfl dX11_keep_10 ?_
    refine g_iload_n C dX11_keep_13 rfl 1 rfl ?_
    refine g_aload_n C dX11_keep_14 rfl 0 rfl ?_
    refine g_get C i11 0 rfl rfl 1 (by decide) (List.mem_of_getElem? (i := 2) rfl) rfl rfl dX11_keep_15 ?_
    refine g_callV C (rest := []) (n := 2) (kX9_keepImage l E s0 s1 s2 s3 und top im kp h0 h1 f j (by omega)) gX11_keep_X9_keepImage rfl ⟨rfl, rfl⟩ (by decide) (Nat.le_of_ble_eq_true rfl) rfl (by decide +kernel) rfl dX11_keep_18 0 rfl rfl [3, 4, 5, 1, 2] [0] rfl rfl ?_
    refine g_is1 (ws2 := [(c0, oB 11 [.ref r0, .ref h0, .ref s0, .ref g0, .ref ka, .ref n1, .ref n2, .ref n3, .ref ea, .ref t0, .ref u0, .int (nI nt), .long tr]), (h0, oB 8 [.ref h1]), (h1, iA E 50 f), (s0, oB 9 [.ref s1, .ref s2, .ref s3, .int (nI und), .int (nI top)]), (s2, iA E 100 (va_cpy f im 0 (j * 50) 50)), (s3, zA E 2 (upd kp j (nI 1)))]) (st2 := []) [0, 4, 5, 1, 2, 3] rfl rfl rfl ?_
    refine g_aload_n C dX11_keep_21 rfl 0 rfl ?_
    refine g_get C i11 0 rfl rfl 1 (by decide) (List.mem_of_getElem? (i := 2) rfl) rfl rfl dX11_keep_22 ?_
    refine g_callV C (rest := []) (n := 0) (kX8_nightNumber l E h0 h1 f ) gX11_keep_X8_nightNumber rfl ⟨rfl, rfl⟩ (by decide) (Nat.le_of_ble_eq_true rfl) rfl (by decide +kernel) rfl dX11_keep_25 0 rfl rfl [1, 2] [0, 3, 4, 5] rfl rfl ?_
    refine g_is1 (ws2 := [(c0, oB 11 [.ref r0, .ref h0, .ref s0, .ref g0, .ref ka, .ref n1, .ref n2, .ref n3, .ref ea, .ref t0, .ref u0, .int (nI nt), .long tr]), (h0, oB 8 [.ref h1]), (h1, iA E 50 f), (s0, oB 9 [.ref s1, .ref s2, .ref s3, .int (nI und), .int (nI top)]), (s2, iA E 100 (va_cpy f im 0 (j * 50) 50)), (s3, zA E 2 (upd kp j (nI 1)))]) (st2 := [.int (f 49)]) [0, 4, 5, 1, 2, 3] rfl rfl rfl ?_
    exact g_iret C X dX11_keep_28 (⟨by rw [if_pos cq1], by rw [if_pos cq1, if_pos cq1, hcl_j]⟩)
  · refine g_iconst C ((-1)) dX11_keep_7 (by decide) ?_
    exact g_iret C X dX11_keep_8 (⟨by rw [if_neg cq1], by rw [if_neg cq1, if_neg cq1]⟩)

set_option maxHeartbeats 4000000 in
set_option maxRecDepth 100000 in
theorem kX11_back (l : Launch) (E : EX) (c0 r0 h0 s0 g0 ka n1 n2 n3 ea t0 u0 nt : Nat) (tr : Int64) (h1 : Nat) (f : Nat → Int32) (s1 s2 s3 und top : Nat) (im kp : Nat → Int32) (x : Int32)  : M l E yX11_back wsX11_back { frames := 2, cells := 0, slots := 0, locals := 40 } 0 0 [.ref c0, .int x] [(c0, oB 11 [.ref r0, .ref h0, .ref s0, .ref g0, .ref ka, .ref n1, .ref n2, .ref n3, .ref ea, .ref t0, .ref u0, .int (nI nt), .long tr]), (h0, oB 8 [.ref h1]), (h1, iA E 50 f), (s0, oB 9 [.ref s1, .ref s2, .ref s3, .int (nI und), .int (nI top)]), (s2, iA E 100 im), (s3, zA E 2 kp)] (is1 (some (.int (if zo x then (if kp x.toNatClampNeg = 0 then (-2) else va_cpy im f (x.toNatClampNeg * 50) 0 50 49) else (-1)))) [(c0, oB 11 [.ref r0, .ref h0, .ref s0, .ref g0, .ref ka, .ref n1, .ref n2, .ref n3, .ref ea, .ref t0, .ref u0, .int (nI nt), .long tr]), (h0, oB 8 [.ref h1]), (h1, iA E 50 (if zo x ∧ ¬ kp x.toNatClampNeg = 0 then va_cpy im f (x.toNatClampNeg * 50) 0 50 else f)), (s0, oB 9 [.ref s1, .ref s2, .ref s3, .int (nI (if zo x ∧ ¬ kp x.toNatClampNeg = 0 then 0 else und)), .int (nI top)]), (s2, iA E 100 im), (s3, zA E 2 kp)]) := by
  refine M.ofG (cc := cX11_back) (maxL := 2) (ret := (some .int)) (lv := [(0, .ref c0), (1, .int x)]) (own := RX11) (by decide) rfl rfl (Nat.le_of_ble_eq_true rfl) rfl ?_
  intro K C X _
  have i11 : ∀ w ∈ wsX110, w ∈ wsX11_back := by decide +kernel
  refine g_iload_n C dX11_back_0 rfl 1 rfl ?_
  refine g_callS C (rest := []) (n := 1) (kX11_isZeroOrOne l E x ) gX11_back_X11_isZeroOrOne rfl ⟨rfl, rfl⟩ (by decide) (Nat.le_of_ble_eq_true rfl) rfl (by decide +kernel) rfl dX11_back_1 [] [0, 1, 2, 3, 4, 5] rfl rfl ?_
  refine g_is1 (ws2 := [(c0, oB 11 [.ref r0, .ref h0, .ref s0, .ref g0, .ref ka, .ref n1, .ref n2, .ref n3, .ref ea, .ref t0, .ref u0, .int (nI nt), .long tr]), (h0, oB 8 [.ref h1]), (h1, iA E 50 f), (s0, oB 9 [.ref s1, .ref s2, .ref s3, .int (nI und), .int (nI top)]), (s2, iA E 100 im), (s3, zA E 2 kp)]) (st2 := [.int (bI (zo x))]) [0, 1, 2, 3, 4, 5] rfl rfl rfl ?_
  refine g_if_neB C 9 dX11_back_4 (by decide) (fun cq1 => ?_) (fun cq1 => ?_)
  · obtain ⟨j, hj_j, rfl⟩ : ∃ j, j < 2 ∧ x = nI j := by rcases cq1 with h | h; (exact ⟨0, by decide, h⟩); (exact ⟨1, by decide, h⟩)
    have hcl_j : (nI j).toNatClampNeg = j := nI_clamp (by omega)
    refine g_aload_n C dX11_back_9 rfl 0 rfl ?_
    refine g_get C i11 0 rfl rfl 2 (by decide) (List.mem_of_getElem? (i := 1) rfl) rfl rfl dX11_back_10 ?_
    refine g_iload_n C dX11_back_13 rfl 1 rfl ?_
    refine g_aload_n C dX11_back_14 rfl 0 rfl ?_
    refine g_get C i11 0 rfl rfl 1 (by decide) (List.mem_of_getElem? (i := 2) rfl) rfl rfl dX11_back_15 ?_
    refine g_callV C (rest := []) (n := 2) (kX9_restoreImage l E s0 s1 s2 s3 und top im kp h0 h1 f j (by omega)) gX11_back_X9_restoreImage rfl ⟨rfl, rfl⟩ (by decide) (Nat.le_of_ble_eq_true rfl) rfl (by decide +kernel) rfl dX11_back_18 0 rfl rfl [3, 4, 5, 1, 2] [0] rfl rfl ?_
    refine g_is1 (ws2 := [(c0, oB 11 [.ref r0, .ref h0, .ref s0, .ref g0, .ref ka, .ref n1, .ref n2, .ref n3, .ref ea, .ref t0, .ref u0, .int (nI nt), .long tr]), (h0, oB 8 [.ref h1]), (h1, iA E 50 (if kp j = 0 then f else va_cpy im f (j * 50) 0 50)), (s0, oB 9 [.ref s1, .ref s2, .ref s3, .int (nI (if kp j = 0 then und else 0)), .int (nI top)]), (s2, iA E 100 im), (s3, zA E 2 kp)]) (st2 := [.int (bI (¬ kp j = 0))]) [0, 4, 5, 1, 2, 3] rfl rfl rfl ?_
    refine g_if_eqB C 34 dX11_back_21 (by decide) (fun cq2 => ?_) (fun cq2 => ?_)
    · have hz : kp j = 0 := Decidable.not_not.mp cq2
      refine g_bipush C ((-2)) dX11_back_34 (by decide) ?_
      exact g_iret C X dX11_back_36 (⟨by rw [if_pos cq1, hcl_j]; first | (rw [if_neg cq2, if_neg cq2]; done) | (rw [if_pos hz]; done), by rw [hcl_j]; first | (rw [if_neg cq2, if_neg cq2, if_pos ⟨cq1, cq2⟩, if_pos ⟨cq1, cq2⟩]; done) | (rw [if_pos hz, if_pos hz, if_neg (fun w => w.2 hz), if_neg (fun w => w.2 hz)]; done)⟩)
    · refine g_aload_n C dX11_back_24 rfl 0 rfl ?_
      refine g_get C i11 0 rfl rfl 1 (by decide) (List.mem_of_getElem? (i := 2) rfl) rfl rfl dX11_back_25 ?_
      refine g_callV C (rest := []) (n := 0) (kX8_nightNumber l E h0 h1 (if kp j = 0 then f else va_cpy im f (j * 50) 0 50) ) gX11_back_X8_nightNumber rfl ⟨rfl, rfl⟩ (by decide) (Nat.le_of_ble_eq_true rfl) rfl (by decide +kernel) rfl dX11_back_28 0 rfl rfl [1, 2] [0, 3, 4, 5] rfl rfl ?_
      refine g_is1 (ws2 := [(c0, oB 11 [.ref r0, .ref h0, .ref s0, .ref g0, .ref ka, .ref n1, .ref n2, .ref n3, .ref ea, .ref t0, .ref u0, .int (nI nt), .long tr]), (h0, oB 8 [.ref h1]), (h1, iA E 50 (if kp j = 0 then f else va_cpy im f (j * 50) 0 50)), (s0, oB 9 [.ref s1, .ref s2, .ref s3, .int (nI (if kp j = 0 then und else 0)), .int (nI top)]), (s2, iA E 100 im), (s3, zA E 2 kp)]) (st2 := [.int ((if kp j = 0 then f else va_cpy im f (j * 50) 0 50) 49)]) [0, 4, 5, 1, 2, 3] rfl rfl rfl ?_
      refine g_goto C 36 dX11_back_31 (by decide) ?_
      exact g_iret C X dX11_back_36 (⟨by rw [if_pos cq1, hcl_j]; first | (rw [if_neg cq2, if_neg cq2]; done) | (rw [if_pos hz]; done), by rw [hcl_j]; first | (rw [if_neg cq2, if_neg cq2, if_pos ⟨cq1, cq2⟩, if_pos ⟨cq1, cq2⟩]; done) | (rw [if_pos hz, if_pos hz, if_neg (fun w => w.2 hz), if_neg (fun w => w.2 hz)]; done)⟩)
  · refine g_iconst C ((-1)) dX11_back_7 (by decide) ?_
    exact g_iret C X dX11_back_8 (⟨by rw [if_neg cq1], by rw [if_neg (fun w => cq1 w.1), if_neg (fun w => cq1 w.1)]⟩)

set_option maxHeartbeats 4000000 in
set_option maxRecDepth 100000 in
theorem kX11_count (l : Launch) (E : EX) (c0 r0 h0 s0 g0 ka n1 n2 n3 ea t0 u0 nt : Nat) (tr : Int64) (t1 t2 t3 : Nat) (T : TS) (r1 n : Nat) (tx : Nat → Int32) (R : RS) (what : Int32)  : M l E yX11_count wsX11_count { frames := 0, cells := 0, slots := 0, locals := 0 } 0 0 [.ref c0, .int what] [(c0, oB 11 [.ref r0, .ref h0, .ref s0, .ref g0, .ref ka, .ref n1, .ref n2, .ref n3, .ref ea, .ref t0, .ref u0, .int (nI nt), .long tr]), (t0, oB 10 [.ref t1, .ref t2, .ref t3, .int (nI T.1), .int (nI T.2.1)]), (r0, oB 7 [.ref r1, .int (nI n), .int (nI R.1), .int R.2.1, .int (nI R.2.2.1), .int R.2.2.2])] (is1 (some (.int (cntS T nt n what))) [(c0, oB 11 [.ref r0, .ref h0, .ref s0, .ref g0, .ref ka, .ref n1, .ref n2, .ref n3, .ref ea, .ref t0, .ref u0, .int (nI nt), .long tr]), (t0, oB 10 [.ref t1, .ref t2, .ref t3, .int (nI T.1), .int (nI T.2.1)]), (r0, oB 7 [.ref r1, .int (nI n), .int (nI R.1), .int R.2.1, .int (nI R.2.2.1), .int R.2.2.2])]) := by
  refine M.ofG (cc := cX11_count) (maxL := 2) (ret := (some .int)) (lv := [(0, .ref c0), (1, .int what)]) (own := RX11) (by decide) rfl rfl (Nat.le_of_ble_eq_true rfl) rfl ?_
  intro K C X _
  have i7 : ∀ w ∈ wsX70, w ∈ wsX11_count := by decide +kernel
  have i10 : ∀ w ∈ wsX100, w ∈ wsX11_count := by decide +kernel
  have i11 : ∀ w ∈ wsX110, w ∈ wsX11_count := by decide +kernel
  refine g_iload_n C dX11_count_0 rfl 1 rfl ?_
  by_cases cq1 : what = nI 0
  · refine g_tableIn C 32 dX11_count_1 (by rw [cq1]; decide) (by rw [cq1]; decide) (off := 31) (by rw [cq1]; rfl) (by decide) ?_
    refine g_aload_n C dX11_count_32 rfl 0 rfl ?_
    refine g_get C i11 0 rfl rfl 9 (by decide) (List.mem_of_getElem? (i := 1) rfl) rfl rfl dX11_count_33 ?_
    refine g_get C i10 1 rfl rfl 3 (by decide) (List.mem_of_getElem? (i := 2) rfl) rfl rfl dX11_count_36 ?_
    exact g_iret C X dX11_count_39 (⟨by unfold cntS; rw [if_pos cq1], rfl⟩)
  by_cases cq2 : what = nI 1
  · refine g_tableIn C 40 dX11_count_1 (by rw [cq2]; decide) (by rw [cq2]; decide) (off := 39) (by rw [cq2]; rfl) (by decide) ?_
    refine g_aload_n C dX11_count_40 rfl 0 rfl ?_
    refine g_get C i11 0 rfl rfl 9 (by decide) (List.mem_of_getElem? (i := 1) rfl) rfl rfl dX11_count_41 ?_
    refine g_get C i10 1 rfl rfl 4 (by decide) (List.mem_of_getElem? (i := 3) rfl) rfl rfl dX11_count_44 ?_
    exact g_iret C X dX11_count_47 (⟨by unfold cntS; rw [if_neg cq1, if_pos cq2], rfl⟩)
  by_cases cq3 : what = nI 2
  · refine g_tableIn C 48 dX11_count_1 (by rw [cq3]; decide) (by rw [cq3]; decide) (off := 47) (by rw [cq3]; rfl) (by decide) ?_
    refine g_aload_n C dX11_count_48 rfl 0 rfl ?_
    refine g_get C i11 0 rfl rfl 11 (by decide) (List.mem_of_getElem? (i := 4) rfl) rfl rfl dX11_count_49 ?_
    exact g_iret C X dX11_count_52 (⟨by unfold cntS; rw [if_neg cq1, if_neg cq2, if_pos cq3], rfl⟩)
  by_cases cq4 : what = nI 3
  · refine g_tableIn C 53 dX11_count_1 (by rw [cq4]; decide) (by rw [cq4]; decide) (off := 52) (by rw [cq4]; rfl) (by decide) ?_
    refine g_aload_n C dX11_count_53 rfl 0 rfl ?_
    refine g_get C i11 0 rfl rfl 0 (by decide) (List.mem_of_getElem? (i := 5) rfl) rfl rfl dX11_count_54 ?_
    refine g_get C i7 2 rfl rfl 1 (by decide) (List.mem_of_getElem? (i := 6) rfl) rfl rfl dX11_count_57 ?_
    exact g_iret C X dX11_count_60 (⟨by unfold cntS; rw [if_neg cq1, if_neg cq2, if_neg cq3, if_pos cq4], rfl⟩)
  refine g_tableOut C 61 dX11_count_1 (ts_out4 cq1 cq2 cq3 cq4) (by decide) ?_
  refine g_iconst C ((-1)) dX11_count_61 (by decide) ?_
  exact g_iret C X dX11_count_62 (⟨by unfold cntS; rw [if_neg cq1, if_neg cq2, if_neg cq3, if_neg cq4], rfl⟩)

set_option maxHeartbeats 4000000 in
set_option maxRecDepth 100000 in
theorem kX11_trace (l : Launch) (E : EX) (c0 r0 h0 s0 g0 ka n1 n2 n3 ea t0 u0 nt : Nat) (tr : Int64)  : M l E yX11_trace wsX11_trace { frames := 0, cells := 0, slots := 0, locals := 0 } 0 0 [.ref c0] [(c0, oB 11 [.ref r0, .ref h0, .ref s0, .ref g0, .ref ka, .ref n1, .ref n2, .ref n3, .ref ea, .ref t0, .ref u0, .int (nI nt), .long tr])] (is1 (some (.long tr)) [(c0, oB 11 [.ref r0, .ref h0, .ref s0, .ref g0, .ref ka, .ref n1, .ref n2, .ref n3, .ref ea, .ref t0, .ref u0, .int (nI nt), .long tr])]) := by
  refine M.ofG (cc := cX11_trace) (maxL := 1) (ret := (some .long)) (lv := [(0, .ref c0)]) (own := RX11) (by decide) rfl rfl (Nat.le_of_ble_eq_true rfl) rfl ?_
  intro K C X _
  have i11 : ∀ w ∈ wsX110, w ∈ wsX11_trace := by decide +kernel
  refine g_aload_n C dX11_trace_0 rfl 0 rfl ?_
  refine g_get C i11 0 rfl rfl 12 (by decide) (List.mem_of_getElem? (i := 1) rfl) rfl rfl dX11_trace_1 ?_
  exact g_lret C X dX11_trace_4 (⟨rfl, rfl⟩)

set_option maxHeartbeats 4000000 in
set_option maxRecDepth 100000 in
theorem kX11_forget (l : Launch) (E : EX) (c0 r0 h0 s0 g0 ka n1 n2 n3 ea t0 u0 nt : Nat) (tr : Int64)  : M l E yX11_forget wsX11_forget { frames := 0, cells := 0, slots := 0, locals := 0 } 0 0 [.ref c0] [(c0, oB 11 [.ref r0, .ref h0, .ref s0, .ref g0, .ref ka, .ref n1, .ref n2, .ref n3, .ref ea, .ref t0, .ref u0, .int (nI nt), .long tr])] (is1 (some (.int (nI nt))) [(c0, oB 11 [.ref r0, .ref h0, .ref s0, .ref g0, .ref ka, .ref n1, .ref n2, .ref n3, .ref ea, .ref t0, .ref u0, .int (nI 0), .long tr])]) := by
  refine M.ofG (cc := cX11_forget) (maxL := 2) (ret := (some .int)) (lv := [(0, .ref c0)]) (own := RX11) (by decide) rfl rfl (Nat.le_of_ble_eq_true rfl) rfl ?_
  intro K C X _
  have i11 : ∀ w ∈ wsX110, w ∈ wsX11_forget := by decide +kernel
  refine g_aload_n C dX11_forget_0 rfl 0 rfl ?_
  refine g_get C i11 0 rfl rfl 11 (by decide) (List.mem_of_getElem? (i := 1) rfl) rfl rfl dX11_forget_1 ?_
  refine g_istore_n C (lv' := [(1, .int (nI nt)), (0, .ref c0)]) dX11_forget_4 rfl (by decide) rfl ?_
  refine g_aload_n C dX11_forget_5 rfl 1 rfl ?_
  refine g_iconst C (nI 0) dX11_forget_6 (by decide) ?_
  refine g_put C i11 tyX11 tyX11_ok nmX11 0 rfl rfl 11 (by decide) (List.mem_of_getElem? (i := 1) rfl) rfl rfl rfl rfl rfl (Nat.le_of_ble_eq_true rfl) dX11_forget_7 (ws' := [(c0, oB 11 [.ref r0, .ref h0, .ref s0, .ref g0, .ref ka, .ref n1, .ref n2, .ref n3, .ref ea, .ref t0, .ref u0, .int (nI 0), .long tr])]) rfl ?_
  refine g_iload_n C dX11_forget_10 rfl 0 rfl ?_
  exact g_iret C X dX11_forget_11 (⟨rfl, rfl⟩)

abbrev ntO (m nt : Nat) (q t x : Int32) : Prop := inR q m ∧ inR t 7 ∧ zo x ∧ nt < 5
def ntS (m nt : Nat) (q t x : Int32) : Int32 := if inR q m ∧ inR t 7 ∧ zo x then (if nt < 5 then nI (nt + 1) else (-3)) else (-1)

set_option maxHeartbeats 4000000 in
set_option maxRecDepth 100000 in
theorem kX11_notes (l : Launch) (E : EX) (c0 r0 h0 s0 g0 ka n1 n2 n3 ea t0 u0 nt : Nat) (tr : Int64) (t1 t2 t3 : Nat) (T : TS) (a1 a2 a3 : Nat → Int32) (q t x : Int32) (hnt : nt ≤ 5) : M l E yX11_notes wsX11_notes { frames := 1, cells := 0, slots := 0, locals := 21 } 0 0 [.ref c0, .int q, .int t, .int x] [(c0, oB 11 [.ref r0, .ref h0, .ref s0, .ref g0, .ref ka, .ref n1, .ref n2, .ref n3, .ref ea, .ref t0, .ref u0, .int (nI nt), .long tr]), (t0, oB 10 [.ref t1, .ref t2, .ref t3, .int (nI T.1), .int (nI T.2.1)]), (n1, iA E 5 a1), (n2, iA E 5 a2), (n3, iA E 5 a3)] (is1 (some (.int (ntS T.2.1 nt q t x))) [(c0, oB 11 [.ref r0, .ref h0, .ref s0, .ref g0, .ref ka, .ref n1, .ref n2, .ref n3, .ref ea, .ref t0, .ref u0, .int (nI (if ntO T.2.1 nt q t x then nt + 1 else nt)), .long tr]), (t0, oB 10 [.ref t1, .ref t2, .ref t3, .int (nI T.1), .int (nI T.2.1)]), (n1, iA E 5 (if ntO T.2.1 nt q t x then upd a1 nt q else a1)), (n2, iA E 5 (if ntO T.2.1 nt q t x then upd a2 nt t else a2)), (n3, iA E 5 (if ntO T.2.1 nt q t x then upd a3 nt x else a3))]) := by
  refine M.ofG (cc := cX11_notes) (maxL := 4) (ret := (some .int)) (lv := [(0, .ref c0), (1, .int q), (2, .int t), (3, .int x)]) (own := RX11) (by decide) rfl rfl (Nat.le_of_ble_eq_true rfl) rfl ?_
  intro K C X _
  have i11 : ∀ w ∈ wsX110, w ∈ wsX11_notes := by decide +kernel
  refine g_aload_n C dX11_notes_0 rfl 0 rfl ?_
  refine g_get C i11 0 rfl rfl 9 (by decide) (List.mem_of_getElem? (i := 1) rfl) rfl rfl dX11_notes_1 ?_
  refine g_iload_n C dX11_notes_4 rfl 1 rfl ?_
  refine g_callV C (rest := []) (n := 1) (kX10_hasPillow l E t0 t1 t2 t3 T.1 T.2.1 q ) gX11_notes_X10_hasPillow rfl ⟨rfl, rfl⟩ (by decide) (Nat.le_of_ble_eq_true rfl) rfl (by decide +kernel) rfl dX11_notes_5 0 rfl rfl [1] [0, 2, 3, 4] rfl rfl ?_
  refine g_is1 (ws2 := [(c0, oB 11 [.ref r0, .ref h0, .ref s0, .ref g0, .ref ka, .ref n1, .ref n2, .ref n3, .ref ea, .ref t0, .ref u0, .int (nI nt), .long tr]), (t0, oB 10 [.ref t1, .ref t2, .ref t3, .int (nI T.1), .int (nI T.2.1)]), (n1, iA E 5 a1), (n2, iA E 5 a2), (n3, iA E 5 a3)]) (st2 := [.int (bI (inR q T.2.1))]) [0, 4, 1, 2, 3] rfl rfl rfl ?_
  refine g_if_eqB C 25 dX11_notes_8 (by decide) (fun cq1 => ?_) (fun cq1 => ?_)
  · have hno : ¬ (inR q T.2.1 ∧ inR t 7 ∧ zo x) := fun w => cq1 w.1
    refine g_iconst C ((-1)) dX11_notes_25 (by decide) ?_
    exact g_iret C X dX11_notes_26 (⟨by unfold ntS; rw [if_neg hno], by rw [if_neg (fun w => hno ⟨w.1, w.2.1, w.2.2.1⟩), if_neg (fun w => hno ⟨w.1, w.2.1, w.2.2.1⟩), if_neg (fun w => hno ⟨w.1, w.2.1, w.2.2.1⟩), if_neg (fun w => hno ⟨w.1, w.2.1, w.2.2.1⟩)]⟩)
  · refine g_iload_n C dX11_notes_11 rfl 2 rfl ?_
    refine g_callS C (rest := []) (n := 1) (kX11_isThing l E t ) gX11_notes_X11_isThing rfl ⟨rfl, rfl⟩ (by decide) (Nat.le_of_ble_eq_true rfl) rfl (by decide +kernel) rfl dX11_notes_12 [] [0, 1, 2, 3, 4] rfl rfl ?_
    refine g_is1 (ws2 := [(c0, oB 11 [.ref r0, .ref h0, .ref s0, .ref g0, .ref ka, .ref n1, .ref n2, .ref n3, .ref ea, .ref t0, .ref u0, .int (nI nt), .long tr]), (t0, oB 10 [.ref t1, .ref t2, .ref t3, .int (nI T.1), .int (nI T.2.1)]), (n1, iA E 5 a1), (n2, iA E 5 a2), (n3, iA E 5 a3)]) (st2 := [.int (bI (inR t 7))]) [0, 1, 2, 3, 4] rfl rfl rfl ?_
    refine g_if_eqB C 25 dX11_notes_15 (by decide) (fun cq2 => ?_) (fun cq2 => ?_)
    · have hno : ¬ (inR q T.2.1 ∧ inR t 7 ∧ zo x) := fun w => cq2 w.2.1
      refine g_iconst C ((-1)) dX11_notes_25 (by decide) ?_
      exact g_iret C X dX11_notes_26 (⟨by unfold ntS; rw [if_neg hno], by rw [if_neg (fun w => hno ⟨w.1, w.2.1, w.2.2.1⟩), if_neg (fun w => hno ⟨w.1, w.2.1, w.2.2.1⟩), if_neg (fun w => hno ⟨w.1, w.2.1, w.2.2.1⟩), if_neg (fun w => hno ⟨w.1, w.2.1, w.2.2.1⟩)]⟩)
    · refine g_iload_n C dX11_notes_18 rfl 3 rfl ?_
      refine g_callS C (rest := []) (n := 1) (kX11_isZeroOrOne l E x ) gX11_notes_X11_isZeroOrOne rfl ⟨rfl, rfl⟩ (by decide) (Nat.le_of_ble_eq_true rfl) rfl (by decide +kernel) rfl dX11_notes_19 [] [0, 1, 2, 3, 4] rfl rfl ?_
      refine g_is1 (ws2 := [(c0, oB 11 [.ref r0, .ref h0, .ref s0, .ref g0, .ref ka, .ref n1, .ref n2, .ref n3, .ref ea, .ref t0, .ref u0, .int (nI nt), .long tr]), (t0, oB 10 [.ref t1, .ref t2, .ref t3, .int (nI T.1), .int (nI T.2.1)]), (n1, iA E 5 a1), (n2, iA E 5 a2), (n3, iA E 5 a3)]) (st2 := [.int (bI (zo x))]) [0, 1, 2, 3, 4] rfl rfl rfl ?_
      refine g_if_neB C 27 dX11_notes_22 (by decide) (fun cq3 => ?_) (fun cq3 => ?_)
      · have hy : inR q T.2.1 ∧ inR t 7 ∧ zo x := ⟨cq1, cq2, cq3⟩
        refine g_aload_n C dX11_notes_27 rfl 0 rfl ?_
        refine g_get C i11 0 rfl rfl 11 (by decide) (List.mem_of_getElem? (i := 2) rfl) rfl rfl dX11_notes_28 ?_
        refine g_iconst C (nI 5) dX11_notes_31 (by decide) ?_
        refine g_icmp_ltN C 38 dX11_notes_32 (by decide) (by omega) (by omega) (fun cq4 => ?_) (fun cq4 => ?_)
        · refine g_aload_n C dX11_notes_38 rfl 0 rfl ?_
          refine g_get C i11 0 rfl rfl 5 (by decide) (List.mem_of_getElem? (i := 3) rfl) rfl rfl dX11_notes_39 ?_
          refine g_aload_n C dX11_notes_42 rfl 0 rfl ?_
          refine g_get C i11 0 rfl rfl 11 (by decide) (List.mem_of_getElem? (i := 2) rfl) rfl rfl dX11_notes_43 ?_
          refine g_iload_n C dX11_notes_46 rfl 1 rfl ?_
          refine g_iast C (ws' := fun fq5 => [(c0, oB 11 [.ref r0, .ref h0, .ref s0, .ref g0, .ref ka, .ref n1, .ref n2, .ref n3, .ref ea, .ref t0, .ref u0, .int (nI nt), .long tr]), (t0, oB 10 [.ref t1, .ref t2, .ref t3, .int (nI T.1), .int (nI T.2.1)]), (n1, iA E 5 fq5), (n2, iA E 5 a2), (n3, iA E 5 a3)]) 2 rfl (by omega) (by decide) dX11_notes_47 (fun _ _ => rfl) (fun fq5 efq5 => ?_)
          refine g_aload_n C dX11_notes_48 rfl 0 rfl ?_
          refine g_get C i11 0 rfl rfl 6 (by decide) (List.mem_of_getElem? (i := 4) rfl) rfl rfl dX11_notes_49 ?_
          refine g_aload_n C dX11_notes_52 rfl 0 rfl ?_
          refine g_get C i11 0 rfl rfl 11 (by decide) (List.mem_of_getElem? (i := 2) rfl) rfl rfl dX11_notes_53 ?_
          refine g_iload_n C dX11_notes_56 rfl 2 rfl ?_
          refine g_iast C (ws' := fun fq6 => [(c0, oB 11 [.ref r0, .ref h0, .ref s0, .ref g0, .ref ka, .ref n1, .ref n2, .ref n3, .ref ea, .ref t0, .ref u0, .int (nI nt), .long tr]), (t0, oB 10 [.ref t1, .ref t2, .ref t3, .int (nI T.1), .int (nI T.2.1)]), (n1, iA E 5 fq5), (n2, iA E 5 fq6), (n3, iA E 5 a3)]) 3 rfl (by omega) (by decide) dX11_notes_57 (fun _ _ => rfl) (fun fq6 efq6 => ?_)
          refine g_aload_n C dX11_notes_58 rfl 0 rfl ?_
          refine g_get C i11 0 rfl rfl 7 (by decide) (List.mem_of_getElem? (i := 5) rfl) rfl rfl dX11_notes_59 ?_
          refine g_aload_n C dX11_notes_62 rfl 0 rfl ?_
          refine g_get C i11 0 rfl rfl 11 (by decide) (List.mem_of_getElem? (i := 2) rfl) rfl rfl dX11_notes_63 ?_
          refine g_iload_n C dX11_notes_66 rfl 3 rfl ?_
          refine g_iast C (ws' := fun fq7 => [(c0, oB 11 [.ref r0, .ref h0, .ref s0, .ref g0, .ref ka, .ref n1, .ref n2, .ref n3, .ref ea, .ref t0, .ref u0, .int (nI nt), .long tr]), (t0, oB 10 [.ref t1, .ref t2, .ref t3, .int (nI T.1), .int (nI T.2.1)]), (n1, iA E 5 fq5), (n2, iA E 5 fq6), (n3, iA E 5 fq7)]) 4 rfl (by omega) (by decide) dX11_notes_67 (fun _ _ => rfl) (fun fq7 efq7 => ?_)
          refine g_aload_n C dX11_notes_68 rfl 0 rfl ?_
          refine g_dup C dX11_notes_69 rfl ?_
          refine g_get C i11 0 rfl rfl 11 (by decide) (List.mem_of_getElem? (i := 2) rfl) rfl rfl dX11_notes_70 ?_
          refine g_iconst C (nI 1) dX11_notes_73 (by decide) ?_
          refine g_iaddN C dX11_notes_74 ?_
          refine g_put C i11 tyX11 tyX11_ok nmX11 0 rfl rfl 11 (by decide) (List.mem_of_getElem? (i := 2) rfl) rfl rfl rfl rfl rfl (Nat.le_of_ble_eq_true rfl) dX11_notes_75 (ws' := [(c0, oB 11 [.ref r0, .ref h0, .ref s0, .ref g0, .ref ka, .ref n1, .ref n2, .ref n3, .ref ea, .ref t0, .ref u0, .int (nI (nt + 1)), .long tr]), (t0, oB 10 [.ref t1, .ref t2, .ref t3, .int (nI T.1), .int (nI T.2.1)]), (n1, iA E 5 fq5), (n2, iA E 5 fq6), (n3, iA E 5 fq7)]) rfl ?_
          refine g_aload_n C dX11_notes_78 rfl 0 rfl ?_
          refine g_get C i11 0 rfl rfl 11 (by decide) (List.mem_of_getElem? (i := 2) rfl) rfl rfl dX11_notes_79 ?_
          exact g_iret C X dX11_notes_82 (⟨by unfold ntS; rw [if_pos hy, if_pos (by omega)], by rw [if_pos (⟨hy.1, hy.2.1, hy.2.2, by omega⟩), if_pos (⟨hy.1, hy.2.1, hy.2.2, by omega⟩), if_pos (⟨hy.1, hy.2.1, hy.2.2, by omega⟩), if_pos (⟨hy.1, hy.2.1, hy.2.2, by omega⟩)]; rw [efq5, efq6, efq7]⟩)
        · refine g_bipush C ((-3)) dX11_notes_35 (by decide) ?_
          exact g_iret C X dX11_notes_37 (⟨by unfold ntS; rw [if_pos hy, if_neg (by omega)], by rw [if_neg (fun w => absurd w.2.2.2 (by omega)), if_neg (fun w => absurd w.2.2.2 (by omega)), if_neg (fun w => absurd w.2.2.2 (by omega)), if_neg (fun w => absurd w.2.2.2 (by omega))]⟩)
      · have hno : ¬ (inR q T.2.1 ∧ inR t 7 ∧ zo x) := fun w => cq3 w.2.2
        refine g_iconst C ((-1)) dX11_notes_25 (by decide) ?_
        exact g_iret C X dX11_notes_26 (⟨by unfold ntS; rw [if_neg hno], by rw [if_neg (fun w => hno ⟨w.1, w.2.1, w.2.2.1⟩), if_neg (fun w => hno ⟨w.1, w.2.1, w.2.2.1⟩), if_neg (fun w => hno ⟨w.1, w.2.1, w.2.2.1⟩), if_neg (fun w => hno ⟨w.1, w.2.1, w.2.2.1⟩)]⟩)
