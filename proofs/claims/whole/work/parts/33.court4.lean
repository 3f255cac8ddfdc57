/-! PillowCourt: nights ahead, odds, kinds, the court read anew -/
def earS (T : TS) (f : Nat → Int32) (z : Nat) (e : Nat → Int32) : Nat → Nat → Int32
  | 0 => e
  | k + 1 => lstS T.2.2.1 T.2.2.2.1 f (nI ((z + k) % 10000)) (f 49 + nI k) (earS T f z e k) T.1
def inS (T : TS) (f : Nat → Int32) (z q : Nat) : Nat → Int32
  | 0 => thOn f q 7
  | k + 1 => inS T f z q k ||| lstS T.2.2.1 T.2.2.2.1 f (nI ((z + k) % 10000)) (f 49 + nI k) (fun _ => nI 0) T.1 q
theorem lstS_e (kn ta f : Nat → Int32) (z nt : Int32) (e e' : Nat → Int32) : ∀ (k q : Nat), q < 6 → lstS kn ta f z nt e k q = lstS kn ta f z nt e' k q
  | 0, q, h => by show filA e (nI 0) 6 q = filA e' (nI 0) 6 q; unfold filA; rw [if_pos h, if_pos h]
  | k + 1, q, h => by
    have ih := lstS_e kn ta f z nt e e' k
    rw [lstS, lstS]
    by_cases h1 : inR (f (42 + k)) 6 ∧ ¬ sayS kn ta k z nt < 0
    · rw [if_pos h1, if_pos h1]
      obtain ⟨b, hb, e1⟩ := inR_of (by decide) h1.1
      rw [e1, nI_clamp (by omega)]
      unfold upd
      by_cases h2 : q = b
      · rw [if_pos h2, if_pos h2, ih b hb]
      · rw [if_neg h2, if_neg h2]; exact ih q h
    · rw [if_neg h1, if_neg h1]; exact ih q h
abbrev inO (m : Nat) (z n q : Int32) : Prop := inR z 10000 ∧ ¬ n < 0 ∧ ¬ nI 20 < n ∧ inR q m
def inNS (T : TS) (f : Nat → Int32) (z n q : Int32) : Int32 := if inO T.2.1 z n q then inS T f z.toNatClampNeg q.toNatClampNeg n.toNatClampNeg else (-1)
def whE (T : TS) (f e : Nat → Int32) : Nat → Nat → Int32
  | 0 => e
  | k + 1 => lstS T.2.2.1 T.2.2.2.1 f (nI k) (f 49) (whE T f e k) T.1
def wcS (T : TS) (f a1 a2 a3 : Nat → Int32) (nt : Nat) : Nat → Nat × Int32
  | 0 => (0, (-9))
  | k + 1 => if agN nt (lstS T.2.2.1 T.2.2.2.1 f (nI k) (f 49) (fun _ => nI 0) T.1) a1 a2 a3 then ((wcS T f a1 a2 a3 nt k).1 + 1, if (wcS T f a1 a2 a3 nt k).2 = (-9) then nI k else (wcS T f a1 a2 a3 nt k).2) else wcS T f a1 a2 a3 nt k
def wchS (T : TS) (f a1 a2 a3 : Nat → Int32) (nt : Nat) (what : Int32) : Int32 := if zo what then (if what = 0 then nI (wcS T f a1 a2 a3 nt 500).1 else (wcS T f a1 a2 a3 nt 500).2) else (-1)
theorem agN_e {nt : Nat} {e e' a1 a2 a3 : Nat → Int32} (hN : ∀ k, k < nt → inR (a1 k) 6) (h : ∀ q, q < 6 → e q = e' q) : agN nt e a1 a2 a3 ↔ agN nt e' a1 a2 a3 := by
  have key : ∀ k, k < nt → (agP e a1 a2 a3 k ↔ agP e' a1 a2 a3 k) := by
    intro k hk
    obtain ⟨b, hb, e1⟩ := inR_of (by decide) (hN k hk)
    show (_ = _) ↔ (_ = _)
    rw [e1, nI_clamp (by omega), h b hb]
  exact ⟨fun g k hk => (key k hk).mp (g k hk), fun g k hk => (key k hk).mpr (g k hk)⟩

set_option maxHeartbeats 4000000 in
set_option maxRecDepth 100000 in
theorem kX11_inNights (l : Launch) (E : EX) (c0 r0 h0 s0 g0 ka n1 n2 n3 ea t0 u0 nt : Nat) (tr : Int64) (t1 t2 t3 : Nat) (T : TS) (h1 : Nat) (f : Nat → Int32) (ee : Nat → Int32) (z n q : Int32) (hn : T.1 ≤ 6) (hm : T.2.1 ≤ 6) : M l E yX11_inNights wsX11_inNights { frames := 3, cells := 0, slots := 0, locals := 75 } 0 0 [.ref c0, .int z, .int n, .int q] [(c0, oB 11 [.ref r0, .ref h0, .ref s0, .ref g0, .ref ka, .ref n1, .ref n2, .ref n3, .ref ea, .ref t0, .ref u0, .int (nI nt), .long tr]), (t0, oB 10 [.ref t1, .ref t2, .ref t3, .int (nI T.1), .int (nI T.2.1)]), (t1, iA E 6 T.2.2.1), (t2, iA E 6 T.2.2.2.1), (h0, oB 8 [.ref h1]), (h1, iA E 50 f), (ea, iA E 6 ee)] (is1 (some (.int (inNS T f z n q))) [(c0, oB 11 [.ref r0, .ref h0, .ref s0, .ref g0, .ref ka, .ref n1, .ref n2, .ref n3, .ref ea, .ref t0, .ref u0, .int (nI nt), .long tr]), (t0, oB 10 [.ref t1, .ref t2, .ref t3, .int (nI T.1), .int (nI T.2.1)]), (t1, iA E 6 T.2.2.1), (t2, iA E 6 T.2.2.2.1), (h0, oB 8 [.ref h1]), (h1, iA E 50 f), (ea, iA E 6 (if inO T.2.1 z n q then earS T f z.toNatClampNeg ee n.toNatClampNeg else ee))]) := by
  refine M.ofG (cc := cX11_inNights) (maxL := 6) (ret := (some .int)) (lv := [(0, .ref c0), (1, .int z), (2, .int n), (3, .int q)]) (own := RX11) (by decide) rfl rfl (Nat.le_of_ble_eq_true rfl) rfl ?_
  intro K C X _
  have i11 : ∀ w ∈ wsX110, w ∈ wsX11_inNights := by decide +kernel
  refine g_iload_n C dX11_inNights_0 rfl 1 rfl ?_
  refine g_callS C (rest := []) (n := 1) (kX11_isDraw l E z ) gX11_inNights_X11_isDraw rfl ⟨rfl, rfl⟩ (by decide) (Nat.le_of_ble_eq_true rfl) rfl (by decide +kernel) rfl dX11_inNights_1 [] [0, 1, 2, 3, 4, 5, 6] rfl rfl ?_
  refine g_is1 (ws2 := [(c0, oB 11 [.ref r0, .ref h0, .ref s0, .ref g0, .ref ka, .ref n1, .ref n2, .ref n3, .ref ea, .ref t0, .ref u0, .int (nI nt), .long tr]), (t0, oB 10 [.ref t1, .ref t2, .ref t3, .int (nI T.1), .int (nI T.2.1)]), (t1, iA E 6 T.2.2.1), (t2, iA E 6 T.2.2.2.1), (h0, oB 8 [.ref h1]), (h1, iA E 50 f), (ea, iA E 6 ee)]) (st2 := [.int (bI (inR z 10000))]) [0, 1, 2, 3, 4, 5, 6] rfl rfl rfl ?_
  refine g_if_eqB C 28 dX11_inNights_4 (by decide) (fun cq1 => ?_) (fun cq1 => ?_)
  · have hno : ¬ inO T.2.1 z n q := fun w => cq1 w.1
    refine g_iconst C ((-1)) dX11_inNights_28 (by decide) ?_
    exact g_iret C X dX11_inNights_29 (⟨by unfold inNS; rw [if_neg hno], by rw [if_neg hno]⟩)
  · refine g_iload_n C dX11_inNights_7 rfl 2 rfl ?_
    refine g_if_lt C 28 dX11_inNights_8 (by decide) (fun cq2 => ?_) (fun cq2 => ?_)
    · have hno : ¬ inO T.2.1 z n q := fun w => w.2.1 cq2
      refine g_iconst C ((-1)) dX11_inNights_28 (by decide) ?_
      exact g_iret C X dX11_inNights_29 (⟨by unfold inNS; rw [if_neg hno], by rw [if_neg hno]⟩)
    · refine g_iload_n C dX11_inNights_11 rfl 2 rfl ?_
      refine g_bipush C (nI 20) dX11_inNights_12 (by decide) ?_
      refine g_icmp_gt C 28 dX11_inNights_14 (by decide) (fun cq3 => ?_) (fun cq3 => ?_)
      · have hno : ¬ inO T.2.1 z n q := fun w => w.2.2.1 cq3
        refine g_iconst C ((-1)) dX11_inNights_28 (by decide) ?_
        exact g_iret C X dX11_inNights_29 (⟨by unfold inNS; rw [if_neg hno], by rw [if_neg hno]⟩)
      · refine g_aload_n C dX11_inNights_17 rfl 0 rfl ?_
        refine g_get C i11 0 rfl rfl 9 (by decide) (List.mem_of_getElem? (i := 1) rfl) rfl rfl dX11_inNights_18 ?_
        refine g_iload_n C dX11_inNights_21 rfl 3 rfl ?_
        refine g_callV C (rest := []) (n := 1) (kX10_hasPillow l E t0 t1 t2 t3 T.1 T.2.1 q ) gX11_inNights_X10_hasPillow rfl ⟨rfl, rfl⟩ (by decide) (Nat.le_of_ble_eq_true rfl) rfl (by decide +kernel) rfl dX11_inNights_22 0 rfl rfl [1] [0, 2, 3, 4, 5, 6] rfl rfl ?_
        refine g_is1 (ws2 := [(c0, oB 11 [.ref r0, .ref h0, .ref s0, .ref g0, .ref ka, .ref n1, .ref n2, .ref n3, .ref ea, .ref t0, .ref u0, .int (nI nt), .long tr]), (t0, oB 10 [.ref t1, .ref t2, .ref t3, .int (nI T.1), .int (nI T.2.1)]), (t1, iA E 6 T.2.2.1), (t2, iA E 6 T.2.2.2.1), (h0, oB 8 [.ref h1]), (h1, iA E 50 f), (ea, iA E 6 ee)]) (st2 := [.int (bI (inR q T.2.1))]) [0, 6, 1, 2, 3, 4, 5] rfl rfl rfl ?_
        refine g_if_neB C 30 dX11_inNights_25 (by decide) (fun cq4 => ?_) (fun cq4 => ?_)
        · have hy : inO T.2.1 z n q := ⟨cq1, cq2, cq3, cq4⟩
          obtain ⟨zj, hj_zj, rfl⟩ := inR_of (n := 10000) (by decide) cq1
          have hcl_zj : (nI zj).toNatClampNeg = zj := nI_clamp (by omega)
          obtain ⟨qj, hj_qj, rfl⟩ := inR_of (n := T.2.1) (by omega) cq4
          have hcl_qj : (nI qj).toNatClampNeg = qj := nI_clamp (by omega)
          obtain ⟨nj, hj_nj, rfl⟩ := nI_of2 (M := 20) (n := 20) (by decide) cq2 (Int32.not_lt.mp cq3)
          have hcl_nj : (nI nj).toNatClampNeg = nj := nI_clamp (by omega)
          refine g_aload_n C dX11_inNights_30 rfl 0 rfl ?_
          refine g_get C i11 0 rfl rfl 1 (by decide) (List.mem_of_getElem? (i := 2) rfl) rfl rfl dX11_inNights_31 ?_
          refine g_iload_n C dX11_inNights_34 rfl 3 rfl ?_
          refine g_callV C (rest := []) (n := 1) (kX8_thingsOn l E h0 h1 f qj (by omega)) gX11_inNights_X8_thingsOn rfl ⟨rfl, rfl⟩ (by decide) (Nat.le_of_ble_eq_true rfl) rfl (by decide +kernel) rfl dX11_inNights_35 0 rfl rfl [4, 5] [0, 1, 2, 3, 6] rfl rfl ?_
          refine g_is1 (ws2 := [(c0, oB 11 [.ref r0, .ref h0, .ref s0, .ref g0, .ref ka, .ref n1, .ref n2, .ref n3, .ref ea, .ref t0, .ref u0, .int (nI nt), .long tr]), (t0, oB 10 [.ref t1, .ref t2, .ref t3, .int (nI T.1), .int (nI T.2.1)]), (t1, iA E 6 T.2.2.1), (t2, iA E 6 T.2.2.2.1), (h0, oB 8 [.ref h1]), (h1, iA E 50 f), (ea, iA E 6 ee)]) (st2 := [.int (thOn f qj 7)]) [0, 1, 2, 3, 5, 6, 4] rfl rfl rfl ?_
          refine g_istore C (lv' := [(4, .int (thOn f qj 7)), (0, .ref c0), (1, .int (nI zj)), (2, .int (nI nj)), (3, .int (nI qj))]) dX11_inNights_38 (by decide) rfl ?_
          refine g_iconst C (nI 0) dX11_inNights_40 (by decide) ?_
          refine g_istore C (lv' := [(5, .int (nI 0)), (4, .int (thOn f qj 7)), (0, .ref c0), (1, .int (nI zj)), (2, .int (nI nj)), (3, .int (nI qj))]) dX11_inNights_41 (by decide) rfl ?_
          have L43 : ∀ (zz k : Nat) (a : Int32) (u : Nat → Int32), k + zz = nj + 1 → k ≤ nj → (a = inS T f zj qj k) → (u = earS T f zj ee k) → G K 0 0 43 [(0, .ref c0), (1, .int (nI zj)), (2, .int (nI nj)), (3, .int (nI qj)), (4, .int a), (5, .int (nI k))] [] [(c0, oB 11 [.ref r0, .ref h0, .ref s0, .ref g0, .ref ka, .ref n1, .ref n2, .ref n3, .ref ea, .ref t0, .ref u0, .int (nI nt), .long tr]), (t0, oB 10 [.ref t1, .ref t2, .ref t3, .int (nI T.1), .int (nI T.2.1)]), (t1, iA E 6 T.2.2.1), (t2, iA E 6 T.2.2.2.1), (h0, oB 8 [.ref h1]), (h1, iA E 50 f), (ea, iA E 6 u)] := by
            intro zz
            induction zz with
            | zero => intro k a u hL43 gL43; exfalso; omega
            | succ zz ihL43 =>
              intro k a u hL43 gL43 ha hu
              refine g_iload C dX11_inNights_43 5 rfl ?_
              refine g_iload_n C dX11_inNights_45 rfl 2 rfl ?_
              refine g_icmp_geN C 88 dX11_inNights_46 (by decide) (by omega) (by omega) (fun cq5 => ?_) (fun cq5 => ?_)
              · have hk : k = nj := by omega
                refine g_iload C dX11_inNights_88 4 rfl ?_
                exact g_iret C X dX11_inNights_90 (⟨by unfold inNS; rw [if_pos hy, hcl_zj, hcl_qj, hcl_nj, ha, hk], by rw [if_pos hy, hcl_zj, hcl_nj, hu, hk]⟩)
              · refine g_aload_n C dX11_inNights_49 rfl 0 rfl ?_
                refine g_iload_n C dX11_inNights_50 rfl 1 rfl ?_
                refine g_iload C dX11_inNights_51 5 rfl ?_
                refine g_iaddN C dX11_inNights_53 ?_
                refine g_sipush C (nI 10000) dX11_inNights_54 (by decide) ?_
                refine g_iremN C dX11_inNights_57 (by omega) (by omega) (by omega) ?_
                refine g_aload_n C dX11_inNights_58 rfl 0 rfl ?_
                refine g_get C i11 0 rfl rfl 1 (by decide) (List.mem_of_getElem? (i := 2) rfl) rfl rfl dX11_inNights_59 ?_
                refine g_callV C (rest := [.int (nI ((zj + k) % 10000)), .ref c0]) (n := 0) (kX8_nightNumber l E h0 h1 f ) gX11_inNights_X8_nightNumber rfl ⟨rfl, rfl⟩ (by decide) (Nat.le_of_ble_eq_true rfl) rfl (by decide +kernel) rfl dX11_inNights_62 0 rfl rfl [4, 5] [0, 1, 2, 3, 6] rfl rfl ?_
                refine g_is1 (ws2 := [(c0, oB 11 [.ref r0, .ref h0, .ref s0, .ref g0, .ref ka, .ref n1, .ref n2, .ref n3, .ref ea, .ref t0, .ref u0, .int (nI nt), .long tr]), (t0, oB 10 [.ref t1, .ref t2, .ref t3, .int (nI T.1), .int (nI T.2.1)]), (t1, iA E 6 T.2.2.1), (t2, iA E 6 T.2.2.2.1), (h0, oB 8 [.ref h1]), (h1, iA E 50 f), (ea, iA E 6 u)]) (st2 := [.int (f 49), .int (nI ((zj + k) % 10000)), .ref c0]) [0, 1, 2, 3, 5, 6, 4] rfl rfl rfl ?_
                refine g_iload C dX11_inNights_65 5 rfl ?_
                refine g_iadd C dX11_inNights_67 ?_
                refine g_callV C (rest := []) (n := 2) (kX11_listen l E c0 r0 h0 s0 g0 ka n1 n2 n3 ea t0 u0 nt tr t1 t2 t3 T h1 f u (nI ((zj + k) % 10000)) ((f 49) + (nI k)) (by omega)) gX11_inNights_X11_listen rfl ⟨rfl, rfl⟩ (by decide) (Nat.le_of_ble_eq_true rfl) rfl (by decide +kernel) rfl dX11_inNights_68 0 rfl rfl [0, 1, 2, 3, 4, 5, 6] [] rfl rfl ?_
                refine g_is1 (ws2 := [(c0, oB 11 [.ref r0, .ref h0, .ref s0, .ref g0, .ref ka, .ref n1, .ref n2, .ref n3, .ref ea, .ref t0, .ref u0, .int (nI nt), .long tr]), (t0, oB 10 [.ref t1, .ref t2, .ref t3, .int (nI T.1), .int (nI T.2.1)]), (t1, iA E 6 T.2.2.1), (t2, iA E 6 T.2.2.2.1), (h0, oB 8 [.ref h1]), (h1, iA E 50 f), (ea, iA E 6 (lstS T.2.2.1 T.2.2.2.1 f (nI ((zj + k) % 10000)) ((f 49) + (nI k)) u T.1))]) (st2 := []) [0, 1, 2, 3, 4, 5, 6] rfl rfl rfl ?_
                refine g_iload C dX11_inNights_71 4 rfl ?_
                refine g_aload_n C dX11_inNights_73 rfl 0 rfl ?_
                refine g_get C i11 0 rfl rfl 8 (by decide) (List.mem_of_getElem? (i := 3) rfl) rfl rfl dX11_inNights_74 ?_
                refine g_iload_n C dX11_inNights_77 rfl 3 rfl ?_
                refine g_iald C 6 rfl (by omega) (by decide) dX11_inNights_78 ?_
                refine g_ior C dX11_inNights_79 ?_
                refine g_istore C (lv' := [(4, .int (a ||| ((lstS T.2.2.1 T.2.2.2.1 f (nI ((zj + k) % 10000)) ((f 49) + (nI k)) u T.1) qj))), (0, .ref c0), (1, .int (nI zj)), (2, .int (nI nj)), (3, .int (nI qj)), (5, .int (nI k))]) dX11_inNights_80 (by decide) rfl ?_
                refine g_iincN C (lv' := [(5, .int (nI (k + 1))), (4, .int (a ||| ((lstS T.2.2.1 T.2.2.2.1 f (nI ((zj + k) % 10000)) ((f 49) + (nI k)) u T.1) qj))), (0, .ref c0), (1, .int (nI zj)), (2, .int (nI nj)), (3, .int (nI qj))]) dX11_inNights_82 5 rfl (by decide) rfl ?_
                refine g_goto C 43 dX11_inNights_85 (by decide) ?_
                refine g_sub (lv' := [(0, .ref c0), (1, .int (nI zj)), (2, .int (nI nj)), (3, .int (nI qj)), (4, .int (a ||| ((lstS T.2.2.1 T.2.2.2.1 f (nI ((zj + k) % 10000)) ((f 49) + (nI k)) u T.1) qj))), (5, .int (nI (k + 1)))]) [2, 3, 4, 5, 1, 0] rfl ?_
                exact ihL43 (k + 1) (a ||| ((lstS T.2.2.1 T.2.2.2.1 f (nI ((zj + k) % 10000)) ((f 49) + (nI k)) u T.1) qj)) (lstS T.2.2.1 T.2.2.2.1 f (nI ((zj + k) % 10000)) ((f 49) + (nI k)) u T.1) (by omega) (by omega) (by rw [inS, ← ha, lstS_e T.2.2.1 T.2.2.2.1 f _ _ u (fun _ => nI 0) T.1 qj (by omega)]) (by rw [earS, ← hu])
          refine g_sub (lv' := [(0, .ref c0), (1, .int (nI zj)), (2, .int (nI nj)), (3, .int (nI qj)), (4, .int (thOn f qj 7)), (5, .int (nI 0))]) [2, 3, 4, 5, 1, 0] rfl ?_
          exact L43 (nj + 1 - 0) 0 (thOn f qj 7) ee (by omega) (by omega) (by first | rfl | omega | (simp []; done)) (by first | rfl | omega | (simp []; done))
        · have hno : ¬ inO T.2.1 z n q := fun w => cq4 w.2.2.2
          refine g_iconst C ((-1)) dX11_inNights_28 (by decide) ?_
          exact g_iret C X dX11_inNights_29 (⟨by unfold inNS; rw [if_neg hno], by rw [if_neg hno]⟩)

set_option maxHeartbeats 4000000 in
set_option maxRecDepth 100000 in
theorem kX11_which (l : Launch) (E : EX) (c0 r0 h0 s0 g0 ka n1 n2 n3 ea t0 u0 nt : Nat) (tr : Int64) (t1 t2 t3 : Nat) (T : TS) (h1 : Nat) (f : Nat → Int32) (ee a1 a2 a3 : Nat → Int32) (what : Int32) (hn : T.1 ≤ 6) (hnt : nt ≤ 5) (hN : ∀ k, k < nt → inR (a1 k) 6) : M l E yX11_which wsX11_which { frames := 3, cells := 0, slots := 0, locals := 75 } 0 0 [.ref c0, .int what] [(c0, oB 11 [.ref r0, .ref h0, .ref s0, .ref g0, .ref ka, .ref n1, .ref n2, .ref n3, .ref ea, .ref t0, .ref u0, .int (nI nt), .long tr]), (t0, oB 10 [.ref t1, .ref t2, .ref t3, .int (nI T.1), .int (nI T.2.1)]), (t1, iA E 6 T.2.2.1), (t2, iA E 6 T.2.2.2.1), (h0, oB 8 [.ref h1]), (h1, iA E 50 f), (ea, iA E 6 ee), (n1, iA E 5 a1), (n2, iA E 5 a2), (n3, iA E 5 a3)] (is1 (some (.int (wchS T f a1 a2 a3 nt what))) [(c0, oB 11 [.ref r0, .ref h0, .ref s0, .ref g0, .ref ka, .ref n1, .ref n2, .ref n3, .ref ea, .ref t0, .ref u0, .int (nI nt), .long tr]), (t0, oB 10 [.ref t1, .ref t2, .ref t3, .int (nI T.1), .int (nI T.2.1)]), (t1, iA E 6 T.2.2.1), (t2, iA E 6 T.2.2.2.1), (h0, oB 8 [.ref h1]), (h1, iA E 50 f), (ea, iA E 6 (if zo what then whE T f ee 500 else ee)), (n1, iA E 5 a1), (n2, iA E 5 a2), (n3, iA E 5 a3)]) := by
  refine M.ofG (cc := cX11_which) (maxL := 5) (ret := (some .int)) (lv := [(0, .ref c0), (1, .int what)]) (own := RX11) (by decide) rfl rfl (Nat.le_of_ble_eq_true rfl) rfl ?_
  intro K C X _
  have i11 : ∀ w ∈ wsX110, w ∈ wsX11_which := by decide +kernel
  refine g_iload_n C dX11_which_0 rfl 1 rfl ?_
  refine g_callS C (rest := []) (n := 1) (kX11_isZeroOrOne l E what ) gX11_which_X11_isZeroOrOne rfl ⟨rfl, rfl⟩ (by decide) (Nat.le_of_ble_eq_true rfl) rfl (by decide +kernel) rfl dX11_which_1 [] [0, 1, 2, 3, 4, 5, 6, 7, 8, 9] rfl rfl ?_
  refine g_is1 (ws2 := [(c0, oB 11 [.ref r0, .ref h0, .ref s0, .ref g0, .ref ka, .ref n1, .ref n2, .ref n3, .ref ea, .ref t0, .ref u0, .int (nI nt), .long tr]), (t0, oB 10 [.ref t1, .ref t2, .ref t3, .int (nI T.1), .int (nI T.2.1)]), (t1, iA E 6 T.2.2.1), (t2, iA E 6 T.2.2.2.1), (h0, oB 8 [.ref h1]), (h1, iA E 50 f), (ea, iA E 6 ee), (n1, iA E 5 a1), (n2, iA E 5 a2), (n3, iA E 5 a3)]) (st2 := [.int (bI (zo what))]) [0, 1, 2, 3, 4, 5, 6, 7, 8, 9] rfl rfl rfl ?_
  refine g_if_neB C 9 dX11_which_4 (by decide) (fun cq1 => ?_) (fun cq1 => ?_)
  · refine g_iconst C (nI 0) dX11_which_9 (by decide) ?_
    refine g_istore_n C (lv' := [(2, .int (nI 0)), (0, .ref c0), (1, .int what)]) dX11_which_10 rfl (by decide) rfl ?_
    refine g_bipush C ((-9)) dX11_which_11 (by decide) ?_
    refine g_istore_n C (lv' := [(3, .int (-9)), (2, .int (nI 0)), (0, .ref c0), (1, .int what)]) dX11_which_13 rfl (by decide) rfl ?_
    refine g_iconst C (nI 0) dX11_which_14 (by decide) ?_
    refine g_istore C (lv' := [(4, .int (nI 0)), (3, .int (-9)), (2, .int (nI 0)), (0, .ref c0), (1, .int what)]) dX11_which_15 (by decide) rfl ?_
    have L17 : ∀ (zz k : Nat) (d : Nat) (a : Int32) (u : Nat → Int32), k + zz = 500 + 1 → k ≤ 500 → (d = (wcS T f a1 a2 a3 nt k).1) → (a = (wcS T f a1 a2 a3 nt k).2) → (u = whE T f ee k) → (d ≤ k) → G K 0 0 17 [(0, .ref c0), (1, .int what), (2, .int (nI d)), (3, .int a), (4, .int (nI k))] [] [(c0, oB 11 [.ref r0, .ref h0, .ref s0, .ref g0, .ref ka, .ref n1, .ref n2, .ref n3, .ref ea, .ref t0, .ref u0, .int (nI nt), .long tr]), (t0, oB 10 [.ref t1, .ref t2, .ref t3, .int (nI T.1), .int (nI T.2.1)]), (t1, iA E 6 T.2.2.1), (t2, iA E 6 T.2.2.2.1), (h0, oB 8 [.ref h1]), (h1, iA E 50 f), (ea, iA E 6 u), (n1, iA E 5 a1), (n2, iA E 5 a2), (n3, iA E 5 a3)] := by
      intro zz
      induction zz with
      | zero => intro k d a u hL17 gL17; exfalso; omega
      | succ zz ihL17 =>
        intro k d a u hL17 gL17 hd ha hu hdk
        refine g_iload C dX11_which_17 4 rfl ?_
        refine g_sipush C (nI 500) dX11_which_19 (by decide) ?_
        refine g_icmp_geN C 67 dX11_which_22 (by decide) (by omega) (by omega) (fun cq2 => ?_) (fun cq2 => ?_)
        · have hk : k = 500 := by omega
          refine g_iload_n C dX11_which_67 rfl 1 rfl ?_
          refine g_if_ne C 75 dX11_which_68 (by decide) (fun cq3 => ?_) (fun cq3 => ?_)
          · refine g_iload_n C dX11_which_75 rfl 3 rfl ?_
            exact g_iret C X dX11_which_76 (⟨by unfold wchS; rw [if_pos cq1, ← hk, ← hd, ← ha]; first | (rw [if_neg cq3]; done) | (rw [if_pos cq3]; done), by rw [if_pos cq1, hu, hk]⟩)
          · refine g_iload_n C dX11_which_71 rfl 2 rfl ?_
            refine g_goto C 76 dX11_which_72 (by decide) ?_
            exact g_iret C X dX11_which_76 (⟨by unfold wchS; rw [if_pos cq1, ← hk, ← hd, ← ha]; first | (rw [if_neg cq3]; done) | (rw [if_pos cq3]; done), by rw [if_pos cq1, hu, hk]⟩)
        · refine g_aload_n C dX11_which_25 rfl 0 rfl ?_
          refine g_iload C dX11_which_26 4 rfl ?_
          refine g_aload_n C dX11_which_28 rfl 0 rfl ?_
          refine g_get C i11 0 rfl rfl 1 (by decide) (List.mem_of_getElem? (i := 1) rfl) rfl rfl dX11_which_29 ?_
          refine g_callV C (rest := [.int (nI k), .ref c0]) (n := 0) (kX8_nightNumber l E h0 h1 f ) gX11_which_X8_nightNumber rfl ⟨rfl, rfl⟩ (by decide) (Nat.le_of_ble_eq_true rfl) rfl (by decide +kernel) rfl dX11_which_32 0 rfl rfl [4, 5] [0, 1, 2, 3, 6, 7, 8, 9] rfl rfl ?_
          refine g_is1 (ws2 := [(c0, oB 11 [.ref r0, .ref h0, .ref s0, .ref g0, .ref ka, .ref n1, .ref n2, .ref n3, .ref ea, .ref t0, .ref u0, .int (nI nt), .long tr]), (t0, oB 10 [.ref t1, .ref t2, .ref t3, .int (nI T.1), .int (nI T.2.1)]), (t1, iA E 6 T.2.2.1), (t2, iA E 6 T.2.2.2.1), (h0, oB 8 [.ref h1]), (h1, iA E 50 f), (ea, iA E 6 u), (n1, iA E 5 a1), (n2, iA E 5 a2), (n3, iA E 5 a3)]) (st2 := [.int (f 49), .int (nI k), .ref c0]) [0, 1, 2, 3, 8, 9, 4, 5, 6, 7] rfl rfl rfl ?_
          refine g_callV C (rest := []) (n := 2) (kX11_listen l E c0 r0 h0 s0 g0 ka n1 n2 n3 ea t0 u0 nt tr t1 t2 t3 T h1 f u (nI k) (f 49) (by omega)) gX11_which_X11_listen rfl ⟨rfl, rfl⟩ (by decide) (Nat.le_of_ble_eq_true rfl) rfl (by decide +kernel) rfl dX11_which_35 0 rfl rfl [0, 1, 2, 3, 4, 5, 6] [7, 8, 9] rfl rfl ?_
          refine g_is1 (ws2 := [(c0, oB 11 [.ref r0, .ref h0, .ref s0, .ref g0, .ref ka, .ref n1, .ref n2, .ref n3, .ref ea, .ref t0, .ref u0, .int (nI nt), .long tr]), (t0, oB 10 [.ref t1, .ref t2, .ref t3, .int (nI T.1), .int (nI T.2.1)]), (t1, iA E 6 T.2.2.1), (t2, iA E 6 T.2.2.2.1), (h0, oB 8 [.ref h1]), (h1, iA E 50 f), (ea, iA E 6 (lstS T.2.2.1 T.2.2.2.1 f (nI k) (f 49) u T.1)), (n1, iA E 5 a1), (n2, iA E 5 a2), (n3, iA E 5 a3)]) (st2 := []) [3, 4, 5, 6, 7, 8, 9, 0, 1, 2] rfl rfl rfl ?_
          refine g_aload_n C dX11_which_38 rfl 0 rfl ?_
          refine g_callV C (rest := []) (n := 0) (kX11_agreesWithNotes l E c0 r0 h0 s0 g0 ka n1 n2 n3 ea t0 u0 nt tr (lstS T.2.2.1 T.2.2.2.1 f (nI k) (f 49) u T.1) a1 a2 a3 (hnt) (hN)) gX11_which_X11_agreesWithNotes rfl ⟨rfl, rfl⟩ (by decide) (Nat.le_of_ble_eq_true rfl) rfl (by decide +kernel) rfl dX11_which_39 0 rfl rfl [0, 6, 7, 8, 9] [1, 2, 3, 4, 5] rfl rfl ?_
          refine g_is1 (ws2 := [(c0, oB 11 [.ref r0, .ref h0, .ref s0, .ref g0, .ref ka, .ref n1, .ref n2, .ref n3, .ref ea, .ref t0, .ref u0, .int (nI nt), .long tr]), (t0, oB 10 [.ref t1, .ref t2, .ref t3, .int (nI T.1), .int (nI T.2.1)]), (t1, iA E 6 T.2.2.1), (t2, iA E 6 T.2.2.2.1), (h0, oB 8 [.ref h1]), (h1, iA E 50 f), (ea, iA E 6 (lstS T.2.2.1 T.2.2.2.1 f (nI k) (f 49) u T.1)), (n1, iA E 5 a1), (n2, iA E 5 a2), (n3, iA E 5 a3)]) (st2 := [.int (bI (agN nt (lstS T.2.2.1 T.2.2.2.1 f (nI k) (f 49) u T.1) a1 a2 a3))]) [5, 0, 1, 2, 3, 4, 6, 7, 8, 9] rfl rfl rfl ?_
          refine g_if_eqB C 61 dX11_which_42 (by decide) (fun cq4 => ?_) (fun cq4 => ?_)
          · have hag := cq4
            have hq6 := lstS_e T.2.2.1 T.2.2.2.1 f (nI k) (f 49) u (fun _ => nI 0) T.1
            refine g_iincN C (lv' := [(4, .int (nI (k + 1))), (0, .ref c0), (1, .int what), (2, .int (nI d)), (3, .int a)]) dX11_which_61 4 rfl (by decide) rfl ?_
            refine g_goto C 17 dX11_which_64 (by decide) ?_
            refine g_sub (lv' := [(0, .ref c0), (1, .int what), (2, .int (nI d)), (3, .int a), (4, .int (nI (k + 1)))]) [1, 2, 3, 4, 0] rfl ?_
            exact ihL17 (k + 1) d a (lstS T.2.2.1 T.2.2.2.1 f (nI k) (f 49) u T.1) (by omega) (by omega) (by rw [wcS]; first | (rw [if_neg (fun w => hag ((agN_e hN hq6).mpr w)), ← hd]; done) | (rw [if_pos ((agN_e hN hq6).mp hag), ← hd]; done)) (by rw [wcS]; first | (rw [if_neg (fun w => hag ((agN_e hN hq6).mpr w)), ← ha]; done) | (rw [if_pos ((agN_e hN hq6).mp hag), ← ha, if_pos cq4]; done) | (rw [if_pos ((agN_e hN hq6).mp hag), ← ha, if_neg cq4]; done)) (by rw [whE, ← hu]) (by first | omega | (simp [cq1, hd, ha, hu, hdk, cq2, cq4, hag, hq6]; done))
          · have hag := cq4
            have hq6 := lstS_e T.2.2.1 T.2.2.2.1 f (nI k) (f 49) u (fun _ => nI 0) T.1
            refine g_iincN C (lv' := [(2, .int (nI (d + 1))), (0, .ref c0), (1, .int what), (3, .int a), (4, .int (nI k))]) dX11_which_45 2 rfl (by decide) rfl ?_
            refine g_iload_n C dX11_which_48 rfl 3 rfl ?_
            refine g_bipush C ((-9)) dX11_which_49 (by decide) ?_
            refine g_icmp_ne C 59 dX11_which_51 (by decide) (fun cq5 => ?_) (fun cq5 => ?_)
            · refine g_iload_n C dX11_which_59 rfl 3 rfl ?_
              refine g_istore_n C (lv' := [(3, .int a), (2, .int (nI (d + 1))), (0, .ref c0), (1, .int what), (4, .int (nI k))]) dX11_which_60 rfl (by decide) rfl ?_
              refine g_iincN C (lv' := [(4, .int (nI (k + 1))), (3, .int a), (2, .int (nI (d + 1))), (0, .ref c0), (1, .int what)]) dX11_which_61 4 rfl (by decide) rfl ?_
              refine g_goto C 17 dX11_which_64 (by decide) ?_
              refine g_sub (lv' := [(0, .ref c0), (1, .int what), (2, .int (nI (d + 1))), (3, .int a), (4, .int (nI (k + 1)))]) [3, 4, 2, 1, 0] rfl ?_
              exact ihL17 (k + 1) (d + 1) a (lstS T.2.2.1 T.2.2.2.1 f (nI k) (f 49) u T.1) (by omega) (by omega) (by rw [wcS]; first | (rw [if_neg (fun w => hag ((agN_e hN hq6).mpr w)), ← hd]; done) | (rw [if_pos ((agN_e hN hq6).mp hag), ← hd]; done)) (by rw [wcS]; first | (rw [if_neg (fun w => hag ((agN_e hN hq6).mpr w)), ← ha]; done) | (rw [if_pos ((agN_e hN hq6).mp hag), ← ha, if_pos cq5]; done) | (rw [if_pos ((agN_e hN hq6).mp hag), ← ha, if_neg cq5]; done)) (by rw [whE, ← hu]) (by first | omega | (simp [cq1, hd, ha, hu, hdk, cq2, cq4, hag, hq6, cq5]; done))
            · refine g_iload C dX11_which_54 4 rfl ?_
              refine g_goto C 60 dX11_which_56 (by decide) ?_
              refine g_istore_n C (lv' := [(3, .int (nI k)), (2, .int (nI (d + 1))), (0, .ref c0), (1, .int what), (4, .int (nI k))]) dX11_which_60 rfl (by decide) rfl ?_
              refine g_iincN C (lv' := [(4, .int (nI (k + 1))), (3, .int (nI k)), (2, .int (nI (d + 1))), (0, .ref c0), (1, .int what)]) dX11_which_61 4 rfl (by decide) rfl ?_
              refine g_goto C 17 dX11_which_64 (by decide) ?_
              refine g_sub (lv' := [(0, .ref c0), (1, .int what), (2, .int (nI (d + 1))), (3, .int (nI k)), (4, .int (nI (k + 1)))]) [3, 4, 2, 1, 0] rfl ?_
              exact ihL17 (k + 1) (d + 1) (nI k) (lstS T.2.2.1 T.2.2.2.1 f (nI k) (f 49) u T.1) (by omega) (by omega) (by rw [wcS]; first | (rw [if_neg (fun w => hag ((agN_e hN hq6).mpr w)), ← hd]; done) | (rw [if_pos ((agN_e hN hq6).mp hag), ← hd]; done)) (by rw [wcS]; first | (rw [if_neg (fun w => hag ((agN_e hN hq6).mpr w)), ← ha]; done) | (rw [if_pos ((agN_e hN hq6).mp hag), ← ha, if_pos cq5]; done) | (rw [if_pos ((agN_e hN hq6).mp hag), ← ha, if_neg cq5]; done)) (by rw [whE, ← hu]) (by first | omega | (simp [cq1, hd, ha, hu, hdk, cq2, cq4, hag, hq6, cq5]; done))
    refine g_sub (lv' := [(0, .ref c0), (1, .int what), (2, .int (nI 0)), (3, .int (-9)), (4, .int (nI 0))]) [3, 4, 2, 1, 0] rfl ?_
    exact L17 (500 + 1 - 0) 0 0 (-9) ee (by omega) (by omega) (by first | rfl | omega | (simp []; done)) (by first | rfl | omega | (simp []; done)) (by first | rfl | omega | (simp []; done)) (by first | rfl | omega | (simp []; done))
  · refine g_iconst C ((-1)) dX11_which_7 (by decide) ?_
    exact g_iret C X dX11_which_8 (⟨by unfold wchS; rw [if_neg cq1], by rw [if_neg cq1]⟩)

abbrev odO (np : Nat) (p t n what : Int32) : Prop := inR p np ∧ inR t 7 ∧ ¬ n < 0 ∧ ¬ nI 5 < n ∧ zo what
def odW (x : Int32) : Int32 := nI 10 * bc x
def odC (x y what : Int32) (t n : Nat) : Int64 := if tb x t = 0 then what.toInt64 else if odW x = 0 then what.toInt64 else
  if what = 0 then powS (odW x / gcS (odW x) (odW x - y)) n - powS ((odW x - y) / gcS (odW x) (odW x - y)) n else powS (odW x / gcS (odW x) (odW x - y)) n
def odS (T : TS) (p t n what : Int32) : Int64 := if odO T.1 p t n what then odC (T.2.2.1 p.toNatClampNeg) (T.2.2.2.1 p.toNatClampNeg) what t.toNatClampNeg n.toNatClampNeg else (-1)
theorem gcS_ne (a b : Int32) : ¬ gcS a b = 0 := by
  unfold gcS
  by_cases h : gcdS 100 a b = 0
  · rw [if_pos h]; decide
  · rw [if_neg h]; exact h

set_option maxHeartbeats 4000000 in
set_option maxRecDepth 100000 in
theorem kX11_odds (l : Launch) (E : EX) (c0 r0 h0 s0 g0 ka n1 n2 n3 ea t0 u0 nt : Nat) (tr : Int64) (t1 t2 t3 : Nat) (T : TS) (p t n what : Int32) (hn : T.1 ≤ 6) : M l E yX11_odds wsX11_odds { frames := 1, cells := 0, slots := 0, locals := 25 } 0 0 [.ref c0, .int p, .int t, .int n, .int what] [(c0, oB 11 [.ref r0, .ref h0, .ref s0, .ref g0, .ref ka, .ref n1, .ref n2, .ref n3, .ref ea, .ref t0, .ref u0, .int (nI nt), .long tr]), (t0, oB 10 [.ref t1, .ref t2, .ref t3, .int (nI T.1), .int (nI T.2.1)]), (t1, iA E 6 T.2.2.1), (t2, iA E 6 T.2.2.2.1)] (is1 (some (.long (odS T p t n what))) [(c0, oB 11 [.ref r0, .ref h0, .ref s0, .ref g0, .ref ka, .ref n1, .ref n2, .ref n3, .ref ea, .ref t0, .ref u0, .int (nI nt), .long tr]), (t0, oB 10 [.ref t1, .ref t2, .ref t3, .int (nI T.1), .int (nI T.2.1)]), (t1, iA E 6 T.2.2.1), (t2, iA E 6 T.2.2.2.1)]) := by
  refine M.ofG (cc := cX11_odds) (maxL := 10) (ret := (some .long)) (lv := [(0, .ref c0), (1, .int p), (2, .int t), (3, .int n), (4, .int what)]) (own := RX11) (by decide) rfl rfl (Nat.le_of_ble_eq_true rfl) rfl ?_
  intro K C X _
  have i10 : ∀ w ∈ wsX100, w ∈ wsX11_odds := by decide +kernel
  have i11 : ∀ w ∈ wsX110, w ∈ wsX11_odds := by decide +kernel
  refine g_aload_n C dX11_odds_0 rfl 0 rfl ?_
  refine g_get C i11 0 rfl rfl 9 (by decide) (List.mem_of_getElem? (i := 1) rfl) rfl rfl dX11_odds_1 ?_
  refine g_iload_n C dX11_odds_4 rfl 1 rfl ?_
  refine g_callV C (rest := []) (n := 1) (kX10_hasPerson l E t0 t1 t2 t3 T.1 T.2.1 p ) gX11_odds_X10_hasPerson rfl ⟨rfl, rfl⟩ (by decide) (Nat.le_of_ble_eq_true rfl) rfl (by decide +kernel) rfl dX11_odds_5 0 rfl rfl [1] [0, 2, 3] rfl rfl ?_
  refine g_is1 (ws2 := [(c0, oB 11 [.ref r0, .ref h0, .ref s0, .ref g0, .ref ka, .ref n1, .ref n2, .ref n3, .ref ea, .ref t0, .ref u0, .int (nI nt), .long tr]), (t0, oB 10 [.ref t1, .ref t2, .ref t3, .int (nI T.1), .int (nI T.2.1)]), (t1, iA E 6 T.2.2.1), (t2, iA E 6 T.2.2.2.1)]) (st2 := [.int (bI (inR p T.1))]) [0, 3, 1, 2] rfl rfl rfl ?_
  refine g_if_eqB C 35 dX11_odds_8 (by decide) (fun cq1 => ?_) (fun cq1 => ?_)
  · have hno : ¬ odO T.1 p t n what := fun w => cq1 w.1
    refine g_ldc2 C (v := (-1)) (List.mem_of_getElem? (i := 2) rfl) dX11_odds_35 ?_
    exact g_lret C X dX11_odds_38 (⟨by unfold odS; rw [if_neg hno], rfl⟩)
  · refine g_iload_n C dX11_odds_11 rfl 2 rfl ?_
    refine g_callS C (rest := []) (n := 1) (kX11_isThing l E t ) gX11_odds_X11_isThing rfl ⟨rfl, rfl⟩ (by decide) (Nat.le_of_ble_eq_true rfl) rfl (by decide +kernel) rfl dX11_odds_12 [] [0, 1, 2, 3] rfl rfl ?_
    refine g_is1 (ws2 := [(c0, oB 11 [.ref r0, .ref h0, .ref s0, .ref g0, .ref ka, .ref n1, .ref n2, .ref n3, .ref ea, .ref t0, .ref u0, .int (nI nt), .long tr]), (t0, oB 10 [.ref t1, .ref t2, .ref t3, .int (nI T.1), .int (nI T.2.1)]), (t1, iA E 6 T.2.2.1), (t2, iA E 6 T.2.2.2.1)]) (st2 := [.int (bI (inR t 7))]) [0, 1, 2, 3] rfl rfl rfl ?_
    refine g_if_eqB C 35 dX11_odds_15 (by decide) (fun cq2 => ?_) (fun cq2 => ?_)
    · have hno : ¬ odO T.1 p t n what := fun w => cq2 w.2.1
      refine g_ldc2 C (v := (-1)) (List.mem_of_getElem? (i := 2) rfl) dX11_odds_35 ?_
      exact g_lret C X dX11_odds_38 (⟨by unfold odS; rw [if_neg hno], rfl⟩)
    · refine g_iload_n C dX11_odds_18 rfl 3 rfl ?_
      refine g_if_lt C 35 dX11_odds_19 (by decide) (fun cq3 => ?_) (fun cq3 => ?_)
      · have hno : ¬ odO T.1 p t n what := fun w => w.2.2.1 cq3
        refine g_ldc2 C (v := (-1)) (List.mem_of_getElem? (i := 2) rfl) dX11_odds_35 ?_
        exact g_lret C X dX11_odds_38 (⟨by unfold odS; rw [if_neg hno], rfl⟩)
      · refine g_iload_n C dX11_odds_22 rfl 3 rfl ?_
        refine g_iconst C (nI 5) dX11_odds_23 (by decide) ?_
        refine g_icmp_gt C 35 dX11_odds_24 (by decide) (fun cq4 => ?_) (fun cq4 => ?_)
        · have hno : ¬ odO T.1 p t n what := fun w => w.2.2.2.1 cq4
          refine g_ldc2 C (v := (-1)) (List.mem_of_getElem? (i := 2) rfl) dX11_odds_35 ?_
          exact g_lret C X dX11_odds_38 (⟨by unfold odS; rw [if_neg hno], rfl⟩)
        · refine g_iload C dX11_odds_27 4 rfl ?_
          refine g_callS C (rest := []) (n := 1) (kX11_isZeroOrOne l E what ) gX11_odds_X11_isZeroOrOne rfl ⟨rfl, rfl⟩ (by decide) (Nat.le_of_ble_eq_true rfl) rfl (by decide +kernel) rfl dX11_odds_29 [] [0, 1, 2, 3] rfl rfl ?_
          refine g_is1 (ws2 := [(c0, oB 11 [.ref r0, .ref h0, .ref s0, .ref g0, .ref ka, .ref n1, .ref n2, .ref n3, .ref ea, .ref t0, .ref u0, .int (nI nt), .long tr]), (t0, oB 10 [.ref t1, .ref t2, .ref t3, .int (nI T.1), .int (nI T.2.1)]), (t1, iA E 6 T.2.2.1), (t2, iA E 6 T.2.2.2.1)]) (st2 := [.int (bI (zo what))]) [0, 1, 2, 3] rfl rfl rfl ?_
          refine g_if_neB C 39 dX11_odds_32 (by decide) (fun cq5 => ?_) (fun cq5 => ?_)
          · have hy : odO T.1 p t n what := ⟨cq1, cq2, cq3, cq4, cq5⟩
            obtain ⟨pj, hj_pj, rfl⟩ := inR_of (n := T.1) (by omega) cq1
            have hcl_pj : (nI pj).toNatClampNeg = pj := nI_clamp (by omega)
            obtain ⟨tj, hj_tj, rfl⟩ := inR_of (n := 7) (by decide) cq2
            have hcl_tj : (nI tj).toNatClampNeg = tj := nI_clamp (by omega)
            obtain ⟨nj, hj_nj, rfl⟩ := nI_of2 (M := 5) (n := 5) (by decide) cq3 (Int32.not_lt.mp cq4)
            have hcl_nj : (nI nj).toNatClampNeg = nj := nI_clamp (by omega)
            refine g_bipush C (nI 10) dX11_odds_39 (by decide) ?_
            refine g_aload_n C dX11_odds_41 rfl 0 rfl ?_
            refine g_get C i11 0 rfl rfl 9 (by decide) (List.mem_of_getElem? (i := 1) rfl) rfl rfl dX11_odds_42 ?_
            refine g_get C i10 1 rfl rfl 0 (by decide) (List.mem_of_getElem? (i := 3) rfl) rfl rfl dX11_odds_45 ?_
            refine g_iload_n C dX11_odds_48 rfl 1 rfl ?_
            refine g_iald C 2 rfl (by omega) (by decide) dX11_odds_49 ?_
            refine g_callS C (rest := [.int (nI 10)]) (n := 1) (kJ6_bitCount_0f7a4 l E (T.2.2.1 pj) ) gX11_odds_J6_bitCount_0f7a4 rfl ⟨rfl, rfl⟩ (by decide) (Nat.le_of_ble_eq_true rfl) rfl (by decide +kernel) rfl dX11_odds_50 [] [0, 1, 2, 3] rfl rfl ?_
            refine g_is1 (ws2 := [(c0, oB 11 [.ref r0, .ref h0, .ref s0, .ref g0, .ref ka, .ref n1, .ref n2, .ref n3, .ref ea, .ref t0, .ref u0, .int (nI nt), .long tr]), (t0, oB 10 [.ref t1, .ref t2, .ref t3, .int (nI T.1), .int (nI T.2.1)]), (t1, iA E 6 T.2.2.1), (t2, iA E 6 T.2.2.2.1)]) (st2 := [.int (bc (T.2.2.1 pj)), .int (nI 10)]) [0, 1, 2, 3] rfl rfl rfl ?_
            refine g_imul C dX11_odds_53 ?_
            refine g_istore C (lv' := [(5, .int ((nI 10) * (bc (T.2.2.1 pj)))), (0, .ref c0), (1, .int (nI pj)), (2, .int (nI tj)), (3, .int (nI nj)), (4, .int what)]) dX11_odds_54 (by decide) rfl ?_
            refine g_aload_n C dX11_odds_56 rfl 1 rfl ?_
            refine g_get C i11 0 rfl rfl 9 (by decide) (List.mem_of_getElem? (i := 1) rfl) rfl rfl dX11_odds_57 ?_
            refine g_get C i10 1 rfl rfl 0 (by decide) (List.mem_of_getElem? (i := 3) rfl) rfl rfl dX11_odds_60 ?_
            refine g_iload_n C dX11_odds_63 rfl 2 rfl ?_
            refine g_iald C 2 rfl (by omega) (by decide) dX11_odds_64 ?_
            refine g_iload_n C dX11_odds_65 rfl 3 rfl ?_
            refine g_ishr C dX11_odds_66 ?_
            refine g_iconst C (nI 1) dX11_odds_67 (by decide) ?_
            refine g_iand C dX11_odds_68 ?_
            refine g_if_eq C 77 dX11_odds_69 (by decide) (fun cq6 => ?_) (fun cq6 => ?_)
            · refine g_iload C dX11_odds_77 5 rfl ?_
              refine g_i2l C dX11_odds_79 ?_
              exact g_lret C X dX11_odds_80 (⟨by unfold odS; rw [if_pos hy, hcl_pj, hcl_tj, hcl_nj]; unfold odC; first | (rw [if_pos cq6]; done) | (rw [if_neg cq6, if_pos (show odW (T.2.2.1 pj) = 0 from trivial)]; done), rfl⟩)
            · refine g_iload C dX11_odds_72 0 rfl ?_
              refine g_if_ne C 81 dX11_odds_74 (by decide) (fun cq7 => ?_) (fun cq7 => ?_)
              · refine g_iload C dX11_odds_81 0 rfl ?_
                refine g_aload_n C dX11_odds_83 rfl 1 rfl ?_
                refine g_get C i11 0 rfl rfl 9 (by decide) (List.mem_of_getElem? (i := 1) rfl) rfl rfl dX11_odds_84 ?_
                refine g_get C i10 1 rfl rfl 1 (by decide) (List.mem_of_getElem? (i := 4) rfl) rfl rfl dX11_odds_87 ?_
                refine g_iload_n C dX11_odds_90 rfl 2 rfl ?_
                refine g_iald C 3 rfl (by omega) (by decide) dX11_odds_91 ?_
                refine g_isub C dX11_odds_92 ?_
                refine g_istore C (lv' := [(6, .int (((nI 10) * (bc (T.2.2.1 pj))) - (T.2.2.2.1 pj))), (5, .int ((nI 10) * (bc (T.2.2.1 pj)))), (0, .ref c0), (1, .int (nI pj)), (2, .int (nI tj)), (3, .int (nI nj)), (4, .int what)]) dX11_odds_93 (by decide) rfl ?_
                refine g_iload C dX11_odds_95 1 rfl ?_
                refine g_iload C dX11_odds_97 0 rfl ?_
                refine g_callS C (rest := []) (n := 2) (kX11_commonDivisor l E ((nI 10) * (bc (T.2.2.1 pj))) (((nI 10) * (bc (T.2.2.1 pj))) - (T.2.2.2.1 pj)) ) gX11_odds_X11_commonDivisor rfl ⟨rfl, rfl⟩ (by decide) (Nat.le_of_ble_eq_true rfl) rfl (by decide +kernel) rfl dX11_odds_99 [] [0, 1, 2, 3] rfl rfl ?_
                refine g_is1 (ws2 := [(c0, oB 11 [.ref r0, .ref h0, .ref s0, .ref g0, .ref ka, .ref n1, .ref n2, .ref n3, .ref ea, .ref t0, .ref u0, .int (nI nt), .long tr]), (t0, oB 10 [.ref t1, .ref t2, .ref t3, .int (nI T.1), .int (nI T.2.1)]), (t1, iA E 6 T.2.2.1), (t2, iA E 6 T.2.2.2.1)]) (st2 := [.int (gcS ((nI 10) * (bc (T.2.2.1 pj))) (((nI 10) * (bc (T.2.2.1 pj))) - (T.2.2.2.1 pj)))]) [0, 1, 2, 3] rfl rfl rfl ?_
                refine g_istore C (lv' := [(7, .int (gcS ((nI 10) * (bc (T.2.2.1 pj))) (((nI 10) * (bc (T.2.2.1 pj))) - (T.2.2.2.1 pj)))), (6, .int (((nI 10) * (bc (T.2.2.1 pj))) - (T.2.2.2.1 pj))), (5, .int ((nI 10) * (bc (T.2.2.1 pj)))), (0, .ref c0), (1, .int (nI pj)), (2, .int (nI tj)), (3, .int (nI nj)), (4, .int what)]) dX11_odds_102 (by decide) rfl ?_
                refine g_iload C dX11_odds_104 2 rfl ?_
                refine g_iload C dX11_odds_106 0 rfl ?_
                refine g_idiv C dX11_odds_108 (gcS_ne _ _) ?_
                refine g_iload_n C dX11_odds_109 rfl 6 rfl ?_
                refine g_callS C (rest := []) (n := 2) (kX11_power l E (((nI 10) * (bc (T.2.2.1 pj))) / (gcS ((nI 10) * (bc (T.2.2.1 pj))) (((nI 10) * (bc (T.2.2.1 pj))) - (T.2.2.2.1 pj)))) nj (by omega)) gX11_odds_X11_power rfl ⟨rfl, rfl⟩ (by decide) (Nat.le_of_ble_eq_true rfl) rfl (by decide +kernel) rfl dX11_odds_110 [] [0, 1, 2, 3] rfl rfl ?_
                refine g_is1 (ws2 := [(c0, oB 11 [.ref r0, .ref h0, .ref s0, .ref g0, .ref ka, .ref n1, .ref n2, .ref n3, .ref ea, .ref t0, .ref u0, .int (nI nt), .long tr]), (t0, oB 10 [.ref t1, .ref t2, .ref t3, .int (nI T.1), .int (nI T.2.1)]), (t1, iA E 6 T.2.2.1), (t2, iA E 6 T.2.2.2.1)]) (st2 := [.long (powS (((nI 10) * (bc (T.2.2.1 pj))) / (gcS ((nI 10) * (bc (T.2.2.1 pj))) (((nI 10) * (bc (T.2.2.1 pj))) - (T.2.2.2.1 pj)))) nj)]) [0, 1, 2, 3] rfl rfl rfl ?_
                refine g_lstore C (lv' := [(8, .long (powS (((nI 10) * (bc (T.2.2.1 pj))) / (gcS ((nI 10) * (bc (T.2.2.1 pj))) (((nI 10) * (bc (T.2.2.1 pj))) - (T.2.2.2.1 pj)))) nj)), (7, .int (gcS ((nI 10) * (bc (T.2.2.1 pj))) (((nI 10) * (bc (T.2.2.1 pj))) - (T.2.2.2.1 pj)))), (6, .int (((nI 10) * (bc (T.2.2.1 pj))) - (T.2.2.2.1 pj))), (5, .int ((nI 10) * (bc (T.2.2.1 pj)))), (0, .ref c0), (1, .int (nI pj)), (2, .int (nI tj)), (3, .int (nI nj)), (4, .int what)]) dX11_odds_113 (by decide) rfl ?_
                refine g_iload C dX11_odds_115 8 rfl ?_
                refine g_if_ne C 135 dX11_odds_117 (by decide) (fun cq8 => ?_) (fun cq8 => ?_)
                · refine g_lload C dX11_odds_135 0 rfl ?_
                  exact g_lret C X dX11_odds_137 (⟨by unfold odS; rw [if_pos hy, hcl_pj, hcl_tj, hcl_nj]; unfold odC; rw [if_neg cq6, if_neg (show ¬ odW (T.2.2.1 pj) = 0 from cq7)]; first | (rw [if_neg cq8]; rfl) | (rw [if_pos cq8]; rfl), rfl⟩)
                · refine g_lload C dX11_odds_120 0 rfl ?_
                  refine g_iload C dX11_odds_122 2 rfl ?_
                  refine g_iload C dX11_odds_124 1 rfl ?_
                  refine g_idiv C dX11_odds_126 (gcS_ne _ _) ?_
                  refine g_iload_n C dX11_odds_127 rfl 7 rfl ?_
                  refine g_callS C (rest := [.long (powS (((nI 10) * (bc (T.2.2.1 pj))) / (gcS ((nI 10) * (bc (T.2.2.1 pj))) (((nI 10) * (bc (T.2.2.1 pj))) - (T.2.2.2.1 pj)))) nj)]) (n := 2) (kX11_power l E ((((nI 10) * (bc (T.2.2.1 pj))) - (T.2.2.2.1 pj)) / (gcS ((nI 10) * (bc (T.2.2.1 pj))) (((nI 10) * (bc (T.2.2.1 pj))) - (T.2.2.2.1 pj)))) nj (by omega)) gX11_odds_X11_power rfl ⟨rfl, rfl⟩ (by decide) (Nat.le_of_ble_eq_true rfl) rfl (by decide +kernel) rfl dX11_odds_128 [] [0, 1, 2, 3] rfl rfl ?_
                  refine g_is1 (ws2 := [(c0, oB 11 [.ref r0, .ref h0, .ref s0, .ref g0, .ref ka, .ref n1, .ref n2, .ref n3, .ref ea, .ref t0, .ref u0, .int (nI nt), .long tr]), (t0, oB 10 [.ref t1, .ref t2, .ref t3, .int (nI T.1), .int (nI T.2.1)]), (t1, iA E 6 T.2.2.1), (t2, iA E 6 T.2.2.2.1)]) (st2 := [.long (powS ((((nI 10) * (bc (T.2.2.1 pj))) - (T.2.2.2.1 pj)) / (gcS ((nI 10) * (bc (T.2.2.1 pj))) (((nI 10) * (bc (T.2.2.1 pj))) - (T.2.2.2.1 pj)))) nj), .long (powS (((nI 10) * (bc (T.2.2.1 pj))) / (gcS ((nI 10) * (bc (T.2.2.1 pj))) (((nI 10) * (bc (T.2.2.1 pj))) - (T.2.2.2.1 pj)))) nj)]) [0, 1, 2, 3] rfl rfl rfl ?_
                  refine g_lsub C dX11_odds_131 ?_
                  refine g_goto C 137 dX11_odds_132 (by decide) ?_
                  exact g_lret C X dX11_odds_137 (⟨by unfold odS; rw [if_pos hy, hcl_pj, hcl_tj, hcl_nj]; unfold odC; rw [if_neg cq6, if_neg (show ¬ odW (T.2.2.1 pj) = 0 from cq7)]; first | (rw [if_neg cq8]; rfl) | (rw [if_pos cq8]; rfl), rfl⟩)
              · refine g_iload C dX11_odds_77 5 rfl ?_
                refine g_i2l C dX11_odds_79 ?_
                exact g_lret C X dX11_odds_80 (⟨by unfold odS; rw [if_pos hy, hcl_pj, hcl_tj, hcl_nj]; unfold odC; first | (rw [if_pos cq6]; done) | (rw [if_neg cq6, if_pos (show odW (T.2.2.1 pj) = 0 from cq7)]; done), rfl⟩)
          · have hno : ¬ odO T.1 p t n what := fun w => cq5 w.2.2.2.2
            refine g_ldc2 C (v := (-1)) (List.mem_of_getElem? (i := 2) rfl) dX11_odds_35 ?_
            exact g_lret C X dX11_odds_38 (⟨by unfold odS; rw [if_neg hno], rfl⟩)

def ratA (j : Nat) : Int64 := if j = 0 then 1 else if j = 1 then 11 else if j = 2 then 101 else if j = 3 then 1011 else if j = 4 then 10101 else 100001
def ratV (f : Nat → Int32) (j q : Nat) : Int32 := if j = 0 then rt6 f q else if j = 1 then rt3 f q else if j = 2 then rt2 f q else if j = 3 then nI 2 * rt3 f q else if j = 4 then rt2 f q + nI q else rt6 f q + f 49
abbrev ratO (m : Nat) (kd q : Int32) : Prop := inR kd 6 ∧ inR q m
def ratS (m : Nat) (f : Nat → Int32) (kd q : Int32) : Int32 := if ratO m kd q then ratV f kd.toNatClampNeg q.toNatClampNeg else (-1000000)

set_option maxHeartbeats 4000000 in
set_option maxRecDepth 100000 in
theorem kX11_rate (l : Launch) (E : EX) (c0 r0 h0 s0 g0 ka n1 n2 n3 ea t0 u0 nt : Nat) (tr : Int64) (t1 t2 t3 : Nat) (T : TS) (h1 : Nat) (f : Nat → Int32) (k0 k1 k2 k3 k4 k5 : Nat) (b0 b1 b2 b3 b4 b5 : Int64) (kf : Nat → Option Nat) (kd q : Int32) (hm : T.2.1 ≤ 6) (hk0 : kf 0 = some k0) (hk1 : kf 1 = some k1) (hk2 : kf 2 = some k2) (hk3 : kf 3 = some k3) (hk4 : kf 4 = some k4) (hk5 : kf 5 = some k5) : M l E yX11_rate wsX11_rate { frames := 5, cells := 0, slots := 0, locals := 111 } 0 0 [.ref c0, .int kd, .int q] [(c0, oB 11 [.ref r0, .ref h0, .ref s0, .ref g0, .ref ka, .ref n1, .ref n2, .ref n3, .ref ea, .ref t0, .ref u0, .int (nI nt), .long tr]), (t0, oB 10 [.ref t1, .ref t2, .ref t3, .int (nI T.1), .int (nI T.2.1)]), (h0, oB 8 [.ref h1]), (h1, iA E 50 f), (ka, kA E 6 kf), (k0, oB 6 [.long b0]), (k1, oB 3 [.long b1]), (k2, oB 2 [.long b2]), (k3, oB 4 [.long b3]), (k4, oB 5 [.long b4]), (k5, oB 1 [.long b5])] (is1 (some (.int (ratS T.2.1 f kd q))) [(c0, oB 11 [.ref r0, .ref h0, .ref s0, .ref g0, .ref ka, .ref n1, .ref n2, .ref n3, .ref ea, .ref t0, .ref u0, .int (nI nt), .long (if ratO T.2.1 kd q then tr + ratA kd.toNatClampNeg else tr)]), (t0, oB 10 [.ref t1, .ref t2, .ref t3, .int (nI T.1), .int (nI T.2.1)]), (h0, oB 8 [.ref h1]), (h1, iA E 50 f), (ka, kA E 6 kf), (k0, oB 6 [.long (if ratO T.2.1 kd q then (if kd.toNatClampNeg = 0 then 0 + 1 else b0) else b0)]), (k1, oB 3 [.long (if ratO T.2.1 kd q then (if kd.toNatClampNeg = 1 then 0 + 10 + 1 else b1) else b1)]), (k2, oB 2 [.long (if ratO T.2.1 kd q then (if kd.toNatClampNeg = 2 then 0 + 100 + 1 else b2) else b2)]), (k3, oB 4 [.long (if ratO T.2.1 kd q then (if kd.toNatClampNeg = 3 then 0 + 1000 + 10 + 1 else b3) else b3)]), (k4, oB 5 [.long (if ratO T.2.1 kd q then (if kd.toNatClampNeg = 4 then 0 + 10000 + 100 + 1 else b4) else b4)]), (k5, oB 1 [.long (if ratO T.2.1 kd q then (if kd.toNatClampNeg = 5 then 0 + 100000 + 1 else b5) else b5)])]) := by
  refine M.ofG (cc := cX11_rate) (maxL := 5) (ret := (some .int)) (lv := [(0, .ref c0), (1, .int kd), (2, .int q)]) (own := RX11) (by decide) rfl rfl (Nat.le_of_ble_eq_true rfl) rfl ?_
  intro K C X _
  have i1 : ∀ w ∈ wsX10, w ∈ wsX11_rate := by decide +kernel
  have i2 : ∀ w ∈ wsX20, w ∈ wsX11_rate := by decide +kernel
  have i3 : ∀ w ∈ wsX30, w ∈ wsX11_rate := by decide +kernel
  have i4 : ∀ w ∈ wsX40, w ∈ wsX11_rate := by decide +kernel
  have i5 : ∀ w ∈ wsX50, w ∈ wsX11_rate := by decide +kernel
  have i6 : ∀ w ∈ wsX60, w ∈ wsX11_rate := by decide +kernel
  have i11 : ∀ w ∈ wsX110, w ∈ wsX11_rate := by decide +kernel
  refine g_iload_n C dX11_rate_0 rfl 1 rfl ?_
  refine g_if_lt C 24 dX11_rate_1 (by decide) (fun cq1 => ?_) (fun cq1 => ?_)
  · have hno : ¬ ratO T.2.1 kd q := fun w => w.1.1 cq1
    refine g_ldc C (v := (-1000000)) (List.mem_of_getElem? (i := 3) rfl) dX11_rate_24 ?_
    exact g_iret C X dX11_rate_26 (⟨by unfold ratS; rw [if_neg hno], by simp only [if_neg hno]⟩)
  · refine g_iload_n C dX11_rate_4 rfl 1 rfl ?_
    refine g_aload_n C dX11_rate_5 rfl 0 rfl ?_
    refine g_get C i11 0 rfl rfl 4 (by decide) (List.mem_of_getElem? (i := 1) rfl) rfl rfl dX11_rate_6 ?_
    refine g_alenK C 4 rfl dX11_rate_9 ?_
    refine g_icmp_ge C 24 dX11_rate_10 (by decide) (fun cq2 => ?_) (fun cq2 => ?_)
    · have hno : ¬ ratO T.2.1 kd q := fun w => w.1.2 cq2
      refine g_ldc C (v := (-1000000)) (List.mem_of_getElem? (i := 3) rfl) dX11_rate_24 ?_
      exact g_iret C X dX11_rate_26 (⟨by unfold ratS; rw [if_neg hno], by simp only [if_neg hno]⟩)
    · refine g_aload_n C dX11_rate_13 rfl 0 rfl ?_
      refine g_get C i11 0 rfl rfl 9 (by decide) (List.mem_of_getElem? (i := 2) rfl) rfl rfl dX11_rate_14 ?_
      refine g_iload_n C dX11_rate_17 rfl 2 rfl ?_
      refine g_callV C (rest := []) (n := 1) (kX10_hasPillow l E t0 t1 t2 t3 T.1 T.2.1 q ) gX11_rate_X10_hasPillow rfl ⟨rfl, rfl⟩ (by decide) (Nat.le_of_ble_eq_true rfl) rfl (by decide +kernel) rfl dX11_rate_18 0 rfl rfl [1] [0, 2, 3, 4, 5, 6, 7, 8, 9, 10] rfl rfl ?_
      refine g_is1 (ws2 := [(c0, oB 11 [.ref r0, .ref h0, .ref s0, .ref g0, .ref ka, .ref n1, .ref n2, .ref n3, .ref ea, .ref t0, .ref u0, .int (nI nt), .long tr]), (t0, oB 10 [.ref t1, .ref t2, .ref t3, .int (nI T.1), .int (nI T.2.1)]), (h0, oB 8 [.ref h1]), (h1, iA E 50 f), (ka, kA E 6 kf), (k0, oB 6 [.long b0]), (k1, oB 3 [.long b1]), (k2, oB 2 [.long b2]), (k3, oB 4 [.long b3]), (k4, oB 5 [.long b4]), (k5, oB 1 [.long b5])]) (st2 := [.int (bI (inR q T.2.1))]) [0, 10, 1, 2, 3, 4, 5, 6, 7, 8, 9] rfl rfl rfl ?_
      refine g_if_neB C 27 dX11_rate_21 (by decide) (fun cq3 => ?_) (fun cq3 => ?_)
      · have hy : ratO T.2.1 kd q := ⟨⟨cq1, cq2⟩, cq3⟩
        obtain ⟨j, hj_j, rfl⟩ := inR_of (n := 6) (by decide) hy.1
        have hcl_j : (nI j).toNatClampNeg = j := nI_clamp (by omega)
        obtain ⟨i, hj_i, rfl⟩ := inR_of (n := T.2.1) (by omega) hy.2
        have hcl_i : (nI i).toNatClampNeg = i := nI_clamp (by omega)
        obtain rfl | rfl | rfl | rfl | rfl | rfl : j = 0 ∨ j = 1 ∨ j = 2 ∨ j = 3 ∨ j = 4 ∨ j = 5 := by omega
        · refine g_aload_n C dX11_rate_27 rfl 0 rfl ?_
          refine g_get C i11 0 rfl rfl 4 (by decide) (List.mem_of_getElem? (i := 1) rfl) rfl rfl dX11_rate_28 ?_
          refine g_iload_n C dX11_rate_31 rfl 1 rfl ?_
          refine g_aald C 4 rfl (by decide) (by decide) hk0 dX11_rate_32 ?_
          refine g_astore_n C (lv' := [(3, .ref k0), (0, .ref c0), (1, .int (nI 0)), (2, .int (nI i))]) dX11_rate_33 rfl (by decide) rfl ?_
          refine g_aload_n C dX11_rate_34 rfl 0 rfl ?_
          refine g_ifnonnull C 41 dX11_rate_35 (by decide) ?_
          refine g_aload_n C dX11_rate_41 rfl 0 rfl ?_
          refine g_lconst C 0 dX11_rate_42 rfl ?_
          refine g_put C i6 tyX6 tyX6_ok nmX6 5 rfl rfl 0 (by decide) (List.mem_of_getElem? (i := 4) rfl) rfl rfl rfl rfl rfl (Nat.le_of_ble_eq_true rfl) dX11_rate_43 (ws' := [(c0, oB 11 [.ref r0, .ref h0, .ref s0, .ref g0, .ref ka, .ref n1, .ref n2, .ref n3, .ref ea, .ref t0, .ref u0, .int (nI nt), .long tr]), (t0, oB 10 [.ref t1, .ref t2, .ref t3, .int (nI T.1), .int (nI T.2.1)]), (h0, oB 8 [.ref h1]), (h1, iA E 50 f), (ka, kA E 6 kf), (k0, oB 6 [.long 0]), (k1, oB 3 [.long b1]), (k2, oB 2 [.long b2]), (k3, oB 4 [.long b3]), (k4, oB 5 [.long b4]), (k5, oB 1 [.long b5])]) rfl ?_
          refine g_aload_n C dX11_rate_46 rfl 0 rfl ?_
          refine g_aload_n C dX11_rate_47 rfl 1 rfl ?_
          refine g_get C i11 0 rfl rfl 1 (by decide) (List.mem_of_getElem? (i := 5) rfl) rfl rfl dX11_rate_48 ?_
          refine g_iload_n C dX11_rate_51 rfl 3 rfl ?_
          refine g_callV C (rest := []) (n := 2) (kX6_rating_6 l E k0 0 h0 h1 f i (by omega)) gX11_rate_X6_rating rfl ⟨rfl, rfl⟩ (by decide) (Nat.le_of_ble_eq_true rfl) rfl (by decide +kernel) rfl dX11_rate_52 0 rfl rfl [5, 2, 3] [0, 1, 4, 6, 7, 8, 9, 10] rfl rfl ?_
          refine g_is1 (ws2 := [(c0, oB 11 [.ref r0, .ref h0, .ref s0, .ref g0, .ref ka, .ref n1, .ref n2, .ref n3, .ref ea, .ref t0, .ref u0, .int (nI nt), .long tr]), (t0, oB 10 [.ref t1, .ref t2, .ref t3, .int (nI T.1), .int (nI T.2.1)]), (h0, oB 8 [.ref h1]), (h1, iA E 50 f), (ka, kA E 6 kf), (k0, oB 6 [.long (0 + 1)]), (k1, oB 3 [.long b1]), (k2, oB 2 [.long b2]), (k3, oB 4 [.long b3]), (k4, oB 5 [.long b4]), (k5, oB 1 [.long b5])]) (st2 := [.int (rt6 f i)]) [0, 1, 9, 10, 2, 8, 3, 4, 5, 6, 7] rfl rfl rfl ?_
          refine g_istore C (lv' := [(4, .int (rt6 f i)), (3, .ref k0), (0, .ref c0), (1, .int (nI 0)), (2, .int (nI i))]) dX11_rate_55 (by decide) rfl ?_
          refine g_aload_n C dX11_rate_57 rfl 2 rfl ?_
          refine g_dup C dX11_rate_58 rfl ?_
          refine g_get C i11 0 rfl rfl 12 (by decide) (List.mem_of_getElem? (i := 6) rfl) rfl rfl dX11_rate_59 ?_
          refine g_aload_n C dX11_rate_62 rfl 1 rfl ?_
          refine g_get C i6 5 rfl rfl 0 (by decide) (List.mem_of_getElem? (i := 4) rfl) rfl rfl dX11_rate_63 ?_
          refine g_ladd C dX11_rate_66 ?_
          refine g_put C i11 tyX11 tyX11_ok nmX11 0 rfl rfl 12 (by decide) (List.mem_of_getElem? (i := 6) rfl) rfl rfl rfl rfl rfl (Nat.le_of_ble_eq_true rfl) dX11_rate_67 (ws' := [(c0, oB 11 [.ref r0, .ref h0, .ref s0, .ref g0, .ref ka, .ref n1, .ref n2, .ref n3, .ref ea, .ref t0, .ref u0, .int (nI nt), .long (tr + (0 + 1))]), (t0, oB 10 [.ref t1, .ref t2, .ref t3, .int (nI T.1), .int (nI T.2.1)]), (h0, oB 8 [.ref h1]), (h1, iA E 50 f), (ka, kA E 6 kf), (k0, oB 6 [.long (0 + 1)]), (k1, oB 3 [.long b1]), (k2, oB 2 [.long b2]), (k3, oB 4 [.long b3]), (k4, oB 5 [.long b4]), (k5, oB 1 [.long b5])]) rfl ?_
          refine g_iload C dX11_rate_70 0 rfl ?_
          exact g_iret C X dX11_rate_72 (⟨by unfold ratS; rw [if_pos hy, hcl_j, hcl_i]; rfl, by simp only [if_pos hy, hcl_j]; rfl⟩)
        · refine g_aload_n C dX11_rate_27 rfl 0 rfl ?_
          refine g_get C i11 0 rfl rfl 4 (by decide) (List.mem_of_getElem? (i := 1) rfl) rfl rfl dX11_rate_28 ?_
          refine g_iload_n C dX11_rate_31 rfl 1 rfl ?_
          refine g_aald C 4 rfl (by decide) (by decide) hk1 dX11_rate_32 ?_
          refine g_astore_n C (lv' := [(3, .ref k1), (0, .ref c0), (1, .int (nI 1)), (2, .int (nI i))]) dX11_rate_33 rfl (by decide) rfl ?_
          refine g_aload_n C dX11_rate_34 rfl 0 rfl ?_
          refine g_ifnonnull C 41 dX11_rate_35 (by decide) ?_
          refine g_aload_n C dX11_rate_41 rfl 0 rfl ?_
          refine g_lconst C 0 dX11_rate_42 rfl ?_
          refine g_put C i3 tyX3 tyX3_ok nmX3 6 rfl rfl 0 (by decide) (List.mem_of_getElem? (i := 4) rfl) rfl rfl rfl rfl rfl (Nat.le_of_ble_eq_true rfl) dX11_rate_43 (ws' := [(c0, oB 11 [.ref r0, .ref h0, .ref s0, .ref g0, .ref ka, .ref n1, .ref n2, .ref n3, .ref ea, .ref t0, .ref u0, .int (nI nt), .long tr]), (t0, oB 10 [.ref t1, .ref t2, .ref t3, .int (nI T.1), .int (nI T.2.1)]), (h0, oB 8 [.ref h1]), (h1, iA E 50 f), (ka, kA E 6 kf), (k0, oB 6 [.long b0]), (k1, oB 3 [.long 0]), (k2, oB 2 [.long b2]), (k3, oB 4 [.long b3]), (k4, oB 5 [.long b4]), (k5, oB 1 [.long b5])]) rfl ?_
          refine g_aload_n C dX11_rate_46 rfl 0 rfl ?_
          refine g_aload_n C dX11_rate_47 rfl 1 rfl ?_
          refine g_get C i11 0 rfl rfl 1 (by decide) (List.mem_of_getElem? (i := 5) rfl) rfl rfl dX11_rate_48 ?_
          refine g_iload_n C dX11_rate_51 rfl 3 rfl ?_
          refine g_callO C (rest := []) (n := 2) (kX3_rating_3 l E k1 0 h0 h1 f i (by omega)) gX11_rate_X3_rating_u253X3 rfl ⟨rfl, rfl⟩ (by decide) (Nat.le_of_ble_eq_true rfl) rfl (List.mem_of_getElem? (i := 27) rfl) (by decide +kernel) rfl dX11_rate_52 0 rfl rfl [6, 2, 3] [0, 1, 4, 5, 7, 8, 9, 10] rfl rfl ?_
          refine g_is1 (ws2 := [(c0, oB 11 [.ref r0, .ref h0, .ref s0, .ref g0, .ref ka, .ref n1, .ref n2, .ref n3, .ref ea, .ref t0, .ref u0, .int (nI nt), .long tr]), (t0, oB 10 [.ref t1, .ref t2, .ref t3, .int (nI T.1), .int (nI T.2.1)]), (h0, oB 8 [.ref h1]), (h1, iA E 50 f), (ka, kA E 6 kf), (k0, oB 6 [.long b0]), (k1, oB 3 [.long (0 + 10 + 1)]), (k2, oB 2 [.long b2]), (k3, oB 4 [.long b3]), (k4, oB 5 [.long b4]), (k5, oB 1 [.long b5])]) (st2 := [.int (rt3 f i)]) [0, 1, 9, 10, 2, 3, 8, 4, 5, 6, 7] rfl rfl rfl ?_
          refine g_istore C (lv' := [(4, .int (rt3 f i)), (3, .ref k1), (0, .ref c0), (1, .int (nI 1)), (2, .int (nI i))]) dX11_rate_55 (by decide) rfl ?_
          refine g_aload_n C dX11_rate_57 rfl 2 rfl ?_
          refine g_dup C dX11_rate_58 rfl ?_
          refine g_get C i11 0 rfl rfl 12 (by decide) (List.mem_of_getElem? (i := 6) rfl) rfl rfl dX11_rate_59 ?_
          refine g_aload_n C dX11_rate_62 rfl 1 rfl ?_
          refine g_get C i3 6 rfl rfl 0 (by decide) (List.mem_of_getElem? (i := 4) rfl) rfl rfl dX11_rate_63 ?_
          refine g_ladd C dX11_rate_66 ?_
          refine g_put C i11 tyX11 tyX11_ok nmX11 0 rfl rfl 12 (by decide) (List.mem_of_getElem? (i := 6) rfl) rfl rfl rfl rfl rfl (Nat.le_of_ble_eq_true rfl) dX11_rate_67 (ws' := [(c0, oB 11 [.ref r0, .ref h0, .ref s0, .ref g0, .ref ka, .ref n1, .ref n2, .ref n3, .ref ea, .ref t0, .ref u0, .int (nI nt), .long (tr + (0 + 10 + 1))]), (t0, oB 10 [.ref t1, .ref t2, .ref t3, .int (nI T.1), .int (nI T.2.1)]), (h0, oB 8 [.ref h1]), (h1, iA E 50 f), (ka, kA E 6 kf), (k0, oB 6 [.long b0]), (k1, oB 3 [.long (0 + 10 + 1)]), (k2, oB 2 [.long b2]), (k3, oB 4 [.long b3]), (k4, oB 5 [.long b4]), (k5, oB 1 [.long b5])]) rfl ?_
          refine g_iload C dX11_rate_70 0 rfl ?_
          exact g_iret C X dX11_rate_72 (⟨by unfold ratS; rw [if_pos hy, hcl_j, hcl_i]; rfl, by simp only [if_pos hy, hcl_j]; rfl⟩)
        · refine g_aload_n C dX11_rate_27 rfl 0 rfl ?_
          refine g_get C i11 0 rfl rfl 4 (by decide) (List.mem_of_getElem? (i := 1) rfl) rfl rfl dX11_rate_28 ?_
          refine g_iload_n C dX11_rate_31 rfl 1 rfl ?_
          refine g_aald C 4 rfl (by decide) (by decide) hk2 dX11_rate_32 ?_
          refine g_astore_n C (lv' := [(3, .ref k2), (0, .ref c0), (1, .int (nI 2)), (2, .int (nI i))]) dX11_rate_33 rfl (by decide) rfl ?_
          refine g_aload_n C dX11_rate_34 rfl 0 rfl ?_
          refine g_ifnonnull C 41 dX11_rate_35 (by decide) ?_
          refine g_aload_n C dX11_rate_41 rfl 0 rfl ?_
          refine g_lconst C 0 dX11_rate_42 rfl ?_
          refine g_put C i2 tyX2 tyX2_ok nmX2 7 rfl rfl 0 (by decide) (List.mem_of_getElem? (i := 4) rfl) rfl rfl rfl rfl rfl (Nat.le_of_ble_eq_true rfl) dX11_rate_43 (ws' := [(c0, oB 11 [.ref r0, .ref h0, .ref s0, .ref g0, .ref ka, .ref n1, .ref n2, .ref n3, .ref ea, .ref t0, .ref u0, .int (nI nt), .long tr]), (t0, oB 10 [.ref t1, .ref t2, .ref t3, .int (nI T.1), .int (nI T.2.1)]), (h0, oB 8 [.ref h1]), (h1, iA E 50 f), (ka, kA E 6 kf), (k0, oB 6 [.long b0]), (k1, oB 3 [.long b1]), (k2, oB 2 [.long 0]), (k3, oB 4 [.long b3]), (k4, oB 5 [.long b4]), (k5, oB 1 [.long b5])]) rfl ?_
          refine g_aload_n C dX11_rate_46 rfl 0 rfl ?_
          refine g_aload_n C dX11_rate_47 rfl 1 rfl ?_
          refine g_get C i11 0 rfl rfl 1 (by decide) (List.mem_of_getElem? (i := 5) rfl) rfl rfl dX11_rate_48 ?_
          refine g_iload_n C dX11_rate_51 rfl 3 rfl ?_
          refine g_callO C (rest := []) (n := 2) (kX2_rating_2 l E k2 0 h0 h1 f i (by omega)) gX11_rate_X2_rating_u253X2 rfl ⟨rfl, rfl⟩ (by decide) (Nat.le_of_ble_eq_true rfl) rfl (List.mem_of_getElem? (i := 27) rfl) (by decide +kernel) rfl dX11_rate_52 0 rfl rfl [7, 2, 3] [0, 1, 4, 5, 6, 8, 9, 10] rfl rfl ?_
          refine g_is1 (ws2 := [(c0, oB 11 [.ref r0, .ref h0, .ref s0, .ref g0, .ref ka, .ref n1, .ref n2, .ref n3, .ref ea, .ref t0, .ref u0, .int (nI nt), .long tr]), (t0, oB 10 [.ref t1, .ref t2, .ref t3, .int (nI T.1), .int (nI T.2.1)]), (h0, oB 8 [.ref h1]), (h1, iA E 50 f), (ka, kA E 6 kf), (k0, oB 6 [.long b0]), (k1, oB 3 [.long b1]), (k2, oB 2 [.long (0 + 100 + 1)]), (k3, oB 4 [.long b3]), (k4, oB 5 [.long b4]), (k5, oB 1 [.long b5])]) (st2 := [.int (rt2 f i)]) [0, 1, 9, 10, 2, 3, 4, 8, 5, 6, 7] rfl rfl rfl ?_
          refine g_istore C (lv' := [(4, .int (rt2 f i)), (3, .ref k2), (0, .ref c0), (1, .int (nI 2)), (2, .int (nI i))]) dX11_rate_55 (by decide) rfl ?_
          refine g_aload_n C dX11_rate_57 rfl 2 rfl ?_
          refine g_dup C dX11_rate_58 rfl ?_
          refine g_get C i11 0 rfl rfl 12 (by decide) (List.mem_of_getElem? (i := 6) rfl) rfl rfl dX11_rate_59 ?_
          refine g_aload_n C dX11_rate_62 rfl 1 rfl ?_
          refine g_get C i2 7 rfl rfl 0 (by decide) (List.mem_of_getElem? (i := 4) rfl) rfl rfl dX11_rate_63 ?_
          refine g_ladd C dX11_rate_66 ?_
          refine g_put C i11 tyX11 tyX11_ok nmX11 0 rfl rfl 12 (by decide) (List.mem_of_getElem? (i := 6) rfl) rfl rfl rfl rfl rfl (Nat.le_of_ble_eq_true rfl) dX11_rate_67 (ws' := [(c0, oB 11 [.ref r0, .ref h0, .ref s0, .ref g0, .ref ka, .ref n1, .ref n2, .ref n3, .ref ea, .ref t0, .ref u0, .int (nI nt), .long (tr + (0 + 100 + 1))]), (t0, oB 10 [.ref t1, .ref t2, .ref t3, .int (nI T.1), .int (nI T.2.1)]), (h0, oB 8 [.ref h1]), (h1, iA E 50 f), (ka, kA E 6 kf), (k0, oB 6 [.long b0]), (k1, oB 3 [.long b1]), (k2, oB 2 [.long (0 + 100 + 1)]), (k3, oB 4 [.long b3]), (k4, oB 5 [.long b4]), (k5, oB 1 [.long b5])]) rfl ?_
          refine g_iload C dX11_rate_70 0 rfl ?_
          exact g_iret C X dX11_rate_72 (⟨by unfold ratS; rw [if_pos hy, hcl_j, hcl_i]; rfl, by simp only [if_pos hy, hcl_j]; rfl⟩)
        · refine g_aload_n C dX11_rate_27 rfl 0 rfl ?_
          refine g_get C i11 0 rfl rfl 4 (by decide) (List.mem_of_getElem? (i := 1) rfl) rfl rfl dX11_rate_28 ?_
          refine g_iload_n C dX11_rate_31 rfl 1 rfl ?_
          refine g_aald C 4 rfl (by decide) (by decide) hk3 dX11_rate_32 ?_
          refine g_astore_n C (lv' := [(3, .ref k3), (0, .ref c0), (1, .int (nI 3)), (2, .int (nI i))]) dX11_rate_33 rfl (by decide) rfl ?_
          refine g_aload_n C dX11_rate_34 rfl 0 rfl ?_
          refine g_ifnonnull C 41 dX11_rate_35 (by decide) ?_
          refine g_aload_n C dX11_rate_41 rfl 0 rfl ?_
          refine g_lconst C 0 dX11_rate_42 rfl ?_
          refine g_put C i4 tyX4 tyX4_ok nmX4 8 rfl rfl 0 (by decide) (List.mem_of_getElem? (i := 4) rfl) rfl rfl rfl rfl rfl (Nat.le_of_ble_eq_true rfl) dX11_rate_43 (ws' := [(c0, oB 11 [.ref r0, .ref h0, .ref s0, .ref g0, .ref ka, .ref n1, .ref n2, .ref n3, .ref ea, .ref t0, .ref u0, .int (nI nt), .long tr]), (t0, oB 10 [.ref t1, .ref t2, .ref t3, .int (nI T.1), .int (nI T.2.1)]), (h0, oB 8 [.ref h1]), (h1, iA E 50 f), (ka, kA E 6 kf), (k0, oB 6 [.long b0]), (k1, oB 3 [.long b1]), (k2, oB 2 [.long b2]), (k3, oB 4 [.long 0]), (k4, oB 5 [.long b4]), (k5, oB 1 [.long b5])]) rfl ?_
          refine g_aload_n C dX11_rate_46 rfl 0 rfl ?_
          refine g_aload_n C dX11_rate_47 rfl 1 rfl ?_
          refine g_get C i11 0 rfl rfl 1 (by decide) (List.mem_of_getElem? (i := 5) rfl) rfl rfl dX11_rate_48 ?_
          refine g_iload_n C dX11_rate_51 rfl 3 rfl ?_
          refine g_callO C (rest := []) (n := 2) (kX4_rating l E k3 0 h0 h1 f i (by omega)) gX11_rate_X4_rating_u253X4 rfl ⟨rfl, rfl⟩ (by decide) (Nat.le_of_ble_eq_true rfl) rfl (List.mem_of_getElem? (i := 27) rfl) (by decide +kernel) rfl dX11_rate_52 0 rfl rfl [8, 2, 3] [0, 1, 4, 5, 6, 7, 9, 10] rfl rfl ?_
          refine g_is1 (ws2 := [(c0, oB 11 [.ref r0, .ref h0, .ref s0, .ref g0, .ref ka, .ref n1, .ref n2, .ref n3, .ref ea, .ref t0, .ref u0, .int (nI nt), .long tr]), (t0, oB 10 [.ref t1, .ref t2, .ref t3, .int (nI T.1), .int (nI T.2.1)]), (h0, oB 8 [.ref h1]), (h1, iA E 50 f), (ka, kA E 6 kf), (k0, oB 6 [.long b0]), (k1, oB 3 [.long b1]), (k2, oB 2 [.long b2]), (k3, oB 4 [.long (0 + 1000 + 10 + 1)]), (k4, oB 5 [.long b4]), (k5, oB 1 [.long b5])]) (st2 := [.int (nI 2 * rt3 f i)]) [0, 1, 9, 10, 2, 3, 4, 5, 8, 6, 7] rfl rfl rfl ?_
          refine g_istore C (lv' := [(4, .int (nI 2 * rt3 f i)), (3, .ref k3), (0, .ref c0), (1, .int (nI 3)), (2, .int (nI i))]) dX11_rate_55 (by decide) rfl ?_
          refine g_aload_n C dX11_rate_57 rfl 2 rfl ?_
          refine g_dup C dX11_rate_58 rfl ?_
          refine g_get C i11 0 rfl rfl 12 (by decide) (List.mem_of_getElem? (i := 6) rfl) rfl rfl dX11_rate_59 ?_
          refine g_aload_n C dX11_rate_62 rfl 1 rfl ?_
          refine g_get C i4 8 rfl rfl 0 (by decide) (List.mem_of_getElem? (i := 4) rfl) rfl rfl dX11_rate_63 ?_
          refine g_ladd C dX11_rate_66 ?_
          refine g_put C i11 tyX11 tyX11_ok nmX11 0 rfl rfl 12 (by decide) (List.mem_of_getElem? (i := 6) rfl) rfl rfl rfl rfl rfl (Nat.le_of_ble_eq_true rfl) dX11_rate_67 (ws' := [(c0, oB 11 [.ref r0, .ref h0, .ref s0, .ref g0, .ref ka, .ref n1, .ref n2, .ref n3, .ref ea, .ref t0, .ref u0, .int (nI nt), .long (tr + (0 + 1000 + 10 + 1))]), (t0, oB 10 [.ref t1, .ref t2, .ref t3, .int (nI T.1), .int (nI T.2.1)]), (h0, oB 8 [.ref h1]), (h1, iA E 50 f), (ka, kA E 6 kf), (k0, oB 6 [.long b0]), (k1, oB 3 [.long b1]), (k2, oB 2 [.long b2]), (k3, oB 4 [.long (0 + 1000 + 10 + 1)]), (k4, oB 5 [.long b4]), (k5, oB 1 [.long b5])]) rfl ?_
          refine g_iload C dX11_rate_70 0 rfl ?_
          exact g_iret C X dX11_rate_72 (⟨by unfold ratS; rw [if_pos hy, hcl_j, hcl_i]; rfl, by simp only [if_pos hy, hcl_j]; rfl⟩)
        · refine g_aload_n C dX11_rate_27 rfl 0 rfl ?_
          refine g_get C i11 0 rfl rfl 4 (by decide) (List.mem_of_getElem? (i := 1) rfl) rfl rfl dX11_rate_28 ?_
          refine g_iload_n C dX11_rate_31 rfl 1 rfl ?_
          refine g_aald C 4 rfl (by decide) (by decide) hk4 dX11_rate_32 ?_
          refine g_astore_n C (lv' := [(3, .ref k4), (0, .ref c0), (1, .int (nI 4)), (2, .int (nI i))]) dX11_rate_33 rfl (by decide) rfl ?_
          refine g_aload_n C dX11_rate_34 rfl 0 rfl ?_
          refine g_ifnonnull C 41 dX11_rate_35 (by decide) ?_
          refine g_aload_n C dX11_rate_41 rfl 0 rfl ?_
          refine g_lconst C 0 dX11_rate_42 rfl ?_
          refine g_put C i5 tyX5 tyX5_ok nmX5 9 rfl rfl 0 (by decide) (List.mem_of_getElem? (i := 4) rfl) rfl rfl rfl rfl rfl (Nat.le_of_ble_eq_true rfl) dX11_rate_43 (ws' := [(c0, oB 11 [.ref r0, .ref h0, .ref s0, .ref g0, .ref ka, .ref n1, .ref n2, .ref n3, .ref ea, .ref t0, .ref u0, .int (nI nt), .long tr]), (t0, oB 10 [.ref t1, .ref t2, .ref t3, .int (nI T.1), .int (nI T.2.1)]), (h0, oB 8 [.ref h1]), (h1, iA E 50 f), (ka, kA E 6 kf), (k0, oB 6 [.long b0]), (k1, oB 3 [.long b1]), (k2, oB 2 [.long b2]), (k3, oB 4 [.long b3]), (k4, oB 5 [.long 0]), (k5, oB 1 [.long b5])]) rfl ?_
          refine g_aload_n C dX11_rate_46 rfl 0 rfl ?_
          refine g_aload_n C dX11_rate_47 rfl 1 rfl ?_
          refine g_get C i11 0 rfl rfl 1 (by decide) (List.mem_of_getElem? (i := 5) rfl) rfl rfl dX11_rate_48 ?_
          refine g_iload_n C dX11_rate_51 rfl 3 rfl ?_
          refine g_callO C (rest := []) (n := 2) (kX5_rating l E k4 0 h0 h1 f i (by omega)) gX11_rate_X5_rating_u253X5 rfl ⟨rfl, rfl⟩ (by decide) (Nat.le_of_ble_eq_true rfl) rfl (List.mem_of_getElem? (i := 27) rfl) (by decide +kernel) rfl dX11_rate_52 0 rfl rfl [9, 2, 3] [0, 1, 4, 5, 6, 7, 8, 10] rfl rfl ?_
          refine g_is1 (ws2 := [(c0, oB 11 [.ref r0, .ref h0, .ref s0, .ref g0, .ref ka, .ref n1, .ref n2, .ref n3, .ref ea, .ref t0, .ref u0, .int (nI nt), .long tr]), (t0, oB 10 [.ref t1, .ref t2, .ref t3, .int (nI T.1), .int (nI T.2.1)]), (h0, oB 8 [.ref h1]), (h1, iA E 50 f), (ka, kA E 6 kf), (k0, oB 6 [.long b0]), (k1, oB 3 [.long b1]), (k2, oB 2 [.long b2]), (k3, oB 4 [.long b3]), (k4, oB 5 [.long (0 + 10000 + 100 + 1)]), (k5, oB 1 [.long b5])]) (st2 := [.int (rt2 f i + nI i)]) [0, 1, 9, 10, 2, 3, 4, 5, 6, 8, 7] rfl rfl rfl ?_
          refine g_istore C (lv' := [(4, .int (rt2 f i + nI i)), (3, .ref k4), (0, .ref c0), (1, .int (nI 4)), (2, .int (nI i))]) dX11_rate_55 (by decide) rfl ?_
          refine g_aload_n C dX11_rate_57 rfl 2 rfl ?_
          refine g_dup C dX11_rate_58 rfl ?_
          refine g_get C i11 0 rfl rfl 12 (by decide) (List.mem_of_getElem? (i := 6) rfl) rfl rfl dX11_rate_59 ?_
          refine g_aload_n C dX11_rate_62 rfl 1 rfl ?_
          refine g_get C i5 9 rfl rfl 0 (by decide) (List.mem_of_getElem? (i := 4) rfl) rfl rfl dX11_rate_63 ?_
          refine g_ladd C dX11_rate_66 ?_
          refine g_put C i11 tyX11 tyX11_ok nmX11 0 rfl rfl 12 (by decide) (List.mem_of_getElem? (i := 6) rfl) rfl rfl rfl rfl rfl (Nat.le_of_ble_eq_true rfl) dX11_rate_67 (ws' := [(c0, oB 11 [.ref r0, .ref h0, .ref s0, .ref g0, .ref ka, .ref n1, .ref n2, .ref n3, .ref ea, .ref t0, .ref u0, .int (nI nt), .long (tr + (0 + 10000 + 100 + 1))]), (t0, oB 10 [.ref t1, .ref t2, .ref t3, .int (nI T.1), .int (nI T.2.1)]), (h0, oB 8 [.ref h1]), (h1, iA E 50 f), (ka, kA E 6 kf), (k0, oB 6 [.long b0]), (k1, oB 3 [.long b1]), (k2, oB 2 [.long b2]), (k3, oB 4 [.long b3]), (k4, oB 5 [.long (0 + 10000 + 100 + 1)]), (k5, oB 1 [.long b5])]) rfl ?_
          refine g_iload C dX11_rate_70 0 rfl ?_
          exact g_iret C X dX11_rate_72 (⟨by unfold ratS; rw [if_pos hy, hcl_j, hcl_i]; rfl, by simp only [if_pos hy, hcl_j]; rfl⟩)
        · refine g_aload_n C dX11_rate_27 rfl 0 rfl ?_
          refine g_get C i11 0 rfl rfl 4 (by decide) (List.mem_of_getElem? (i := 1) rfl) rfl rfl dX11_rate_28 ?_
          refine g_iload_n C dX11_rate_31 rfl 1 rfl ?_
          refine g_aald C 4 rfl (by decide) (by decide) hk5 dX11_rate_32 ?_
          refine g_astore_n C (lv' := [(3, .ref k5), (0, .ref c0), (1, .int (nI 5)), (2, .int (nI i))]) dX11_rate_33 rfl (by decide) rfl ?_
          refine g_aload_n C dX11_rate_34 rfl 0 rfl ?_
          refine g_ifnonnull C 41 dX11_rate_35 (by decide) ?_
          refine g_aload_n C dX11_rate_41 rfl 0 rfl ?_
          refine g_lconst C 0 dX11_rate_42 rfl ?_
          refine g_put C i1 tyX1 tyX1_ok nmX1 10 rfl rfl 0 (by decide) (List.mem_of_getElem? (i := 4) rfl) rfl rfl rfl rfl rfl (Nat.le_of_ble_eq_true rfl) dX11_rate_43 (ws' := [(c0, oB 11 [.ref r0, .ref h0, .ref s0, .ref g0, .ref ka, .ref n1, .ref n2, .ref n3, .ref ea, .ref t0, .ref u0, .int (nI nt), .long tr]), (t0, oB 10 [.ref t1, .ref t2, .ref t3, .int (nI T.1), .int (nI T.2.1)]), (h0, oB 8 [.ref h1]), (h1, iA E 50 f), (ka, kA E 6 kf), (k0, oB 6 [.long b0]), (k1, oB 3 [.long b1]), (k2, oB 2 [.long b2]), (k3, oB 4 [.long b3]), (k4, oB 5 [.long b4]), (k5, oB 1 [.long 0])]) rfl ?_
          refine g_aload_n C dX11_rate_46 rfl 0 rfl ?_
          refine g_aload_n C dX11_rate_47 rfl 1 rfl ?_
          refine g_get C i11 0 rfl rfl 1 (by decide) (List.mem_of_getElem? (i := 5) rfl) rfl rfl dX11_rate_48 ?_
          refine g_iload_n C dX11_rate_51 rfl 3 rfl ?_
          refine g_callO C (rest := []) (n := 2) (kX1_rating l E k5 0 h0 h1 f i (by omega)) gX11_rate_X1_rating_u253X1 rfl ⟨rfl, rfl⟩ (by decide) (Nat.le_of_ble_eq_true rfl) rfl (List.mem_of_getElem? (i := 27) rfl) (by decide +kernel) rfl dX11_rate_52 0 rfl rfl [10, 2, 3] [0, 1, 4, 5, 6, 7, 8, 9] rfl rfl ?_
          refine g_is1 (ws2 := [(c0, oB 11 [.ref r0, .ref h0, .ref s0, .ref g0, .ref ka, .ref n1, .ref n2, .ref n3, .ref ea, .ref t0, .ref u0, .int (nI nt), .long tr]), (t0, oB 10 [.ref t1, .ref t2, .ref t3, .int (nI T.1), .int (nI T.2.1)]), (h0, oB 8 [.ref h1]), (h1, iA E 50 f), (ka, kA E 6 kf), (k0, oB 6 [.long b0]), (k1, oB 3 [.long b1]), (k2, oB 2 [.long b2]), (k3, oB 4 [.long b3]), (k4, oB 5 [.long b4]), (k5, oB 1 [.long (0 + 100000 + 1)])]) (st2 := [.int (rt6 f i + f 49)]) [0, 1, 9, 10, 2, 3, 4, 5, 6, 7, 8] rfl rfl rfl ?_
          refine g_istore C (lv' := [(4, .int (rt6 f i + f 49)), (3, .ref k5), (0, .ref c0), (1, .int (nI 5)), (2, .int (nI i))]) dX11_rate_55 (by decide) rfl ?_
          refine g_aload_n C dX11_rate_57 rfl 2 rfl ?_
          refine g_dup C dX11_rate_58 rfl ?_
          refine g_get C i11 0 rfl rfl 12 (by decide) (List.mem_of_getElem? (i := 6) rfl) rfl rfl dX11_rate_59 ?_
          refine g_aload_n C dX11_rate_62 rfl 1 rfl ?_
          refine g_get C i1 10 rfl rfl 0 (by decide) (List.mem_of_getElem? (i := 4) rfl) rfl rfl dX11_rate_63 ?_
          refine g_ladd C dX11_rate_66 ?_
          refine g_put C i11 tyX11 tyX11_ok nmX11 0 rfl rfl 12 (by decide) (List.mem_of_getElem? (i := 6) rfl) rfl rfl rfl rfl rfl (Nat.le_of_ble_eq_true rfl) dX11_rate_67 (ws' := [(c0, oB 11 [.ref r0, .ref h0, .ref s0, .ref g0, .ref ka, .ref n1, .ref n2, .ref n3, .ref ea, .ref t0, .ref u0, .int (nI nt), .long (tr + (0 + 100000 + 1))]), (t0, oB 10 [.ref t1, .ref t2, .ref t3, .int (nI T.1), .int (nI T.2.1)]), (h0, oB 8 [.ref h1]), (h1, iA E 50 f), (ka, kA E 6 kf), (k0, oB 6 [.long b0]), (k1, oB 3 [.long b1]), (k2, oB 2 [.long b2]), (k3, oB 4 [.long b3]), (k4, oB 5 [.long b4]), (k5, oB 1 [.long (0 + 100000 + 1)])]) rfl ?_
          refine g_iload C dX11_rate_70 0 rfl ?_
          exact g_iret C X dX11_rate_72 (⟨by unfold ratS; rw [if_pos hy, hcl_j, hcl_i]; rfl, by simp only [if_pos hy, hcl_j]; rfl⟩)
      · have hno : ¬ ratO T.2.1 kd q := fun w => cq3 w.2
        refine g_ldc C (v := (-1000000)) (List.mem_of_getElem? (i := 3) rfl) dX11_rate_24 ?_
        exact g_iret C X dX11_rate_26 (⟨by unfold ratS; rw [if_neg hno], by simp only [if_neg hno]⟩)

set_option maxHeartbeats 4000000 in
set_option maxRecDepth 100000 in
theorem kX11_court (l : Launch) (E : EX) (c0 r0 h0 s0 g0 ka n1 n2 n3 ea t0 u0 nt : Nat) (tr : Int64) (r1 n : Nat) (tx : Nat → Int32) (R : RS) (h1 : Nat) (f : Nat → Int32) (s1 s2 s3 und top : Nat) (kp : Nat → Int32) (u1 u2 u3 : Nat) (V : TS) (t1 t2 t3 : Nat) (T : TS) (hn : n ≤ 200) : M l E yX11_court wsX11_court { frames := 7, cells := 0, slots := 0, locals := 149 } 0 0 [.ref c0] [(c0, oB 11 [.ref r0, .ref h0, .ref s0, .ref g0, .ref ka, .ref n1, .ref n2, .ref n3, .ref ea, .ref t0, .ref u0, .int (nI nt), .long tr]), (r0, oB 7 [.ref r1, .int (nI n), .int (nI R.1), .int R.2.1, .int (nI R.2.2.1), .int R.2.2.2]), (r1, iA E 200 tx), (h0, oB 8 [.ref h1]), (h1, iA E 50 f), (s0, oB 9 [.ref s1, .ref s2, .ref s3, .int (nI und), .int (nI top)]), (s3, zA E 2 kp), (u0, oB 10 [.ref u1, .ref u2, .ref u3, .int (nI V.1), .int (nI V.2.1)]), (u1, iA E 6 V.2.2.1), (u2, iA E 6 V.2.2.2.1), (u3, iA E 7 V.2.2.2.2), (t0, oB 10 [.ref t1, .ref t2, .ref t3, .int (nI T.1), .int (nI T.2.1)]), (t1, iA E 6 T.2.2.1), (t2, iA E 6 T.2.2.2.1), (t3, iA E 7 T.2.2.2.2)] (fun v w1 => (((rdA tx n R V).1 < 0 ∧ v = some (.int (rdA tx n R V).1) ∧ w1 = [(c0, oB 11 [.ref r0, .ref h0, .ref s0, .ref g0, .ref ka, .ref n1, .ref n2, .ref n3, .ref ea, .ref t0, .ref u0, .int (nI nt), .long tr]), (r0, oB 7 [.ref r1, .int (nI n), .int (nI (((rdA tx n R V).2.1).1)), .int (((rdA tx n R V).2.1).2.1), .int (nI (((rdA tx n R V).2.1).2.2.1)), .int (((rdA tx n R V).2.1).2.2.2)]), (r1, iA E 200 tx), (h0, oB 8 [.ref h1]), (h1, iA E 50 f), (s0, oB 9 [.ref s1, .ref s2, .ref s3, .int (nI und), .int (nI top)]), (s3, zA E 2 kp), (u0, oB 10 [.ref u1, .ref u2, .ref u3, .int (nI (((rdA tx n R V).2.2).1)), .int (nI (((rdA tx n R V).2.2).2.1))]), (u1, iA E 6 (((rdA tx n R V).2.2).2.2.1)), (u2, iA E 6 (((rdA tx n R V).2.2).2.2.2.1)), (u3, iA E 7 (((rdA tx n R V).2.2).2.2.2.2)), (t0, oB 10 [.ref t1, .ref t2, .ref t3, .int (nI T.1), .int (nI T.2.1)]), (t1, iA E 6 T.2.2.1), (t2, iA E 6 T.2.2.2.1), (t3, iA E 7 T.2.2.2.2)]) ∨ (¬ (rdA tx n R V).1 < 0 ∧ v = some (.int (rdA tx n R V).1) ∧ w1 = [(c0, oB 11 [.ref r0, .ref h0, .ref s0, .ref g0, .ref ka, .ref n1, .ref n2, .ref n3, .ref ea, .ref u0, .ref t0, .int (nI 0), .long tr]), (r0, oB 7 [.ref r1, .int (nI 0), .int (nI (((rdA tx n R V).2.1).1)), .int (((rdA tx n R V).2.1).2.1), .int (nI (((rdA tx n R V).2.1).2.2.1)), .int (((rdA tx n R V).2.1).2.2.2)]), (r1, iA E 200 tx), (h0, oB 8 [.ref h1]), (h1, iA E 50 (begA f (rdA tx n R V).2.2.1 (rdA tx n R V).2.2.2.1 6)), (s0, oB 9 [.ref s1, .ref s2, .ref s3, .int (nI 0), .int (nI top)]), (s3, zA E 2 (filA kp (nI 0) 2)), (u0, oB 10 [.ref u1, .ref u2, .ref u3, .int (nI (((rdA tx n R V).2.2).1)), .int (nI (((rdA tx n R V).2.2).2.1))]), (u1, iA E 6 (((rdA tx n R V).2.2).2.2.1)), (u2, iA E 6 (((rdA tx n R V).2.2).2.2.2.1)), (u3, iA E 7 (((rdA tx n R V).2.2).2.2.2.2)), (t0, oB 10 [.ref t1, .ref t2, .ref t3, .int (nI T.1), .int (nI T.2.1)]), (t1, iA E 6 T.2.2.1), (t2, iA E 6 T.2.2.2.1), (t3, iA E 7 T.2.2.2.2)]))) := by
  refine M.ofG (cc := cX11_court) (maxL := 3) (ret := (some .int)) (lv := [(0, .ref c0)]) (own := RX11) (by decide) rfl rfl (Nat.le_of_ble_eq_true rfl) rfl ?_
  intro K C X _
  have i11 : ∀ w ∈ wsX110, w ∈ wsX11_court := by decide +kernel
  refine g_aload_n C dX11_court_0 rfl 0 rfl ?_
  refine g_get C i11 0 rfl rfl 0 (by decide) (List.mem_of_getElem? (i := 1) rfl) rfl rfl dX11_court_1 ?_
  refine g_aload_n C dX11_court_4 rfl 0 rfl ?_
  refine g_get C i11 0 rfl rfl 10 (by decide) (List.mem_of_getElem? (i := 2) rfl) rfl rfl dX11_court_5 ?_
  refine g_callV C (rest := []) (n := 1) (kX7_read l E r0 r1 n tx R u0 u1 u2 u3 V (by omega)) gX11_court_X7_read rfl ⟨rfl, rfl⟩ (by decide) (Nat.le_of_ble_eq_true rfl) rfl (by decide +kernel) rfl dX11_court_8 0 rfl rfl [1, 2, 7, 8, 9, 10] [0, 3, 4, 5, 6, 11, 12, 13, 14] rfl rfl ?_
  refine g_is1 (ws2 := [(c0, oB 11 [.ref r0, .ref h0, .ref s0, .ref g0, .ref ka, .ref n1, .ref n2, .ref n3, .ref ea, .ref t0, .ref u0, .int (nI nt), .long tr]), (r0, oB 7 [.ref r1, .int (nI n), .int (nI (((rdA tx n R V).2.1).1)), .int (((rdA tx n R V).2.1).2.1), .int (nI (((rdA tx n R V).2.1).2.2.1)), .int (((rdA tx n R V).2.1).2.2.2)]), (r1, iA E 200 tx), (h0, oB 8 [.ref h1]), (h1, iA E 50 f), (s0, oB 9 [.ref s1, .ref s2, .ref s3, .int (nI und), .int (nI top)]), (s3, zA E 2 kp), (u0, oB 10 [.ref u1, .ref u2, .ref u3, .int (nI (((rdA tx n R V).2.2).1)), .int (nI (((rdA tx n R V).2.2).2.1))]), (u1, iA E 6 (((rdA tx n R V).2.2).2.2.1)), (u2, iA E 6 (((rdA tx n R V).2.2).2.2.2.1)), (u3, iA E 7 (((rdA tx n R V).2.2).2.2.2.2)), (t0, oB 10 [.ref t1, .ref t2, .ref t3, .int (nI T.1), .int (nI T.2.1)]), (t1, iA E 6 T.2.2.1), (t2, iA E 6 T.2.2.2.1), (t3, iA E 7 T.2.2.2.2)]) (st2 := [.int ((rdA tx n R V).1)]) [0, 9, 10, 1, 2, 3, 4, 11, 12, 13, 14, 5, 6, 7, 8] rfl rfl rfl ?_
  refine g_istore_n C (lv' := [(1, .int ((rdA tx n R V).1)), (0, .ref c0)]) dX11_court_11 rfl (by decide) rfl ?_
  refine g_iload_n C dX11_court_12 rfl 0 rfl ?_
  refine g_if_ge C 18 dX11_court_13 (by decide) (fun cq1 => ?_) (fun cq1 => ?_)
  · refine g_aload_n C dX11_court_18 rfl 1 rfl ?_
    refine g_get C i11 0 rfl rfl 10 (by decide) (List.mem_of_getElem? (i := 2) rfl) rfl rfl dX11_court_19 ?_
    refine g_astore_n C (lv' := [(2, .ref u0), (1, .int ((rdA tx n R V).1)), (0, .ref c0)]) dX11_court_22 rfl (by decide) rfl ?_
    refine g_aload_n C dX11_court_23 rfl 2 rfl ?_
    refine g_aload_n C dX11_court_24 rfl 2 rfl ?_
    refine g_get C i11 0 rfl rfl 9 (by decide) (List.mem_of_getElem? (i := 3) rfl) rfl rfl dX11_court_25 ?_
    refine g_put C i11 tyX11 tyX11_ok nmX11 0 rfl rfl 10 (by decide) (List.mem_of_getElem? (i := 2) rfl) rfl rfl rfl rfl rfl (Nat.le_of_ble_eq_true rfl) dX11_court_28 (ws' := [(c0, oB 11 [.ref r0, .ref h0, .ref s0, .ref g0, .ref ka, .ref n1, .ref n2, .ref n3, .ref ea, .ref t0, .ref t0, .int (nI nt), .long tr]), (r0, oB 7 [.ref r1, .int (nI n), .int (nI (((rdA tx n R V).2.1).1)), .int (((rdA tx n R V).2.1).2.1), .int (nI (((rdA tx n R V).2.1).2.2.1)), .int (((rdA tx n R V).2.1).2.2.2)]), (r1, iA E 200 tx), (h0, oB 8 [.ref h1]), (h1, iA E 50 f), (s0, oB 9 [.ref s1, .ref s2, .ref s3, .int (nI und), .int (nI top)]), (s3, zA E 2 kp), (u0, oB 10 [.ref u1, .ref u2, .ref u3, .int (nI (((rdA tx n R V).2.2).1)), .int (nI (((rdA tx n R V).2.2).2.1))]), (u1, iA E 6 (((rdA tx n R V).2.2).2.2.1)), (u2, iA E 6 (((rdA tx n R V).2.2).2.2.2.1)), (u3, iA E 7 (((rdA tx n R V).2.2).2.2.2.2)), (t0, oB 10 [.ref t1, .ref t2, .ref t3, .int (nI T.1), .int (nI T.2.1)]), (t1, iA E 6 T.2.2.1), (t2, iA E 6 T.2.2.2.1), (t3, iA E 7 T.2.2.2.2)]) rfl ?_
    refine g_aload_n C dX11_court_31 rfl 2 rfl ?_
    refine g_aload_n C dX11_court_32 rfl 0 rfl ?_
    refine g_put C i11 tyX11 tyX11_ok nmX11 0 rfl rfl 9 (by decide) (List.mem_of_getElem? (i := 3) rfl) rfl rfl rfl rfl rfl (Nat.le_of_ble_eq_true rfl) dX11_court_33 (ws' := [(c0, oB 11 [.ref r0, .ref h0, .ref s0, .ref g0, .ref ka, .ref n1, .ref n2, .ref n3, .ref ea, .ref u0, .ref t0, .int (nI nt), .long tr]), (r0, oB 7 [.ref r1, .int (nI n), .int (nI (((rdA tx n R V).2.1).1)), .int (((rdA tx n R V).2.1).2.1), .int (nI (((rdA tx n R V).2.1).2.2.1)), .int (((rdA tx n R V).2.1).2.2.2)]), (r1, iA E 200 tx), (h0, oB 8 [.ref h1]), (h1, iA E 50 f), (s0, oB 9 [.ref s1, .ref s2, .ref s3, .int (nI und), .int (nI top)]), (s3, zA E 2 kp), (u0, oB 10 [.ref u1, .ref u2, .ref u3, .int (nI (((rdA tx n R V).2.2).1)), .int (nI (((rdA tx n R V).2.2).2.1))]), (u1, iA E 6 (((rdA tx n R V).2.2).2.2.1)), (u2, iA E 6 (((rdA tx n R V).2.2).2.2.2.1)), (u3, iA E 7 (((rdA tx n R V).2.2).2.2.2.2)), (t0, oB 10 [.ref t1, .ref t2, .ref t3, .int (nI T.1), .int (nI T.2.1)]), (t1, iA E 6 T.2.2.1), (t2, iA E 6 T.2.2.2.1), (t3, iA E 7 T.2.2.2.2)]) rfl ?_
    refine g_aload_n C dX11_court_36 rfl 2 rfl ?_
    refine g_get C i11 0 rfl rfl 0 (by decide) (List.mem_of_getElem? (i := 1) rfl) rfl rfl dX11_court_37 ?_
    refine g_callV C (rest := []) (n := 0) (kX7_empty l E r0 r1 n tx ((rdA tx n R V).2.1) ) gX11_court_X7_empty rfl ⟨rfl, rfl⟩ (by decide) (Nat.le_of_ble_eq_true rfl) rfl (by decide +kernel) rfl dX11_court_40 0 rfl rfl [1] [0, 2, 3, 4, 5, 6, 7, 8, 9, 10, 11, 12, 13, 14] rfl rfl ?_
    refine g_is1 (ws2 := [(c0, oB 11 [.ref r0, .ref h0, .ref s0, .ref g0, .ref ka, .ref n1, .ref n2, .ref n3, .ref ea, .ref u0, .ref t0, .int (nI nt), .long tr]), (r0, oB 7 [.ref r1, .int (nI 0), .int (nI (((rdA tx n R V).2.1).1)), .int (((rdA tx n R V).2.1).2.1), .int (nI (((rdA tx n R V).2.1).2.2.1)), .int (((rdA tx n R V).2.1).2.2.2)]), (r1, iA E 200 tx), (h0, oB 8 [.ref h1]), (h1, iA E 50 f), (s0, oB 9 [.ref s1, .ref s2, .ref s3, .int (nI und), .int (nI top)]), (s3, zA E 2 kp), (u0, oB 10 [.ref u1, .ref u2, .ref u3, .int (nI (((rdA tx n R V).2.2).1)), .int (nI (((rdA tx n R V).2.2).2.1))]), (u1, iA E 6 (((rdA tx n R V).2.2).2.2.1)), (u2, iA E 6 (((rdA tx n R V).2.2).2.2.2.1)), (u3, iA E 7 (((rdA tx n R V).2.2).2.2.2.2)), (t0, oB 10 [.ref t1, .ref t2, .ref t3, .int (nI T.1), .int (nI T.2.1)]), (t1, iA E 6 T.2.2.1), (t2, iA E 6 T.2.2.2.1), (t3, iA E 7 T.2.2.2.2)]) (st2 := [.int (nI n)]) [0, 14, 1, 2, 3, 4, 5, 6, 7, 8, 9, 10, 11, 12, 13] rfl rfl rfl ?_
    refine g_pop C dX11_court_43 rfl ?_
    refine g_aload_n C dX11_court_44 rfl 2 rfl ?_
    refine g_get C i11 0 rfl rfl 1 (by decide) (List.mem_of_getElem? (i := 4) rfl) rfl rfl dX11_court_45 ?_
    refine g_aload_n C dX11_court_48 rfl 2 rfl ?_
    refine g_get C i11 0 rfl rfl 9 (by decide) (List.mem_of_getElem? (i := 3) rfl) rfl rfl dX11_court_49 ?_
    refine g_callV C (rest := []) (n := 1) (kX8_begin l E h0 h1 f u0 u1 u2 u3 (((rdA tx n R V).2.2).1) (((rdA tx n R V).2.2).2.1) ) gX11_court_X8_begin rfl ⟨rfl, rfl⟩ (by decide) (Nat.le_of_ble_eq_true rfl) rfl (by decide +kernel) rfl dX11_court_52 0 rfl rfl [3, 4, 7] [0, 1, 2, 5, 6, 8, 9, 10, 11, 12, 13, 14] rfl rfl ?_
    refine g_is1 (ws2 := [(c0, oB 11 [.ref r0, .ref h0, .ref s0, .ref g0, .ref ka, .ref n1, .ref n2, .ref n3, .ref ea, .ref u0, .ref t0, .int (nI nt), .long tr]), (r0, oB 7 [.ref r1, .int (nI 0), .int (nI (((rdA tx n R V).2.1).1)), .int (((rdA tx n R V).2.1).2.1), .int (nI (((rdA tx n R V).2.1).2.2.1)), .int (((rdA tx n R V).2.1).2.2.2)]), (r1, iA E 200 tx), (h0, oB 8 [.ref h1]), (h1, iA E 50 (begA f (((rdA tx n R V).2.2).1) (((rdA tx n R V).2.2).2.1) 6)), (s0, oB 9 [.ref s1, .ref s2, .ref s3, .int (nI und), .int (nI top)]), (s3, zA E 2 kp), (u0, oB 10 [.ref u1, .ref u2, .ref u3, .int (nI (((rdA tx n R V).2.2).1)), .int (nI (((rdA tx n R V).2.2).2.1))]), (u1, iA E 6 (((rdA tx n R V).2.2).2.2.1)), (u2, iA E 6 (((rdA tx n R V).2.2).2.2.2.1)), (u3, iA E 7 (((rdA tx n R V).2.2).2.2.2.2)), (t0, oB 10 [.ref t1, .ref t2, .ref t3, .int (nI T.1), .int (nI T.2.1)]), (t1, iA E 6 T.2.2.1), (t2, iA E 6 T.2.2.2.1), (t3, iA E 7 T.2.2.2.2)]) (st2 := []) [0, 1, 2, 12, 13, 3, 4, 14, 5, 6, 7, 8, 9, 10, 11] rfl rfl rfl ?_
    refine g_aload_n C dX11_court_55 rfl 2 rfl ?_
    refine g_get C i11 0 rfl rfl 2 (by decide) (List.mem_of_getElem? (i := 5) rfl) rfl rfl dX11_court_56 ?_
    refine g_callV C (rest := []) (n := 0) (kX9_empty l E s0 s1 s2 s3 und top kp ) gX11_court_X9_empty rfl ⟨rfl, rfl⟩ (by decide) (Nat.le_of_ble_eq_true rfl) rfl (by decide +kernel) rfl dX11_court_59 0 rfl rfl [5, 6] [0, 1, 2, 3, 4, 7, 8, 9, 10, 11, 12, 13, 14] rfl rfl ?_
    refine g_is1 (ws2 := [(c0, oB 11 [.ref r0, .ref h0, .ref s0, .ref g0, .ref ka, .ref n1, .ref n2, .ref n3, .ref ea, .ref u0, .ref t0, .int (nI nt), .long tr]), (r0, oB 7 [.ref r1, .int (nI 0), .int (nI (((rdA tx n R V).2.1).1)), .int (((rdA tx n R V).2.1).2.1), .int (nI (((rdA tx n R V).2.1).2.2.1)), .int (((rdA tx n R V).2.1).2.2.2)]), (r1, iA E 200 tx), (h0, oB 8 [.ref h1]), (h1, iA E 50 (begA f (((rdA tx n R V).2.2).1) (((rdA tx n R V).2.2).2.1) 6)), (s0, oB 9 [.ref s1, .ref s2, .ref s3, .int (nI 0), .int (nI top)]), (s3, zA E 2 (filA kp (nI 0) 2)), (u0, oB 10 [.ref u1, .ref u2, .ref u3, .int (nI (((rdA tx n R V).2.2).1)), .int (nI (((rdA tx n R V).2.2).2.1))]), (u1, iA E 6 (((rdA tx n R V).2.2).2.2.1)), (u2, iA E 6 (((rdA tx n R V).2.2).2.2.2.1)), (u3, iA E 7 (((rdA tx n R V).2.2).2.2.2.2)), (t0, oB 10 [.ref t1, .ref t2, .ref t3, .int (nI T.1), .int (nI T.2.1)]), (t1, iA E 6 T.2.2.1), (t2, iA E 6 T.2.2.2.1), (t3, iA E 7 T.2.2.2.2)]) (st2 := []) [0, 1, 2, 3, 4, 13, 14, 5, 6, 7, 8, 9, 10, 11, 12] rfl rfl rfl ?_
    refine g_aload_n C dX11_court_62 rfl 2 rfl ?_
    refine g_iconst C (nI 0) dX11_court_63 (by decide) ?_
    refine g_put C i11 tyX11 tyX11_ok nmX11 0 rfl rfl 11 (by decide) (List.mem_of_getElem? (i := 6) rfl) rfl rfl rfl rfl rfl (Nat.le_of_ble_eq_true rfl) dX11_court_64 (ws' := [(c0, oB 11 [.ref r0, .ref h0, .ref s0, .ref g0, .ref ka, .ref n1, .ref n2, .ref n3, .ref ea, .ref u0, .ref t0, .int (nI 0), .long tr]), (r0, oB 7 [.ref r1, .int (nI 0), .int (nI (((rdA tx n R V).2.1).1)), .int (((rdA tx n R V).2.1).2.1), .int (nI (((rdA tx n R V).2.1).2.2.1)), .int (((rdA tx n R V).2.1).2.2.2)]), (r1, iA E 200 tx), (h0, oB 8 [.ref h1]), (h1, iA E 50 (begA f (((rdA tx n R V).2.2).1) (((rdA tx n R V).2.2).2.1) 6)), (s0, oB 9 [.ref s1, .ref s2, .ref s3, .int (nI 0), .int (nI top)]), (s3, zA E 2 (filA kp (nI 0) 2)), (u0, oB 10 [.ref u1, .ref u2, .ref u3, .int (nI (((rdA tx n R V).2.2).1)), .int (nI (((rdA tx n R V).2.2).2.1))]), (u1, iA E 6 (((rdA tx n R V).2.2).2.2.1)), (u2, iA E 6 (((rdA tx n R V).2.2).2.2.2.1)), (u3, iA E 7 (((rdA tx n R V).2.2).2.2.2.2)), (t0, oB 10 [.ref t1, .ref t2, .ref t3, .int (nI T.1), .int (nI T.2.1)]), (t1, iA E 6 T.2.2.1), (t2, iA E 6 T.2.2.2.1), (t3, iA E 7 T.2.2.2.2)]) rfl ?_
    refine g_iload_n C dX11_court_67 rfl 1 rfl ?_
    exact g_iret C X dX11_court_68 (Or.inr ⟨Int32.not_lt.mpr cq1, rfl, rfl⟩)
  · refine g_iload_n C dX11_court_16 rfl 0 rfl ?_
    exact g_iret C X dX11_court_17 (Or.inl ⟨Int32.not_le.mp cq1, rfl, rfl⟩)
