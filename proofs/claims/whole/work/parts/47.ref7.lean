/-! the reference: nights -/
theorem bc_in : ∀ s, s < 128 → ∃ b, b < 8 ∧ bc (nI s) = nI b := by decide +kernel
theorem drw_in {p z n : Nat} (hp : p < 6) (hz : z < 10000) (hn : n ≤ 1019) : ∃ d, d < 8191 ∧ drw p (nI z) (nI n) = nI d := by
  have e : drx p (nI z) (nI n) = lN (7919 * z + 6151 * p + 4253 * n + 1) := by
    unfold drx
    rw [nI_l (by omega), nI_l (by omega), nI_l (by omega), show (7919 : Int64) = lN 7919 from rfl, show (6151 : Int64) = lN 6151 from rfl, show (4253 : Int64) = lN 4253 from rfl, lN_mul, lN_mul, lN_mul, lN_add, lN_add, lN_1]
  obtain ⟨X, hX⟩ : ∃ X, X = 7919 * z + 6151 * p + 4253 * n + 1 := ⟨_, rfl⟩
  rw [← hX] at e
  have hb : X < 2 ^ 27 := by omega
  have hXX : X * X < 2 ^ 63 := Nat.lt_of_lt_of_le (Nat.mul_lt_mul'' hb hb) (by decide)
  refine ⟨X * X % 65521 / 8, by omega, ?_⟩
  unfold drw
  rw [e, lN_mul, show (65521 : Int64) = lN 65521 from rfl, pk_lRem hXX (by decide) (by decide), show (8 : Int64) = lN 8 from rfl, pk_lDiv (by omega) (by decide) (by decide), lN_i]
theorem say_kk {s d : Nat} (hs : s < 128) (hd : d < 8191) (h0 : ¬ bc (nI s) = 0) : ∃ kk, kk < 7 ∧ irm (nI d / nI 10) (bc (nI s)) = nI kk ∧ nI kk < bc (nI s) := by
  obtain ⟨b, hb, e⟩ := bc_in s hs
  rw [e] at h0 ⊢
  have hb0 : 0 < b := Nat.pos_of_ne_zero (fun z => h0 (by rw [z]; rfl))
  have hm := Nat.mod_lt (d / 10) hb0
  refine ⟨d / 10 % b, by omega, ?_, (nI_ltI (by omega) (by omega)).mpr hm⟩
  unfold irm
  rw [pk_div (by omega) (by decide) (by decide), pk_rem (by omega) hb0 (by omega)]
theorem say_b : ∀ s, s < 128 → ∀ kk, kk < 7 → nI kk < bc (nI s) → ∃ b, b < 7 ∧ ¬ tb (lfS (nI s) kk) b = 0 := by decide +kernel
theorem say_t0 : ∀ s, s < 128 → ∀ kk, kk < 7 → ∀ k, k < 7 → (nI kk < bc (nI s) ∧ (∀ j, j < k → tb (lfS (nI s) kk) j = 0) ∧ ¬ tb (lfS (nI s) kk) k = 0) → thAt (nI s) (nI kk) 7 0 (nI 0) = nI k := by decide +kernel
theorem say_t (s : Nat) (hs : s < 128) (kk : Nat) (hkk : kk < 7) (h1 : nI kk < bc (nI s)) (k : Nat) (hk : k < 7) (h2 : ∀ j, j < k → tb (lfS (nI s) kk) j = 0) (h3 : ¬ tb (lfS (nI s) kk) k = 0) : thAt (nI s) (nI kk) 7 0 (nI 0) = nI k := say_t0 s hs kk hkk k hk ⟨h1, h2, h3⟩

set_option maxHeartbeats 4000000 in
set_option maxRecDepth 100000 in
theorem kX12_says (l : Launch) (E : EX) (m0 x0 x1 x2 x3 x4 x5 x6 x7 x8 x9 n und nt : Nat) (tr : Int64) (Q : RS) (T : TS) (f : Nat → Int32) (p z : Nat) (hT : TI T) (hn : T.1 ≤ 6) (hm : T.2.1 ≤ 6) (hp : p < T.1) (hz : z < 10000) (h49 : ∃ n, n ≤ 1019 ∧ f 49 = nI n) : M l E yX12_says wsX12_says { frames := 1, cells := 0, slots := 0, locals := 22 } 0 0 [.ref m0, .int (nI p), .int (nI z)] [(m0, oB 12 [.ref x0, .int (nI n), .int (nI Q.1), .int (nI Q.2.2.1), .int Q.2.1, .int Q.2.2.2, .ref x1, .ref x2, .ref x3, .ref x4, .int (nI und), .ref x5, .ref x6, .int (nI nt), .ref x7, .ref x8, .long tr, .ref x9]), (x2, iA E 21 (papO T)), (x3, iA E 50 (nowO f))] (is1 (some (.int (sayS T.2.2.1 T.2.2.2.1 p (nI z) (f 49)))) [(m0, oB 12 [.ref x0, .int (nI n), .int (nI Q.1), .int (nI Q.2.2.1), .int Q.2.1, .int Q.2.2.2, .ref x1, .ref x2, .ref x3, .ref x4, .int (nI und), .ref x5, .ref x6, .int (nI nt), .ref x7, .ref x8, .long tr, .ref x9]), (x2, iA E 21 (papO T)), (x3, iA E 50 (nowO f))]) := by
  refine M.ofG (cc := cX12_says) (maxL := 9) (ret := (some .int)) (lv := [(0, .ref m0), (1, .int (nI p)), (2, .int (nI z))]) (own := RX12) (by decide) rfl rfl (Nat.le_of_ble_eq_true rfl) rfl ?_
  intro K C X _
  have i12 : ∀ w ∈ wsX120, w ∈ wsX12_says := by decide +kernel
  refine g_ldc2 C (v := 7919) (List.mem_of_getElem? (i := 1) rfl) dX12_says_0 ?_
  refine g_iload_n C dX12_says_3 rfl 2 rfl ?_
  refine g_i2l C dX12_says_4 ?_
  refine g_lmul C dX12_says_5 ?_
  refine g_ldc2 C (v := 6151) (List.mem_of_getElem? (i := 2) rfl) dX12_says_6 ?_
  refine g_iload_n C dX12_says_9 rfl 1 rfl ?_
  refine g_i2l C dX12_says_10 ?_
  refine g_lmul C dX12_says_11 ?_
  refine g_ladd C dX12_says_12 ?_
  refine g_ldc2 C (v := 4253) (List.mem_of_getElem? (i := 3) rfl) dX12_says_13 ?_
  refine g_aload_n C dX12_says_16 rfl 0 rfl ?_
  refine g_get C i12 0 rfl rfl 8 (by decide) (List.mem_of_getElem? (i := 4) rfl) rfl rfl dX12_says_17 ?_
  refine g_iconst C (nI 0) dX12_says_20 (by decide) ?_
  refine g_iald C 2 rfl (by omega) (by decide) dX12_says_21 ?_
  refine g_as (nowO_0 _) ?_
  refine g_i2l C dX12_says_22 ?_
  refine g_lmul C dX12_says_23 ?_
  refine g_ladd C dX12_says_24 ?_
  refine g_lconst C 1 dX12_says_25 rfl ?_
  refine g_ladd C dX12_says_26 ?_
  refine g_nml (fun yq1 eyq1 => ?_)
  refine g_lstore_n C (lv' := [(3, .long yq1), (0, .ref m0), (1, .int (nI p)), (2, .int (nI z))]) dX12_says_27 rfl (by decide) rfl ?_
  refine g_lload_n C dX12_says_28 rfl 0 rfl ?_
  refine g_lload_n C dX12_says_29 rfl 0 rfl ?_
  refine g_lmul C dX12_says_30 ?_
  refine g_ldc2 C (v := 65521) (List.mem_of_getElem? (i := 5) rfl) dX12_says_31 ?_
  refine g_lrem C dX12_says_34 (by decide) ?_
  refine g_ldc2 C (v := 8) (List.mem_of_getElem? (i := 6) rfl) dX12_says_35 ?_
  refine g_ldiv C dX12_says_38 (by decide) ?_
  refine g_l2i C dX12_says_39 ?_
  refine g_nm (fun yq2 eyq2 => ?_)
  refine g_istore C (lv' := [(5, .int yq2), (3, .long yq1), (0, .ref m0), (1, .int (nI p)), (2, .int (nI z))]) dX12_says_40 (by decide) rfl ?_
  refine g_aload_n C dX12_says_42 rfl 2 rfl ?_
  refine g_iload_n C dX12_says_43 rfl 3 rfl ?_
  refine g_callV C (rest := []) (n := 1) (kX12_knows l E m0 x0 x1 x2 x3 x4 x5 x6 x7 x8 x9 n und nt tr Q T p (hp) (hT.1)) gX12_says_X12_knows rfl ⟨rfl, rfl⟩ (by decide) (Nat.le_of_ble_eq_true rfl) rfl (by decide +kernel) rfl dX12_says_44 0 rfl rfl [0, 1] [2] rfl rfl ?_
  refine g_is1 (ws2 := [(m0, oB 12 [.ref x0, .int (nI n), .int (nI Q.1), .int (nI Q.2.2.1), .int Q.2.1, .int Q.2.2.2, .ref x1, .ref x2, .ref x3, .ref x4, .int (nI und), .ref x5, .ref x6, .int (nI nt), .ref x7, .ref x8, .long tr, .ref x9]), (x2, iA E 21 (papO T)), (x3, iA E 50 (nowO f))]) (st2 := [.int (T.2.2.1 p)]) [1, 2, 0] rfl rfl rfl ?_
  refine g_callS C (rest := []) (n := 1) (kX12_many l E (T.2.2.1 p) (hT.2.2.2.1 p hp)) gX12_says_X12_many rfl ⟨rfl, rfl⟩ (by decide) (Nat.le_of_ble_eq_true rfl) rfl (by decide +kernel) rfl dX12_says_47 [] [0, 1, 2] rfl rfl ?_
  refine g_is1 (ws2 := [(m0, oB 12 [.ref x0, .int (nI n), .int (nI Q.1), .int (nI Q.2.2.1), .int Q.2.1, .int Q.2.2.2, .ref x1, .ref x2, .ref x3, .ref x4, .int (nI und), .ref x5, .ref x6, .int (nI nt), .ref x7, .ref x8, .long tr, .ref x9]), (x2, iA E 21 (papO T)), (x3, iA E 50 (nowO f))]) (st2 := [.int (bc (T.2.2.1 p))]) [0, 1, 2] rfl rfl rfl ?_
  refine g_nm (fun yq3 eyq3 => ?_)
  refine g_istore C (lv' := [(6, .int yq3), (5, .int yq2), (3, .long yq1), (0, .ref m0), (1, .int (nI p)), (2, .int (nI z))]) dX12_says_50 (by decide) rfl ?_
  refine g_iload C dX12_says_52 1 rfl ?_
  refine g_bipush C (nI 10) dX12_says_54 (by decide) ?_
  refine g_irem C dX12_says_56 (by decide) ?_
  refine g_aload_n C dX12_says_57 rfl 3 rfl ?_
  refine g_get C i12 0 rfl rfl 7 (by decide) (List.mem_of_getElem? (i := 7) rfl) rfl rfl dX12_says_58 ?_
  refine g_iconst C (nI 2) dX12_says_61 (by decide) ?_
  refine g_iconst C (nI 2) dX12_says_62 (by decide) ?_
  refine g_iload_n C dX12_says_63 rfl 4 rfl ?_
  refine g_imulN C dX12_says_64 ?_
  refine g_iaddN C dX12_says_65 ?_
  refine g_iconst C (nI 1) dX12_says_66 (by decide) ?_
  refine g_iaddN C dX12_says_67 ?_
  refine g_iald C 1 rfl (by omega) (by decide) dX12_says_68 ?_
  refine g_as (papO_t (by omega) (by omega)) ?_
  refine g_icmp_ge C 77 dX12_says_69 (by decide) (fun cq4 => ?_) (fun cq4 => ?_)
  · have hno : ¬ irm (drw p (nI z) (f 49)) (nI 10) < T.2.2.2.1 p := Int32.not_lt.mpr (by subst_vars; exact cq4)
    refine g_bipush C ((-9)) dX12_says_77 (by decide) ?_
    exact g_iret C X dX12_says_79 (⟨by unfold sayS; first | (rw [if_pos hn0]; done) | (by_cases h9 : bc (T.2.2.1 p) = 0; (rw [if_pos h9]); (rw [if_neg h9, if_neg hno])), rfl⟩)
  · have hye : irm (drw p (nI z) (f 49)) (nI 10) < T.2.2.2.1 p := Int32.not_le.mp (fun w => cq4 (by subst_vars; exact w))
    refine g_iload C dX12_says_72 0 rfl ?_
    refine g_if_ne C 80 dX12_says_74 (by decide) (fun cq5 => ?_) (fun cq5 => ?_)
    · have hn1 : ¬ bc (T.2.2.1 p) = 0 := by rw [← eyq3]; exact cq5
      obtain ⟨s, hs, es⟩ := hT.2.2.2.1 p hp
      obtain ⟨nn, hnn, en⟩ := h49
      obtain ⟨dd, hdd, ed⟩ := drw_in (p := p) (z := z) (n := nn) (by have := hT.1; omega) hz hnn
      obtain ⟨kk, hkk, ek, hlt⟩ : ∃ kk, kk < 7 ∧ irm (drw p (nI z) (f 49) / nI 10) (bc (T.2.2.1 p)) = nI kk ∧ nI kk < bc (nI s) := by rw [en, ed, es]; exact say_kk hs hdd (es ▸ hn1)
      refine g_aload_n C dX12_says_80 rfl 3 rfl ?_
      refine g_iload_n C dX12_says_81 rfl 4 rfl ?_
      refine g_callV C (rest := []) (n := 1) (kX12_knows l E m0 x0 x1 x2 x3 x4 x5 x6 x7 x8 x9 n und nt tr Q T p (hp) (hT.1)) gX12_says_X12_knows rfl ⟨rfl, rfl⟩ (by decide) (Nat.le_of_ble_eq_true rfl) rfl (by decide +kernel) rfl dX12_says_82 0 rfl rfl [0, 1] [2] rfl rfl ?_
      refine g_is1 (ws2 := [(m0, oB 12 [.ref x0, .int (nI n), .int (nI Q.1), .int (nI Q.2.2.1), .int Q.2.1, .int Q.2.2.2, .ref x1, .ref x2, .ref x3, .ref x4, .int (nI und), .ref x5, .ref x6, .int (nI nt), .ref x7, .ref x8, .long tr, .ref x9]), (x2, iA E 21 (papO T)), (x3, iA E 50 (nowO f))]) (st2 := [.int (T.2.2.1 p)]) [1, 2, 0] rfl rfl rfl ?_
      refine g_as es ?_
      refine g_istore C (lv' := [(7, .int (nI s)), (6, .int yq3), (5, .int yq2), (3, .long yq1), (0, .ref m0), (1, .int (nI p)), (2, .int (nI z))]) dX12_says_85 (by decide) rfl ?_
      refine g_iload C dX12_says_87 2 rfl ?_
      refine g_bipush C (nI 10) dX12_says_89 (by decide) ?_
      refine g_idiv C dX12_says_91 (by decide) ?_
      refine g_iload C dX12_says_92 1 rfl ?_
      refine g_irem C dX12_says_94 (by assumption) ?_
      refine g_as (by subst_vars; exact ek) ?_
      refine g_istore C (lv' := [(8, .int (nI kk)), (7, .int (nI s)), (6, .int yq3), (5, .int yq2), (3, .long yq1), (0, .ref m0), (1, .int (nI p)), (2, .int (nI z))]) dX12_says_95 (by decide) rfl ?_
      have L97 : ∀ (zz : Nat) (c : Nat) (a : Int32), c < zz → (c ≤ kk) → (a = lfS (nI s) (kk - c)) → G K 0 0 97 [(0, .ref m0), (1, .int (nI p)), (2, .int (nI z)), (3, .long yq1), (5, .int yq2), (6, .int yq3), (7, .int a), (8, .int (nI c))] [] [(m0, oB 12 [.ref x0, .int (nI n), .int (nI Q.1), .int (nI Q.2.2.1), .int Q.2.1, .int Q.2.2.2, .ref x1, .ref x2, .ref x3, .ref x4, .int (nI und), .ref x5, .ref x6, .int (nI nt), .ref x7, .ref x8, .long tr, .ref x9]), (x2, iA E 21 (papO T)), (x3, iA E 50 (nowO f))] := by
        intro zz
        induction zz with
        | zero => intro c a hL97; exact absurd hL97 (Nat.not_lt_zero _)
        | succ zz ihL97 =>
          intro c a hL97 hc ha
          rcases c with _ | c2
          · have hA9 : a = lfS (nI s) kk := by rw [ha, Nat.sub_zero]
            refine g_iload C dX12_says_97 7 rfl ?_
            refine g_if_leN C 117 dX12_says_99 (by decide) (by omega) (fun cq6 => ?_) (fun cq6 => ?_)
            · refine g_iconst C (nI 0) dX12_says_117 (by decide) ?_
              refine g_istore C (lv' := [(8, .int (nI 0)), (0, .ref m0), (1, .int (nI p)), (2, .int (nI z)), (3, .long yq1), (5, .int yq2), (6, .int yq3), (7, .int a)]) dX12_says_118 (by decide) rfl ?_
              have L120 : ∀ (zz k : Nat) , k + zz = 7 + 1 → k ≤ 7 → (∀ j, j < k → tb a j = 0) → G K 0 0 120 [(0, .ref m0), (1, .int (nI p)), (2, .int (nI z)), (3, .long yq1), (5, .int yq2), (6, .int yq3), (7, .int a), (8, .int (nI k))] [] [(m0, oB 12 [.ref x0, .int (nI n), .int (nI Q.1), .int (nI Q.2.2.1), .int Q.2.1, .int Q.2.2.2, .ref x1, .ref x2, .ref x3, .ref x4, .int (nI und), .ref x5, .ref x6, .int (nI nt), .ref x7, .ref x8, .long tr, .ref x9]), (x2, iA E 21 (papO T)), (x3, iA E 50 (nowO f))] := by
                intro zz
                induction zz with
                | zero => intro k  hL120 gL120; exfalso; omega
                | succ zz ihL120 =>
                  intro k  hL120 gL120 hz9
                  refine g_iload C dX12_says_120 6 rfl ?_
                  refine g_iload C dX12_says_122 7 rfl ?_
                  refine g_ishr C dX12_says_124 ?_
                  refine g_iconst C (nI 1) dX12_says_125 (by decide) ?_
                  refine g_iand C dX12_says_126 ?_
                  refine g_if_ne C 136 dX12_says_127 (by decide) (fun cq7 => ?_) (fun cq7 => ?_)
                  · have hk6 : k < 7 := by rcases Nat.lt_or_ge k 7 with h | h; (exact h); (exfalso; obtain ⟨b, hb, h9⟩ := say_b s hs kk hkk hlt; rw [← hA9] at h9; exact h9 (hz9 b (by omega)))
                    refine g_iload C dX12_says_136 7 rfl ?_
                    exact g_iret C X dX12_says_138 (⟨by unfold sayS; rw [if_neg hn1, if_pos hye, ek, es, say_t s hs kk hkk hlt k hk6 (by rw [← hA9]; exact hz9) (by rw [← hA9]; exact cq7)], rfl⟩)
                  · have hk6 : k < 7 := by obtain ⟨b, hb, h9⟩ := say_b s hs kk hkk hlt; rw [← hA9] at h9; rcases Nat.lt_trichotomy k b with h | h | h; (omega); (exact absurd (h ▸ cq7) h9); (exact absurd (hz9 b h) h9)
                    refine g_iincN C (lv' := [(8, .int (nI (k + 1))), (0, .ref m0), (1, .int (nI p)), (2, .int (nI z)), (3, .long yq1), (5, .int yq2), (6, .int yq3), (7, .int a)]) dX12_says_130 7 rfl (by decide) rfl ?_
                    refine g_goto C 120 dX12_says_133 (by decide) ?_
                    refine g_sub (lv' := [(0, .ref m0), (1, .int (nI p)), (2, .int (nI z)), (3, .long yq1), (5, .int yq2), (6, .int yq3), (7, .int a), (8, .int (nI (k + 1)))]) [1, 2, 3, 4, 5, 6, 7, 0] rfl ?_
                    exact ihL120 (k + 1)  (by omega) (by omega) (lt_s hz9 cq7)
              refine g_sub (lv' := [(0, .ref m0), (1, .int (nI p)), (2, .int (nI z)), (3, .long yq1), (5, .int yq2), (6, .int yq3), (7, .int a), (8, .int (nI 0))]) [1, 2, 3, 4, 5, 6, 7, 0] rfl ?_
              exact L120 (7 + 1 - 0) 0  (by omega) (by omega) (fun j h => absurd h (Nat.not_lt_zero j))
            · exact absurd cq6 (by decide)
          · refine g_iload C dX12_says_97 7 rfl ?_
            refine g_if_leN C 117 dX12_says_99 (by decide) (by omega) (fun cq8 => ?_) (fun cq8 => ?_)
            · exact absurd cq8 (by omega)
            · refine g_iload C dX12_says_102 6 rfl ?_
              refine g_iload C dX12_says_104 6 rfl ?_
              refine g_iconst C (nI 1) dX12_says_106 (by decide) ?_
              refine g_isub C dX12_says_107 ?_
              refine g_iand C dX12_says_108 ?_
              refine g_nm (fun yq9 eyq9 => ?_)
              refine g_istore C (lv' := [(7, .int yq9), (0, .ref m0), (1, .int (nI p)), (2, .int (nI z)), (3, .long yq1), (5, .int yq2), (6, .int yq3), (8, .int (nI (c2 + 1)))]) dX12_says_109 (by decide) rfl ?_
              refine g_iincM C (a := c2) (lv' := [(8, .int (nI c2)), (7, .int yq9), (0, .ref m0), (1, .int (nI p)), (2, .int (nI z)), (3, .long yq1), (5, .int yq2), (6, .int yq3)]) dX12_says_111 7 rfl (by decide) rfl ?_
              refine g_goto C 97 dX12_says_114 (by decide) ?_
              refine g_sub (lv' := [(0, .ref m0), (1, .int (nI p)), (2, .int (nI z)), (3, .long yq1), (5, .int yq2), (6, .int yq3), (7, .int yq9), (8, .int (nI c2))]) [2, 3, 4, 5, 6, 7, 1, 0] rfl ?_
              exact ihL97 c2 yq9 (by omega) (by omega) (by rw [eyq9, ha, show kk - c2 = (kk - (c2 + 1)) + 1 by omega, lfS])
      refine g_sub (lv' := [(0, .ref m0), (1, .int (nI p)), (2, .int (nI z)), (3, .long yq1), (5, .int yq2), (6, .int yq3), (7, .int (nI s)), (8, .int (nI kk))]) [5, 6, 7, 4, 3, 2, 1, 0] rfl ?_
      exact L97 (kk + 1) kk (nI s) (Nat.lt_succ_self _) (Nat.le_refl kk) (by rw [Nat.sub_self]; rfl)
    · have hn0 : bc (T.2.2.1 p) = 0 := by rw [← eyq3]; exact cq5
      refine g_bipush C ((-9)) dX12_says_77 (by decide) ?_
      exact g_iret C X dX12_says_79 (⟨by unfold sayS; first | (rw [if_pos hn0]; done) | (by_cases h9 : bc (T.2.2.1 p) = 0; (rw [if_pos h9]); (rw [if_neg h9, if_neg hno])), rfl⟩)

theorem thAt_9 (x pl : Int32) : ∀ (n k : Nat) (a : Int32), k + n ≤ 7 → thAt x pl n k a = (-9) ∨ ∃ j, j < 7 ∧ thAt x pl n k a = nI j
  | 0, _, _, _ => Or.inl rfl
  | n + 1, k, a, h => by
    rw [thAt]
    by_cases h1 : tb x k = 0
    · rw [if_pos h1]; exact thAt_9 x pl n (k + 1) a (by omega)
    · rw [if_neg h1]
      by_cases h2 : a = pl
      · rw [if_pos h2]; exact Or.inr ⟨k, by omega, rfl⟩
      · rw [if_neg h2]; exact thAt_9 x pl n (k + 1) (a + nI 1) (by omega)
theorem sayS_9 (kn ta : Nat → Int32) (p : Nat) (z nt : Int32) : sayS kn ta p z nt = (-9) ∨ ∃ j, j < 7 ∧ sayS kn ta p z nt = nI j := by
  unfold sayS
  by_cases h1 : bc (kn p) = 0
  · rw [if_pos h1]; exact Or.inl rfl
  · rw [if_neg h1]
    by_cases h2 : irm (drw p z nt) (nI 10) < ta p
    · rw [if_pos h2]; exact thAt_9 _ _ 7 0 _ (by decide)
    · rw [if_neg h2]; exact Or.inl rfl
theorem slpS_hi (kn ta : Nat → Int32) (z nt : Int32) (f : Nat → Int32) {i : Nat} (hi : 42 ≤ i) : ∀ k, (slpS kn ta z nt f k).2 i = f i
  | 0 => rfl
  | k + 1 => by
    rw [slpS]
    split
    · exact slpS_hi kn ta z nt f hi k
    · rename_i h
      rcases sayS_9 kn ta k z nt with h1 | ⟨j, hj, h1⟩
      · exact absurd (by rw [h1]; decide) h
      · show hrS _ _ _ i = f i
        rw [h1, nI_clamp (by omega), hrS_hi hj hi]
        exact slpS_hi kn ta z nt f hi k
theorem hr_eq : ∀ i, i < 100 → (nI 99 ≤ nI i → nI i + nI 0 = imin (nI i + nI 1) (nI 99)) ∧ (¬ nI 99 ≤ nI i → nI i + nI 1 = imin (nI i + nI 1) (nI 99)) ∧ ∃ j, j ≤ 99 ∧ imin (nI i + nI 1) (nI 99) = nI j := by decide +kernel
theorem hrS_99 {f : Nat → Int32} {b : Int32} {t : Nat} (ht : t < 7) (h : ∀ k, k < 42 → ∃ j, j ≤ 99 ∧ f k = nI j) : ∀ k, k < 42 → ∃ j, j ≤ 99 ∧ hrS f b t k = nI j := by
  intro k hk
  by_cases h1 : inR b 6
  · obtain ⟨q, hq, rfl⟩ := inR_of (by decide) h1
    rw [hrS_y hq]
    by_cases h2 : k = q * 7 + t
    · rw [h2, pk_us]
      obtain ⟨i, hi, e⟩ := h (q * 7 + t) (by omega)
      rw [e]; exact (hr_eq i (by omega)).2.2
    · rw [pk_un h2]; exact h k hk
  · rw [hrS_n h1]; exact h k hk
theorem slpS_99 (kn ta : Nat → Int32) (z nt : Int32) {f : Nat → Int32} (h : ∀ k, k < 42 → ∃ j, j ≤ 99 ∧ f k = nI j) : ∀ n, ∀ k, k < 42 → ∃ j, j ≤ 99 ∧ (slpS kn ta z nt f n).2 k = nI j
  | 0 => h
  | n + 1 => by
    rw [slpS]
    split
    · exact slpS_99 kn ta z nt h n
    · rename_i h0
      rcases sayS_9 kn ta n z nt with h1 | ⟨j, hj, h1⟩
      · exact absurd (by rw [h1]; decide) h0
      · rw [h1, nI_clamp (by omega)]
        exact hrS_99 hj (slpS_99 kn ta z nt h n)

set_option maxHeartbeats 4000000 in
set_option maxRecDepth 100000 in
theorem kX12_goesBy (l : Launch) (E : EX) (m0 x0 x1 x2 x3 x4 x5 x6 x7 x8 x9 n und nt : Nat) (tr : Int64) (Q : RS) (T : TS) (f : Nat → Int32) (z : Nat) (hT : TI T) (hn : T.1 ≤ 6) (hm : T.2.1 ≤ 6) (h99 : ∀ k, k < 42 → ∃ j, j ≤ 99 ∧ f k = nI j) (hbed : ∀ p, p < 6 → f (42 + p) = (-9) ∨ (p < T.1 ∧ ∃ q, q < T.2.1 ∧ f (42 + p) = nI q)) (hz : z < 10000) (h49 : ∃ n, n ≤ 1019 ∧ f 49 = nI n) : M l E yX12_goesBy wsX12_goesBy { frames := 2, cells := 0, slots := 0, locals := 50 } 0 0 [.ref m0, .int (nI z)] [(m0, oB 12 [.ref x0, .int (nI n), .int (nI Q.1), .int (nI Q.2.2.1), .int Q.2.1, .int Q.2.2.2, .ref x1, .ref x2, .ref x3, .ref x4, .int (nI und), .ref x5, .ref x6, .int (nI nt), .ref x7, .ref x8, .long tr, .ref x9]), (x2, iA E 21 (papO T)), (x3, iA E 50 (nowO f))] (is1 (some (.int (nI ((slpS T.2.2.1 T.2.2.2.1 (nI z) (f 49) f T.1).1)))) [(m0, oB 12 [.ref x0, .int (nI n), .int (nI Q.1), .int (nI Q.2.2.1), .int Q.2.1, .int Q.2.2.2, .ref x1, .ref x2, .ref x3, .ref x4, .int (nI und), .ref x5, .ref x6, .int (nI nt), .ref x7, .ref x8, .long tr, .ref x9]), (x2, iA E 21 (papO T)), (x3, iA E 50 (nowO (ngtF T f (nI z))))]) := by
  refine M.ofG (cc := cX12_goesBy) (maxL := 6) (ret := (some .int)) (lv := [(0, .ref m0), (1, .int (nI z))]) (own := RX12) (by decide) rfl rfl (Nat.le_of_ble_eq_true rfl) rfl ?_
  intro K C X _
  have i12 : ∀ w ∈ wsX120, w ∈ wsX12_goesBy := by decide +kernel
  refine g_iconst C (nI 0) dX12_goesBy_0 (by decide) ?_
  refine g_istore_n C (lv' := [(2, .int (nI 0)), (0, .ref m0), (1, .int (nI z))]) dX12_goesBy_1 rfl (by decide) rfl ?_
  refine g_iconst C (nI 0) dX12_goesBy_2 (by decide) ?_
  refine g_istore_n C (lv' := [(3, .int (nI 0)), (2, .int (nI 0)), (0, .ref m0), (1, .int (nI z))]) dX12_goesBy_3 rfl (by decide) rfl ?_
  have L4 : ∀ (zz k : Nat) (a : Nat) (u : Nat → Int32), k + zz = T.1 + 1 → k ≤ T.1 → (a = (slpS T.2.2.1 T.2.2.2.1 (nI z) (f 49) f k).1) → (u = (slpS T.2.2.1 T.2.2.2.1 (nI z) (f 49) f k).2) → G K 0 0 4 [(0, .ref m0), (1, .int (nI z)), (2, .int (nI a)), (3, .int (nI k))] [] [(m0, oB 12 [.ref x0, .int (nI n), .int (nI Q.1), .int (nI Q.2.2.1), .int Q.2.1, .int Q.2.2.2, .ref x1, .ref x2, .ref x3, .ref x4, .int (nI und), .ref x5, .ref x6, .int (nI nt), .ref x7, .ref x8, .long tr, .ref x9]), (x2, iA E 21 (papO T)), (x3, iA E 50 (nowO u))] := by
    intro zz
    induction zz with
    | zero => intro k a u hL4 gL4; exfalso; omega
    | succ zz ihL4 =>
      intro k a u hL4 gL4 ha hu
      refine g_iload_n C dX12_goesBy_4 rfl 3 rfl ?_
      refine g_aload_n C dX12_goesBy_5 rfl 0 rfl ?_
      refine g_get C i12 0 rfl rfl 7 (by decide) (List.mem_of_getElem? (i := 1) rfl) rfl rfl dX12_goesBy_6 ?_
      refine g_iconst C (nI 0) dX12_goesBy_9 (by decide) ?_
      refine g_iald C 1 rfl (by omega) (by decide) dX12_goesBy_10 ?_
      refine g_as (papO_0 _) ?_
      refine g_icmp_geN C 109 dX12_goesBy_11 (by decide) (by omega) (by omega) (fun cq1 => ?_) (fun cq1 => ?_)
      · have hk : k = T.1 := by omega
        refine g_aload_n C dX12_goesBy_109 rfl 0 rfl ?_
        refine g_get C i12 0 rfl rfl 8 (by decide) (List.mem_of_getElem? (i := 2) rfl) rfl rfl dX12_goesBy_110 ?_
        refine g_iconst C (nI 0) dX12_goesBy_113 (by decide) ?_
        refine g_dup2 C dX12_goesBy_114 rfl rfl ?_
        refine g_iald C 2 rfl (by omega) (by decide) dX12_goesBy_115 ?_
        refine g_as (nowO_0 _) ?_
        refine g_iconst C (nI 1) dX12_goesBy_116 (by decide) ?_
        refine g_iadd C dX12_goesBy_117 ?_
        refine g_iast C (ws' := fun fq2 => [(m0, oB 12 [.ref x0, .int (nI n), .int (nI Q.1), .int (nI Q.2.2.1), .int Q.2.1, .int Q.2.2.2, .ref x1, .ref x2, .ref x3, .ref x4, .int (nI und), .ref x5, .ref x6, .int (nI nt), .ref x7, .ref x8, .long tr, .ref x9]), (x2, iA E 21 (papO T)), (x3, iA E 50 fq2)]) 2 rfl (by omega) (by decide) dX12_goesBy_118 (fun _ _ => rfl) (fun fq2 efq2 => ?_)
        obtain ⟨wq3, ewq3, rfl⟩ : ∃ z : Nat → Int32, z = upd u (49) ((u 49) + (nI 1)) ∧ fq2 = nowO z := ⟨_, rfl, efq2.trans (nowO_u0 _ _)⟩
        refine g_iload_n C dX12_goesBy_119 rfl 2 rfl ?_
        exact g_iret C X dX12_goesBy_120 (⟨by rw [ha, hk], by rw [ewq3, hu, hk]; rfl⟩)
      · have hu49 : u 49 = f 49 := by rw [hu]; exact slpS_hi _ _ _ _ f (by decide) k
        have hubed : u (42 + k) = f (42 + k) := by rw [hu]; exact slpS_hi _ _ _ _ f (by omega) k
        have hu99 : ∀ i, i < 42 → ∃ j, j ≤ 99 ∧ u i = nI j := by rw [hu]; exact slpS_99 _ _ _ _ h99 k
        refine g_aload_n C dX12_goesBy_14 rfl 0 rfl ?_
        refine g_iload_n C dX12_goesBy_15 rfl 3 rfl ?_
        refine g_iload_n C dX12_goesBy_16 rfl 1 rfl ?_
        refine g_callV C (rest := []) (n := 2) (kX12_says l E m0 x0 x1 x2 x3 x4 x5 x6 x7 x8 x9 n und nt tr Q T u k z (hT) (hn) (hm) (by omega) (hz) (hu49 ▸ h49)) gX12_goesBy_X12_says rfl ⟨rfl, rfl⟩ (by decide) (Nat.le_of_ble_eq_true rfl) rfl (by decide +kernel) rfl dX12_goesBy_17 0 rfl rfl [0, 1, 2] [] rfl rfl ?_
        refine g_is1 (ws2 := [(m0, oB 12 [.ref x0, .int (nI n), .int (nI Q.1), .int (nI Q.2.2.1), .int Q.2.1, .int Q.2.2.2, .ref x1, .ref x2, .ref x3, .ref x4, .int (nI und), .ref x5, .ref x6, .int (nI nt), .ref x7, .ref x8, .long tr, .ref x9]), (x2, iA E 21 (papO T)), (x3, iA E 50 (nowO u))]) (st2 := [.int (sayS T.2.2.1 T.2.2.2.1 k (nI z) (u 49))]) [0, 1, 2] rfl rfl rfl ?_
        refine g_nm (fun yq4 eyq4 => ?_)
        refine g_istore C (lv' := [(4, .int yq4), (0, .ref m0), (1, .int (nI z)), (2, .int (nI a)), (3, .int (nI k))]) dX12_goesBy_20 (by decide) rfl ?_
        refine g_iload_n C dX12_goesBy_22 rfl 3 rfl ?_
        refine g_iload C dX12_goesBy_23 0 rfl ?_
        refine g_bipush C ((-9)) dX12_goesBy_25 (by decide) ?_
        refine g_icmp_ne C 34 dX12_goesBy_27 (by decide) (fun cq5 => ?_) (fun cq5 => ?_)
        · refine g_iconst C (nI 1) dX12_goesBy_34 (by decide) ?_
          refine g_iaddN C dX12_goesBy_35 ?_
          refine g_istore_n C (lv' := [(2, .int (nI (a + 1))), (4, .int yq4), (0, .ref m0), (1, .int (nI z)), (3, .int (nI k))]) dX12_goesBy_36 rfl (by decide) rfl ?_
          refine g_iload C dX12_goesBy_37 1 rfl ?_
          refine g_bipush C ((-9)) dX12_goesBy_39 (by decide) ?_
          refine g_icmp_eq C 103 dX12_goesBy_41 (by decide) (fun cq6 => ?_) (fun cq6 => ?_)
          · exact absurd cq6 cq5
          · obtain ⟨j, hj, rfl⟩ : ∃ j, j < 7 ∧ yq4 = nI j := by rcases sayS_9 T.2.2.1 T.2.2.2.1 k (nI z) (u 49) with h | h; (exact absurd (eyq4.trans h) cq6); (exact eyq4 ▸ h)
            refine g_aload_n C dX12_goesBy_44 rfl 2 rfl ?_
            refine g_get C i12 0 rfl rfl 8 (by decide) (List.mem_of_getElem? (i := 2) rfl) rfl rfl dX12_goesBy_45 ?_
            refine g_iconst C (nI 2) dX12_goesBy_48 (by decide) ?_
            refine g_iload_n C dX12_goesBy_49 rfl 4 rfl ?_
            refine g_iaddN C dX12_goesBy_50 ?_
            refine g_iald C 2 rfl (by omega) (by decide) dX12_goesBy_51 ?_
            refine g_as (nowO_b (by omega)) ?_
            refine g_bipush C ((-9)) dX12_goesBy_52 (by decide) ?_
            refine g_icmp_eq C 103 dX12_goesBy_54 (by decide) (fun cq7 => ?_) (fun cq7 => ?_)
            · refine g_iincN C (lv' := [(3, .int (nI (k + 1))), (2, .int (nI (a + 1))), (4, .int (nI j)), (0, .ref m0), (1, .int (nI z))]) dX12_goesBy_103 4 rfl (by decide) rfl ?_
              refine g_goto C 4 dX12_goesBy_106 (by decide) ?_
              refine g_sub (lv' := [(0, .ref m0), (1, .int (nI z)), (2, .int (nI (a + 1))), (3, .int (nI (k + 1)))]) [3, 4, 1, 0] rfl ?_
              exact ihL4 (k + 1) (a + 1) u (by omega) (by omega) (by have e9 := eyq4; rw [hu49] at e9; rw [slpS, ← e9]; first | (rw [if_pos (by rw [cq5]; decide), ← ha]; done) | (rw [if_pos (by rw [cq5]; decide), ← ha]; rfl) | (rw [if_neg (nI_pos (by omega)), ← ha]; done)) (by have e9 := eyq4; rw [hu49] at e9; rw [slpS, ← e9]; first | (rw [if_pos (by rw [cq5]; decide), ← hu]; done) | (rw [if_neg (nI_pos (by omega)), ← hu, nI_clamp (by omega), cq7, hrS_n (by decide)]; done) | (rw [if_neg (nI_pos (by omega)), ← hu, nI_clamp (by omega), eb, hrS_y (by omega), eyq4]; obtain ⟨i9, hi9, e8⟩ := hu99 (b * 7 + j) (by omega); rw [e8] at cq7 ⊢; first | exact congrArg (upd u (b * 7 + j)) ((hr_eq i9 (by omega)).1 cq7) | exact congrArg (upd u (b * 7 + j)) ((hr_eq i9 (by omega)).2.1 cq7)))
            · obtain ⟨b, hb, eb⟩ : ∃ b, b < T.2.1 ∧ u (42 + k) = nI b := by rcases hbed k (by have := hT.1; omega) with h | ⟨_, h⟩; (exact absurd (hubed.trans h) cq7); (rw [hubed]; exact h)
              refine g_bipush C (nI 8) dX12_goesBy_57 (by decide) ?_
              refine g_bipush C (nI 7) dX12_goesBy_59 (by decide) ?_
              refine g_aload_n C dX12_goesBy_61 rfl 2 rfl ?_
              refine g_get C i12 0 rfl rfl 8 (by decide) (List.mem_of_getElem? (i := 2) rfl) rfl rfl dX12_goesBy_62 ?_
              refine g_iconst C (nI 2) dX12_goesBy_65 (by decide) ?_
              refine g_iload_n C dX12_goesBy_66 rfl 4 rfl ?_
              refine g_iaddN C dX12_goesBy_67 ?_
              refine g_iald C 2 rfl (by omega) (by decide) dX12_goesBy_68 ?_
              refine g_as (nowO_b (by omega)) ?_
              refine g_as eb ?_
              refine g_imulN C dX12_goesBy_69 ?_
              refine g_iaddN C dX12_goesBy_70 ?_
              refine g_iload C dX12_goesBy_71 1 rfl ?_
              refine g_iaddN C dX12_goesBy_73 ?_
              refine g_istore C (lv' := [(5, .int (nI (8 + 7 * b + j))), (2, .int (nI (a + 1))), (4, .int (nI j)), (0, .ref m0), (1, .int (nI z)), (3, .int (nI k))]) dX12_goesBy_74 (by decide) rfl ?_
              refine g_aload_n C dX12_goesBy_76 rfl 3 rfl ?_
              refine g_get C i12 0 rfl rfl 8 (by decide) (List.mem_of_getElem? (i := 2) rfl) rfl rfl dX12_goesBy_77 ?_
              refine g_iload C dX12_goesBy_80 0 rfl ?_
              refine g_dup2 C dX12_goesBy_82 rfl rfl ?_
              refine g_iald C 2 rfl (by omega) (by decide) dX12_goesBy_83 ?_
              refine g_as (nowO_h (by omega) (by omega)) ?_
              refine g_aload_n C dX12_goesBy_84 rfl 3 rfl ?_
              refine g_get C i12 0 rfl rfl 8 (by decide) (List.mem_of_getElem? (i := 2) rfl) rfl rfl dX12_goesBy_85 ?_
              refine g_iload C dX12_goesBy_88 0 rfl ?_
              refine g_iald C 2 rfl (by omega) (by decide) dX12_goesBy_90 ?_
              refine g_as (nowO_h (by omega) (by omega)) ?_
              refine g_bipush C (nI 99) dX12_goesBy_91 (by decide) ?_
              refine g_icmp_ge C 100 dX12_goesBy_93 (by decide) (fun cq8 => ?_) (fun cq8 => ?_)
              · refine g_iconst C (nI 0) dX12_goesBy_100 (by decide) ?_
                refine g_iadd C dX12_goesBy_101 ?_
                refine g_iast C (ws' := fun fq9 => [(m0, oB 12 [.ref x0, .int (nI n), .int (nI Q.1), .int (nI Q.2.2.1), .int Q.2.1, .int Q.2.2.2, .ref x1, .ref x2, .ref x3, .ref x4, .int (nI und), .ref x5, .ref x6, .int (nI nt), .ref x7, .ref x8, .long tr, .ref x9]), (x2, iA E 21 (papO T)), (x3, iA E 50 fq9)]) 2 rfl (by omega) (by decide) dX12_goesBy_102 (fun _ _ => rfl) (fun fq9 efq9 => ?_)
                obtain ⟨wq10, ewq10, rfl⟩ : ∃ z : Nat → Int32, z = upd u (b * 7 + j) ((u (b * 7 + j)) + (nI 0)) ∧ fq9 = nowO z := ⟨_, rfl, efq9.trans (nowO_uh (by omega) (by omega))⟩
                refine g_iincN C (lv' := [(3, .int (nI (k + 1))), (5, .int (nI (8 + 7 * b + j))), (2, .int (nI (a + 1))), (4, .int (nI j)), (0, .ref m0), (1, .int (nI z))]) dX12_goesBy_103 5 rfl (by decide) rfl ?_
                refine g_goto C 4 dX12_goesBy_106 (by decide) ?_
                refine g_sub (lv' := [(0, .ref m0), (1, .int (nI z)), (2, .int (nI (a + 1))), (3, .int (nI (k + 1)))]) [4, 5, 2, 0] rfl ?_
                exact ihL4 (k + 1) (a + 1) wq10 (by omega) (by omega) (by have e9 := eyq4; rw [hu49] at e9; rw [slpS, ← e9]; first | (rw [if_pos (by rw [cq5]; decide), ← ha]; done) | (rw [if_pos (by rw [cq5]; decide), ← ha]; rfl) | (rw [if_neg (nI_pos (by omega)), ← ha]; done)) (by have e9 := eyq4; rw [hu49] at e9; rw [slpS, ← e9]; first | (rw [if_pos (by rw [cq5]; decide), ← hu]; done) | (rw [if_neg (nI_pos (by omega)), ← hu, nI_clamp (by omega), cq7, hrS_n (by decide)]; done) | (rw [if_neg (nI_pos (by omega)), ← hu, nI_clamp (by omega), eb, hrS_y (by omega), ewq10]; obtain ⟨i9, hi9, e8⟩ := hu99 (b * 7 + j) (by omega); rw [e8] at cq8 ⊢; first | exact congrArg (upd u (b * 7 + j)) ((hr_eq i9 (by omega)).1 cq8) | exact congrArg (upd u (b * 7 + j)) ((hr_eq i9 (by omega)).2.1 cq8)))
              · refine g_iconst C (nI 1) dX12_goesBy_96 (by decide) ?_
                refine g_goto C 101 dX12_goesBy_97 (by decide) ?_
                refine g_iadd C dX12_goesBy_101 ?_
                refine g_iast C (ws' := fun fq11 => [(m0, oB 12 [.ref x0, .int (nI n), .int (nI Q.1), .int (nI Q.2.2.1), .int Q.2.1, .int Q.2.2.2, .ref x1, .ref x2, .ref x3, .ref x4, .int (nI und), .ref x5, .ref x6, .int (nI nt), .ref x7, .ref x8, .long tr, .ref x9]), (x2, iA E 21 (papO T)), (x3, iA E 50 fq11)]) 2 rfl (by omega) (by decide) dX12_goesBy_102 (fun _ _ => rfl) (fun fq11 efq11 => ?_)
                obtain ⟨wq12, ewq12, rfl⟩ : ∃ z : Nat → Int32, z = upd u (b * 7 + j) ((u (b * 7 + j)) + (nI 1)) ∧ fq11 = nowO z := ⟨_, rfl, efq11.trans (nowO_uh (by omega) (by omega))⟩
                refine g_iincN C (lv' := [(3, .int (nI (k + 1))), (5, .int (nI (8 + 7 * b + j))), (2, .int (nI (a + 1))), (4, .int (nI j)), (0, .ref m0), (1, .int (nI z))]) dX12_goesBy_103 5 rfl (by decide) rfl ?_
                refine g_goto C 4 dX12_goesBy_106 (by decide) ?_
                refine g_sub (lv' := [(0, .ref m0), (1, .int (nI z)), (2, .int (nI (a + 1))), (3, .int (nI (k + 1)))]) [4, 5, 2, 0] rfl ?_
                exact ihL4 (k + 1) (a + 1) wq12 (by omega) (by omega) (by have e9 := eyq4; rw [hu49] at e9; rw [slpS, ← e9]; first | (rw [if_pos (by rw [cq5]; decide), ← ha]; done) | (rw [if_pos (by rw [cq5]; decide), ← ha]; rfl) | (rw [if_neg (nI_pos (by omega)), ← ha]; done)) (by have e9 := eyq4; rw [hu49] at e9; rw [slpS, ← e9]; first | (rw [if_pos (by rw [cq5]; decide), ← hu]; done) | (rw [if_neg (nI_pos (by omega)), ← hu, nI_clamp (by omega), cq7, hrS_n (by decide)]; done) | (rw [if_neg (nI_pos (by omega)), ← hu, nI_clamp (by omega), eb, hrS_y (by omega), ewq12]; obtain ⟨i9, hi9, e8⟩ := hu99 (b * 7 + j) (by omega); rw [e8] at cq8 ⊢; first | exact congrArg (upd u (b * 7 + j)) ((hr_eq i9 (by omega)).1 cq8) | exact congrArg (upd u (b * 7 + j)) ((hr_eq i9 (by omega)).2.1 cq8)))
        · refine g_iconst C (nI 0) dX12_goesBy_30 (by decide) ?_
          refine g_goto C 35 dX12_goesBy_31 (by decide) ?_
          refine g_iaddN C dX12_goesBy_35 ?_
          refine g_istore_n C (lv' := [(2, .int (nI (a + 0))), (4, .int yq4), (0, .ref m0), (1, .int (nI z)), (3, .int (nI k))]) dX12_goesBy_36 rfl (by decide) rfl ?_
          refine g_iload C dX12_goesBy_37 1 rfl ?_
          refine g_bipush C ((-9)) dX12_goesBy_39 (by decide) ?_
          refine g_icmp_eq C 103 dX12_goesBy_41 (by decide) (fun cq13 => ?_) (fun cq13 => ?_)
          · refine g_iincN C (lv' := [(3, .int (nI (k + 1))), (2, .int (nI (a + 0))), (4, .int yq4), (0, .ref m0), (1, .int (nI z))]) dX12_goesBy_103 4 rfl (by decide) rfl ?_
            refine g_goto C 4 dX12_goesBy_106 (by decide) ?_
            refine g_sub (lv' := [(0, .ref m0), (1, .int (nI z)), (2, .int (nI (a + 0))), (3, .int (nI (k + 1)))]) [3, 4, 1, 0] rfl ?_
            exact ihL4 (k + 1) (a + 0) u (by omega) (by omega) (by have e9 := eyq4; rw [hu49] at e9; rw [slpS, ← e9]; first | (rw [if_pos (by rw [cq5]; decide), ← ha]; done) | (rw [if_pos (by rw [cq5]; decide), ← ha]; rfl) | (rw [if_neg (nI_pos (by omega)), ← ha]; done)) (by have e9 := eyq4; rw [hu49] at e9; rw [slpS, ← e9]; first | (rw [if_pos (by rw [cq5]; decide), ← hu]; done) | (rw [if_neg (nI_pos (by omega)), ← hu, nI_clamp (by omega), trivial, hrS_n (by decide)]; done) | (rw [if_neg (nI_pos (by omega)), ← hu, nI_clamp (by omega), eb, hrS_y (by omega), eyq4]; obtain ⟨i9, hi9, e8⟩ := hu99 (b * 7 + j) (by omega); rw [e8] at cq13 ⊢; first | exact congrArg (upd u (b * 7 + j)) ((hr_eq i9 (by omega)).1 cq13) | exact congrArg (upd u (b * 7 + j)) ((hr_eq i9 (by omega)).2.1 cq13)))
          · exact absurd cq5 cq13
  refine g_sub (lv' := [(0, .ref m0), (1, .int (nI z)), (2, .int (nI 0)), (3, .int (nI 0))]) [2, 3, 1, 0] rfl ?_
  exact L4 (T.1 + 1 - 0) 0 0 f (by omega) (by omega) (rfl) (rfl)

theorem ngt_eq {T : TS} {f : Nat → Int32} (hS : SI T f) : ¬ f 49 = nI 999 ↔ f 49 < nI 999 := by
  obtain ⟨n, hn, e⟩ := hS.2.2.2.2
  rw [e, nI_eq (by omega) (by decide), nI_ltI (by omega) (by decide)]
  omega
theorem n19 {T : TS} {f : Nat → Int32} (hS : SI T f) : ∃ n, n ≤ 1019 ∧ f 49 = nI n := by obtain ⟨n, hn, e⟩ := hS.2.2.2.2; exact ⟨n, by omega, e⟩

set_option maxHeartbeats 4000000 in
set_option maxRecDepth 100000 in
theorem kX12_night (l : Launch) (E : EX) (m0 x0 x1 x2 x3 x4 x5 x6 x7 x8 x9 n und nt : Nat) (tr : Int64) (Q : RS) (T : TS) (f : Nat → Int32) (un : Nat → Int32) (z : Int32) (hT : TI T) (hn : T.1 ≤ 6) (hm : T.2.1 ≤ 6) (hu : und ≤ 10) (hS : SI T f) : M l E yX12_night wsX12_night { frames := 3, cells := 0, slots := 0, locals := 75 } 0 0 [.ref m0, .int z] [(m0, oB 12 [.ref x0, .int (nI n), .int (nI Q.1), .int (nI Q.2.2.1), .int Q.2.1, .int Q.2.2.2, .ref x1, .ref x2, .ref x3, .ref x4, .int (nI und), .ref x5, .ref x6, .int (nI nt), .ref x7, .ref x8, .long tr, .ref x9]), (x2, iA E 21 (papO T)), (x3, iA E 50 (nowO f)), (x4, iA E 500 un)] (is1 (some (.int (ngtS T f z))) [(m0, oB 12 [.ref x0, .int (nI n), .int (nI Q.1), .int (nI Q.2.2.1), .int Q.2.1, .int Q.2.2.2, .ref x1, .ref x2, .ref x3, .ref x4, .int (nI (if ngtO f z then min (und + 1) 10 else und)), .ref x5, .ref x6, .int (nI nt), .ref x7, .ref x8, .long tr, .ref x9]), (x2, iA E 21 (papO T)), (x3, iA E 50 (nowO (if ngtO f z then ngtF T f z else f))), (x4, iA E 500 (if ngtO f z then unK un f und else un))]) := by
  refine M.ofG (cc := cX12_night) (maxL := 2) (ret := (some .int)) (lv := [(0, .ref m0), (1, .int z)]) (own := RX12) (by decide) rfl rfl (Nat.le_of_ble_eq_true rfl) rfl ?_
  intro K C X _
  have i12 : ∀ w ∈ wsX120, w ∈ wsX12_night := by decide +kernel
  refine g_iload_n C dX12_night_0 rfl 1 rfl ?_
  refine g_i2l C dX12_night_1 ?_
  refine g_lconst C 0 dX12_night_2 rfl ?_
  refine g_ldc2 C (v := 9999) (List.mem_of_getElem? (i := 1) rfl) dX12_night_3 ?_
  refine g_callS C (rest := []) (n := 3) (kX12_in_9999 l E z ) gX12_night_X12_in rfl ⟨rfl, rfl⟩ (by decide) (Nat.le_of_ble_eq_true rfl) rfl (by decide +kernel) rfl dX12_night_6 [] [0, 1, 2, 3] rfl rfl ?_
  refine g_is1 (ws2 := [(m0, oB 12 [.ref x0, .int (nI n), .int (nI Q.1), .int (nI Q.2.2.1), .int Q.2.1, .int Q.2.2.2, .ref x1, .ref x2, .ref x3, .ref x4, .int (nI und), .ref x5, .ref x6, .int (nI nt), .ref x7, .ref x8, .long tr, .ref x9]), (x2, iA E 21 (papO T)), (x3, iA E 50 (nowO f)), (x4, iA E 500 un)]) (st2 := [.int (bI (inR z 10000))]) [0, 1, 2, 3] rfl rfl rfl ?_
  refine g_if_neB C 14 dX12_night_9 (by decide) (fun cq1 => ?_) (fun cq1 => ?_)
  · obtain ⟨zj, hj_zj, rfl⟩ := inR_of (n := 10000) (by decide) cq1
    have hcl_zj : (nI zj).toNatClampNeg = zj := nI_clamp (by omega)
    refine g_aload_n C dX12_night_14 rfl 0 rfl ?_
    refine g_get C i12 0 rfl rfl 8 (by decide) (List.mem_of_getElem? (i := 2) rfl) rfl rfl dX12_night_15 ?_
    refine g_iconst C (nI 0) dX12_night_18 (by decide) ?_
    refine g_iald C 2 rfl (by omega) (by decide) dX12_night_19 ?_
    refine g_as (nowO_0 _) ?_
    refine g_sipush C (nI 999) dX12_night_20 (by decide) ?_
    refine g_icmp_ne C 29 dX12_night_23 (by decide) (fun cq2 => ?_) (fun cq2 => ?_)
    · have hl9 := (ngt_eq hS).mp cq2
      refine g_aload_n C dX12_night_29 rfl 0 rfl ?_
      refine g_callV C (rest := []) (n := 0) (kX12_keepsUndo l E m0 x0 x1 x2 x3 x4 x5 x6 x7 x8 x9 n und nt tr Q f un (by omega)) gX12_night_X12_keepsUndo rfl ⟨rfl, rfl⟩ (by decide) (Nat.le_of_ble_eq_true rfl) rfl (by decide +kernel) rfl dX12_night_30 0 rfl rfl [0, 2, 3] [1] rfl rfl ?_
      refine g_is1 (ws2 := [(m0, oB 12 [.ref x0, .int (nI n), .int (nI Q.1), .int (nI Q.2.2.1), .int Q.2.1, .int Q.2.2.2, .ref x1, .ref x2, .ref x3, .ref x4, .int (nI (min (und + 1) 10)), .ref x5, .ref x6, .int (nI nt), .ref x7, .ref x8, .long tr, .ref x9]), (x2, iA E 21 (papO T)), (x3, iA E 50 (nowO f)), (x4, iA E 500 (unK un f und))]) (st2 := []) [1, 0, 2, 3] rfl rfl rfl ?_
      refine g_aload_n C dX12_night_33 rfl 0 rfl ?_
      refine g_iload_n C dX12_night_34 rfl 1 rfl ?_
      refine g_callV C (rest := []) (n := 1) (kX12_goesBy l E m0 x0 x1 x2 x3 x4 x5 x6 x7 x8 x9 n (min (und + 1) 10) nt tr Q T f zj (hT) (hn) (hm) (hS.1) (hS.2.2.1) (by omega) (n19 hS)) gX12_night_X12_goesBy rfl ⟨rfl, rfl⟩ (by decide) (Nat.le_of_ble_eq_true rfl) rfl (by decide +kernel) rfl dX12_night_35 0 rfl rfl [0, 1, 2] [3] rfl rfl ?_
      refine g_is1 (ws2 := [(m0, oB 12 [.ref x0, .int (nI n), .int (nI Q.1), .int (nI Q.2.2.1), .int Q.2.1, .int Q.2.2.2, .ref x1, .ref x2, .ref x3, .ref x4, .int (nI (min (und + 1) 10)), .ref x5, .ref x6, .int (nI nt), .ref x7, .ref x8, .long tr, .ref x9]), (x2, iA E 21 (papO T)), (x3, iA E 50 (nowO (ngtF T f (nI zj)))), (x4, iA E 500 (unK un f und))]) (st2 := [.int (nI ((slpS T.2.2.1 T.2.2.2.1 (nI zj) (f 49) f T.1).1))]) [1, 2, 3, 0] rfl rfl rfl ?_
      exact g_iret C X dX12_night_38 (⟨by unfold ngtS; rw [if_pos cq1, if_pos hl9], by rw [if_pos (⟨cq1, hl9⟩), if_pos (⟨cq1, hl9⟩), if_pos (⟨cq1, hl9⟩)]⟩)
    · have hl9 := fun w => (ngt_eq hS).mpr w cq2
      refine g_bipush C ((-2)) dX12_night_26 (by decide) ?_
      exact g_iret C X dX12_night_28 (⟨by unfold ngtS; rw [if_pos cq1, if_neg hl9], by rw [if_neg (fun w => hl9 w.2), if_neg (fun w => hl9 w.2), if_neg (fun w => hl9 w.2)]⟩)
  · refine g_iconst C ((-1)) dX12_night_12 (by decide) ?_
    exact g_iret C X dX12_night_13 (⟨by unfold ngtS; rw [if_neg cq1], by rw [if_neg (fun w => cq1 w.1), if_neg (fun w => cq1 w.1), if_neg (fun w => cq1 w.1)]⟩)
