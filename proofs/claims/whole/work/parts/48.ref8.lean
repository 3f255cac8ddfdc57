/-! the reference: which draw a night was; nights ahead -/
abbrev n1O (no : Nat → Int32) : Nat → Int32 := fun k => no (3 * k)
abbrev n2O (no : Nat → Int32) : Nat → Int32 := fun k => no (3 * k + 1)
abbrev n3O (no : Nat → Int32) : Nat → Int32 := fun k => no (3 * k + 2)
theorem b2_nar {b : Nat} (h : b < 2) : narrow .boolean (.int (nI b)) = .int (nI b) := by
  rcases (show b = 0 ∨ b = 1 by omega) with rfl | rfl <;> rfl
theorem b2_bI {b : Nat} {c : Prop} [Decidable c] (h : b < 2) (hc : b = 1 ↔ c) : nI b = bI c := by
  rcases (show b = 0 ∨ b = 1 by omega) with rfl | rfl
  · rw [bI_f (fun z => absurd (hc.mpr z) (by decide))]
  · rw [bI_t (hc.mp rfl)]

set_option maxHeartbeats 4000000 in
set_option maxRecDepth 100000 in
theorem kX12_isSo (l : Launch) (E : EX) (m0 x0 x1 x2 x3 x4 x5 x6 x7 x8 x9 n und nt : Nat) (tr : Int64) (Q : RS) (T : TS) (f : Nat → Int32) (no nw : Nat → Int32) (z : Nat) (hT : TI T) (hn : T.1 ≤ 6) (hm : T.2.1 ≤ 6) (hS : SI T f) (hz : z < 10000) (hnt : nt ≤ 5) (hN : ∀ k, k < nt → inR (n1O no k) 6) : M l E yX12_isSo wsX12_isSo { frames := 2, cells := 0, slots := 0, locals := 50 } 0 0 [.ref m0, .int (nI z)] [(m0, oB 12 [.ref x0, .int (nI n), .int (nI Q.1), .int (nI Q.2.2.1), .int Q.2.1, .int Q.2.2.2, .ref x1, .ref x2, .ref x3, .ref x4, .int (nI und), .ref x5, .ref x6, .int (nI nt), .ref x7, .ref x8, .long tr, .ref x9]), (x2, iA E 21 (papO T)), (x3, iA E 50 (nowO f)), (x7, iA E 15 no), (x8, iA E 6 nw)] (is1 (some (.int (bI (agN nt (lstS T.2.2.1 T.2.2.2.1 f (nI z) (f 49) nw T.1) (n1O no) (n2O no) (n3O no))))) [(m0, oB 12 [.ref x0, .int (nI n), .int (nI Q.1), .int (nI Q.2.2.1), .int Q.2.1, .int Q.2.2.2, .ref x1, .ref x2, .ref x3, .ref x4, .int (nI und), .ref x5, .ref x6, .int (nI nt), .ref x7, .ref x8, .long tr, .ref x9]), (x2, iA E 21 (papO T)), (x3, iA E 50 (nowO f)), (x7, iA E 15 no), (x8, iA E 6 (lstS T.2.2.1 T.2.2.2.1 f (nI z) (f 49) nw T.1))]) := by
  refine M.ofG (cc := cX12_isSo) (maxL := 4) (ret := (some .boolean)) (lv := [(0, .ref m0), (1, .int (nI z))]) (own := RX12) (by decide) rfl rfl (Nat.le_of_ble_eq_true rfl) rfl ?_
  intro K C X _
  have i12 : ∀ w ∈ wsX120, w ∈ wsX12_isSo := by decide +kernel
  refine g_iconst C (nI 0) dX12_isSo_0 (by decide) ?_
  refine g_istore_n C (lv' := [(2, .int (nI 0)), (0, .ref m0), (1, .int (nI z))]) dX12_isSo_1 rfl (by decide) rfl ?_
  have L2 : ∀ (zz k : Nat) (u : Nat → Int32), k + zz = 6 + 1 → k ≤ 6 → (u = filA nw (nI 0) k) → G K 0 0 2 [(0, .ref m0), (1, .int (nI z)), (2, .int (nI k))] [] [(m0, oB 12 [.ref x0, .int (nI n), .int (nI Q.1), .int (nI Q.2.2.1), .int Q.2.1, .int Q.2.2.2, .ref x1, .ref x2, .ref x3, .ref x4, .int (nI und), .ref x5, .ref x6, .int (nI nt), .ref x7, .ref x8, .long tr, .ref x9]), (x2, iA E 21 (papO T)), (x3, iA E 50 (nowO f)), (x7, iA E 15 no), (x8, iA E 6 u)] := by
    intro zz
    induction zz with
    | zero => intro k u hL2 gL2; exfalso; omega
    | succ zz ihL2 =>
      intro k u hL2 gL2 hu
      refine g_iload_n C dX12_isSo_2 rfl 2 rfl ?_
      refine g_bipush C (nI 6) dX12_isSo_3 (by decide) ?_
      refine g_icmp_geN C 21 dX12_isSo_5 (by decide) (by omega) (by omega) (fun cq1 => ?_) (fun cq1 => ?_)
      · refine g_iconst C (nI 0) dX12_isSo_21 (by decide) ?_
        refine g_istore_n C (lv' := [(2, .int (nI 0)), (0, .ref m0), (1, .int (nI z))]) dX12_isSo_22 rfl (by decide) rfl ?_
        have L23 : ∀ (zz k2 : Nat) (v : Nat → Int32), k2 + zz = T.1 + 1 → k2 ≤ T.1 → (v = lstS T.2.2.1 T.2.2.2.1 f (nI z) (f 49) nw k2) → G K 0 0 23 [(0, .ref m0), (1, .int (nI z)), (2, .int (nI k2))] [] [(m0, oB 12 [.ref x0, .int (nI n), .int (nI Q.1), .int (nI Q.2.2.1), .int Q.2.1, .int Q.2.2.2, .ref x1, .ref x2, .ref x3, .ref x4, .int (nI und), .ref x5, .ref x6, .int (nI nt), .ref x7, .ref x8, .long tr, .ref x9]), (x2, iA E 21 (papO T)), (x3, iA E 50 (nowO f)), (x7, iA E 15 no), (x8, iA E 6 v)] := by
          intro zz
          induction zz with
          | zero => intro k2 v hL23 gL23; exfalso; omega
          | succ zz ihL23 =>
            intro k2 v hL23 gL23 hv
            refine g_iload_n C dX12_isSo_23 rfl 2 rfl ?_
            refine g_aload_n C dX12_isSo_24 rfl 0 rfl ?_
            refine g_get C i12 0 rfl rfl 7 (by decide) (List.mem_of_getElem? (i := 2) rfl) rfl rfl dX12_isSo_25 ?_
            refine g_iconst C (nI 0) dX12_isSo_28 (by decide) ?_
            refine g_iald C 1 rfl (by omega) (by decide) dX12_isSo_29 ?_
            refine g_as (papO_0 _) ?_
            refine g_icmp_geN C 89 dX12_isSo_30 (by decide) (by omega) (by omega) (fun cq2 => ?_) (fun cq2 => ?_)
            · have hv7 : v = lstS T.2.2.1 T.2.2.2.1 f (nI z) (f 49) nw T.1 := by rw [hv, show k2 = T.1 by omega]
              refine g_iconst C (nI 1) dX12_isSo_89 (by decide) ?_
              refine g_istore_n C (lv' := [(2, .int (nI 1)), (0, .ref m0), (1, .int (nI z))]) dX12_isSo_90 rfl (by decide) rfl ?_
              refine g_iconst C (nI 0) dX12_isSo_91 (by decide) ?_
              refine g_istore_n C (lv' := [(3, .int (nI 0)), (2, .int (nI 1)), (0, .ref m0), (1, .int (nI z))]) dX12_isSo_92 rfl (by decide) rfl ?_
              have L93 : ∀ (zz k3 : Nat) (bb : Nat), k3 + zz = nt + 1 → k3 ≤ nt → (bb < 2) → (bb = 1 ↔ ∀ j, j < k3 → agP v (n1O no) (n2O no) (n3O no) j) → G K 0 0 93 [(0, .ref m0), (1, .int (nI z)), (2, .int (nI bb)), (3, .int (nI k3))] [] [(m0, oB 12 [.ref x0, .int (nI n), .int (nI Q.1), .int (nI Q.2.2.1), .int Q.2.1, .int Q.2.2.2, .ref x1, .ref x2, .ref x3, .ref x4, .int (nI und), .ref x5, .ref x6, .int (nI nt), .ref x7, .ref x8, .long tr, .ref x9]), (x2, iA E 21 (papO T)), (x3, iA E 50 (nowO f)), (x7, iA E 15 no), (x8, iA E 6 v)] := by
                intro zz
                induction zz with
                | zero => intro k3 bb hL93 gL93; exfalso; omega
                | succ zz ihL93 =>
                  intro k3 bb hL93 gL93 hb2 hbi
                  refine g_iload_n C dX12_isSo_93 rfl 3 rfl ?_
                  refine g_aload_n C dX12_isSo_94 rfl 0 rfl ?_
                  refine g_get C i12 0 rfl rfl 13 (by decide) (List.mem_of_getElem? (i := 4) rfl) rfl rfl dX12_isSo_95 ?_
                  refine g_icmp_geN C 156 dX12_isSo_98 (by decide) (by omega) (by omega) (fun cq3 => ?_) (fun cq3 => ?_)
                  · refine g_iload_n C dX12_isSo_156 rfl 2 rfl ?_
                    exact g_zret C X (b2_nar hb2) dX12_isSo_157 (⟨congrArg (fun z => some (Value.int z)) (b2_bI hb2 (by rw [hbi, show k3 = nt by omega, hv7])), by rw [hv7]⟩)
                  · refine g_iload_n C dX12_isSo_101 rfl 2 rfl ?_
                    refine g_if_eqN C 148 dX12_isSo_102 (by decide) (by omega) (fun cq4 => ?_) (fun cq4 => ?_)
                    · refine g_iconst C (nI 0) dX12_isSo_148 (by decide) ?_
                      refine g_istore_n C (lv' := [(2, .int (nI 0)), (0, .ref m0), (1, .int (nI z)), (3, .int (nI k3))]) dX12_isSo_149 rfl (by decide) rfl ?_
                      refine g_iincN C (lv' := [(3, .int (nI (k3 + 1))), (2, .int (nI 0)), (0, .ref m0), (1, .int (nI z))]) dX12_isSo_150 3 rfl (by decide) rfl ?_
                      refine g_goto C 93 dX12_isSo_153 (by decide) ?_
                      refine g_sub (lv' := [(0, .ref m0), (1, .int (nI z)), (2, .int (nI 0)), (3, .int (nI (k3 + 1)))]) [2, 3, 1, 0] rfl ?_
                      exact ihL93 (k3 + 1) 0 (by omega) (by omega) (by decide) (by first | exact ⟨fun q => absurd q (by decide), fun q => absurd (hbi.mpr (fun j h => q j (by omega))) (by omega)⟩ | exact ⟨fun q => absurd q (by decide), fun q => absurd (q k3 (by omega)) (by rw [agP, eqb2, nI_clamp (by omega)]; exact cq4)⟩ | exact ⟨fun _ => lt_s (hbi.mp (by omega)) (by rw [agP, eqb2, nI_clamp (by omega)]; exact cq4), fun _ => rfl⟩)
                    · obtain ⟨qb, hqb, eqb2⟩ := inR_of (n := 6) (by decide) (hN k3 (by omega))
                      have eqb : no (3 * k3) = nI qb := eqb2
                      refine g_aload_n C dX12_isSo_105 rfl 0 rfl ?_
                      refine g_get C i12 0 rfl rfl 15 (by decide) (List.mem_of_getElem? (i := 1) rfl) rfl rfl dX12_isSo_106 ?_
                      refine g_aload_n C dX12_isSo_109 rfl 0 rfl ?_
                      refine g_get C i12 0 rfl rfl 14 (by decide) (List.mem_of_getElem? (i := 5) rfl) rfl rfl dX12_isSo_110 ?_
                      refine g_iconst C (nI 3) dX12_isSo_113 (by decide) ?_
                      refine g_iload_n C dX12_isSo_114 rfl 3 rfl ?_
                      refine g_imulN C dX12_isSo_115 ?_
                      refine g_iald C 3 rfl (by omega) (by decide) dX12_isSo_116 ?_
                      refine g_as eqb ?_
                      refine g_iald C 4 rfl (by omega) (by decide) dX12_isSo_117 ?_
                      refine g_aload_n C dX12_isSo_118 rfl 0 rfl ?_
                      refine g_get C i12 0 rfl rfl 14 (by decide) (List.mem_of_getElem? (i := 5) rfl) rfl rfl dX12_isSo_119 ?_
                      refine g_iconst C (nI 3) dX12_isSo_122 (by decide) ?_
                      refine g_iload_n C dX12_isSo_123 rfl 3 rfl ?_
                      refine g_imulN C dX12_isSo_124 ?_
                      refine g_iconst C (nI 1) dX12_isSo_125 (by decide) ?_
                      refine g_iaddN C dX12_isSo_126 ?_
                      refine g_iald C 3 rfl (by omega) (by decide) dX12_isSo_127 ?_
                      refine g_ishr C dX12_isSo_128 ?_
                      refine g_iconst C (nI 1) dX12_isSo_129 (by decide) ?_
                      refine g_iand C dX12_isSo_130 ?_
                      refine g_aload_n C dX12_isSo_131 rfl 0 rfl ?_
                      refine g_get C i12 0 rfl rfl 14 (by decide) (List.mem_of_getElem? (i := 5) rfl) rfl rfl dX12_isSo_132 ?_
                      refine g_iconst C (nI 3) dX12_isSo_135 (by decide) ?_
                      refine g_iload_n C dX12_isSo_136 rfl 3 rfl ?_
                      refine g_imulN C dX12_isSo_137 ?_
                      refine g_iconst C (nI 2) dX12_isSo_138 (by decide) ?_
                      refine g_iaddN C dX12_isSo_139 ?_
                      refine g_iald C 3 rfl (by omega) (by decide) dX12_isSo_140 ?_
                      refine g_icmp_ne C 148 dX12_isSo_141 (by decide) (fun cq5 => ?_) (fun cq5 => ?_)
                      · refine g_iconst C (nI 0) dX12_isSo_148 (by decide) ?_
                        refine g_istore_n C (lv' := [(2, .int (nI 0)), (0, .ref m0), (1, .int (nI z)), (3, .int (nI k3))]) dX12_isSo_149 rfl (by decide) rfl ?_
                        refine g_iincN C (lv' := [(3, .int (nI (k3 + 1))), (2, .int (nI 0)), (0, .ref m0), (1, .int (nI z))]) dX12_isSo_150 3 rfl (by decide) rfl ?_
                        refine g_goto C 93 dX12_isSo_153 (by decide) ?_
                        refine g_sub (lv' := [(0, .ref m0), (1, .int (nI z)), (2, .int (nI 0)), (3, .int (nI (k3 + 1)))]) [2, 3, 1, 0] rfl ?_
                        exact ihL93 (k3 + 1) 0 (by omega) (by omega) (by decide) (by first | exact ⟨fun q => absurd q (by decide), fun q => absurd (hbi.mpr (fun j h => q j (by omega))) (by omega)⟩ | exact ⟨fun q => absurd q (by decide), fun q => absurd (q k3 (by omega)) (by rw [agP, eqb2, nI_clamp (by omega)]; exact cq5)⟩ | exact ⟨fun _ => lt_s (hbi.mp (by omega)) (by rw [agP, eqb2, nI_clamp (by omega)]; exact cq5), fun _ => rfl⟩)
                      · refine g_iconst C (nI 1) dX12_isSo_144 (by decide) ?_
                        refine g_goto C 149 dX12_isSo_145 (by decide) ?_
                        refine g_istore_n C (lv' := [(2, .int (nI 1)), (0, .ref m0), (1, .int (nI z)), (3, .int (nI k3))]) dX12_isSo_149 rfl (by decide) rfl ?_
                        refine g_iincN C (lv' := [(3, .int (nI (k3 + 1))), (2, .int (nI 1)), (0, .ref m0), (1, .int (nI z))]) dX12_isSo_150 3 rfl (by decide) rfl ?_
                        refine g_goto C 93 dX12_isSo_153 (by decide) ?_
                        refine g_sub (lv' := [(0, .ref m0), (1, .int (nI z)), (2, .int (nI 1)), (3, .int (nI (k3 + 1)))]) [2, 3, 1, 0] rfl ?_
                        exact ihL93 (k3 + 1) 1 (by omega) (by omega) (by decide) (by first | exact ⟨fun q => absurd q (by decide), fun q => absurd (hbi.mpr (fun j h => q j (by omega))) (by omega)⟩ | exact ⟨fun q => absurd q (by decide), fun q => absurd (q k3 (by omega)) (by rw [agP, eqb2, nI_clamp (by omega)]; exact cq5)⟩ | exact ⟨fun _ => lt_s (hbi.mp (by omega)) (by rw [agP, eqb2, nI_clamp (by omega)]; exact cq5), fun _ => rfl⟩)
              refine g_sub (lv' := [(0, .ref m0), (1, .int (nI z)), (2, .int (nI 1)), (3, .int (nI 0))]) [2, 3, 1, 0] rfl ?_
              exact L93 (nt + 1 - 0) 0 1 (by omega) (by omega) (by decide) (⟨fun _ j h => absurd h (Nat.not_lt_zero j), fun _ => rfl⟩)
            · refine g_aload_n C dX12_isSo_33 rfl 0 rfl ?_
              refine g_get C i12 0 rfl rfl 8 (by decide) (List.mem_of_getElem? (i := 3) rfl) rfl rfl dX12_isSo_34 ?_
              refine g_iconst C (nI 2) dX12_isSo_37 (by decide) ?_
              refine g_iload_n C dX12_isSo_38 rfl 2 rfl ?_
              refine g_iaddN C dX12_isSo_39 ?_
              refine g_iald C 2 rfl (by omega) (by decide) dX12_isSo_40 ?_
              refine g_as (nowO_b (by omega)) ?_
              refine g_bipush C ((-9)) dX12_isSo_41 (by decide) ?_
              refine g_icmp_ne C 51 dX12_isSo_43 (by decide) (fun cq6 => ?_) (fun cq6 => ?_)
              · obtain ⟨b, hb, eb⟩ : ∃ b, b < T.2.1 ∧ f (42 + k2) = nI b := by rcases hS.2.2.1 k2 (by omega) with h | ⟨_, h⟩; (exact absurd h cq6); (exact h)
                refine g_aload_n C dX12_isSo_51 rfl 0 rfl ?_
                refine g_iload_n C dX12_isSo_52 rfl 2 rfl ?_
                refine g_iload_n C dX12_isSo_53 rfl 1 rfl ?_
                refine g_callV C (rest := []) (n := 2) (kX12_says l E m0 x0 x1 x2 x3 x4 x5 x6 x7 x8 x9 n und nt tr Q T f k2 z (hT) (hn) (hm) (by omega) (hz) (n19 hS)) gX12_isSo_X12_says rfl ⟨rfl, rfl⟩ (by decide) (Nat.le_of_ble_eq_true rfl) rfl (by decide +kernel) rfl dX12_isSo_54 0 rfl rfl [0, 1, 2] [3, 4] rfl rfl ?_
                refine g_is1 (ws2 := [(m0, oB 12 [.ref x0, .int (nI n), .int (nI Q.1), .int (nI Q.2.2.1), .int Q.2.1, .int Q.2.2.2, .ref x1, .ref x2, .ref x3, .ref x4, .int (nI und), .ref x5, .ref x6, .int (nI nt), .ref x7, .ref x8, .long tr, .ref x9]), (x2, iA E 21 (papO T)), (x3, iA E 50 (nowO f)), (x7, iA E 15 no), (x8, iA E 6 v)]) (st2 := [.int (sayS T.2.2.1 T.2.2.2.1 k2 (nI z) (f 49))]) [2, 3, 4, 0, 1] rfl rfl rfl ?_
                refine g_nm (fun yq7 eyq7 => ?_)
                refine g_istore_n C (lv' := [(3, .int yq7), (0, .ref m0), (1, .int (nI z)), (2, .int (nI k2))]) dX12_isSo_57 rfl (by decide) rfl ?_
                refine g_iload_n C dX12_isSo_58 rfl 0 rfl ?_
                refine g_bipush C ((-9)) dX12_isSo_59 (by decide) ?_
                refine g_icmp_eq C 83 dX12_isSo_61 (by decide) (fun cq8 => ?_) (fun cq8 => ?_)
                · refine g_iincN C (lv' := [(2, .int (nI (k2 + 1))), (3, .int yq7), (0, .ref m0), (1, .int (nI z))]) dX12_isSo_83 3 rfl (by decide) rfl ?_
                  refine g_goto C 23 dX12_isSo_86 (by decide) ?_
                  refine g_sub (lv' := [(0, .ref m0), (1, .int (nI z)), (2, .int (nI (k2 + 1)))]) [2, 3, 0] rfl ?_
                  exact ihL23 (k2 + 1) v (by omega) (by omega) (by first | (rw [hv]; exact (lstS_n (fun q => absurd q.1 (by rw [hbd]; decide))).symm) | (rw [hv]; exact (lstS_n (fun q => q.2 (by rw [← eyq7, cq8]; decide))).symm) | (rw [eyq7, hv]; exact (lstS_y (by omega) ht eb eyq7.symm).symm))
                · obtain ⟨t, ht, rfl⟩ : ∃ j, j < 7 ∧ yq7 = nI j := by rcases sayS_9 T.2.2.1 T.2.2.2.1 k2 (nI z) (f 49) with h | h; (exact absurd (eyq7.trans h) cq8); (exact eyq7 ▸ h)
                  refine g_aload_n C dX12_isSo_64 rfl 1 rfl ?_
                  refine g_get C i12 0 rfl rfl 15 (by decide) (List.mem_of_getElem? (i := 1) rfl) rfl rfl dX12_isSo_65 ?_
                  refine g_aload_n C dX12_isSo_68 rfl 1 rfl ?_
                  refine g_get C i12 0 rfl rfl 8 (by decide) (List.mem_of_getElem? (i := 3) rfl) rfl rfl dX12_isSo_69 ?_
                  refine g_iconst C (nI 2) dX12_isSo_72 (by decide) ?_
                  refine g_iload_n C dX12_isSo_73 rfl 3 rfl ?_
                  refine g_iaddN C dX12_isSo_74 ?_
                  refine g_iald C 2 rfl (by omega) (by decide) dX12_isSo_75 ?_
                  refine g_as (nowO_b (by omega)) ?_
                  refine g_as eb ?_
                  refine g_dup2 C dX12_isSo_76 rfl rfl ?_
                  refine g_iald C 4 rfl (by omega) (by decide) dX12_isSo_77 ?_
                  refine g_iconst C (nI 1) dX12_isSo_78 (by decide) ?_
                  refine g_iload_n C dX12_isSo_79 rfl 0 rfl ?_
                  refine g_ishl1 C dX12_isSo_80 (by omega) ?_
                  refine g_ior C dX12_isSo_81 ?_
                  refine g_iast C (ws' := fun fq9 => [(m0, oB 12 [.ref x0, .int (nI n), .int (nI Q.1), .int (nI Q.2.2.1), .int Q.2.1, .int Q.2.2.2, .ref x1, .ref x2, .ref x3, .ref x4, .int (nI und), .ref x5, .ref x6, .int (nI nt), .ref x7, .ref x8, .long tr, .ref x9]), (x2, iA E 21 (papO T)), (x3, iA E 50 (nowO f)), (x7, iA E 15 no), (x8, iA E 6 fq9)]) 4 rfl (by omega) (by decide) dX12_isSo_82 (fun _ _ => rfl) (fun fq9 efq9 => ?_)
                  refine g_iincN C (lv' := [(2, .int (nI (k2 + 1))), (3, .int (nI t)), (0, .ref m0), (1, .int (nI z))]) dX12_isSo_83 3 rfl (by decide) rfl ?_
                  refine g_goto C 23 dX12_isSo_86 (by decide) ?_
                  refine g_sub (lv' := [(0, .ref m0), (1, .int (nI z)), (2, .int (nI (k2 + 1)))]) [2, 3, 0] rfl ?_
                  exact ihL23 (k2 + 1) fq9 (by omega) (by omega) (by first | (rw [hv]; exact (lstS_n (fun q => absurd q.1 (by rw [hbd]; decide))).symm) | (rw [hv]; exact (lstS_n (fun q => q.2 (by rw [← eyq7, cq8]; decide))).symm) | (rw [efq9, hv]; exact (lstS_y (by omega) ht eb eyq7.symm).symm))
              · have hbd : f (42 + k2) = (-9) := cq6
                refine g_bipush C ((-9)) dX12_isSo_46 (by decide) ?_
                refine g_goto C 57 dX12_isSo_48 (by decide) ?_
                refine g_istore_n C (lv' := [(3, .int (-9)), (0, .ref m0), (1, .int (nI z)), (2, .int (nI k2))]) dX12_isSo_57 rfl (by decide) rfl ?_
                refine g_iload_n C dX12_isSo_58 rfl 0 rfl ?_
                refine g_bipush C ((-9)) dX12_isSo_59 (by decide) ?_
                refine g_icmp_eq C 83 dX12_isSo_61 (by decide) (fun cq10 => ?_) (fun cq10 => ?_)
                · refine g_iincN C (lv' := [(2, .int (nI (k2 + 1))), (3, .int (-9)), (0, .ref m0), (1, .int (nI z))]) dX12_isSo_83 3 rfl (by decide) rfl ?_
                  refine g_goto C 23 dX12_isSo_86 (by decide) ?_
                  refine g_sub (lv' := [(0, .ref m0), (1, .int (nI z)), (2, .int (nI (k2 + 1)))]) [2, 3, 0] rfl ?_
                  exact ihL23 (k2 + 1) v (by omega) (by omega) (by first | (rw [hv]; exact (lstS_n (fun q => absurd q.1 (by rw [hbd]; decide))).symm) | (rw [hv]; exact (lstS_n (fun q => q.2 (by rw [← rfl, cq10]; decide))).symm) | (rw [rfl, hv]; exact (lstS_y (by omega) ht eb rfl.symm).symm))
                · exact absurd rfl cq10
        refine g_sub (lv' := [(0, .ref m0), (1, .int (nI z)), (2, .int (nI 0))]) [1, 2, 0] rfl ?_
        exact L23 (T.1 + 1 - 0) 0 u (by omega) (by omega) (by rw [hu, show k = 6 by omega]; rfl)
      · refine g_aload_n C dX12_isSo_8 rfl 0 rfl ?_
        refine g_get C i12 0 rfl rfl 15 (by decide) (List.mem_of_getElem? (i := 1) rfl) rfl rfl dX12_isSo_9 ?_
        refine g_iload_n C dX12_isSo_12 rfl 2 rfl ?_
        refine g_iconst C (nI 0) dX12_isSo_13 (by decide) ?_
        refine g_iast C (ws' := fun fq11 => [(m0, oB 12 [.ref x0, .int (nI n), .int (nI Q.1), .int (nI Q.2.2.1), .int Q.2.1, .int Q.2.2.2, .ref x1, .ref x2, .ref x3, .ref x4, .int (nI und), .ref x5, .ref x6, .int (nI nt), .ref x7, .ref x8, .long tr, .ref x9]), (x2, iA E 21 (papO T)), (x3, iA E 50 (nowO f)), (x7, iA E 15 no), (x8, iA E 6 fq11)]) 4 rfl (by omega) (by decide) dX12_isSo_14 (fun _ _ => rfl) (fun fq11 efq11 => ?_)
        refine g_iincN C (lv' := [(2, .int (nI (k + 1))), (0, .ref m0), (1, .int (nI z))]) dX12_isSo_15 2 rfl (by decide) rfl ?_
        refine g_goto C 2 dX12_isSo_18 (by decide) ?_
        refine g_sub (lv' := [(0, .ref m0), (1, .int (nI z)), (2, .int (nI (k + 1)))]) [1, 2, 0] rfl ?_
        exact ihL2 (k + 1) fq11 (by omega) (by omega) (by rw [efq11, hu, filA_s])
  refine g_sub (lv' := [(0, .ref m0), (1, .int (nI z)), (2, .int (nI 0))]) [1, 2, 0] rfl ?_
  exact L2 (6 + 1 - 0) 0 nw (by omega) (by omega) ((filA_0 nw (nI 0)).symm)

theorem nI9 : ∀ k, k < 1000 → ¬ nI k = (-9) := fun k hk => by
  intro h
  have := congrArg Int32.toInt h
  rw [nI_toInt (by omega)] at this
  have e : (-9 : Int32).toInt = -9 := by decide
  omega

set_option maxHeartbeats 4000000 in
set_option maxRecDepth 100000 in
theorem kX12_which (l : Launch) (E : EX) (m0 x0 x1 x2 x3 x4 x5 x6 x7 x8 x9 n und nt : Nat) (tr : Int64) (Q : RS) (T : TS) (f : Nat → Int32) (no nw : Nat → Int32) (what : Int32) (hT : TI T) (hn : T.1 ≤ 6) (hm : T.2.1 ≤ 6) (hS : SI T f) (hnt : nt ≤ 5) (hN : ∀ k, k < nt → inR (n1O no k) 6) : M l E yX12_which wsX12_which { frames := 3, cells := 0, slots := 0, locals := 73 } 0 0 [.ref m0, .int what] [(m0, oB 12 [.ref x0, .int (nI n), .int (nI Q.1), .int (nI Q.2.2.1), .int Q.2.1, .int Q.2.2.2, .ref x1, .ref x2, .ref x3, .ref x4, .int (nI und), .ref x5, .ref x6, .int (nI nt), .ref x7, .ref x8, .long tr, .ref x9]), (x2, iA E 21 (papO T)), (x3, iA E 50 (nowO f)), (x7, iA E 15 no), (x8, iA E 6 nw)] (is1 (some (.int (wchS T f (n1O no) (n2O no) (n3O no) nt what))) [(m0, oB 12 [.ref x0, .int (nI n), .int (nI Q.1), .int (nI Q.2.2.1), .int Q.2.1, .int Q.2.2.2, .ref x1, .ref x2, .ref x3, .ref x4, .int (nI und), .ref x5, .ref x6, .int (nI nt), .ref x7, .ref x8, .long tr, .ref x9]), (x2, iA E 21 (papO T)), (x3, iA E 50 (nowO f)), (x7, iA E 15 no), (x8, iA E 6 (if zo what then whE T f nw 500 else nw))]) := by
  refine M.ofG (cc := cX12_which) (maxL := 6) (ret := (some .int)) (lv := [(0, .ref m0), (1, .int what)]) (own := RX12) (by decide) rfl rfl (Nat.le_of_ble_eq_true rfl) rfl ?_
  intro K C X _
  refine g_iload_n C dX12_which_0 rfl 1 rfl ?_
  refine g_i2l C dX12_which_1 ?_
  refine g_lconst C 0 dX12_which_2 rfl ?_
  refine g_lconst C 1 dX12_which_3 rfl ?_
  refine g_callS C (rest := []) (n := 3) (kX12_in_zo l E what ) gX12_which_X12_in rfl ⟨rfl, rfl⟩ (by decide) (Nat.le_of_ble_eq_true rfl) rfl (by decide +kernel) rfl dX12_which_4 [] [0, 1, 2, 3, 4] rfl rfl ?_
  refine g_is1 (ws2 := [(m0, oB 12 [.ref x0, .int (nI n), .int (nI Q.1), .int (nI Q.2.2.1), .int Q.2.1, .int Q.2.2.2, .ref x1, .ref x2, .ref x3, .ref x4, .int (nI und), .ref x5, .ref x6, .int (nI nt), .ref x7, .ref x8, .long tr, .ref x9]), (x2, iA E 21 (papO T)), (x3, iA E 50 (nowO f)), (x7, iA E 15 no), (x8, iA E 6 nw)]) (st2 := [.int (bI (zo what))]) [0, 1, 2, 3, 4] rfl rfl rfl ?_
  refine g_if_neB C 12 dX12_which_7 (by decide) (fun cq1 => ?_) (fun cq1 => ?_)
  · refine g_iconst C (nI 0) dX12_which_12 (by decide) ?_
    refine g_istore_n C (lv' := [(2, .int (nI 0)), (0, .ref m0), (1, .int what)]) dX12_which_13 rfl (by decide) rfl ?_
    refine g_bipush C ((-9)) dX12_which_14 (by decide) ?_
    refine g_istore_n C (lv' := [(3, .int (-9)), (2, .int (nI 0)), (0, .ref m0), (1, .int what)]) dX12_which_16 rfl (by decide) rfl ?_
    refine g_iconst C (nI 0) dX12_which_17 (by decide) ?_
    refine g_istore C (lv' := [(4, .int (nI 0)), (3, .int (-9)), (2, .int (nI 0)), (0, .ref m0), (1, .int what)]) dX12_which_18 (by decide) rfl ?_
    have L20 : ∀ (zz k : Nat) (d : Nat) (a : Int32) (u : Nat → Int32), k + zz = 500 + 1 → k ≤ 500 → (d = (wcS T f (n1O no) (n2O no) (n3O no) nt k).1) → (a = (wcS T f (n1O no) (n2O no) (n3O no) nt k).2) → (u = whE T f nw k) → (d ≤ k) → (d = 0 ↔ a = (-9)) → G K 0 0 20 [(0, .ref m0), (1, .int what), (2, .int (nI d)), (3, .int a), (4, .int (nI k))] [] [(m0, oB 12 [.ref x0, .int (nI n), .int (nI Q.1), .int (nI Q.2.2.1), .int Q.2.1, .int Q.2.2.2, .ref x1, .ref x2, .ref x3, .ref x4, .int (nI und), .ref x5, .ref x6, .int (nI nt), .ref x7, .ref x8, .long tr, .ref x9]), (x2, iA E 21 (papO T)), (x3, iA E 50 (nowO f)), (x7, iA E 15 no), (x8, iA E 6 u)] := by
      intro zz
      induction zz with
      | zero => intro k d a u hL20 gL20; exfalso; omega
      | succ zz ihL20 =>
        intro k d a u hL20 gL20 hd ha hu hdk hda
        refine g_iload C dX12_which_20 4 rfl ?_
        refine g_sipush C (nI 500) dX12_which_22 (by decide) ?_
        refine g_icmp_geN C 71 dX12_which_25 (by decide) (by omega) (by omega) (fun cq2 => ?_) (fun cq2 => ?_)
        · have hk : k = 500 := by omega
          refine g_iload_n C dX12_which_71 rfl 1 rfl ?_
          refine g_if_ne C 79 dX12_which_72 (by decide) (fun cq3 => ?_) (fun cq3 => ?_)
          · refine g_iload_n C dX12_which_79 rfl 3 rfl ?_
            exact g_iret C X dX12_which_80 (⟨by unfold wchS; rw [if_pos cq1, ← hk, ← hd, ← ha]; first | (rw [if_neg cq3]; done) | (rw [if_pos cq3]; done), by rw [if_pos cq1, hu, hk]⟩)
          · refine g_iload_n C dX12_which_75 rfl 2 rfl ?_
            refine g_goto C 80 dX12_which_76 (by decide) ?_
            exact g_iret C X dX12_which_80 (⟨by unfold wchS; rw [if_pos cq1, ← hk, ← hd, ← ha]; first | (rw [if_neg cq3]; done) | (rw [if_pos cq3]; done), by rw [if_pos cq1, hu, hk]⟩)
        · refine g_aload_n C dX12_which_28 rfl 0 rfl ?_
          refine g_iload C dX12_which_29 4 rfl ?_
          refine g_callV C (rest := []) (n := 1) (kX12_isSo l E m0 x0 x1 x2 x3 x4 x5 x6 x7 x8 x9 n und nt tr Q T f no u k (hT) (hn) (hm) (hS) (by omega) (hnt) (hN)) gX12_which_X12_isSo rfl ⟨rfl, rfl⟩ (by decide) (Nat.le_of_ble_eq_true rfl) rfl (by decide +kernel) rfl dX12_which_31 0 rfl rfl [0, 1, 2, 3, 4] [] rfl rfl ?_
          refine g_is1 (ws2 := [(m0, oB 12 [.ref x0, .int (nI n), .int (nI Q.1), .int (nI Q.2.2.1), .int Q.2.1, .int Q.2.2.2, .ref x1, .ref x2, .ref x3, .ref x4, .int (nI und), .ref x5, .ref x6, .int (nI nt), .ref x7, .ref x8, .long tr, .ref x9]), (x2, iA E 21 (papO T)), (x3, iA E 50 (nowO f)), (x7, iA E 15 no), (x8, iA E 6 (lstS T.2.2.1 T.2.2.2.1 f (nI k) (f 49) u T.1))]) (st2 := [.int (bI (agN nt (lstS T.2.2.1 T.2.2.2.1 f (nI k) (f 49) u T.1) (n1O no) (n2O no) (n3O no)))]) [0, 1, 2, 3, 4] rfl rfl rfl ?_
          refine g_istore C (lv' := [(5, .int (bI (agN nt (lstS T.2.2.1 T.2.2.2.1 f (nI k) (f 49) u T.1) (n1O no) (n2O no) (n3O no)))), (0, .ref m0), (1, .int what), (2, .int (nI d)), (3, .int a), (4, .int (nI k))]) dX12_which_34 (by decide) rfl ?_
          refine g_iload C dX12_which_36 0 rfl ?_
          refine g_if_eqB C 50 dX12_which_38 (by decide) (fun cq4 => ?_) (fun cq4 => ?_)
          · have hag := cq4
            have hq6 := lstS_e T.2.2.1 T.2.2.2.1 f (nI k) (f 49) u (fun _ => nI 0) T.1
            refine g_iload_n C dX12_which_50 rfl 4 rfl ?_
            refine g_istore_n C (lv' := [(3, .int a), (5, .int (bI (agN nt (lstS T.2.2.1 T.2.2.2.1 f (nI k) (f 49) u T.1) (n1O no) (n2O no) (n3O no)))), (0, .ref m0), (1, .int what), (2, .int (nI d)), (4, .int (nI k))]) dX12_which_51 rfl (by decide) rfl ?_
            refine g_iload_n C dX12_which_52 rfl 4 rfl ?_
            refine g_iload C dX12_which_53 1 rfl ?_
            refine g_if_eqB C 62 dX12_which_55 (by decide) (fun cq5 => ?_) (fun cq5 => ?_)
            · refine g_iconst C (nI 0) dX12_which_62 (by decide) ?_
              refine g_iaddN C dX12_which_63 ?_
              refine g_istore_n C (lv' := [(2, .int (nI (d + 0))), (3, .int a), (5, .int (bI (agN nt (lstS T.2.2.1 T.2.2.2.1 f (nI k) (f 49) u T.1) (n1O no) (n2O no) (n3O no)))), (0, .ref m0), (1, .int what), (4, .int (nI k))]) dX12_which_64 rfl (by decide) rfl ?_
              refine g_iincN C (lv' := [(4, .int (nI (k + 1))), (2, .int (nI (d + 0))), (3, .int a), (5, .int (bI (agN nt (lstS T.2.2.1 T.2.2.2.1 f (nI k) (f 49) u T.1) (n1O no) (n2O no) (n3O no)))), (0, .ref m0), (1, .int what)]) dX12_which_65 5 rfl (by decide) rfl ?_
              refine g_goto C 20 dX12_which_68 (by decide) ?_
              refine g_sub (lv' := [(0, .ref m0), (1, .int what), (2, .int (nI (d + 0))), (3, .int a), (4, .int (nI (k + 1)))]) [4, 5, 1, 2, 0] rfl ?_
              exact ihL20 (k + 1) (d + 0) a (lstS T.2.2.1 T.2.2.2.1 f (nI k) (f 49) u T.1) (by omega) (by omega) (by rw [wcS]; first | (rw [if_neg (fun w => hag ((agN_e hN hq6).mpr w)), ← hd]; done) | (rw [if_neg (fun w => hag ((agN_e hN hq6).mpr w)), ← hd]; rfl) | (rw [if_pos ((agN_e hN hq6).mp hag), ← hd]; done)) (by rw [wcS]; first | (rw [if_neg (fun w => hag ((agN_e hN hq6).mpr w)), ← ha]; done) | (rw [if_pos ((agN_e hN hq6).mp hag), ← ha, if_pos (hda.mp hdz)]; done) | (rw [if_pos ((agN_e hN hq6).mp hag), ← ha, if_neg (fun w => hdz (hda.mpr w))]; done)) (by rw [whE, ← hu]) (by first | omega | (simp [cq1, hd, ha, hu, hdk, hda, cq2, cq4, hag, hq6, cq5]; done)) (by first | exact ⟨fun q => absurd q (by omega), fun q => absurd q (nI9 _ (by omega))⟩ | exact ⟨fun q => absurd q (by omega), fun q => absurd (hda.mpr q) hdz⟩ | exact hda)
            · exact absurd cq5 hag
          · have hag := cq4
            have hq6 := lstS_e T.2.2.1 T.2.2.2.1 f (nI k) (f 49) u (fun _ => nI 0) T.1
            refine g_iload_n C dX12_which_41 rfl 3 rfl ?_
            refine g_if_neN C 50 dX12_which_42 (by decide) (by omega) (fun cq6 => ?_) (fun cq6 => ?_)
            · have hdz := cq6
              refine g_iload_n C dX12_which_50 rfl 4 rfl ?_
              refine g_istore_n C (lv' := [(3, .int a), (5, .int (bI (agN nt (lstS T.2.2.1 T.2.2.2.1 f (nI k) (f 49) u T.1) (n1O no) (n2O no) (n3O no)))), (0, .ref m0), (1, .int what), (2, .int (nI d)), (4, .int (nI k))]) dX12_which_51 rfl (by decide) rfl ?_
              refine g_iload_n C dX12_which_52 rfl 4 rfl ?_
              refine g_iload C dX12_which_53 1 rfl ?_
              refine g_if_eqB C 62 dX12_which_55 (by decide) (fun cq7 => ?_) (fun cq7 => ?_)
              · exact absurd hag cq7
              · refine g_iconst C (nI 1) dX12_which_58 (by decide) ?_
                refine g_goto C 63 dX12_which_59 (by decide) ?_
                refine g_iaddN C dX12_which_63 ?_
                refine g_istore_n C (lv' := [(2, .int (nI (d + 1))), (3, .int a), (5, .int (bI (agN nt (lstS T.2.2.1 T.2.2.2.1 f (nI k) (f 49) u T.1) (n1O no) (n2O no) (n3O no)))), (0, .ref m0), (1, .int what), (4, .int (nI k))]) dX12_which_64 rfl (by decide) rfl ?_
                refine g_iincN C (lv' := [(4, .int (nI (k + 1))), (2, .int (nI (d + 1))), (3, .int a), (5, .int (bI (agN nt (lstS T.2.2.1 T.2.2.2.1 f (nI k) (f 49) u T.1) (n1O no) (n2O no) (n3O no)))), (0, .ref m0), (1, .int what)]) dX12_which_65 5 rfl (by decide) rfl ?_
                refine g_goto C 20 dX12_which_68 (by decide) ?_
                refine g_sub (lv' := [(0, .ref m0), (1, .int what), (2, .int (nI (d + 1))), (3, .int a), (4, .int (nI (k + 1)))]) [4, 5, 1, 2, 0] rfl ?_
                exact ihL20 (k + 1) (d + 1) a (lstS T.2.2.1 T.2.2.2.1 f (nI k) (f 49) u T.1) (by omega) (by omega) (by rw [wcS]; first | (rw [if_neg (fun w => hag ((agN_e hN hq6).mpr w)), ← hd]; done) | (rw [if_neg (fun w => hag ((agN_e hN hq6).mpr w)), ← hd]; rfl) | (rw [if_pos ((agN_e hN hq6).mp hag), ← hd]; done)) (by rw [wcS]; first | (rw [if_neg (fun w => hag ((agN_e hN hq6).mpr w)), ← ha]; done) | (rw [if_pos ((agN_e hN hq6).mp hag), ← ha, if_pos (hda.mp hdz)]; done) | (rw [if_pos ((agN_e hN hq6).mp hag), ← ha, if_neg (fun w => hdz (hda.mpr w))]; done)) (by rw [whE, ← hu]) (by first | omega | (simp [cq1, hd, ha, hu, hdk, hda, cq2, cq4, hag, hq6, cq6, hdz, cq7]; done)) (by first | exact ⟨fun q => absurd q (by omega), fun q => absurd q (nI9 _ (by omega))⟩ | exact ⟨fun q => absurd q (by omega), fun q => absurd (hda.mpr q) hdz⟩ | exact hda)
            · have hdz := cq6
              refine g_iload C dX12_which_45 5 rfl ?_
              refine g_goto C 51 dX12_which_47 (by decide) ?_
              refine g_istore_n C (lv' := [(3, .int (nI k)), (5, .int (bI (agN nt (lstS T.2.2.1 T.2.2.2.1 f (nI k) (f 49) u T.1) (n1O no) (n2O no) (n3O no)))), (0, .ref m0), (1, .int what), (2, .int (nI d)), (4, .int (nI k))]) dX12_which_51 rfl (by decide) rfl ?_
              refine g_iload_n C dX12_which_52 rfl 4 rfl ?_
              refine g_iload C dX12_which_53 1 rfl ?_
              refine g_if_eqB C 62 dX12_which_55 (by decide) (fun cq8 => ?_) (fun cq8 => ?_)
              · exact absurd hag cq8
              · refine g_iconst C (nI 1) dX12_which_58 (by decide) ?_
                refine g_goto C 63 dX12_which_59 (by decide) ?_
                refine g_iaddN C dX12_which_63 ?_
                refine g_istore_n C (lv' := [(2, .int (nI (d + 1))), (3, .int (nI k)), (5, .int (bI (agN nt (lstS T.2.2.1 T.2.2.2.1 f (nI k) (f 49) u T.1) (n1O no) (n2O no) (n3O no)))), (0, .ref m0), (1, .int what), (4, .int (nI k))]) dX12_which_64 rfl (by decide) rfl ?_
                refine g_iincN C (lv' := [(4, .int (nI (k + 1))), (2, .int (nI (d + 1))), (3, .int (nI k)), (5, .int (bI (agN nt (lstS T.2.2.1 T.2.2.2.1 f (nI k) (f 49) u T.1) (n1O no) (n2O no) (n3O no)))), (0, .ref m0), (1, .int what)]) dX12_which_65 5 rfl (by decide) rfl ?_
                refine g_goto C 20 dX12_which_68 (by decide) ?_
                refine g_sub (lv' := [(0, .ref m0), (1, .int what), (2, .int (nI (d + 1))), (3, .int (nI k)), (4, .int (nI (k + 1)))]) [4, 5, 1, 2, 0] rfl ?_
                exact ihL20 (k + 1) (d + 1) (nI k) (lstS T.2.2.1 T.2.2.2.1 f (nI k) (f 49) u T.1) (by omega) (by omega) (by rw [wcS]; first | (rw [if_neg (fun w => hag ((agN_e hN hq6).mpr w)), ← hd]; done) | (rw [if_neg (fun w => hag ((agN_e hN hq6).mpr w)), ← hd]; rfl) | (rw [if_pos ((agN_e hN hq6).mp hag), ← hd]; done)) (by rw [wcS]; first | (rw [if_neg (fun w => hag ((agN_e hN hq6).mpr w)), ← ha]; done) | (rw [if_pos ((agN_e hN hq6).mp hag), ← ha, if_pos (hda.mp hdz)]; done) | (rw [if_pos ((agN_e hN hq6).mp hag), ← ha, if_neg (fun w => hdz (hda.mpr w))]; done)) (by rw [whE, ← hu]) (by first | omega | (simp [cq1, hd, ha, hu, hdk, hda, cq2, cq4, hag, hq6, cq6, hdz, cq8]; done)) (by first | exact ⟨fun q => absurd q (by omega), fun q => absurd q (nI9 _ (by omega))⟩ | exact ⟨fun q => absurd q (by omega), fun q => absurd (hda.mpr q) hdz⟩ | exact hda)
    refine g_sub (lv' := [(0, .ref m0), (1, .int what), (2, .int (nI 0)), (3, .int (-9)), (4, .int (nI 0))]) [3, 4, 2, 1, 0] rfl ?_
    exact L20 (500 + 1 - 0) 0 0 (-9) nw (by omega) (by omega) (rfl) (rfl) (rfl) (Nat.le_refl 0) (⟨fun _ => rfl, fun _ => rfl⟩)
  · refine g_iconst C ((-1)) dX12_which_10 (by decide) ?_
    exact g_iret C X dX12_which_11 (⟨by unfold wchS; rw [if_neg cq1], by rw [if_neg cq1]⟩)
