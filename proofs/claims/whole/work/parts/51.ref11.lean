/-! the reference: who fits where -/
def zrN (fi : Nat → Int32) (n : Nat) : Nat → Nat → Int32
  | 0 => fi
  | k + 1 => upd (zrN fi n k) (64 * n + k) (nI 0)
def wkC (kn f fi : Nat → Int32) (p s q : Nat) : Int32 := if tb (nI s) q = 0 then nI 0 else tiOn f q (kn p) 7 + fi (64 * (p + 1) + s - 2 ^ q)
def wkB (kn f fi : Nat → Int32) (p s : Nat) : Nat → Int32
  | 0 => fi (64 * (p + 1) + s)
  | k + 1 => imax (wkB kn f fi p s k) (wkC kn f fi p s k)
def wkRow (kn f fi : Nat → Int32) (p m : Nat) : Nat → Nat → Int32
  | 0 => fi
  | s + 1 => upd (wkRow kn f fi p m s) (64 * p + s) (wkB kn f (wkRow kn f fi p m s) p s m)
def wkS (kn f : Nat → Int32) (m n : Nat) (fi : Nat → Int32) : Nat → Nat → Int32
  | 0 => zrN fi n 64
  | i + 1 => wkRow kn f (wkS kn f m n fi i) (n - (i + 1)) m 64
theorem imax_l {r c : Int32} (h : c ≤ r) : imax r c = r := if_neg (Int32.not_lt.mpr h)
theorem imax_r {r c : Int32} (h : ¬ c ≤ r) : imax r c = c := if_pos (Int32.not_le.mp h)
theorem tb_2p {s q : Nat} (hq : q < 31) (h : ¬ tb (nI s) q = 0) : 2 ^ q ≤ s := by
  rw [tb_ne hq, b_nI s (by omega)] at h
  refine Nat.not_lt.mp fun z => ?_
  rw [Nat.testBit_lt_two_pow z] at h
  exact absurd h (by decide)
theorem wkC_0 {kn f fi : Nat → Int32} {p s q : Nat} (h : tb (nI s) q = 0) : wkC kn f fi p s q = nI 0 := if_pos h
theorem wkC_1 {kn f fi : Nat → Int32} {p s q : Nat} (h : ¬ tb (nI s) q = 0) : wkC kn f fi p s q = tiOn f q (kn p) 7 + fi (64 * (p + 1) + s - 2 ^ q) := if_neg h

set_option maxHeartbeats 4000000 in
set_option maxRecDepth 100000 in
theorem kX12_works (l : Launch) (E : EX) (m0 x0 x1 x2 x3 x4 x5 x6 x7 x8 x9 n und nt : Nat) (tr : Int64) (Q : RS) (T : TS) (f : Nat → Int32) (fi : Nat → Int32) (hn : T.1 ≤ 6) (hm : T.2.1 ≤ 6) : M l E yX12_works wsX12_works { frames := 2, cells := 0, slots := 0, locals := 46 } 0 0 [.ref m0] [(m0, oB 12 [.ref x0, .int (nI n), .int (nI Q.1), .int (nI Q.2.2.1), .int Q.2.1, .int Q.2.2.2, .ref x1, .ref x2, .ref x3, .ref x4, .int (nI und), .ref x5, .ref x6, .int (nI nt), .ref x7, .ref x8, .long tr, .ref x9]), (x2, iA E 21 (papO T)), (x3, iA E 50 (nowO f)), (x5, iA E 448 fi)] (is1 none [(m0, oB 12 [.ref x0, .int (nI n), .int (nI Q.1), .int (nI Q.2.2.1), .int Q.2.1, .int Q.2.2.2, .ref x1, .ref x2, .ref x3, .ref x4, .int (nI und), .ref x5, .ref x6, .int (nI nt), .ref x7, .ref x8, .long tr, .ref x9]), (x2, iA E 21 (papO T)), (x3, iA E 50 (nowO f)), (x5, iA E 448 (wkS T.2.2.1 f T.2.1 T.1 fi T.1))]) := by
  refine M.ofG (cc := cX12_works) (maxL := 6) (ret := none) (lv := [(0, .ref m0)]) (own := RX12) (by decide) rfl rfl (Nat.le_of_ble_eq_true rfl) rfl ?_
  intro K C X _
  have i12 : ∀ w ∈ wsX120, w ∈ wsX12_works := by decide +kernel
  refine g_iconst C (nI 0) dX12_works_0 (by decide) ?_
  refine g_istore_n C (lv' := [(1, .int (nI 0)), (0, .ref m0)]) dX12_works_1 rfl (by decide) rfl ?_
  have L2 : ∀ (zz kz : Nat) (u : Nat → Int32), kz + zz = 64 + 1 → kz ≤ 64 → (u = zrN fi T.1 kz) → G K 0 0 2 [(0, .ref m0), (1, .int (nI kz))] [] [(m0, oB 12 [.ref x0, .int (nI n), .int (nI Q.1), .int (nI Q.2.2.1), .int Q.2.1, .int Q.2.2.2, .ref x1, .ref x2, .ref x3, .ref x4, .int (nI und), .ref x5, .ref x6, .int (nI nt), .ref x7, .ref x8, .long tr, .ref x9]), (x2, iA E 21 (papO T)), (x3, iA E 50 (nowO f)), (x5, iA E 448 u)] := by
    intro zz
    induction zz with
    | zero => intro kz u hL2 gL2; exfalso; omega
    | succ zz ihL2 =>
      intro kz u hL2 gL2 hu
      refine g_iload_n C dX12_works_2 rfl 1 rfl ?_
      refine g_bipush C (nI 64) dX12_works_3 (by decide) ?_
      refine g_icmp_geN C 31 dX12_works_5 (by decide) (by omega) (by omega) (fun cq1 => ?_) (fun cq1 => ?_)
      · refine g_aload_n C dX12_works_31 rfl 0 rfl ?_
        refine g_get C i12 0 rfl rfl 7 (by decide) (List.mem_of_getElem? (i := 2) rfl) rfl rfl dX12_works_32 ?_
        refine g_iconst C (nI 0) dX12_works_35 (by decide) ?_
        refine g_iald C 1 rfl (by omega) (by decide) dX12_works_36 ?_
        refine g_as (papO_0 _) ?_
        refine g_iconst C (nI 1) dX12_works_37 (by decide) ?_
        refine g_isub C dX12_works_38 ?_
        refine g_istore_n C (lv' := [(1, .int ((nI T.1) - (nI 1))), (0, .ref m0)]) dX12_works_39 rfl (by decide) rfl ?_
        have L40 : ∀ (zz : Nat) (k : Nat) (v : Nat → Int32), k < zz → (k ≤ T.1) → (v = wkS T.2.2.1 f T.2.1 T.1 fi (T.1 - k)) → G K 0 0 40 [(0, .ref m0), (1, .int (nI k - nI 1))] [] [(m0, oB 12 [.ref x0, .int (nI n), .int (nI Q.1), .int (nI Q.2.2.1), .int Q.2.1, .int Q.2.2.2, .ref x1, .ref x2, .ref x3, .ref x4, .int (nI und), .ref x5, .ref x6, .int (nI nt), .ref x7, .ref x8, .long tr, .ref x9]), (x2, iA E 21 (papO T)), (x3, iA E 50 (nowO f)), (x5, iA E 448 v)] := by
          intro zz
          induction zz with
          | zero => intro k v hL40; exact absurd hL40 (Nat.not_lt_zero _)
          | succ zz ihL40 =>
            intro k v hL40 hk hv
            rcases k with _ | j
            · refine g_iload_n C dX12_works_40 rfl 1 rfl ?_
              refine g_if_lt C 164 dX12_works_41 (by decide) (fun cq2 => ?_) (fun cq2 => ?_)
              · exact g_vret C X dX12_works_164 (⟨rfl, by rw [hv, Nat.sub_zero]⟩)
              · exact absurd (by decide) cq2
            · rw [nI_prd j]
              refine g_iload_n C dX12_works_40 rfl 1 rfl ?_
              refine g_if_ltN C 164 dX12_works_41 (by decide) (by omega) ?_
              refine g_iconst C (nI 0) dX12_works_44 (by decide) ?_
              refine g_istore_n C (lv' := [(2, .int (nI 0)), (0, .ref m0), (1, .int (nI j))]) dX12_works_45 rfl (by decide) rfl ?_
              have L46 : ∀ (zz s : Nat) (v2 : Nat → Int32), s + zz = 64 + 1 → s ≤ 64 → (v2 = wkRow T.2.2.1 f v j T.2.1 s) → G K 0 0 46 [(0, .ref m0), (1, .int (nI j)), (2, .int (nI s))] [] [(m0, oB 12 [.ref x0, .int (nI n), .int (nI Q.1), .int (nI Q.2.2.1), .int Q.2.1, .int Q.2.2.2, .ref x1, .ref x2, .ref x3, .ref x4, .int (nI und), .ref x5, .ref x6, .int (nI nt), .ref x7, .ref x8, .long tr, .ref x9]), (x2, iA E 21 (papO T)), (x3, iA E 50 (nowO f)), (x5, iA E 448 v2)] := by
                intro zz
                induction zz with
                | zero => intro s v2 hL46 gL46; exfalso; omega
                | succ zz ihL46 =>
                  intro s v2 hL46 gL46 hv2
                  refine g_iload_n C dX12_works_46 rfl 2 rfl ?_
                  refine g_bipush C (nI 64) dX12_works_47 (by decide) ?_
                  refine g_icmp_geN C 158 dX12_works_49 (by decide) (by omega) (by omega) (fun cq4 => ?_) (fun cq4 => ?_)
                  · have hks : s = 64 := by omega
                    refine g_iincD C (lv' := [(1, .int ((nI j) - nI 1)), (0, .ref m0), (2, .int (nI s))]) dX12_works_158 1 rfl (by decide) rfl ?_
                    refine g_goto C 40 dX12_works_161 (by decide) ?_
                    refine g_sub (lv' := [(0, .ref m0), (1, .int ((nI j) - nI 1))]) [1, 0] rfl ?_
                    exact ihL40 j v2 (by omega) (by omega) (by rw [show T.1 - j = (T.1 - (j + 1)) + 1 by omega, wkS, ← hv, show T.1 - (T.1 - (j + 1) + 1) = j by omega, hv2, hks])
                  · refine g_aload_n C dX12_works_52 rfl 0 rfl ?_
                    refine g_get C i12 0 rfl rfl 11 (by decide) (List.mem_of_getElem? (i := 1) rfl) rfl rfl dX12_works_53 ?_
                    refine g_bipush C (nI 64) dX12_works_56 (by decide) ?_
                    refine g_iload_n C dX12_works_58 rfl 1 rfl ?_
                    refine g_iconst C (nI 1) dX12_works_59 (by decide) ?_
                    refine g_iaddN C dX12_works_60 ?_
                    refine g_imulN C dX12_works_61 ?_
                    refine g_iload_n C dX12_works_62 rfl 2 rfl ?_
                    refine g_iaddN C dX12_works_63 ?_
                    refine g_iald C 3 rfl (by omega) (by decide) dX12_works_64 ?_
                    refine g_istore_n C (lv' := [(3, .int (v2 (64 * (j + 1) + s))), (0, .ref m0), (1, .int (nI j)), (2, .int (nI s))]) dX12_works_65 rfl (by decide) rfl ?_
                    refine g_iconst C (nI 0) dX12_works_66 (by decide) ?_
                    refine g_istore C (lv' := [(4, .int (nI 0)), (3, .int (v2 (64 * (j + 1) + s))), (0, .ref m0), (1, .int (nI j)), (2, .int (nI s))]) dX12_works_67 (by decide) rfl ?_
                    have L69 : ∀ (zz q : Nat) (r : Int32), q + zz = T.2.1 + 1 → q ≤ T.2.1 → (r = wkB T.2.2.1 f v2 j s q) → G K 0 0 69 [(0, .ref m0), (1, .int (nI j)), (2, .int (nI s)), (3, .int r), (4, .int (nI q))] [] [(m0, oB 12 [.ref x0, .int (nI n), .int (nI Q.1), .int (nI Q.2.2.1), .int Q.2.1, .int Q.2.2.2, .ref x1, .ref x2, .ref x3, .ref x4, .int (nI und), .ref x5, .ref x6, .int (nI nt), .ref x7, .ref x8, .long tr, .ref x9]), (x2, iA E 21 (papO T)), (x3, iA E 50 (nowO f)), (x5, iA E 448 v2)] := by
                      intro zz
                      induction zz with
                      | zero => intro q r hL69 gL69; exfalso; omega
                      | succ zz ihL69 =>
                        intro q r hL69 gL69 hr
                        refine g_iload C dX12_works_69 4 rfl ?_
                        refine g_aload_n C dX12_works_71 rfl 0 rfl ?_
                        refine g_get C i12 0 rfl rfl 7 (by decide) (List.mem_of_getElem? (i := 2) rfl) rfl rfl dX12_works_72 ?_
                        refine g_iconst C (nI 1) dX12_works_75 (by decide) ?_
                        refine g_iald C 1 rfl (by omega) (by decide) dX12_works_76 ?_
                        refine g_as (papO_1 _) ?_
                        refine g_icmp_geN C 140 dX12_works_77 (by decide) (by omega) (by omega) (fun cq5 => ?_) (fun cq5 => ?_)
                        · have hkq : q = T.2.1 := by omega
                          refine g_aload_n C dX12_works_140 rfl 0 rfl ?_
                          refine g_get C i12 0 rfl rfl 11 (by decide) (List.mem_of_getElem? (i := 1) rfl) rfl rfl dX12_works_141 ?_
                          refine g_bipush C (nI 64) dX12_works_144 (by decide) ?_
                          refine g_iload_n C dX12_works_146 rfl 1 rfl ?_
                          refine g_imulN C dX12_works_147 ?_
                          refine g_iload_n C dX12_works_148 rfl 2 rfl ?_
                          refine g_iaddN C dX12_works_149 ?_
                          refine g_iload_n C dX12_works_150 rfl 3 rfl ?_
                          refine g_iast C (ws' := fun fq6 => [(m0, oB 12 [.ref x0, .int (nI n), .int (nI Q.1), .int (nI Q.2.2.1), .int Q.2.1, .int Q.2.2.2, .ref x1, .ref x2, .ref x3, .ref x4, .int (nI und), .ref x5, .ref x6, .int (nI nt), .ref x7, .ref x8, .long tr, .ref x9]), (x2, iA E 21 (papO T)), (x3, iA E 50 (nowO f)), (x5, iA E 448 fq6)]) 3 rfl (by omega) (by decide) dX12_works_151 (fun _ _ => rfl) (fun fq6 efq6 => ?_)
                          refine g_iincN C (lv' := [(2, .int (nI (s + 1))), (0, .ref m0), (1, .int (nI j)), (3, .int r), (4, .int (nI q))]) dX12_works_152 2 rfl (by decide) rfl ?_
                          refine g_goto C 46 dX12_works_155 (by decide) ?_
                          refine g_sub (lv' := [(0, .ref m0), (1, .int (nI j)), (2, .int (nI (s + 1)))]) [1, 2, 0] rfl ?_
                          exact ihL46 (s + 1) fq6 (by omega) (by omega) (by rw [wkRow, ← hv2, efq6, hr, hkq])
                        · refine g_iload_n C dX12_works_80 rfl 2 rfl ?_
                          refine g_iload C dX12_works_81 4 rfl ?_
                          refine g_ishr C dX12_works_83 ?_
                          refine g_iconst C (nI 1) dX12_works_84 (by decide) ?_
                          refine g_iand C dX12_works_85 ?_
                          refine g_if_ne C 93 dX12_works_86 (by decide) (fun cq7 => ?_) (fun cq7 => ?_)
                          · have hb9 : ¬ tb (nI s) q = 0 := cq7
                            have h2p : 2 ^ q ≤ s := tb_2p (by omega) hb9
                            have h2z : 0 < 2 ^ q := Nat.two_pow_pos q
                            refine g_aload_n C dX12_works_93 rfl 0 rfl ?_
                            refine g_iload_n C dX12_works_94 rfl 1 rfl ?_
                            refine g_iload C dX12_works_95 4 rfl ?_
                            refine g_callV C (rest := []) (n := 2) (kX12_explains l E m0 x0 x1 x2 x3 x4 x5 x6 x7 x8 x9 n und nt tr Q T f j q (by omega) (hn) (by omega)) gX12_works_X12_explains rfl ⟨rfl, rfl⟩ (by decide) (Nat.le_of_ble_eq_true rfl) rfl (by decide +kernel) rfl dX12_works_97 0 rfl rfl [0, 1, 2] [3] rfl rfl ?_
                            refine g_is1 (ws2 := [(m0, oB 12 [.ref x0, .int (nI n), .int (nI Q.1), .int (nI Q.2.2.1), .int Q.2.1, .int Q.2.2.2, .ref x1, .ref x2, .ref x3, .ref x4, .int (nI und), .ref x5, .ref x6, .int (nI nt), .ref x7, .ref x8, .long tr, .ref x9]), (x2, iA E 21 (papO T)), (x3, iA E 50 (nowO f)), (x5, iA E 448 v2)]) (st2 := [.int (tiOn f q (T.2.2.1 j) 7)]) [1, 2, 3, 0] rfl rfl rfl ?_
                            refine g_aload_n C dX12_works_100 rfl 0 rfl ?_
                            refine g_get C i12 0 rfl rfl 11 (by decide) (List.mem_of_getElem? (i := 1) rfl) rfl rfl dX12_works_101 ?_
                            refine g_bipush C (nI 64) dX12_works_104 (by decide) ?_
                            refine g_iload_n C dX12_works_106 rfl 1 rfl ?_
                            refine g_iconst C (nI 1) dX12_works_107 (by decide) ?_
                            refine g_iaddN C dX12_works_108 ?_
                            refine g_imulN C dX12_works_109 ?_
                            refine g_iload_n C dX12_works_110 rfl 2 rfl ?_
                            refine g_iaddN C dX12_works_111 ?_
                            refine g_iconst C (nI 1) dX12_works_112 (by decide) ?_
                            refine g_iload C dX12_works_113 4 rfl ?_
                            refine g_ishl1 C dX12_works_115 (by omega) ?_
                            refine g_isubN C dX12_works_116 (by omega) ?_
                            refine g_iald C 3 rfl (by omega) (by decide) dX12_works_117 ?_
                            refine g_iadd C dX12_works_118 ?_
                            refine g_istore C (lv' := [(5, .int ((tiOn f q (T.2.2.1 j) 7) + (v2 (64 * (j + 1) + s - (2 ^ q))))), (0, .ref m0), (1, .int (nI j)), (2, .int (nI s)), (3, .int r), (4, .int (nI q))]) dX12_works_119 (by decide) rfl ?_
                            refine g_iload C dX12_works_121 0 rfl ?_
                            refine g_iload_n C dX12_works_123 rfl 4 rfl ?_
                            refine g_icmp_le C 132 dX12_works_124 (by decide) (fun cq8 => ?_) (fun cq8 => ?_)
                            · refine g_iload_n C dX12_works_132 rfl 4 rfl ?_
                              refine g_istore_n C (lv' := [(3, .int r), (5, .int ((tiOn f q (T.2.2.1 j) 7) + (v2 (64 * (j + 1) + s - (2 ^ q))))), (0, .ref m0), (1, .int (nI j)), (2, .int (nI s)), (4, .int (nI q))]) dX12_works_133 rfl (by decide) rfl ?_
                              refine g_iincN C (lv' := [(4, .int (nI (q + 1))), (3, .int r), (5, .int ((tiOn f q (T.2.2.1 j) 7) + (v2 (64 * (j + 1) + s - (2 ^ q))))), (0, .ref m0), (1, .int (nI j)), (2, .int (nI s))]) dX12_works_134 5 rfl (by decide) rfl ?_
                              refine g_goto C 69 dX12_works_137 (by decide) ?_
                              refine g_sub (lv' := [(0, .ref m0), (1, .int (nI j)), (2, .int (nI s)), (3, .int r), (4, .int (nI (q + 1)))]) [3, 4, 5, 1, 0] rfl ?_
                              exact ihL69 (q + 1) r (by omega) (by omega) (by rw [wkB, ← hr]; first | (rw [wkC_0 hb9, imax_l cq8]; done) | (rw [wkC_0 hb9, imax_r cq8]; done) | (rw [wkC_1 hb9, imax_l cq8]; done) | (rw [wkC_1 hb9, imax_r cq8]; done))
                            · refine g_iload C dX12_works_127 0 rfl ?_
                              refine g_goto C 133 dX12_works_129 (by decide) ?_
                              refine g_istore_n C (lv' := [(3, .int ((tiOn f q (T.2.2.1 j) 7) + (v2 (64 * (j + 1) + s - (2 ^ q))))), (5, .int ((tiOn f q (T.2.2.1 j) 7) + (v2 (64 * (j + 1) + s - (2 ^ q))))), (0, .ref m0), (1, .int (nI j)), (2, .int (nI s)), (4, .int (nI q))]) dX12_works_133 rfl (by decide) rfl ?_
                              refine g_iincN C (lv' := [(4, .int (nI (q + 1))), (3, .int ((tiOn f q (T.2.2.1 j) 7) + (v2 (64 * (j + 1) + s - (2 ^ q))))), (5, .int ((tiOn f q (T.2.2.1 j) 7) + (v2 (64 * (j + 1) + s - (2 ^ q))))), (0, .ref m0), (1, .int (nI j)), (2, .int (nI s))]) dX12_works_134 5 rfl (by decide) rfl ?_
                              refine g_goto C 69 dX12_works_137 (by decide) ?_
                              refine g_sub (lv' := [(0, .ref m0), (1, .int (nI j)), (2, .int (nI s)), (3, .int ((tiOn f q (T.2.2.1 j) 7) + (v2 (64 * (j + 1) + s - (2 ^ q))))), (4, .int (nI (q + 1)))]) [3, 4, 5, 1, 0] rfl ?_
                              exact ihL69 (q + 1) ((tiOn f q (T.2.2.1 j) 7) + (v2 (64 * (j + 1) + s - (2 ^ q)))) (by omega) (by omega) (by rw [wkB, ← hr]; first | (rw [wkC_0 hb9, imax_l cq8]; done) | (rw [wkC_0 hb9, imax_r cq8]; done) | (rw [wkC_1 hb9, imax_l cq8]; done) | (rw [wkC_1 hb9, imax_r cq8]; done))
                          · have hb9 : tb (nI s) q = 0 := cq7
                            refine g_iconst C (nI 0) dX12_works_89 (by decide) ?_
                            refine g_goto C 119 dX12_works_90 (by decide) ?_
                            refine g_istore C (lv' := [(5, .int (nI 0)), (0, .ref m0), (1, .int (nI j)), (2, .int (nI s)), (3, .int r), (4, .int (nI q))]) dX12_works_119 (by decide) rfl ?_
                            refine g_iload C dX12_works_121 0 rfl ?_
                            refine g_iload_n C dX12_works_123 rfl 4 rfl ?_
                            refine g_icmp_le C 132 dX12_works_124 (by decide) (fun cq9 => ?_) (fun cq9 => ?_)
                            · refine g_iload_n C dX12_works_132 rfl 4 rfl ?_
                              refine g_istore_n C (lv' := [(3, .int r), (5, .int (nI 0)), (0, .ref m0), (1, .int (nI j)), (2, .int (nI s)), (4, .int (nI q))]) dX12_works_133 rfl (by decide) rfl ?_
                              refine g_iincN C (lv' := [(4, .int (nI (q + 1))), (3, .int r), (5, .int (nI 0)), (0, .ref m0), (1, .int (nI j)), (2, .int (nI s))]) dX12_works_134 5 rfl (by decide) rfl ?_
                              refine g_goto C 69 dX12_works_137 (by decide) ?_
                              refine g_sub (lv' := [(0, .ref m0), (1, .int (nI j)), (2, .int (nI s)), (3, .int r), (4, .int (nI (q + 1)))]) [3, 4, 5, 1, 0] rfl ?_
                              exact ihL69 (q + 1) r (by omega) (by omega) (by rw [wkB, ← hr]; first | (rw [wkC_0 hb9, imax_l cq9]; done) | (rw [wkC_0 hb9, imax_r cq9]; done) | (rw [wkC_1 hb9, imax_l cq9]; done) | (rw [wkC_1 hb9, imax_r cq9]; done))
                            · refine g_iload C dX12_works_127 0 rfl ?_
                              refine g_goto C 133 dX12_works_129 (by decide) ?_
                              refine g_istore_n C (lv' := [(3, .int (nI 0)), (5, .int (nI 0)), (0, .ref m0), (1, .int (nI j)), (2, .int (nI s)), (4, .int (nI q))]) dX12_works_133 rfl (by decide) rfl ?_
                              refine g_iincN C (lv' := [(4, .int (nI (q + 1))), (3, .int (nI 0)), (5, .int (nI 0)), (0, .ref m0), (1, .int (nI j)), (2, .int (nI s))]) dX12_works_134 5 rfl (by decide) rfl ?_
                              refine g_goto C 69 dX12_works_137 (by decide) ?_
                              refine g_sub (lv' := [(0, .ref m0), (1, .int (nI j)), (2, .int (nI s)), (3, .int (nI 0)), (4, .int (nI (q + 1)))]) [3, 4, 5, 1, 0] rfl ?_
                              exact ihL69 (q + 1) (nI 0) (by omega) (by omega) (by rw [wkB, ← hr]; first | (rw [wkC_0 hb9, imax_l cq9]; done) | (rw [wkC_0 hb9, imax_r cq9]; done) | (rw [wkC_1 hb9, imax_l cq9]; done) | (rw [wkC_1 hb9, imax_r cq9]; done))
                    refine g_sub (lv' := [(0, .ref m0), (1, .int (nI j)), (2, .int (nI s)), (3, .int (v2 (64 * (j + 1) + s))), (4, .int (nI 0))]) [2, 3, 4, 1, 0] rfl ?_
                    exact L69 (T.2.1 + 1 - 0) 0 (v2 (64 * (j + 1) + s)) (by omega) (by omega) (by subst_vars; rfl)
              refine g_sub (lv' := [(0, .ref m0), (1, .int (nI j)), (2, .int (nI 0))]) [1, 2, 0] rfl ?_
              exact L46 (64 + 1 - 0) 0 v (by omega) (by omega) (rfl)
        refine g_sub (lv' := [(0, .ref m0), (1, .int ((nI T.1) - (nI 1)))]) [1, 0] rfl ?_
        exact L40 (T.1 + 1) T.1 u (Nat.lt_succ_self _) (Nat.le_refl _) (by rw [Nat.sub_self, hu, show kz = 64 by omega]; rfl)
      · refine g_aload_n C dX12_works_8 rfl 0 rfl ?_
        refine g_get C i12 0 rfl rfl 11 (by decide) (List.mem_of_getElem? (i := 1) rfl) rfl rfl dX12_works_9 ?_
        refine g_bipush C (nI 64) dX12_works_12 (by decide) ?_
        refine g_aload_n C dX12_works_14 rfl 0 rfl ?_
        refine g_get C i12 0 rfl rfl 7 (by decide) (List.mem_of_getElem? (i := 2) rfl) rfl rfl dX12_works_15 ?_
        refine g_iconst C (nI 0) dX12_works_18 (by decide) ?_
        refine g_iald C 1 rfl (by omega) (by decide) dX12_works_19 ?_
        refine g_as (papO_0 _) ?_
        refine g_imulN C dX12_works_20 ?_
        refine g_iload_n C dX12_works_21 rfl 1 rfl ?_
        refine g_iaddN C dX12_works_22 ?_
        refine g_iconst C (nI 0) dX12_works_23 (by decide) ?_
        refine g_iast C (ws' := fun fq10 => [(m0, oB 12 [.ref x0, .int (nI n), .int (nI Q.1), .int (nI Q.2.2.1), .int Q.2.1, .int Q.2.2.2, .ref x1, .ref x2, .ref x3, .ref x4, .int (nI und), .ref x5, .ref x6, .int (nI nt), .ref x7, .ref x8, .long tr, .ref x9]), (x2, iA E 21 (papO T)), (x3, iA E 50 (nowO f)), (x5, iA E 448 fq10)]) 3 rfl (by omega) (by decide) dX12_works_24 (fun _ _ => rfl) (fun fq10 efq10 => ?_)
        refine g_iincN C (lv' := [(1, .int (nI (kz + 1))), (0, .ref m0)]) dX12_works_25 1 rfl (by decide) rfl ?_
        refine g_goto C 2 dX12_works_28 (by decide) ?_
        refine g_sub (lv' := [(0, .ref m0), (1, .int (nI (kz + 1)))]) [1, 0] rfl ?_
        exact ihL2 (kz + 1) fq10 (by omega) (by omega) (by rw [efq10, hu, zrN])
  refine g_sub (lv' := [(0, .ref m0), (1, .int (nI 0))]) [1, 0] rfl ?_
  exact L2 (64 + 1 - 0) 0 fi (by omega) (by omega) (rfl)

def dnS (kn f fi : Nat → Int32) (m p s : Nat) : Nat → Int32
  | 0 => (-9)
  | i + 1 => if tb (nI s) (m - (i + 1)) = 0 then dnS kn f fi m p s i else if tiOn f (m - (i + 1)) (kn p) 7 + fi (64 * (p + 1) + s - 2 ^ (m - (i + 1))) = fi (64 * p + s) then nI (m - (i + 1)) else dnS kn f fi m p s i
def dnB (kn f fi : Nat → Int32) (m p s : Nat) : Int32 := if fi (64 * (p + 1) + s) = fi (64 * p + s) then (-9) else dnS kn f fi m p s m
def dnP (kn f fi : Nat → Int32) (m : Nat) : Nat → Nat × Int32
  | 0 => (2 ^ m - 1, (-9))
  | p + 1 => (if dnB kn f fi m p (dnP kn f fi m p).1 = (-9) then (dnP kn f fi m p).1 else (dnP kn f fi m p).1 - 2 ^ (dnB kn f fi m p (dnP kn f fi m p).1).toNatClampNeg, dnB kn f fi m p (dnP kn f fi m p).1)
theorem dnS_in (kn f fi : Nat → Int32) (m p s : Nat) : ∀ i, i ≤ m → dnS kn f fi m p s i = (-9) ∨ ∃ j, j < m ∧ ¬ tb (nI s) j = 0 ∧ dnS kn f fi m p s i = nI j
  | 0, _ => Or.inl rfl
  | i + 1, h => by
    have ih := dnS_in kn f fi m p s i (by omega)
    rw [dnS]
    by_cases h1 : tb (nI s) (m - (i + 1)) = 0
    · rw [if_pos h1]; exact ih
    · rw [if_neg h1]
      by_cases h2 : tiOn f (m - (i + 1)) (kn p) 7 + fi (64 * (p + 1) + s - 2 ^ (m - (i + 1))) = fi (64 * p + s)
      · rw [if_pos h2]; exact Or.inr ⟨m - (i + 1), by omega, h1, rfl⟩
      · rw [if_neg h2]; exact ih

def fitR (T : TS) (f fi : Nat → Int32) (p : Int32) : Int32 := if p = (-1) then (wkS T.2.2.1 f T.2.1 T.1 fi T.1) (2 ^ T.2.1 - 1) else if inR p T.1 then (dnP T.2.2.1 f (wkS T.2.2.1 f T.2.1 T.1 fi T.1) T.2.1 (p.toNatClampNeg + 1)).2 else (-1)
theorem dnB_in (kn f fi : Nat → Int32) (m p s : Nat) : dnB kn f fi m p s = (-9) ∨ ∃ j, j < m ∧ ¬ tb (nI s) j = 0 ∧ dnB kn f fi m p s = nI j := by
  unfold dnB
  by_cases h : fi (64 * (p + 1) + s) = fi (64 * p + s)
  · rw [if_pos h]; exact Or.inl rfl
  · rw [if_neg h]; exact dnS_in kn f fi m p s m (Nat.le_refl m)
theorem dnP_y {kn f fi : Nat → Int32} {m p s j : Nat} (hs : s = (dnP kn f fi m p).1) (hd : nI j = dnB kn f fi m p s) (hj : j < 31) : s - 2 ^ j = (dnP kn f fi m (p + 1)).1 := by
  rw [dnP, ← hs, ← hd, if_neg (by rw [show (-9 : Int32) = - nI 9 from rfl]; intro z; have := congrArg (fun x => decide (x < 0)) z; rw [show decide (nI j < 0) = false from decide_eq_false (nI_pos (by omega))] at this; exact absurd this (by decide)), nI_clamp (by omega)]
theorem dnP_n {kn f fi : Nat → Int32} {m p s : Nat} {d : Int32} (hs : s = (dnP kn f fi m p).1) (hd : d = dnB kn f fi m p s) (h : d = (-9)) : s - 0 = (dnP kn f fi m (p + 1)).1 := by
  rw [dnP, ← hs, ← hd, if_pos h]; rfl
theorem dnP_2 {kn f fi : Nat → Int32} {m p s : Nat} {d : Int32} (hs : s = (dnP kn f fi m p).1) (hd : d = dnB kn f fi m p s) : d = (dnP kn f fi m (p + 1)).2 := by
  rw [dnP, ← hs, ← hd]

set_option maxHeartbeats 4000000 in
set_option maxRecDepth 100000 in
theorem kX12_fit (l : Launch) (E : EX) (m0 x0 x1 x2 x3 x4 x5 x6 x7 x8 x9 n und nt : Nat) (tr : Int64) (Q : RS) (T : TS) (f : Nat → Int32) (fi : Nat → Int32) (p : Int32) (hT : TI T) (hn : T.1 ≤ 6) (hm : T.2.1 ≤ 6) : M l E yX12_fit wsX12_fit { frames := 3, cells := 0, slots := 0, locals := 71 } 0 0 [.ref m0, .int p] [(m0, oB 12 [.ref x0, .int (nI n), .int (nI Q.1), .int (nI Q.2.2.1), .int Q.2.1, .int Q.2.2.2, .ref x1, .ref x2, .ref x3, .ref x4, .int (nI und), .ref x5, .ref x6, .int (nI nt), .ref x7, .ref x8, .long tr, .ref x9]), (x2, iA E 21 (papO T)), (x3, iA E 50 (nowO f)), (x5, iA E 448 fi)] (is1 (some (.int (fitR T f fi p))) [(m0, oB 12 [.ref x0, .int (nI n), .int (nI Q.1), .int (nI Q.2.2.1), .int Q.2.1, .int Q.2.2.2, .ref x1, .ref x2, .ref x3, .ref x4, .int (nI und), .ref x5, .ref x6, .int (nI nt), .ref x7, .ref x8, .long tr, .ref x9]), (x2, iA E 21 (papO T)), (x3, iA E 50 (nowO f)), (x5, iA E 448 (if fitO T p then wkS T.2.2.1 f T.2.1 T.1 fi T.1 else fi))]) := by
  refine M.ofG (cc := cX12_fit) (maxL := 8) (ret := (some .int)) (lv := [(0, .ref m0), (1, .int p)]) (own := RX12) (by decide) rfl rfl (Nat.le_of_ble_eq_true rfl) rfl ?_
  intro K C X _
  have i12 : ∀ w ∈ wsX120, w ∈ wsX12_fit := by decide +kernel
  refine g_iload_n C dX12_fit_0 rfl 1 rfl ?_
  refine g_iconst C ((-1)) dX12_fit_1 (by decide) ?_
  refine g_icmp_eq C 15 dX12_fit_2 (by decide) (fun cq1 => ?_) (fun cq1 => ?_)
  · have hy : fitO T p := Or.inl cq1
    have h1p : 1 ≤ 2 ^ T.2.1 := Nat.one_le_two_pow
    have h64 : 2 ^ T.2.1 ≤ 64 := p2_64 hm
    refine g_aload_n C dX12_fit_15 rfl 0 rfl ?_
    refine g_callV C (rest := []) (n := 0) (kX12_works l E m0 x0 x1 x2 x3 x4 x5 x6 x7 x8 x9 n und nt tr Q T f fi (hn) (hm)) gX12_fit_X12_works rfl ⟨rfl, rfl⟩ (by decide) (Nat.le_of_ble_eq_true rfl) rfl (by decide +kernel) rfl dX12_fit_16 0 rfl rfl [0, 1, 2, 3] [] rfl rfl ?_
    refine g_is1 (ws2 := [(m0, oB 12 [.ref x0, .int (nI n), .int (nI Q.1), .int (nI Q.2.2.1), .int Q.2.1, .int Q.2.2.2, .ref x1, .ref x2, .ref x3, .ref x4, .int (nI und), .ref x5, .ref x6, .int (nI nt), .ref x7, .ref x8, .long tr, .ref x9]), (x2, iA E 21 (papO T)), (x3, iA E 50 (nowO f)), (x5, iA E 448 (wkS T.2.2.1 f T.2.1 T.1 fi T.1))]) (st2 := []) [0, 1, 2, 3] rfl rfl rfl ?_
    refine g_iconst C (nI 1) dX12_fit_19 (by decide) ?_
    refine g_aload_n C dX12_fit_20 rfl 0 rfl ?_
    refine g_get C i12 0 rfl rfl 7 (by decide) (List.mem_of_getElem? (i := 1) rfl) rfl rfl dX12_fit_21 ?_
    refine g_iconst C (nI 1) dX12_fit_24 (by decide) ?_
    refine g_iald C 1 rfl (by omega) (by decide) dX12_fit_25 ?_
    refine g_as (papO_1 _) ?_
    refine g_ishl1 C dX12_fit_26 (by omega) ?_
    refine g_iconst C (nI 1) dX12_fit_27 (by decide) ?_
    refine g_isubN C dX12_fit_28 (by omega) ?_
    refine g_istore_n C (lv' := [(2, .int (nI ((2 ^ T.2.1) - 1))), (0, .ref m0), (1, .int p)]) dX12_fit_29 rfl (by decide) rfl ?_
    refine g_iload_n C dX12_fit_30 rfl 2 rfl ?_
    refine g_iconst C ((-1)) dX12_fit_31 (by decide) ?_
    refine g_icmp_ne C 42 dX12_fit_32 (by decide) (fun cq2 => ?_) (fun cq2 => ?_)
    · exact absurd cq1 cq2
    · refine g_aload_n C dX12_fit_35 rfl 1 rfl ?_
      refine g_get C i12 0 rfl rfl 11 (by decide) (List.mem_of_getElem? (i := 2) rfl) rfl rfl dX12_fit_36 ?_
      refine g_iload_n C dX12_fit_39 rfl 0 rfl ?_
      refine g_iald C 3 rfl (by omega) (by decide) dX12_fit_40 ?_
      exact g_iret C X dX12_fit_41 (⟨by unfold fitR; rw [if_pos cq1], by rw [if_pos hy]⟩)
  · refine g_aload_n C dX12_fit_5 rfl 0 rfl ?_
    refine g_iload_n C dX12_fit_6 rfl 1 rfl ?_
    refine g_callV C (rest := []) (n := 1) (kX12_isPerson l E m0 x0 x1 x2 x3 x4 x5 x6 x7 x8 x9 n und nt tr Q T p (by omega)) gX12_fit_X12_isPerson rfl ⟨rfl, rfl⟩ (by decide) (Nat.le_of_ble_eq_true rfl) rfl (by decide +kernel) rfl dX12_fit_7 0 rfl rfl [0, 1] [2, 3] rfl rfl ?_
    refine g_is1 (ws2 := [(m0, oB 12 [.ref x0, .int (nI n), .int (nI Q.1), .int (nI Q.2.2.1), .int Q.2.1, .int Q.2.2.2, .ref x1, .ref x2, .ref x3, .ref x4, .int (nI und), .ref x5, .ref x6, .int (nI nt), .ref x7, .ref x8, .long tr, .ref x9]), (x2, iA E 21 (papO T)), (x3, iA E 50 (nowO f)), (x5, iA E 448 fi)]) (st2 := [.int (bI (inR p T.1))]) [2, 3, 0, 1] rfl rfl rfl ?_
    refine g_if_neB C 15 dX12_fit_10 (by decide) (fun cq3 => ?_) (fun cq3 => ?_)
    · have hy : fitO T p := Or.inr cq3
      have h1p : 1 ≤ 2 ^ T.2.1 := Nat.one_le_two_pow
      have h64 : 2 ^ T.2.1 ≤ 64 := p2_64 hm
      obtain ⟨j, hj_j, rfl⟩ := inR_of (n := T.1) (by omega) cq3
      have hcl_j : (nI j).toNatClampNeg = j := nI_clamp (by omega)
      refine g_aload_n C dX12_fit_15 rfl 0 rfl ?_
      refine g_callV C (rest := []) (n := 0) (kX12_works l E m0 x0 x1 x2 x3 x4 x5 x6 x7 x8 x9 n und nt tr Q T f fi (hn) (hm)) gX12_fit_X12_works rfl ⟨rfl, rfl⟩ (by decide) (Nat.le_of_ble_eq_true rfl) rfl (by decide +kernel) rfl dX12_fit_16 0 rfl rfl [0, 1, 2, 3] [] rfl rfl ?_
      refine g_is1 (ws2 := [(m0, oB 12 [.ref x0, .int (nI n), .int (nI Q.1), .int (nI Q.2.2.1), .int Q.2.1, .int Q.2.2.2, .ref x1, .ref x2, .ref x3, .ref x4, .int (nI und), .ref x5, .ref x6, .int (nI nt), .ref x7, .ref x8, .long tr, .ref x9]), (x2, iA E 21 (papO T)), (x3, iA E 50 (nowO f)), (x5, iA E 448 (wkS T.2.2.1 f T.2.1 T.1 fi T.1))]) (st2 := []) [0, 1, 2, 3] rfl rfl rfl ?_
      refine g_iconst C (nI 1) dX12_fit_19 (by decide) ?_
      refine g_aload_n C dX12_fit_20 rfl 0 rfl ?_
      refine g_get C i12 0 rfl rfl 7 (by decide) (List.mem_of_getElem? (i := 1) rfl) rfl rfl dX12_fit_21 ?_
      refine g_iconst C (nI 1) dX12_fit_24 (by decide) ?_
      refine g_iald C 1 rfl (by omega) (by decide) dX12_fit_25 ?_
      refine g_as (papO_1 _) ?_
      refine g_ishl1 C dX12_fit_26 (by omega) ?_
      refine g_iconst C (nI 1) dX12_fit_27 (by decide) ?_
      refine g_isubN C dX12_fit_28 (by omega) ?_
      refine g_istore_n C (lv' := [(2, .int (nI ((2 ^ T.2.1) - 1))), (0, .ref m0), (1, .int (nI j))]) dX12_fit_29 rfl (by decide) rfl ?_
      refine g_iload_n C dX12_fit_30 rfl 2 rfl ?_
      refine g_iconst C ((-1)) dX12_fit_31 (by decide) ?_
      refine g_icmp_ne C 42 dX12_fit_32 (by decide) (fun cq4 => ?_) (fun cq4 => ?_)
      · refine g_bipush C ((-9)) dX12_fit_42 (by decide) ?_
        refine g_istore_n C (lv' := [(3, .int (-9)), (2, .int (nI ((2 ^ T.2.1) - 1))), (0, .ref m0), (1, .int (nI j))]) dX12_fit_44 rfl (by decide) rfl ?_
        refine g_iconst C (nI 0) dX12_fit_45 (by decide) ?_
        refine g_istore C (lv' := [(4, .int (nI 0)), (3, .int (-9)), (2, .int (nI ((2 ^ T.2.1) - 1))), (0, .ref m0), (1, .int (nI j))]) dX12_fit_46 (by decide) rfl ?_
        have L48 : ∀ (zz k : Nat) (s : Nat) (a : Int32), k + zz = (j + 1) + 1 → k ≤ j + 1 → (s = (dnP T.2.2.1 f (wkS T.2.2.1 f T.2.1 T.1 fi T.1) T.2.1 k).1) → (a = (dnP T.2.2.1 f (wkS T.2.2.1 f T.2.1 T.1 fi T.1) T.2.1 k).2) → (s < 64) → G K 0 0 48 [(0, .ref m0), (1, .int (nI j)), (2, .int (nI s)), (3, .int a), (4, .int (nI k))] [] [(m0, oB 12 [.ref x0, .int (nI n), .int (nI Q.1), .int (nI Q.2.2.1), .int Q.2.1, .int Q.2.2.2, .ref x1, .ref x2, .ref x3, .ref x4, .int (nI und), .ref x5, .ref x6, .int (nI nt), .ref x7, .ref x8, .long tr, .ref x9]), (x2, iA E 21 (papO T)), (x3, iA E 50 (nowO f)), (x5, iA E 448 (wkS T.2.2.1 f T.2.1 T.1 fi T.1))] := by
          intro zz
          induction zz with
          | zero => intro k s a hL48 gL48; exfalso; omega
          | succ zz ihL48 =>
            intro k s a hL48 gL48 hs ha hs64
            refine g_iload C dX12_fit_48 4 rfl ?_
            refine g_iload_n C dX12_fit_50 rfl 1 rfl ?_
            refine g_icmp_gtN C 195 dX12_fit_51 (by decide) (by omega) (by omega) (fun cq5 => ?_) (fun cq5 => ?_)
            · have hkj : k = j + 1 := by omega
              refine g_iload_n C dX12_fit_195 rfl 3 rfl ?_
              exact g_iret C X dX12_fit_196 (⟨by unfold fitR; rw [if_neg cq1, if_pos cq3, hcl_j, ha, hkj], by rw [if_pos hy]⟩)
            · refine g_aload_n C dX12_fit_54 rfl 0 rfl ?_
              refine g_get C i12 0 rfl rfl 11 (by decide) (List.mem_of_getElem? (i := 2) rfl) rfl rfl dX12_fit_55 ?_
              refine g_bipush C (nI 64) dX12_fit_58 (by decide) ?_
              refine g_iload C dX12_fit_60 4 rfl ?_
              refine g_imulN C dX12_fit_62 ?_
              refine g_iload_n C dX12_fit_63 rfl 2 rfl ?_
              refine g_iaddN C dX12_fit_64 ?_
              refine g_iald C 3 rfl (by omega) (by decide) dX12_fit_65 ?_
              refine g_istore C (lv' := [(5, .int ((wkS T.2.2.1 f T.2.1 T.1 fi T.1) (64 * k + s))), (0, .ref m0), (1, .int (nI j)), (2, .int (nI s)), (3, .int a), (4, .int (nI k))]) dX12_fit_66 (by decide) rfl ?_
              refine g_bipush C ((-9)) dX12_fit_68 (by decide) ?_
              refine g_istore_n C (lv' := [(3, .int (-9)), (5, .int ((wkS T.2.2.1 f T.2.1 T.1 fi T.1) (64 * k + s))), (0, .ref m0), (1, .int (nI j)), (2, .int (nI s)), (4, .int (nI k))]) dX12_fit_70 rfl (by decide) rfl ?_
              refine g_aload_n C dX12_fit_71 rfl 2 rfl ?_
              refine g_get C i12 0 rfl rfl 7 (by decide) (List.mem_of_getElem? (i := 1) rfl) rfl rfl dX12_fit_72 ?_
              refine g_iconst C (nI 1) dX12_fit_75 (by decide) ?_
              refine g_iald C 1 rfl (by omega) (by decide) dX12_fit_76 ?_
              refine g_as (papO_1 _) ?_
              refine g_iconst C (nI 1) dX12_fit_77 (by decide) ?_
              refine g_isub C dX12_fit_78 ?_
              refine g_istore C (lv' := [(6, .int ((nI T.2.1) - (nI 1))), (3, .int (-9)), (5, .int ((wkS T.2.2.1 f T.2.1 T.1 fi T.1) (64 * k + s))), (0, .ref m0), (1, .int (nI j)), (2, .int (nI s)), (4, .int (nI k))]) dX12_fit_79 (by decide) rfl ?_
              have L81 : ∀ (zz : Nat) (k2 : Nat) (d : Int32), k2 < zz → (k2 ≤ T.2.1) → (d = dnS T.2.2.1 f (wkS T.2.2.1 f T.2.1 T.1 fi T.1) T.2.1 k s (T.2.1 - k2)) → (k2 = T.2.1 ∨ ¬ (wkS T.2.2.1 f T.2.1 T.1 fi T.1) (64 * (k + 1) + s) = (wkS T.2.2.1 f T.2.1 T.1 fi T.1) (64 * k + s)) → G K 0 0 81 [(0, .ref m0), (1, .int (nI j)), (2, .int (nI s)), (3, .int d), (4, .int (nI k)), (5, .int ((wkS T.2.2.1 f T.2.1 T.1 fi T.1) (64 * k + s))), (6, .int (nI k2 - nI 1))] [] [(m0, oB 12 [.ref x0, .int (nI n), .int (nI Q.1), .int (nI Q.2.2.1), .int Q.2.1, .int Q.2.2.2, .ref x1, .ref x2, .ref x3, .ref x4, .int (nI und), .ref x5, .ref x6, .int (nI nt), .ref x7, .ref x8, .long tr, .ref x9]), (x2, iA E 21 (papO T)), (x3, iA E 50 (nowO f)), (x5, iA E 448 (wkS T.2.2.1 f T.2.1 T.1 fi T.1))] := by
                intro zz
                induction zz with
                | zero => intro k2 d hL81; exact absurd hL81 (Nat.not_lt_zero _)
                | succ zz ihL81 =>
                  intro k2 d hL81 hk2 hd hne
                  rcases k2 with _ | j2
                  · refine g_iload C dX12_fit_81 6 rfl ?_
                    refine g_if_lt C 173 dX12_fit_83 (by decide) (fun cq6 => ?_) (fun cq6 => ?_)
                    · have hdd : d = dnB T.2.2.1 f (wkS T.2.2.1 f T.2.1 T.1 fi T.1) T.2.1 k s := by unfold dnB; rw [if_neg (hne.resolve_left (by have := hT.2.1; omega))]; exact hd
                      refine g_iload_n C dX12_fit_173 rfl 2 rfl ?_
                      refine g_iload_n C dX12_fit_174 rfl 3 rfl ?_
                      refine g_bipush C ((-9)) dX12_fit_175 (by decide) ?_
                      refine g_icmp_ne C 184 dX12_fit_177 (by decide) (fun cq7 => ?_) (fun cq7 => ?_)
                      · obtain ⟨jf, hjf, hjb, rfl⟩ : ∃ jf, jf < T.2.1 ∧ ¬ tb (nI s) jf = 0 ∧ d = nI jf := by rcases dnB_in T.2.2.1 f (wkS T.2.2.1 f T.2.1 T.1 fi T.1) T.2.1 k s with h | h; (exact absurd (hdd.trans h) cq7); (exact hdd ▸ h)
                        have h2p : 2 ^ jf ≤ s := tb_2p (by omega) hjb
                        have h2z : 0 < 2 ^ jf := Nat.two_pow_pos jf
                        refine g_iconst C (nI 1) dX12_fit_184 (by decide) ?_
                        refine g_iload_n C dX12_fit_185 rfl 3 rfl ?_
                        refine g_ishl1 C dX12_fit_186 (by omega) ?_
                        refine g_isubN C dX12_fit_187 (by omega) ?_
                        refine g_istore_n C (lv' := [(2, .int (nI (s - (2 ^ jf)))), (0, .ref m0), (1, .int (nI j)), (3, .int (nI jf)), (4, .int (nI k)), (5, .int ((wkS T.2.2.1 f T.2.1 T.1 fi T.1) (64 * k + s))), (6, .int (nI 0 - nI 1))]) dX12_fit_188 rfl (by decide) rfl ?_
                        refine g_iincN C (lv' := [(4, .int (nI (k + 1))), (2, .int (nI (s - (2 ^ jf)))), (0, .ref m0), (1, .int (nI j)), (3, .int (nI jf)), (5, .int ((wkS T.2.2.1 f T.2.1 T.1 fi T.1) (64 * k + s))), (6, .int (nI 0 - nI 1))]) dX12_fit_189 4 rfl (by decide) rfl ?_
                        refine g_goto C 48 dX12_fit_192 (by decide) ?_
                        refine g_sub (lv' := [(0, .ref m0), (1, .int (nI j)), (2, .int (nI (s - (2 ^ jf)))), (3, .int (nI jf)), (4, .int (nI (k + 1)))]) [2, 3, 1, 4, 0] rfl ?_
                        exact ihL48 (k + 1) (s - (2 ^ jf)) (nI jf) (by omega) (by omega) (by first | exact dnP_n hs hdd cq7 | exact dnP_y hs hdd (by omega)) (dnP_2 hs hdd) (by omega)
                      · refine g_iconst C (nI 0) dX12_fit_180 (by decide) ?_
                        refine g_goto C 187 dX12_fit_181 (by decide) ?_
                        refine g_isubN C dX12_fit_187 (by omega) ?_
                        refine g_istore_n C (lv' := [(2, .int (nI (s - 0))), (0, .ref m0), (1, .int (nI j)), (3, .int d), (4, .int (nI k)), (5, .int ((wkS T.2.2.1 f T.2.1 T.1 fi T.1) (64 * k + s))), (6, .int (nI 0 - nI 1))]) dX12_fit_188 rfl (by decide) rfl ?_
                        refine g_iincN C (lv' := [(4, .int (nI (k + 1))), (2, .int (nI (s - 0))), (0, .ref m0), (1, .int (nI j)), (3, .int d), (5, .int ((wkS T.2.2.1 f T.2.1 T.1 fi T.1) (64 * k + s))), (6, .int (nI 0 - nI 1))]) dX12_fit_189 4 rfl (by decide) rfl ?_
                        refine g_goto C 48 dX12_fit_192 (by decide) ?_
                        refine g_sub (lv' := [(0, .ref m0), (1, .int (nI j)), (2, .int (nI (s - 0))), (3, .int d), (4, .int (nI (k + 1)))]) [2, 3, 1, 4, 0] rfl ?_
                        exact ihL48 (k + 1) (s - 0) d (by omega) (by omega) (by first | exact dnP_n hs hdd cq7 | exact dnP_y hs hdd (by omega)) (dnP_2 hs hdd) (by omega)
                    · exact absurd (by decide) cq6
                  · rw [nI_prd j2]
                    refine g_iload C dX12_fit_81 6 rfl ?_
                    refine g_if_ltN C 173 dX12_fit_83 (by decide) (by omega) ?_
                    refine g_aload_n C dX12_fit_86 rfl 0 rfl ?_
                    refine g_get C i12 0 rfl rfl 11 (by decide) (List.mem_of_getElem? (i := 2) rfl) rfl rfl dX12_fit_87 ?_
                    refine g_bipush C (nI 64) dX12_fit_90 (by decide) ?_
                    refine g_iload C dX12_fit_92 4 rfl ?_
                    refine g_iconst C (nI 1) dX12_fit_94 (by decide) ?_
                    refine g_iaddN C dX12_fit_95 ?_
                    refine g_imulN C dX12_fit_96 ?_
                    refine g_iload_n C dX12_fit_97 rfl 2 rfl ?_
                    refine g_iaddN C dX12_fit_98 ?_
                    refine g_iald C 3 rfl (by omega) (by decide) dX12_fit_99 ?_
                    refine g_iload C dX12_fit_100 5 rfl ?_
                    refine g_icmp_eq C 173 dX12_fit_102 (by decide) (fun cq9 => ?_) (fun cq9 => ?_)
                    · have hdd : d = dnB T.2.2.1 f (wkS T.2.2.1 f T.2.1 T.1 fi T.1) T.2.1 k s := by unfold dnB; rw [if_pos cq9]; rcases hne with h | h; (rw [hd, show T.2.1 - (j2 + 1) = 0 by omega]; rfl); (exact absurd cq9 h)
                      refine g_iload_n C dX12_fit_173 rfl 2 rfl ?_
                      refine g_iload_n C dX12_fit_174 rfl 3 rfl ?_
                      refine g_bipush C ((-9)) dX12_fit_175 (by decide) ?_
                      refine g_icmp_ne C 184 dX12_fit_177 (by decide) (fun cq10 => ?_) (fun cq10 => ?_)
                      · obtain ⟨jf, hjf, hjb, rfl⟩ : ∃ jf, jf < T.2.1 ∧ ¬ tb (nI s) jf = 0 ∧ d = nI jf := by rcases dnB_in T.2.2.1 f (wkS T.2.2.1 f T.2.1 T.1 fi T.1) T.2.1 k s with h | h; (exact absurd (hdd.trans h) cq10); (exact hdd ▸ h)
                        have h2p : 2 ^ jf ≤ s := tb_2p (by omega) hjb
                        have h2z : 0 < 2 ^ jf := Nat.two_pow_pos jf
                        refine g_iconst C (nI 1) dX12_fit_184 (by decide) ?_
                        refine g_iload_n C dX12_fit_185 rfl 3 rfl ?_
                        refine g_ishl1 C dX12_fit_186 (by omega) ?_
                        refine g_isubN C dX12_fit_187 (by omega) ?_
                        refine g_istore_n C (lv' := [(2, .int (nI (s - (2 ^ jf)))), (0, .ref m0), (1, .int (nI j)), (3, .int (nI jf)), (4, .int (nI k)), (5, .int ((wkS T.2.2.1 f T.2.1 T.1 fi T.1) (64 * k + s))), (6, .int (nI j2))]) dX12_fit_188 rfl (by decide) rfl ?_
                        refine g_iincN C (lv' := [(4, .int (nI (k + 1))), (2, .int (nI (s - (2 ^ jf)))), (0, .ref m0), (1, .int (nI j)), (3, .int (nI jf)), (5, .int ((wkS T.2.2.1 f T.2.1 T.1 fi T.1) (64 * k + s))), (6, .int (nI j2))]) dX12_fit_189 4 rfl (by decide) rfl ?_
                        refine g_goto C 48 dX12_fit_192 (by decide) ?_
                        refine g_sub (lv' := [(0, .ref m0), (1, .int (nI j)), (2, .int (nI (s - (2 ^ jf)))), (3, .int (nI jf)), (4, .int (nI (k + 1)))]) [2, 3, 1, 4, 0] rfl ?_
                        exact ihL48 (k + 1) (s - (2 ^ jf)) (nI jf) (by omega) (by omega) (by first | exact dnP_n hs hdd cq10 | exact dnP_y hs hdd (by omega)) (dnP_2 hs hdd) (by omega)
                      · refine g_iconst C (nI 0) dX12_fit_180 (by decide) ?_
                        refine g_goto C 187 dX12_fit_181 (by decide) ?_
                        refine g_isubN C dX12_fit_187 (by omega) ?_
                        refine g_istore_n C (lv' := [(2, .int (nI (s - 0))), (0, .ref m0), (1, .int (nI j)), (3, .int d), (4, .int (nI k)), (5, .int ((wkS T.2.2.1 f T.2.1 T.1 fi T.1) (64 * k + s))), (6, .int (nI j2))]) dX12_fit_188 rfl (by decide) rfl ?_
                        refine g_iincN C (lv' := [(4, .int (nI (k + 1))), (2, .int (nI (s - 0))), (0, .ref m0), (1, .int (nI j)), (3, .int d), (5, .int ((wkS T.2.2.1 f T.2.1 T.1 fi T.1) (64 * k + s))), (6, .int (nI j2))]) dX12_fit_189 4 rfl (by decide) rfl ?_
                        refine g_goto C 48 dX12_fit_192 (by decide) ?_
                        refine g_sub (lv' := [(0, .ref m0), (1, .int (nI j)), (2, .int (nI (s - 0))), (3, .int d), (4, .int (nI (k + 1)))]) [2, 3, 1, 4, 0] rfl ?_
                        exact ihL48 (k + 1) (s - 0) d (by omega) (by omega) (by first | exact dnP_n hs hdd cq10 | exact dnP_y hs hdd (by omega)) (dnP_2 hs hdd) (by omega)
                    · have hne9 := cq9
                      refine g_iload_n C dX12_fit_105 rfl 2 rfl ?_
                      refine g_iload C dX12_fit_106 6 rfl ?_
                      refine g_ishr C dX12_fit_108 ?_
                      refine g_iconst C (nI 1) dX12_fit_109 (by decide) ?_
                      refine g_iand C dX12_fit_110 ?_
                      refine g_iconst C (nI 1) dX12_fit_111 (by decide) ?_
                      refine g_icmp_ne C 152 dX12_fit_112 (by decide) (fun cq11 => ?_) (fun cq11 => ?_)
                      · have hb9 := tb_n1 cq11
                        refine g_iconst C (nI 0) dX12_fit_152 (by decide) ?_
                        refine g_istore C (lv' := [(7, .int (nI 0)), (0, .ref m0), (1, .int (nI j)), (2, .int (nI s)), (3, .int d), (4, .int (nI k)), (5, .int ((wkS T.2.2.1 f T.2.1 T.1 fi T.1) (64 * k + s))), (6, .int (nI j2))]) dX12_fit_153 (by decide) rfl ?_
                        refine g_iload C dX12_fit_155 0 rfl ?_
                        refine g_if_eqN C 165 dX12_fit_157 (by decide) (by omega) (fun cq12 => ?_) (fun cq12 => ?_)
                        · refine g_iload_n C dX12_fit_165 rfl 4 rfl ?_
                          refine g_istore_n C (lv' := [(3, .int d), (7, .int (nI 0)), (0, .ref m0), (1, .int (nI j)), (2, .int (nI s)), (4, .int (nI k)), (5, .int ((wkS T.2.2.1 f T.2.1 T.1 fi T.1) (64 * k + s))), (6, .int (nI j2))]) dX12_fit_166 rfl (by decide) rfl ?_
                          refine g_iincD C (lv' := [(6, .int ((nI j2) - nI 1)), (3, .int d), (7, .int (nI 0)), (0, .ref m0), (1, .int (nI j)), (2, .int (nI s)), (4, .int (nI k)), (5, .int ((wkS T.2.2.1 f T.2.1 T.1 fi T.1) (64 * k + s)))]) dX12_fit_167 7 rfl (by decide) rfl ?_
                          refine g_goto C 81 dX12_fit_170 (by decide) ?_
                          refine g_sub (lv' := [(0, .ref m0), (1, .int (nI j)), (2, .int (nI s)), (3, .int d), (4, .int (nI k)), (5, .int ((wkS T.2.2.1 f T.2.1 T.1 fi T.1) (64 * k + s))), (6, .int ((nI j2) - nI 1))]) [3, 4, 5, 1, 6, 7, 0] rfl ?_
                          exact ihL81 j2 d (by omega) (by omega) (by rw [show T.2.1 - j2 = (T.2.1 - (j2 + 1)) + 1 by omega, dnS, show T.2.1 - (T.2.1 - (j2 + 1) + 1) = j2 by omega]; first | (rw [if_pos hb9]; exact hd) | (rw [if_neg hb9, if_neg hc9]; exact hd) | (rw [if_neg hb9, if_pos hc9]; done)) (Or.inr hne9)
                        · exact absurd cq12 (by decide)
                      · have hb9 := tb_1 cq11
                        have h2p : 2 ^ j2 ≤ s := tb_2p (by omega) hb9
                        have h2z : 0 < 2 ^ j2 := Nat.two_pow_pos j2
                        refine g_aload_n C dX12_fit_115 rfl 0 rfl ?_
                        refine g_iload C dX12_fit_116 4 rfl ?_
                        refine g_iload C dX12_fit_118 6 rfl ?_
                        refine g_callV C (rest := []) (n := 2) (kX12_explains l E m0 x0 x1 x2 x3 x4 x5 x6 x7 x8 x9 n und nt tr Q T f k j2 (by omega) (hn) (by omega)) gX12_fit_X12_explains rfl ⟨rfl, rfl⟩ (by decide) (Nat.le_of_ble_eq_true rfl) rfl (by decide +kernel) rfl dX12_fit_120 0 rfl rfl [0, 1, 2] [3] rfl rfl ?_
                        refine g_is1 (ws2 := [(m0, oB 12 [.ref x0, .int (nI n), .int (nI Q.1), .int (nI Q.2.2.1), .int Q.2.1, .int Q.2.2.2, .ref x1, .ref x2, .ref x3, .ref x4, .int (nI und), .ref x5, .ref x6, .int (nI nt), .ref x7, .ref x8, .long tr, .ref x9]), (x2, iA E 21 (papO T)), (x3, iA E 50 (nowO f)), (x5, iA E 448 (wkS T.2.2.1 f T.2.1 T.1 fi T.1))]) (st2 := [.int (tiOn f j2 (T.2.2.1 k) 7)]) [1, 2, 3, 0] rfl rfl rfl ?_
                        refine g_aload_n C dX12_fit_123 rfl 0 rfl ?_
                        refine g_get C i12 0 rfl rfl 11 (by decide) (List.mem_of_getElem? (i := 2) rfl) rfl rfl dX12_fit_124 ?_
                        refine g_bipush C (nI 64) dX12_fit_127 (by decide) ?_
                        refine g_iload C dX12_fit_129 4 rfl ?_
                        refine g_iconst C (nI 1) dX12_fit_131 (by decide) ?_
                        refine g_iaddN C dX12_fit_132 ?_
                        refine g_imulN C dX12_fit_133 ?_
                        refine g_iload_n C dX12_fit_134 rfl 2 rfl ?_
                        refine g_iaddN C dX12_fit_135 ?_
                        refine g_iconst C (nI 1) dX12_fit_136 (by decide) ?_
                        refine g_iload C dX12_fit_137 6 rfl ?_
                        refine g_ishl1 C dX12_fit_139 (by omega) ?_
                        refine g_isubN C dX12_fit_140 (by omega) ?_
                        refine g_iald C 3 rfl (by omega) (by decide) dX12_fit_141 ?_
                        refine g_iadd C dX12_fit_142 ?_
                        refine g_iload C dX12_fit_143 5 rfl ?_
                        refine g_icmp_ne C 152 dX12_fit_145 (by decide) (fun cq13 => ?_) (fun cq13 => ?_)
                        · have hc9 := cq13
                          refine g_iconst C (nI 0) dX12_fit_152 (by decide) ?_
                          refine g_istore C (lv' := [(7, .int (nI 0)), (0, .ref m0), (1, .int (nI j)), (2, .int (nI s)), (3, .int d), (4, .int (nI k)), (5, .int ((wkS T.2.2.1 f T.2.1 T.1 fi T.1) (64 * k + s))), (6, .int (nI j2))]) dX12_fit_153 (by decide) rfl ?_
                          refine g_iload C dX12_fit_155 0 rfl ?_
                          refine g_if_eqN C 165 dX12_fit_157 (by decide) (by omega) (fun cq14 => ?_) (fun cq14 => ?_)
                          · refine g_iload_n C dX12_fit_165 rfl 4 rfl ?_
                            refine g_istore_n C (lv' := [(3, .int d), (7, .int (nI 0)), (0, .ref m0), (1, .int (nI j)), (2, .int (nI s)), (4, .int (nI k)), (5, .int ((wkS T.2.2.1 f T.2.1 T.1 fi T.1) (64 * k + s))), (6, .int (nI j2))]) dX12_fit_166 rfl (by decide) rfl ?_
                            refine g_iincD C (lv' := [(6, .int ((nI j2) - nI 1)), (3, .int d), (7, .int (nI 0)), (0, .ref m0), (1, .int (nI j)), (2, .int (nI s)), (4, .int (nI k)), (5, .int ((wkS T.2.2.1 f T.2.1 T.1 fi T.1) (64 * k + s)))]) dX12_fit_167 7 rfl (by decide) rfl ?_
                            refine g_goto C 81 dX12_fit_170 (by decide) ?_
                            refine g_sub (lv' := [(0, .ref m0), (1, .int (nI j)), (2, .int (nI s)), (3, .int d), (4, .int (nI k)), (5, .int ((wkS T.2.2.1 f T.2.1 T.1 fi T.1) (64 * k + s))), (6, .int ((nI j2) - nI 1))]) [3, 4, 5, 1, 6, 7, 0] rfl ?_
                            exact ihL81 j2 d (by omega) (by omega) (by rw [show T.2.1 - j2 = (T.2.1 - (j2 + 1)) + 1 by omega, dnS, show T.2.1 - (T.2.1 - (j2 + 1) + 1) = j2 by omega]; first | (rw [if_pos hb9]; exact hd) | (rw [if_neg hb9, if_neg hc9]; exact hd) | (rw [if_neg hb9, if_pos hc9]; done)) (Or.inr hne9)
                          · exact absurd cq14 (by decide)
                        · have hc9 := cq13
                          refine g_iconst C (nI 1) dX12_fit_148 (by decide) ?_
                          refine g_goto C 153 dX12_fit_149 (by decide) ?_
                          refine g_istore C (lv' := [(7, .int (nI 1)), (0, .ref m0), (1, .int (nI j)), (2, .int (nI s)), (3, .int d), (4, .int (nI k)), (5, .int ((wkS T.2.2.1 f T.2.1 T.1 fi T.1) (64 * k + s))), (6, .int (nI j2))]) dX12_fit_153 (by decide) rfl ?_
                          refine g_iload C dX12_fit_155 0 rfl ?_
                          refine g_if_eqN C 165 dX12_fit_157 (by decide) (by omega) (fun cq15 => ?_) (fun cq15 => ?_)
                          · exact absurd cq15 (by decide)
                          · refine g_iload C dX12_fit_160 7 rfl ?_
                            refine g_goto C 166 dX12_fit_162 (by decide) ?_
                            refine g_istore_n C (lv' := [(3, .int (nI j2)), (7, .int (nI 1)), (0, .ref m0), (1, .int (nI j)), (2, .int (nI s)), (4, .int (nI k)), (5, .int ((wkS T.2.2.1 f T.2.1 T.1 fi T.1) (64 * k + s))), (6, .int (nI j2))]) dX12_fit_166 rfl (by decide) rfl ?_
                            refine g_iincD C (lv' := [(6, .int ((nI j2) - nI 1)), (3, .int (nI j2)), (7, .int (nI 1)), (0, .ref m0), (1, .int (nI j)), (2, .int (nI s)), (4, .int (nI k)), (5, .int ((wkS T.2.2.1 f T.2.1 T.1 fi T.1) (64 * k + s)))]) dX12_fit_167 7 rfl (by decide) rfl ?_
                            refine g_goto C 81 dX12_fit_170 (by decide) ?_
                            refine g_sub (lv' := [(0, .ref m0), (1, .int (nI j)), (2, .int (nI s)), (3, .int (nI j2)), (4, .int (nI k)), (5, .int ((wkS T.2.2.1 f T.2.1 T.1 fi T.1) (64 * k + s))), (6, .int ((nI j2) - nI 1))]) [3, 4, 5, 1, 6, 7, 0] rfl ?_
                            exact ihL81 j2 (nI j2) (by omega) (by omega) (by rw [show T.2.1 - j2 = (T.2.1 - (j2 + 1)) + 1 by omega, dnS, show T.2.1 - (T.2.1 - (j2 + 1) + 1) = j2 by omega]; first | (rw [if_pos hb9]; exact hd) | (rw [if_neg hb9, if_neg hc9]; exact hd) | (rw [if_neg hb9, if_pos hc9]; done)) (Or.inr hne9)
              refine g_sub (lv' := [(0, .ref m0), (1, .int (nI j)), (2, .int (nI s)), (3, .int (-9)), (4, .int (nI k)), (5, .int ((wkS T.2.2.1 f T.2.1 T.1 fi T.1) (64 * k + s))), (6, .int ((nI T.2.1) - (nI 1)))]) [3, 4, 5, 1, 6, 2, 0] rfl ?_
              exact L81 (T.2.1 + 1) T.2.1 (-9) (Nat.lt_succ_self _) (Nat.le_refl _) (by rw [Nat.sub_self]; rfl) (Or.inl rfl)
        refine g_sub (lv' := [(0, .ref m0), (1, .int (nI j)), (2, .int (nI ((2 ^ T.2.1) - 1))), (3, .int (-9)), (4, .int (nI 0))]) [3, 4, 2, 1, 0] rfl ?_
        exact L48 ((j + 1) + 1 - 0) 0 ((2 ^ T.2.1) - 1) (-9) (by omega) (by omega) (rfl) (rfl) (by omega)
      · exact absurd cq4 cq1
    · refine g_iconst C ((-1)) dX12_fit_13 (by decide) ?_
      exact g_iret C X dX12_fit_14 (⟨by unfold fitR; rw [if_neg cq1, if_neg cq3], by rw [if_neg (fun w => w.elim cq1 cq3)]⟩)
