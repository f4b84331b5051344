section LC
variable {p : Program} {l : Launch} {e : Env} {s : State} {m : MethodId} {args : Array Value} {below : List Frame} {meth : Method} {c : Code} {G : GE} {A : Nat → Prop} {ad : Nat → Nat} {Q : State → Prop} {b L : Nat} {xs : Nat → Int32} {i mb : Nat} {xi : Int32} {O : RW} {N K T B R S H Z : WM} {OM SM : RW} {XM : WM}
set_option maxRecDepth 100000 in
set_option maxHeartbeats 4000000 in
theorem lc_24 (C0 : Cx p s m args meth c G A 68 ad cL_law RL 4) (hX : va_X b L xs s s.heap) (hbl : b < s.heap.size) (hbA : ¬ A b) (hxi : xi = nI i) (hi : i + 5 ≤ L) (hL : L ≤ 2560) (hmb : mb ≤ 61 * 600) (inv : INV mb O N K B R S H Z OM SM XM) (kk : ∀ (O : RW) (N K T B R S H Z : WM) (OM SM : RW) (XM : WM), INV (mb + 61) O N K B R S H Z OM SM XM → AW p l e room_1 s m args below meth c G A 68 ad (shL G ad) 4 600000 7302250 Q 1742 [(3, .int xi), (0, .ref b), (1, .ref (ad 0)), (2, .ref (ad 54))] [] (mkL (mkX O N K T B R S H Z) (mkM OM SM XM))) : AW p l e room_1 s m args below meth c G A 68 ad (shL G ad) 4 600000 7302250 Q 964 [(3, .int xi), (0, .ref b), (1, .ref (ad 0)), (2, .ref (ad 54))] [] (mkL (mkX O N K T B R S H Z) (mkM OM SM XM)) := by
  obtain ⟨⟨nT, mm, rp, hmm⟩, i4, iK, ⟨bn, tr⟩, ⟨cn, c6, c10, e13, rR⟩, rs, rh, dr⟩ := id inv
  have hm : mm + 61 < 2 ^ 31 := by omega
  have hx0 : IX xi (i + 0) L := IX.eqn hxi (by omega) (by omega)
  have hx1 : IX (xi + 1) (i + 1) L := IX.eqn (by rw [hxi, show (1 : Int32) = nI 1 from rfl, nI_add]) (by omega) (by omega)
  have hx2 : IX (xi + 2) (i + 2) L := IX.eqn (by rw [hxi, show (2 : Int32) = nI 2 from rfl, nI_add]) (by omega) (by omega)
  have hx3 : IX (xi + 3) (i + 3) L := IX.eqn (by rw [hxi, show (3 : Int32) = nI 3 from rfl, nI_add]) (by omega) (by omega)
  have hx4 : IX (xi + 4) (i + 4) L := IX.eqn (by rw [hxi, show (4 : Int32) = nI 4 from rfl, nI_add]) (by omega) (by omega)
  refine a_aload_n C0 2 dL_law_964 rfl rfl ?_
  refine a_aload_n C0 1 dL_law_965 rfl rfl ?_
  refine a_iload_n C0 0 dL_law_966 rfl rfl ?_
  refine a_iconst C0 1 dL_law_967 rfl ?_
  refine a_iadd C0 dL_law_968 ?_
  refine a_sld C0 hX hbl hbA (i + 1) hx1.1 hx1.2 dL_law_969 ?_
  refine a_aload_n C0 1 dL_law_970 rfl rfl ?_
  refine a_iload_n C0 0 dL_law_971 rfl rfl ?_
  refine a_iconst C0 2 dL_law_972 rfl ?_
  refine a_iadd C0 dL_law_973 ?_
  refine a_sld C0 hX hbl hbA (i + 2) hx2.1 hx2.2 dL_law_974 ?_
  refine a_callV _ 2 C0 em_LX (c_X5_boxFor l G rp.w rfl (ad := ad)) u_c_X5_boxFor u_m_L_116 u_im_X5_boxFor u_se_X5_boxFor u_in_X5 hy_X5_boxFor rfl (lt_b rfl) rfl (hRk rfl) rfl rfl (le_b rfl) dL_law_975 (k_i fun r975 u975 q975 => ?_)
  obtain ⟨rfl, T2, rfl⟩ := q975
  refine a_aload_n C0 3 dL_law_978 rfl rfl ?_
  refine a_aload_n C0 1 dL_law_979 rfl rfl ?_
  refine a_iload_n C0 0 dL_law_980 rfl rfl ?_
  refine a_iconst C0 1 dL_law_981 rfl ?_
  refine a_iadd C0 dL_law_982 ?_
  refine a_sld C0 hX hbl hbA (i + 1) hx1.1 hx1.2 dL_law_983 ?_
  refine a_aload_n C0 1 dL_law_984 rfl rfl ?_
  refine a_iload_n C0 0 dL_law_985 rfl rfl ?_
  refine a_iconst C0 2 dL_law_986 rfl ?_
  refine a_iadd C0 dL_law_987 ?_
  refine a_sld C0 hX hbl hbA (i + 2) hx2.1 hx2.2 dL_law_988 ?_
  refine a_callV _ 2 C0 em_LM (c_X6_boxFor l G rp hm rfl (ad := fun k => ad (54 + k))) u_c_X6_boxFor u_m_L_119 u_im_X6_boxFor u_se_X6_boxFor u_in_X6 hy_X6_boxFor rfl (lt_b rfl) rfl (hRk rfl) rfl rfl (le_b rfl) dL_law_989 (k_i fun r989 u989 q989 => ?_)
  obtain ⟨rfl, S2, X2, rfl, hX2, hS2⟩ := q989
  refine a_icmp_eq C0 1742 dL_law_992 rfl (fun h992 => ?_) (fun h992 => ?_)
  · exact kk _ _ _ _ _ _ _ _ _ _ _ _ (inv.tr hX2 hS2)
  · exact (h992 rfl).elim
set_option maxRecDepth 100000 in
set_option maxHeartbeats 4000000 in
theorem lc_25 (C0 : Cx p s m args meth c G A 68 ad cL_law RL 4) (hX : va_X b L xs s s.heap) (hbl : b < s.heap.size) (hbA : ¬ A b) (hxi : xi = nI i) (hi : i + 5 ≤ L) (hL : L ≤ 2560) (hmb : mb ≤ 61 * 600) (inv : INV mb O N K B R S H Z OM SM XM) (kk : ∀ (O : RW) (N K T B R S H Z : WM) (OM SM : RW) (XM : WM), INV (mb + 61) O N K B R S H Z OM SM XM → AW p l e room_1 s m args below meth c G A 68 ad (shL G ad) 4 600000 7302250 Q 1742 [(3, .int xi), (0, .ref b), (1, .ref (ad 0)), (2, .ref (ad 54))] [] (mkL (mkX O N K T B R S H Z) (mkM OM SM XM))) : AW p l e room_1 s m args below meth c G A 68 ad (shL G ad) 4 600000 7302250 Q 997 [(3, .int xi), (0, .ref b), (1, .ref (ad 0)), (2, .ref (ad 54))] [] (mkL (mkX O N K T B R S H Z) (mkM OM SM XM)) := by
  obtain ⟨⟨nT, mm, rp, hmm⟩, i4, iK, ⟨bn, tr⟩, ⟨cn, c6, c10, e13, rR⟩, rs, rh, dr⟩ := id inv
  have hm : mm + 61 < 2 ^ 31 := by omega
  have hx0 : IX xi (i + 0) L := IX.eqn hxi (by omega) (by omega)
  have hx1 : IX (xi + 1) (i + 1) L := IX.eqn (by rw [hxi, show (1 : Int32) = nI 1 from rfl, nI_add]) (by omega) (by omega)
  have hx2 : IX (xi + 2) (i + 2) L := IX.eqn (by rw [hxi, show (2 : Int32) = nI 2 from rfl, nI_add]) (by omega) (by omega)
  have hx3 : IX (xi + 3) (i + 3) L := IX.eqn (by rw [hxi, show (3 : Int32) = nI 3 from rfl, nI_add]) (by omega) (by omega)
  have hx4 : IX (xi + 4) (i + 4) L := IX.eqn (by rw [hxi, show (4 : Int32) = nI 4 from rfl, nI_add]) (by omega) (by omega)
  refine a_aload_n C0 2 dL_law_997 rfl rfl ?_
  refine a_aload_n C0 1 dL_law_998 rfl rfl ?_
  refine a_iload_n C0 0 dL_law_999 rfl rfl ?_
  refine a_iconst C0 1 dL_law_1000 rfl ?_
  refine a_iadd C0 dL_law_1001 ?_
  refine a_sld C0 hX hbl hbA (i + 1) hx1.1 hx1.2 dL_law_1002 ?_
  refine a_aload_n C0 1 dL_law_1003 rfl rfl ?_
  refine a_iload_n C0 0 dL_law_1004 rfl rfl ?_
  refine a_iconst C0 2 dL_law_1005 rfl ?_
  refine a_iadd C0 dL_law_1006 ?_
  refine a_sld C0 hX hbl hbA (i + 2) hx2.1 hx2.2 dL_law_1007 ?_
  refine a_callV _ 2 C0 em_LX (c_X5_kindFor l G rp.w rfl (ad := ad)) u_c_X5_kindFor u_m_L_120 u_im_X5_kindFor u_se_X5_kindFor u_in_X5 hy_X5_kindFor rfl (lt_b rfl) rfl (hRk rfl) rfl rfl (le_b rfl) dL_law_1008 (k_i fun r1008 u1008 q1008 => ?_)
  obtain ⟨rfl, T2, rfl⟩ := q1008
  refine a_aload_n C0 3 dL_law_1011 rfl rfl ?_
  refine a_aload_n C0 1 dL_law_1012 rfl rfl ?_
  refine a_iload_n C0 0 dL_law_1013 rfl rfl ?_
  refine a_iconst C0 1 dL_law_1014 rfl ?_
  refine a_iadd C0 dL_law_1015 ?_
  refine a_sld C0 hX hbl hbA (i + 1) hx1.1 hx1.2 dL_law_1016 ?_
  refine a_aload_n C0 1 dL_law_1017 rfl rfl ?_
  refine a_iload_n C0 0 dL_law_1018 rfl rfl ?_
  refine a_iconst C0 2 dL_law_1019 rfl ?_
  refine a_iadd C0 dL_law_1020 ?_
  refine a_sld C0 hX hbl hbA (i + 2) hx2.1 hx2.2 dL_law_1021 ?_
  refine a_callV _ 2 C0 em_LM (c_X6_kindFor l G rp hm rfl (ad := fun k => ad (54 + k))) u_c_X6_kindFor u_m_L_123 u_im_X6_kindFor u_se_X6_kindFor u_in_X6 hy_X6_kindFor rfl (lt_b rfl) rfl (hRk rfl) rfl rfl (le_b rfl) dL_law_1022 (k_i fun r1022 u1022 q1022 => ?_)
  obtain ⟨rfl, S2, X2, rfl, hX2, hS2⟩ := q1022
  refine a_icmp_eq C0 1742 dL_law_1025 rfl (fun h1025 => ?_) (fun h1025 => ?_)
  · exact kk _ _ _ _ _ _ _ _ _ _ _ _ (inv.tr hX2 hS2)
  · exact (h1025 rfl).elim
set_option maxRecDepth 100000 in
set_option maxHeartbeats 4000000 in
theorem lc_26 (C0 : Cx p s m args meth c G A 68 ad cL_law RL 4) (hX : va_X b L xs s s.heap) (hbl : b < s.heap.size) (hbA : ¬ A b) (hxi : xi = nI i) (hi : i + 5 ≤ L) (hL : L ≤ 2560) (hmb : mb ≤ 61 * 600) (inv : INV mb O N K B R S H Z OM SM XM) (kk : ∀ (O : RW) (N K T B R S H Z : WM) (OM SM : RW) (XM : WM), INV (mb + 61) O N K B R S H Z OM SM XM → AW p l e room_1 s m args below meth c G A 68 ad (shL G ad) 4 600000 7302250 Q 1742 [(3, .int xi), (0, .ref b), (1, .ref (ad 0)), (2, .ref (ad 54))] [] (mkL (mkX O N K T B R S H Z) (mkM OM SM XM))) : AW p l e room_1 s m args below meth c G A 68 ad (shL G ad) 4 600000 7302250 Q 1030 [(3, .int xi), (0, .ref b), (1, .ref (ad 0)), (2, .ref (ad 54))] [] (mkL (mkX O N K T B R S H Z) (mkM OM SM XM)) := by
  obtain ⟨⟨nT, mm, rp, hmm⟩, i4, iK, ⟨bn, tr⟩, ⟨cn, c6, c10, e13, rR⟩, rs, rh, dr⟩ := id inv
  have hm : mm + 61 < 2 ^ 31 := by omega
  have hx0 : IX xi (i + 0) L := IX.eqn hxi (by omega) (by omega)
  have hx1 : IX (xi + 1) (i + 1) L := IX.eqn (by rw [hxi, show (1 : Int32) = nI 1 from rfl, nI_add]) (by omega) (by omega)
  have hx2 : IX (xi + 2) (i + 2) L := IX.eqn (by rw [hxi, show (2 : Int32) = nI 2 from rfl, nI_add]) (by omega) (by omega)
  have hx3 : IX (xi + 3) (i + 3) L := IX.eqn (by rw [hxi, show (3 : Int32) = nI 3 from rfl, nI_add]) (by omega) (by omega)
  have hx4 : IX (xi + 4) (i + 4) L := IX.eqn (by rw [hxi, show (4 : Int32) = nI 4 from rfl, nI_add]) (by omega) (by omega)
  refine a_aload_n C0 2 dL_law_1030 rfl rfl ?_
  refine a_aload_n C0 1 dL_law_1031 rfl rfl ?_
  refine a_iload_n C0 0 dL_law_1032 rfl rfl ?_
  refine a_iconst C0 1 dL_law_1033 rfl ?_
  refine a_iadd C0 dL_law_1034 ?_
  refine a_sld C0 hX hbl hbA (i + 1) hx1.1 hx1.2 dL_law_1035 ?_
  refine a_aload_n C0 1 dL_law_1036 rfl rfl ?_
  refine a_iload_n C0 0 dL_law_1037 rfl rfl ?_
  refine a_iconst C0 2 dL_law_1038 rfl ?_
  refine a_iadd C0 dL_law_1039 ?_
  refine a_sld C0 hX hbl hbA (i + 2) hx2.1 hx2.2 dL_law_1040 ?_
  refine a_aload_n C0 1 dL_law_1041 rfl rfl ?_
  refine a_iload_n C0 0 dL_law_1042 rfl rfl ?_
  refine a_iconst C0 3 dL_law_1043 rfl ?_
  refine a_iadd C0 dL_law_1044 ?_
  refine a_sld C0 hX hbl hbA (i + 3) hx3.1 hx3.2 dL_law_1045 ?_
  refine a_callV _ 3 C0 em_LX (c_X5_heatFor l G rp.w rfl (ad := ad)) u_c_X5_heatFor u_m_L_124 u_im_X5_heatFor u_se_X5_heatFor u_in_X5 hy_X5_heatFor rfl (lt_b rfl) rfl (hRk rfl) rfl rfl (le_b rfl) dL_law_1046 (k_i fun r1046 u1046 q1046 => ?_)
  obtain ⟨rfl, T2, rfl⟩ := q1046
  refine a_aload_n C0 3 dL_law_1049 rfl rfl ?_
  refine a_aload_n C0 1 dL_law_1050 rfl rfl ?_
  refine a_iload_n C0 0 dL_law_1051 rfl rfl ?_
  refine a_iconst C0 1 dL_law_1052 rfl ?_
  refine a_iadd C0 dL_law_1053 ?_
  refine a_sld C0 hX hbl hbA (i + 1) hx1.1 hx1.2 dL_law_1054 ?_
  refine a_aload_n C0 1 dL_law_1055 rfl rfl ?_
  refine a_iload_n C0 0 dL_law_1056 rfl rfl ?_
  refine a_iconst C0 2 dL_law_1057 rfl ?_
  refine a_iadd C0 dL_law_1058 ?_
  refine a_sld C0 hX hbl hbA (i + 2) hx2.1 hx2.2 dL_law_1059 ?_
  refine a_aload_n C0 1 dL_law_1060 rfl rfl ?_
  refine a_iload_n C0 0 dL_law_1061 rfl rfl ?_
  refine a_iconst C0 3 dL_law_1062 rfl ?_
  refine a_iadd C0 dL_law_1063 ?_
  refine a_sld C0 hX hbl hbA (i + 3) hx3.1 hx3.2 dL_law_1064 ?_
  refine a_callV _ 3 C0 em_LM (c_X6_heatFor l G rp hm rfl (ad := fun k => ad (54 + k))) u_c_X6_heatFor u_m_L_127 u_im_X6_heatFor u_se_X6_heatFor u_in_X6 hy_X6_heatFor rfl (lt_b rfl) rfl (hRk rfl) rfl rfl (le_b rfl) dL_law_1065 (k_i fun r1065 u1065 q1065 => ?_)
  obtain ⟨rfl, S2, X2, rfl, hX2, hS2⟩ := q1065
  refine a_icmp_eq C0 1742 dL_law_1068 rfl (fun h1068 => ?_) (fun h1068 => ?_)
  · exact kk _ _ _ _ _ _ _ _ _ _ _ _ (inv.tr hX2 hS2)
  · exact (h1068 rfl).elim
set_option maxRecDepth 100000 in
set_option maxHeartbeats 4000000 in
theorem lc_27 (C0 : Cx p s m args meth c G A 68 ad cL_law RL 4) (hX : va_X b L xs s s.heap) (hbl : b < s.heap.size) (hbA : ¬ A b) (hxi : xi = nI i) (hi : i + 5 ≤ L) (hL : L ≤ 2560) (hmb : mb ≤ 61 * 600) (inv : INV mb O N K B R S H Z OM SM XM) (kk : ∀ (O : RW) (N K T B R S H Z : WM) (OM SM : RW) (XM : WM), INV (mb + 61) O N K B R S H Z OM SM XM → AW p l e room_1 s m args below meth c G A 68 ad (shL G ad) 4 600000 7302250 Q 1742 [(3, .int xi), (0, .ref b), (1, .ref (ad 0)), (2, .ref (ad 54))] [] (mkL (mkX O N K T B R S H Z) (mkM OM SM XM))) : AW p l e room_1 s m args below meth c G A 68 ad (shL G ad) 4 600000 7302250 Q 1073 [(3, .int xi), (0, .ref b), (1, .ref (ad 0)), (2, .ref (ad 54))] [] (mkL (mkX O N K T B R S H Z) (mkM OM SM XM)) := by
  obtain ⟨⟨nT, mm, rp, hmm⟩, i4, iK, ⟨bn, tr⟩, ⟨cn, c6, c10, e13, rR⟩, rs, rh, dr⟩ := id inv
  have hm : mm + 61 < 2 ^ 31 := by omega
  have hx0 : IX xi (i + 0) L := IX.eqn hxi (by omega) (by omega)
  have hx1 : IX (xi + 1) (i + 1) L := IX.eqn (by rw [hxi, show (1 : Int32) = nI 1 from rfl, nI_add]) (by omega) (by omega)
  have hx2 : IX (xi + 2) (i + 2) L := IX.eqn (by rw [hxi, show (2 : Int32) = nI 2 from rfl, nI_add]) (by omega) (by omega)
  have hx3 : IX (xi + 3) (i + 3) L := IX.eqn (by rw [hxi, show (3 : Int32) = nI 3 from rfl, nI_add]) (by omega) (by omega)
  have hx4 : IX (xi + 4) (i + 4) L := IX.eqn (by rw [hxi, show (4 : Int32) = nI 4 from rfl, nI_add]) (by omega) (by omega)
  refine a_aload_n C0 2 dL_law_1073 rfl rfl ?_
  refine a_aload_n C0 1 dL_law_1074 rfl rfl ?_
  refine a_iload_n C0 0 dL_law_1075 rfl rfl ?_
  refine a_iconst C0 1 dL_law_1076 rfl ?_
  refine a_iadd C0 dL_law_1077 ?_
  refine a_sld C0 hX hbl hbA (i + 1) hx1.1 hx1.2 dL_law_1078 ?_
  refine a_aload_n C0 1 dL_law_1079 rfl rfl ?_
  refine a_iload_n C0 0 dL_law_1080 rfl rfl ?_
  refine a_iconst C0 2 dL_law_1081 rfl ?_
  refine a_iadd C0 dL_law_1082 ?_
  refine a_sld C0 hX hbl hbA (i + 2) hx2.1 hx2.2 dL_law_1083 ?_
  refine a_aload_n C0 1 dL_law_1084 rfl rfl ?_
  refine a_iload_n C0 0 dL_law_1085 rfl rfl ?_
  refine a_iconst C0 3 dL_law_1086 rfl ?_
  refine a_iadd C0 dL_law_1087 ?_
  refine a_sld C0 hX hbl hbA (i + 3) hx3.1 hx3.2 dL_law_1088 ?_
  refine a_callV _ 3 C0 em_LX (c_X5_keptFor l G rp.w rfl (ad := ad)) u_c_X5_keptFor u_m_L_128 u_im_X5_keptFor u_se_X5_keptFor u_in_X5 hy_X5_keptFor rfl (lt_b rfl) rfl (hRk rfl) rfl rfl (le_b rfl) dL_law_1089 (k_i fun r1089 u1089 q1089 => ?_)
  obtain ⟨rfl, T2, rfl⟩ := q1089
  refine a_aload_n C0 3 dL_law_1092 rfl rfl ?_
  refine a_aload_n C0 1 dL_law_1093 rfl rfl ?_
  refine a_iload_n C0 0 dL_law_1094 rfl rfl ?_
  refine a_iconst C0 1 dL_law_1095 rfl ?_
  refine a_iadd C0 dL_law_1096 ?_
  refine a_sld C0 hX hbl hbA (i + 1) hx1.1 hx1.2 dL_law_1097 ?_
  refine a_aload_n C0 1 dL_law_1098 rfl rfl ?_
  refine a_iload_n C0 0 dL_law_1099 rfl rfl ?_
  refine a_iconst C0 2 dL_law_1100 rfl ?_
  refine a_iadd C0 dL_law_1101 ?_
  refine a_sld C0 hX hbl hbA (i + 2) hx2.1 hx2.2 dL_law_1102 ?_
  refine a_aload_n C0 1 dL_law_1103 rfl rfl ?_
  refine a_iload_n C0 0 dL_law_1104 rfl rfl ?_
  refine a_iconst C0 3 dL_law_1105 rfl ?_
  refine a_iadd C0 dL_law_1106 ?_
  refine a_sld C0 hX hbl hbA (i + 3) hx3.1 hx3.2 dL_law_1107 ?_
  refine a_callV _ 3 C0 em_LM (c_X6_keptFor l G rp hm rfl (ad := fun k => ad (54 + k))) u_c_X6_keptFor u_m_L_131 u_im_X6_keptFor u_se_X6_keptFor u_in_X6 hy_X6_keptFor rfl (lt_b rfl) rfl (hRk rfl) rfl rfl (le_b rfl) dL_law_1108 (k_i fun r1108 u1108 q1108 => ?_)
  obtain ⟨rfl, S2, X2, rfl, hX2, hS2⟩ := q1108
  refine a_icmp_eq C0 1742 dL_law_1111 rfl (fun h1111 => ?_) (fun h1111 => ?_)
  · exact kk _ _ _ _ _ _ _ _ _ _ _ _ (inv.tr hX2 hS2)
  · exact (h1111 rfl).elim
set_option maxRecDepth 100000 in
set_option maxHeartbeats 4000000 in
theorem lc_28 (C0 : Cx p s m args meth c G A 68 ad cL_law RL 4) (hX : va_X b L xs s s.heap) (hbl : b < s.heap.size) (hbA : ¬ A b) (hxi : xi = nI i) (hi : i + 5 ≤ L) (hL : L ≤ 2560) (hmb : mb ≤ 61 * 600) (inv : INV mb O N K B R S H Z OM SM XM) (kk : ∀ (O : RW) (N K T B R S H Z : WM) (OM SM : RW) (XM : WM), INV (mb + 61) O N K B R S H Z OM SM XM → AW p l e room_1 s m args below meth c G A 68 ad (shL G ad) 4 600000 7302250 Q 1742 [(3, .int xi), (0, .ref b), (1, .ref (ad 0)), (2, .ref (ad 54))] [] (mkL (mkX O N K T B R S H Z) (mkM OM SM XM))) : AW p l e room_1 s m args below meth c G A 68 ad (shL G ad) 4 600000 7302250 Q 1116 [(3, .int xi), (0, .ref b), (1, .ref (ad 0)), (2, .ref (ad 54))] [] (mkL (mkX O N K T B R S H Z) (mkM OM SM XM)) := by
  obtain ⟨⟨nT, mm, rp, hmm⟩, i4, iK, ⟨bn, tr⟩, ⟨cn, c6, c10, e13, rR⟩, rs, rh, dr⟩ := id inv
  have hm : mm + 61 < 2 ^ 31 := by omega
  have hx0 : IX xi (i + 0) L := IX.eqn hxi (by omega) (by omega)
  have hx1 : IX (xi + 1) (i + 1) L := IX.eqn (by rw [hxi, show (1 : Int32) = nI 1 from rfl, nI_add]) (by omega) (by omega)
  have hx2 : IX (xi + 2) (i + 2) L := IX.eqn (by rw [hxi, show (2 : Int32) = nI 2 from rfl, nI_add]) (by omega) (by omega)
  have hx3 : IX (xi + 3) (i + 3) L := IX.eqn (by rw [hxi, show (3 : Int32) = nI 3 from rfl, nI_add]) (by omega) (by omega)
  have hx4 : IX (xi + 4) (i + 4) L := IX.eqn (by rw [hxi, show (4 : Int32) = nI 4 from rfl, nI_add]) (by omega) (by omega)
  obtain ⟨cs9, hcn, hcn40⟩ := rs.cnv (xs (i + 1))
  refine a_aload_n C0 2 dL_law_1116 rfl rfl ?_
  refine a_aload_n C0 1 dL_law_1117 rfl rfl ?_
  refine a_iload_n C0 0 dL_law_1118 rfl rfl ?_
  refine a_iconst C0 1 dL_law_1119 rfl ?_
  refine a_iadd C0 dL_law_1120 ?_
  refine a_sld C0 hX hbl hbA (i + 1) hx1.1 hx1.2 dL_law_1121 ?_
  refine a_aload_n C0 1 dL_law_1122 rfl rfl ?_
  refine a_iload_n C0 0 dL_law_1123 rfl rfl ?_
  refine a_iconst C0 2 dL_law_1124 rfl ?_
  refine a_iadd C0 dL_law_1125 ?_
  refine a_sld C0 hX hbl hbA (i + 2) hx2.1 hx2.2 dL_law_1126 ?_
  refine a_aload_n C0 1 dL_law_1127 rfl rfl ?_
  refine a_iload_n C0 0 dL_law_1128 rfl rfl ?_
  refine a_iconst C0 3 dL_law_1129 rfl ?_
  refine a_iadd C0 dL_law_1130 ?_
  refine a_sld C0 hX hbl hbA (i + 3) hx3.1 hx3.2 dL_law_1131 ?_
  refine a_callV _ 3 C0 em_LX (c_X5_fits l G rp.w hcn hcn40 rfl (ad := ad)) u_c_X5_fits u_m_L_132 u_im_X5_fits u_se_X5_fits u_in_X5 hy_X5_fits rfl (lt_b rfl) rfl (hRk rfl) rfl rfl (le_b rfl) dL_law_1132 (k_i fun r1132 u1132 q1132 => ?_)
  obtain ⟨rfl, T2, rfl⟩ := q1132
  refine a_aload_n C0 3 dL_law_1135 rfl rfl ?_
  refine a_aload_n C0 1 dL_law_1136 rfl rfl ?_
  refine a_iload_n C0 0 dL_law_1137 rfl rfl ?_
  refine a_iconst C0 1 dL_law_1138 rfl ?_
  refine a_iadd C0 dL_law_1139 ?_
  refine a_sld C0 hX hbl hbA (i + 1) hx1.1 hx1.2 dL_law_1140 ?_
  refine a_aload_n C0 1 dL_law_1141 rfl rfl ?_
  refine a_iload_n C0 0 dL_law_1142 rfl rfl ?_
  refine a_iconst C0 2 dL_law_1143 rfl ?_
  refine a_iadd C0 dL_law_1144 ?_
  refine a_sld C0 hX hbl hbA (i + 2) hx2.1 hx2.2 dL_law_1145 ?_
  refine a_aload_n C0 1 dL_law_1146 rfl rfl ?_
  refine a_iload_n C0 0 dL_law_1147 rfl rfl ?_
  refine a_iconst C0 3 dL_law_1148 rfl ?_
  refine a_iadd C0 dL_law_1149 ?_
  refine a_sld C0 hX hbl hbA (i + 3) hx3.1 hx3.2 dL_law_1150 ?_
  refine a_callV _ 3 C0 em_LM (c_X6_fits l G rp rs hcn hcn40 hm rfl (ad := fun k => ad (54 + k))) u_c_X6_fits u_m_L_135 u_im_X6_fits u_se_X6_fits u_in_X6 hy_X6_fits rfl (lt_b rfl) rfl (hRk rfl) rfl rfl (le_b rfl) dL_law_1151 (k_i fun r1151 u1151 q1151 => ?_)
  obtain ⟨rfl, S2, X2, rfl, hX2, hS2⟩ := q1151
  refine a_icmp_eq C0 1742 dL_law_1154 rfl (fun h1154 => ?_) (fun h1154 => ?_)
  · exact kk _ _ _ _ _ _ _ _ _ _ _ _ (inv.tr hX2 hS2)
  · exact (h1154 rfl).elim
set_option maxRecDepth 100000 in
set_option maxHeartbeats 4000000 in
theorem lc_29 (C0 : Cx p s m args meth c G A 68 ad cL_law RL 4) (hX : va_X b L xs s s.heap) (hbl : b < s.heap.size) (hbA : ¬ A b) (hxi : xi = nI i) (hi : i + 5 ≤ L) (hL : L ≤ 2560) (hmb : mb ≤ 61 * 600) (inv : INV mb O N K B R S H Z OM SM XM) (kk : ∀ (O : RW) (N K T B R S H Z : WM) (OM SM : RW) (XM : WM), INV (mb + 61) O N K B R S H Z OM SM XM → AW p l e room_1 s m args below meth c G A 68 ad (shL G ad) 4 600000 7302250 Q 1742 [(3, .int xi), (0, .ref b), (1, .ref (ad 0)), (2, .ref (ad 54))] [] (mkL (mkX O N K T B R S H Z) (mkM OM SM XM))) : AW p l e room_1 s m args below meth c G A 68 ad (shL G ad) 4 600000 7302250 Q 1159 [(3, .int xi), (0, .ref b), (1, .ref (ad 0)), (2, .ref (ad 54))] [] (mkL (mkX O N K T B R S H Z) (mkM OM SM XM)) := by
  obtain ⟨⟨nT, mm, rp, hmm⟩, i4, iK, ⟨bn, tr⟩, ⟨cn, c6, c10, e13, rR⟩, rs, rh, dr⟩ := id inv
  have hm : mm + 61 < 2 ^ 31 := by omega
  have hx0 : IX xi (i + 0) L := IX.eqn hxi (by omega) (by omega)
  have hx1 : IX (xi + 1) (i + 1) L := IX.eqn (by rw [hxi, show (1 : Int32) = nI 1 from rfl, nI_add]) (by omega) (by omega)
  have hx2 : IX (xi + 2) (i + 2) L := IX.eqn (by rw [hxi, show (2 : Int32) = nI 2 from rfl, nI_add]) (by omega) (by omega)
  have hx3 : IX (xi + 3) (i + 3) L := IX.eqn (by rw [hxi, show (3 : Int32) = nI 3 from rfl, nI_add]) (by omega) (by omega)
  have hx4 : IX (xi + 4) (i + 4) L := IX.eqn (by rw [hxi, show (4 : Int32) = nI 4 from rfl, nI_add]) (by omega) (by omega)
  refine a_aload_n C0 2 dL_law_1159 rfl rfl ?_
  refine a_aload_n C0 1 dL_law_1160 rfl rfl ?_
  refine a_iload_n C0 0 dL_law_1161 rfl rfl ?_
  refine a_iconst C0 1 dL_law_1162 rfl ?_
  refine a_iadd C0 dL_law_1163 ?_
  refine a_sld C0 hX hbl hbA (i + 1) hx1.1 hx1.2 dL_law_1164 ?_
  refine a_aload_n C0 1 dL_law_1165 rfl rfl ?_
  refine a_iload_n C0 0 dL_law_1166 rfl rfl ?_
  refine a_iconst C0 2 dL_law_1167 rfl ?_
  refine a_iadd C0 dL_law_1168 ?_
  refine a_sld C0 hX hbl hbA (i + 2) hx2.1 hx2.2 dL_law_1169 ?_
  refine a_aload_n C0 1 dL_law_1170 rfl rfl ?_
  refine a_iload_n C0 0 dL_law_1171 rfl rfl ?_
  refine a_iconst C0 3 dL_law_1172 rfl ?_
  refine a_iadd C0 dL_law_1173 ?_
  refine a_sld C0 hX hbl hbA (i + 3) hx3.1 hx3.2 dL_law_1174 ?_
  refine a_callV _ 3 C0 em_LX (c_X5_odds l G rfl (ad := ad)) u_c_X5_odds u_m_L_136 u_im_X5_odds u_se_X5_odds u_in_X5 hy_X5_odds rfl (lt_b rfl) rfl (hRk rfl) rfl rfl (le_b rfl) dL_law_1175 (k_lo em_LX ?_)
  refine a_aload_n C0 3 dL_law_1178 rfl rfl ?_
  refine a_aload_n C0 1 dL_law_1179 rfl rfl ?_
  refine a_iload_n C0 0 dL_law_1180 rfl rfl ?_
  refine a_iconst C0 1 dL_law_1181 rfl ?_
  refine a_iadd C0 dL_law_1182 ?_
  refine a_sld C0 hX hbl hbA (i + 1) hx1.1 hx1.2 dL_law_1183 ?_
  refine a_aload_n C0 1 dL_law_1184 rfl rfl ?_
  refine a_iload_n C0 0 dL_law_1185 rfl rfl ?_
  refine a_iconst C0 2 dL_law_1186 rfl ?_
  refine a_iadd C0 dL_law_1187 ?_
  refine a_sld C0 hX hbl hbA (i + 2) hx2.1 hx2.2 dL_law_1188 ?_
  refine a_aload_n C0 1 dL_law_1189 rfl rfl ?_
  refine a_iload_n C0 0 dL_law_1190 rfl rfl ?_
  refine a_iconst C0 3 dL_law_1191 rfl ?_
  refine a_iadd C0 dL_law_1192 ?_
  refine a_sld C0 hX hbl hbA (i + 3) hx3.1 hx3.2 dL_law_1193 ?_
  refine a_callV _ 3 C0 em_LM (c_X6_odds l G rp rfl (ad := fun k => ad (54 + k))) u_c_X6_odds u_m_L_140 u_im_X6_odds u_se_X6_odds u_in_X6 hy_X6_odds rfl (lt_b rfl) rfl (hRk rfl) rfl rfl (le_b rfl) dL_law_1194 (k_lo em_LM ?_)
  refine a_lcmp C0 dL_law_1197 ?_
  refine a_if_eq C0 1742 dL_law_1198 rfl (fun h1198 => ?_) (fun h1198 => ?_)
  · exact kk _ _ _ _ _ _ _ _ _ _ _ _ (inv.up)
  · exact (h1198 ((lg_cmp_eq _ _).mpr rfl)).elim
set_option maxRecDepth 100000 in
set_option maxHeartbeats 4000000 in
theorem lc_30 (C0 : Cx p s m args meth c G A 68 ad cL_law RL 4) (hX : va_X b L xs s s.heap) (hbl : b < s.heap.size) (hbA : ¬ A b) (hxi : xi = nI i) (hi : i + 5 ≤ L) (hL : L ≤ 2560) (hmb : mb ≤ 61 * 600) (inv : INV mb O N K B R S H Z OM SM XM) (kk : ∀ (O : RW) (N K T B R S H Z : WM) (OM SM : RW) (XM : WM), INV (mb + 61) O N K B R S H Z OM SM XM → AW p l e room_1 s m args below meth c G A 68 ad (shL G ad) 4 600000 7302250 Q 1742 [(3, .int xi), (0, .ref b), (1, .ref (ad 0)), (2, .ref (ad 54))] [] (mkL (mkX O N K T B R S H Z) (mkM OM SM XM))) : AW p l e room_1 s m args below meth c G A 68 ad (shL G ad) 4 600000 7302250 Q 1203 [(3, .int xi), (0, .ref b), (1, .ref (ad 0)), (2, .ref (ad 54))] [] (mkL (mkX O N K T B R S H Z) (mkM OM SM XM)) := by
  obtain ⟨⟨nT, mm, rp, hmm⟩, i4, iK, ⟨bn, tr⟩, ⟨cn, c6, c10, e13, rR⟩, rs, rh, dr⟩ := id inv
  have hm : mm + 61 < 2 ^ 31 := by omega
  have hx0 : IX xi (i + 0) L := IX.eqn hxi (by omega) (by omega)
  have hx1 : IX (xi + 1) (i + 1) L := IX.eqn (by rw [hxi, show (1 : Int32) = nI 1 from rfl, nI_add]) (by omega) (by omega)
  have hx2 : IX (xi + 2) (i + 2) L := IX.eqn (by rw [hxi, show (2 : Int32) = nI 2 from rfl, nI_add]) (by omega) (by omega)
  have hx3 : IX (xi + 3) (i + 3) L := IX.eqn (by rw [hxi, show (3 : Int32) = nI 3 from rfl, nI_add]) (by omega) (by omega)
  have hx4 : IX (xi + 4) (i + 4) L := IX.eqn (by rw [hxi, show (4 : Int32) = nI 4 from rfl, nI_add]) (by omega) (by omega)
  refine a_aload_n C0 2 dL_law_1203 rfl rfl ?_
  refine a_aload_n C0 1 dL_law_1204 rfl rfl ?_
  refine a_iload_n C0 0 dL_law_1205 rfl rfl ?_
  refine a_iconst C0 1 dL_law_1206 rfl ?_
  refine a_iadd C0 dL_law_1207 ?_
  refine a_sld C0 hX hbl hbA (i + 1) hx1.1 hx1.2 dL_law_1208 ?_
  refine a_aload_n C0 1 dL_law_1209 rfl rfl ?_
  refine a_iload_n C0 0 dL_law_1210 rfl rfl ?_
  refine a_iconst C0 2 dL_law_1211 rfl ?_
  refine a_iadd C0 dL_law_1212 ?_
  refine a_sld C0 hX hbl hbA (i + 2) hx2.1 hx2.2 dL_law_1213 ?_
  refine a_callV _ 2 C0 em_LX (c_X5_hope l G rfl (ad := ad)) u_c_X5_hope u_m_L_141 u_im_X5_hope u_se_X5_hope u_in_X5 hy_X5_hope rfl (lt_b rfl) rfl (hRk rfl) rfl rfl (le_b rfl) dL_law_1214 (k_lo em_LX ?_)
  refine a_aload_n C0 3 dL_law_1217 rfl rfl ?_
  refine a_aload_n C0 1 dL_law_1218 rfl rfl ?_
  refine a_iload_n C0 0 dL_law_1219 rfl rfl ?_
  refine a_iconst C0 1 dL_law_1220 rfl ?_
  refine a_iadd C0 dL_law_1221 ?_
  refine a_sld C0 hX hbl hbA (i + 1) hx1.1 hx1.2 dL_law_1222 ?_
  refine a_aload_n C0 1 dL_law_1223 rfl rfl ?_
  refine a_iload_n C0 0 dL_law_1224 rfl rfl ?_
  refine a_iconst C0 2 dL_law_1225 rfl ?_
  refine a_iadd C0 dL_law_1226 ?_
  refine a_sld C0 hX hbl hbA (i + 2) hx2.1 hx2.2 dL_law_1227 ?_
  refine a_callV _ 2 C0 em_LM (c_X6_hope l G rp rfl (ad := fun k => ad (54 + k))) u_c_X6_hope u_m_L_145 u_im_X6_hope u_se_X6_hope u_in_X6 hy_X6_hope rfl (lt_b rfl) rfl (hRk rfl) rfl rfl (le_b rfl) dL_law_1228 (k_lo em_LM ?_)
  refine a_lcmp C0 dL_law_1231 ?_
  refine a_if_eq C0 1742 dL_law_1232 rfl (fun h1232 => ?_) (fun h1232 => ?_)
  · exact kk _ _ _ _ _ _ _ _ _ _ _ _ (inv.up)
  · exact (h1232 ((lg_cmp_eq _ _).mpr rfl)).elim
set_option maxRecDepth 100000 in
set_option maxHeartbeats 4000000 in
theorem lc_31 (C0 : Cx p s m args meth c G A 68 ad cL_law RL 4) (hX : va_X b L xs s s.heap) (hbl : b < s.heap.size) (hbA : ¬ A b) (hxi : xi = nI i) (hi : i + 5 ≤ L) (hL : L ≤ 2560) (hmb : mb ≤ 61 * 600) (inv : INV mb O N K B R S H Z OM SM XM) (kk : ∀ (O : RW) (N K T B R S H Z : WM) (OM SM : RW) (XM : WM), INV (mb + 61) O N K B R S H Z OM SM XM → AW p l e room_1 s m args below meth c G A 68 ad (shL G ad) 4 600000 7302250 Q 1742 [(3, .int xi), (0, .ref b), (1, .ref (ad 0)), (2, .ref (ad 54))] [] (mkL (mkX O N K T B R S H Z) (mkM OM SM XM))) : AW p l e room_1 s m args below meth c G A 68 ad (shL G ad) 4 600000 7302250 Q 1237 [(3, .int xi), (0, .ref b), (1, .ref (ad 0)), (2, .ref (ad 54))] [] (mkL (mkX O N K T B R S H Z) (mkM OM SM XM)) := by
  obtain ⟨⟨nT, mm, rp, hmm⟩, i4, iK, ⟨bn, tr⟩, ⟨cn, c6, c10, e13, rR⟩, rs, rh, dr⟩ := id inv
  have hm : mm + 61 < 2 ^ 31 := by omega
  have hx0 : IX xi (i + 0) L := IX.eqn hxi (by omega) (by omega)
  have hx1 : IX (xi + 1) (i + 1) L := IX.eqn (by rw [hxi, show (1 : Int32) = nI 1 from rfl, nI_add]) (by omega) (by omega)
  have hx2 : IX (xi + 2) (i + 2) L := IX.eqn (by rw [hxi, show (2 : Int32) = nI 2 from rfl, nI_add]) (by omega) (by omega)
  have hx3 : IX (xi + 3) (i + 3) L := IX.eqn (by rw [hxi, show (3 : Int32) = nI 3 from rfl, nI_add]) (by omega) (by omega)
  have hx4 : IX (xi + 4) (i + 4) L := IX.eqn (by rw [hxi, show (4 : Int32) = nI 4 from rfl, nI_add]) (by omega) (by omega)
  refine a_aload_n C0 2 dL_law_1237 rfl rfl ?_
  refine a_aload_n C0 1 dL_law_1238 rfl rfl ?_
  refine a_iload_n C0 0 dL_law_1239 rfl rfl ?_
  refine a_iconst C0 1 dL_law_1240 rfl ?_
  refine a_iadd C0 dL_law_1241 ?_
  refine a_sld C0 hX hbl hbA (i + 1) hx1.1 hx1.2 dL_law_1242 ?_
  refine a_aload_n C0 1 dL_law_1243 rfl rfl ?_
  refine a_iload_n C0 0 dL_law_1244 rfl rfl ?_
  refine a_iconst C0 2 dL_law_1245 rfl ?_
  refine a_iadd C0 dL_law_1246 ?_
  refine a_sld C0 hX hbl hbA (i + 2) hx2.1 hx2.2 dL_law_1247 ?_
  refine a_callV _ 2 C0 em_LX (c_X5_prove l G rp.w rfl (ad := ad)) u_c_X5_prove u_m_L_146 u_im_X5_prove u_se_X5_prove u_in_X5 hy_X5_prove rfl (lt_b rfl) rfl (hRk rfl) rfl rfl (le_b rfl) dL_law_1248 (k_i fun r1248 u1248 q1248 => ?_)
  obtain ⟨rfl, T2, rfl⟩ := q1248
  refine a_aload_n C0 3 dL_law_1251 rfl rfl ?_
  refine a_aload_n C0 1 dL_law_1252 rfl rfl ?_
  refine a_iload_n C0 0 dL_law_1253 rfl rfl ?_
  refine a_iconst C0 1 dL_law_1254 rfl ?_
  refine a_iadd C0 dL_law_1255 ?_
  refine a_sld C0 hX hbl hbA (i + 1) hx1.1 hx1.2 dL_law_1256 ?_
  refine a_aload_n C0 1 dL_law_1257 rfl rfl ?_
  refine a_iload_n C0 0 dL_law_1258 rfl rfl ?_
  refine a_iconst C0 2 dL_law_1259 rfl ?_
  refine a_iadd C0 dL_law_1260 ?_
  refine a_sld C0 hX hbl hbA (i + 2) hx2.1 hx2.2 dL_law_1261 ?_
  refine a_callV _ 2 C0 em_LM (c_X6_prove l G rp rR hm rfl (ad := fun k => ad (54 + k))) u_c_X6_prove u_m_L_149 u_im_X6_prove u_se_X6_prove u_in_X6 hy_X6_prove rfl (lt_b rfl) rfl (hRk rfl) rfl rfl (le_b rfl) dL_law_1262 (k_i fun r1262 u1262 q1262 => ?_)
  obtain ⟨rfl, O2, S2, X2, rfl, hS2, hX2, hR2, hO2⟩ := q1262
  refine a_icmp_eq C0 1742 dL_law_1265 rfl (fun h1265 => ?_) (fun h1265 => ?_)
  · exact kk _ _ _ _ _ _ _ _ _ _ _ _ (inv.prove hS2 hX2 hR2 hO2)
  · exact (h1265 rfl).elim
set_option maxRecDepth 100000 in
set_option maxHeartbeats 4000000 in
theorem lc_32 (C0 : Cx p s m args meth c G A 68 ad cL_law RL 4) (hX : va_X b L xs s s.heap) (hbl : b < s.heap.size) (hbA : ¬ A b) (hxi : xi = nI i) (hi : i + 5 ≤ L) (hL : L ≤ 2560) (hmb : mb ≤ 61 * 600) (inv : INV mb O N K B R S H Z OM SM XM) (kk : ∀ (O : RW) (N K T B R S H Z : WM) (OM SM : RW) (XM : WM), INV (mb + 61) O N K B R S H Z OM SM XM → AW p l e room_1 s m args below meth c G A 68 ad (shL G ad) 4 600000 7302250 Q 1742 [(3, .int xi), (0, .ref b), (1, .ref (ad 0)), (2, .ref (ad 54))] [] (mkL (mkX O N K T B R S H Z) (mkM OM SM XM))) : AW p l e room_1 s m args below meth c G A 68 ad (shL G ad) 4 600000 7302250 Q 1270 [(3, .int xi), (0, .ref b), (1, .ref (ad 0)), (2, .ref (ad 54))] [] (mkL (mkX O N K T B R S H Z) (mkM OM SM XM)) := by
  obtain ⟨⟨nT, mm, rp, hmm⟩, i4, iK, ⟨bn, tr⟩, ⟨cn, c6, c10, e13, rR⟩, rs, rh, dr⟩ := id inv
  have hm : mm + 61 < 2 ^ 31 := by omega
  have hx0 : IX xi (i + 0) L := IX.eqn hxi (by omega) (by omega)
  have hx1 : IX (xi + 1) (i + 1) L := IX.eqn (by rw [hxi, show (1 : Int32) = nI 1 from rfl, nI_add]) (by omega) (by omega)
  have hx2 : IX (xi + 2) (i + 2) L := IX.eqn (by rw [hxi, show (2 : Int32) = nI 2 from rfl, nI_add]) (by omega) (by omega)
  have hx3 : IX (xi + 3) (i + 3) L := IX.eqn (by rw [hxi, show (3 : Int32) = nI 3 from rfl, nI_add]) (by omega) (by omega)
  have hx4 : IX (xi + 4) (i + 4) L := IX.eqn (by rw [hxi, show (4 : Int32) = nI 4 from rfl, nI_add]) (by omega) (by omega)
  refine a_aload_n C0 2 dL_law_1270 rfl rfl ?_
  refine a_aload_n C0 1 dL_law_1271 rfl rfl ?_
  refine a_iload_n C0 0 dL_law_1272 rfl rfl ?_
  refine a_iconst C0 1 dL_law_1273 rfl ?_
  refine a_iadd C0 dL_law_1274 ?_
  refine a_sld C0 hX hbl hbA (i + 1) hx1.1 hx1.2 dL_law_1275 ?_
  refine a_aload_n C0 1 dL_law_1276 rfl rfl ?_
  refine a_iload_n C0 0 dL_law_1277 rfl rfl ?_
  refine a_iconst C0 2 dL_law_1278 rfl ?_
  refine a_iadd C0 dL_law_1279 ?_
  refine a_sld C0 hX hbl hbA (i + 2) hx2.1 hx2.2 dL_law_1280 ?_
  refine a_callV _ 2 C0 em_LX (c_X5_row l G c6 c10 rfl (ad := ad)) u_c_X5_row u_m_L_150 u_im_X5_row u_se_X5_row u_in_X5 hy_X5_row rfl (lt_b rfl) rfl (hRk rfl) rfl rfl (le_b rfl) dL_law_1281 (k_ro em_LX ?_)
  refine a_aload_n C0 3 dL_law_1284 rfl rfl ?_
  refine a_aload_n C0 1 dL_law_1285 rfl rfl ?_
  refine a_iload_n C0 0 dL_law_1286 rfl rfl ?_
  refine a_iconst C0 1 dL_law_1287 rfl ?_
  refine a_iadd C0 dL_law_1288 ?_
  refine a_sld C0 hX hbl hbA (i + 1) hx1.1 hx1.2 dL_law_1289 ?_
  refine a_aload_n C0 1 dL_law_1290 rfl rfl ?_
  refine a_iload_n C0 0 dL_law_1291 rfl rfl ?_
  refine a_iconst C0 2 dL_law_1292 rfl ?_
  refine a_iadd C0 dL_law_1293 ?_
  refine a_sld C0 hX hbl hbA (i + 2) hx2.1 hx2.2 dL_law_1294 ?_
  refine a_callV _ 2 C0 em_LM (c_X6_row l G e13 c6 c10 rR rfl (ad := fun k => ad (54 + k))) u_c_X6_row u_m_L_153 u_im_X6_row u_se_X6_row u_in_X6 hy_X6_row rfl (lt_b rfl) rfl (hRk rfl) rfl rfl (le_b rfl) dL_law_1295 (k_ro em_LM ?_)
  refine a_icmp_eq C0 1742 dL_law_1298 rfl (fun h1298 => ?_) (fun h1298 => ?_)
  · exact kk _ _ _ _ _ _ _ _ _ _ _ _ (inv.up)
  · exact (h1298 rfl).elim
set_option maxRecDepth 100000 in
set_option maxHeartbeats 4000000 in
theorem lc_33 (C0 : Cx p s m args meth c G A 68 ad cL_law RL 4) (hX : va_X b L xs s s.heap) (hbl : b < s.heap.size) (hbA : ¬ A b) (hxi : xi = nI i) (hi : i + 5 ≤ L) (hL : L ≤ 2560) (hmb : mb ≤ 61 * 600) (inv : INV mb O N K B R S H Z OM SM XM) (kk : ∀ (O : RW) (N K T B R S H Z : WM) (OM SM : RW) (XM : WM), INV (mb + 61) O N K B R S H Z OM SM XM → AW p l e room_1 s m args below meth c G A 68 ad (shL G ad) 4 600000 7302250 Q 1742 [(3, .int xi), (0, .ref b), (1, .ref (ad 0)), (2, .ref (ad 54))] [] (mkL (mkX O N K T B R S H Z) (mkM OM SM XM))) : AW p l e room_1 s m args below meth c G A 68 ad (shL G ad) 4 600000 7302250 Q 1303 [(3, .int xi), (0, .ref b), (1, .ref (ad 0)), (2, .ref (ad 54))] [] (mkL (mkX O N K T B R S H Z) (mkM OM SM XM)) := by
  obtain ⟨⟨nT, mm, rp, hmm⟩, i4, iK, ⟨bn, tr⟩, ⟨cn, c6, c10, e13, rR⟩, rs, rh, dr⟩ := id inv
  have hm : mm + 61 < 2 ^ 31 := by omega
  have hx0 : IX xi (i + 0) L := IX.eqn hxi (by omega) (by omega)
  have hx1 : IX (xi + 1) (i + 1) L := IX.eqn (by rw [hxi, show (1 : Int32) = nI 1 from rfl, nI_add]) (by omega) (by omega)
  have hx2 : IX (xi + 2) (i + 2) L := IX.eqn (by rw [hxi, show (2 : Int32) = nI 2 from rfl, nI_add]) (by omega) (by omega)
  have hx3 : IX (xi + 3) (i + 3) L := IX.eqn (by rw [hxi, show (3 : Int32) = nI 3 from rfl, nI_add]) (by omega) (by omega)
  have hx4 : IX (xi + 4) (i + 4) L := IX.eqn (by rw [hxi, show (4 : Int32) = nI 4 from rfl, nI_add]) (by omega) (by omega)
  refine a_aload_n C0 2 dL_law_1303 rfl rfl ?_
  refine a_aload_n C0 1 dL_law_1304 rfl rfl ?_
  refine a_iload_n C0 0 dL_law_1305 rfl rfl ?_
  refine a_iconst C0 1 dL_law_1306 rfl ?_
  refine a_iadd C0 dL_law_1307 ?_
  refine a_sld C0 hX hbl hbA (i + 1) hx1.1 hx1.2 dL_law_1308 ?_
  refine a_aload_n C0 1 dL_law_1309 rfl rfl ?_
  refine a_iload_n C0 0 dL_law_1310 rfl rfl ?_
  refine a_iconst C0 2 dL_law_1311 rfl ?_
  refine a_iadd C0 dL_law_1312 ?_
  refine a_sld C0 hX hbl hbA (i + 2) hx2.1 hx2.2 dL_law_1313 ?_
  refine a_aload_n C0 1 dL_law_1314 rfl rfl ?_
  refine a_iload_n C0 0 dL_law_1315 rfl rfl ?_
  refine a_iconst C0 3 dL_law_1316 rfl ?_
  refine a_iadd C0 dL_law_1317 ?_
  refine a_sld C0 hX hbl hbA (i + 3) hx3.1 hx3.2 dL_law_1318 ?_
  refine a_callV _ 3 C0 em_LX (c_X5_alterRow l G c6 c10 rfl (ad := ad)) u_c_X5_alterRow u_m_L_154 u_im_X5_alterRow u_se_X5_alterRow u_in_X5 hy_X5_alterRow rfl (lt_b rfl) rfl (hRk rfl) rfl rfl (le_b rfl) dL_law_1319 (k_de ?_)
  refine a_aload_n C0 3 dL_law_1322 rfl rfl ?_
  refine a_aload_n C0 1 dL_law_1323 rfl rfl ?_
  refine a_iload_n C0 0 dL_law_1324 rfl rfl ?_
  refine a_iconst C0 1 dL_law_1325 rfl ?_
  refine a_iadd C0 dL_law_1326 ?_
  refine a_sld C0 hX hbl hbA (i + 1) hx1.1 hx1.2 dL_law_1327 ?_
  refine a_aload_n C0 1 dL_law_1328 rfl rfl ?_
  refine a_iload_n C0 0 dL_law_1329 rfl rfl ?_
  refine a_iconst C0 2 dL_law_1330 rfl ?_
  refine a_iadd C0 dL_law_1331 ?_
  refine a_sld C0 hX hbl hbA (i + 2) hx2.1 hx2.2 dL_law_1332 ?_
  refine a_aload_n C0 1 dL_law_1333 rfl rfl ?_
  refine a_iload_n C0 0 dL_law_1334 rfl rfl ?_
  refine a_iconst C0 3 dL_law_1335 rfl ?_
  refine a_iadd C0 dL_law_1336 ?_
  refine a_sld C0 hX hbl hbA (i + 3) hx3.1 hx3.2 dL_law_1337 ?_
  refine a_callV _ 3 C0 em_LM (c_X6_alterRow l G e13 c6 c10 rR rfl (ad := fun k => ad (54 + k))) u_c_X6_alterRow u_m_L_157 u_im_X6_alterRow u_se_X6_alterRow u_in_X6 hy_X6_alterRow rfl (lt_b rfl) rfl (hRk rfl) rfl rfl (le_b rfl) dL_law_1338 (k_i fun r1338 u1338 q1338 => ?_)
  obtain ⟨rfl, X2, rfl, hX2, hR2⟩ := q1338
  refine a_icmp_eq C0 1742 dL_law_1341 rfl (fun h1341 => ?_) (fun h1341 => ?_)
  · exact kk _ _ _ _ _ _ _ _ _ _ _ _ (inv.rows rfl c6 c10 (fun _ _ => rfl) e13 hX2 (fun _ _ => rfl) hR2)
  · exact (h1341 rfl).elim
set_option maxRecDepth 100000 in
set_option maxHeartbeats 4000000 in
theorem lc_34 (C0 : Cx p s m args meth c G A 68 ad cL_law RL 4) (hX : va_X b L xs s s.heap) (hbl : b < s.heap.size) (hbA : ¬ A b) (hxi : xi = nI i) (hi : i + 5 ≤ L) (hL : L ≤ 2560) (hmb : mb ≤ 61 * 600) (inv : INV mb O N K B R S H Z OM SM XM) (kk : ∀ (O : RW) (N K T B R S H Z : WM) (OM SM : RW) (XM : WM), INV (mb + 61) O N K B R S H Z OM SM XM → AW p l e room_1 s m args below meth c G A 68 ad (shL G ad) 4 600000 7302250 Q 1742 [(3, .int xi), (0, .ref b), (1, .ref (ad 0)), (2, .ref (ad 54))] [] (mkL (mkX O N K T B R S H Z) (mkM OM SM XM))) : AW p l e room_1 s m args below meth c G A 68 ad (shL G ad) 4 600000 7302250 Q 1346 [(3, .int xi), (0, .ref b), (1, .ref (ad 0)), (2, .ref (ad 54))] [] (mkL (mkX O N K T B R S H Z) (mkM OM SM XM)) := by
  obtain ⟨⟨nT, mm, rp, hmm⟩, i4, iK, ⟨bn, tr⟩, ⟨cn, c6, c10, e13, rR⟩, rs, rh, dr⟩ := id inv
  have hm : mm + 61 < 2 ^ 31 := by omega
  have hx0 : IX xi (i + 0) L := IX.eqn hxi (by omega) (by omega)
  have hx1 : IX (xi + 1) (i + 1) L := IX.eqn (by rw [hxi, show (1 : Int32) = nI 1 from rfl, nI_add]) (by omega) (by omega)
  have hx2 : IX (xi + 2) (i + 2) L := IX.eqn (by rw [hxi, show (2 : Int32) = nI 2 from rfl, nI_add]) (by omega) (by omega)
  have hx3 : IX (xi + 3) (i + 3) L := IX.eqn (by rw [hxi, show (3 : Int32) = nI 3 from rfl, nI_add]) (by omega) (by omega)
  have hx4 : IX (xi + 4) (i + 4) L := IX.eqn (by rw [hxi, show (4 : Int32) = nI 4 from rfl, nI_add]) (by omega) (by omega)
  refine a_aload_n C0 2 dL_law_1346 rfl rfl ?_
  refine a_aload_n C0 1 dL_law_1347 rfl rfl ?_
  refine a_iload_n C0 0 dL_law_1348 rfl rfl ?_
  refine a_iconst C0 1 dL_law_1349 rfl ?_
  refine a_iadd C0 dL_law_1350 ?_
  refine a_sld C0 hX hbl hbA (i + 1) hx1.1 hx1.2 dL_law_1351 ?_
  refine a_callV _ 1 C0 em_LX (c_X5_judge l G rp.w c6 c10 rfl (ad := ad)) u_c_X5_judge u_m_L_158 u_im_X5_judge u_se_X5_judge u_in_X5 hy_X5_judge rfl (lt_b rfl) rfl (hRk rfl) rfl rfl (le_b rfl) dL_law_1352 (k_i fun r1352 u1352 q1352 => ?_)
  obtain ⟨rfl, T2, rfl⟩ := q1352
  refine a_aload_n C0 3 dL_law_1355 rfl rfl ?_
  refine a_aload_n C0 1 dL_law_1356 rfl rfl ?_
  refine a_iload_n C0 0 dL_law_1357 rfl rfl ?_
  refine a_iconst C0 1 dL_law_1358 rfl ?_
  refine a_iadd C0 dL_law_1359 ?_
  refine a_sld C0 hX hbl hbA (i + 1) hx1.1 hx1.2 dL_law_1360 ?_
  refine a_callV _ 1 C0 em_LM (c_X6_judge l G rp e13 c6 c10 rR hm rfl (ad := fun k => ad (54 + k))) u_c_X6_judge u_m_L_161 u_im_X6_judge u_se_X6_judge u_in_X6 hy_X6_judge rfl (lt_b rfl) rfl (hRk rfl) rfl rfl (le_b rfl) dL_law_1361 (k_i fun r1361 u1361 q1361 => ?_)
  obtain ⟨rfl, S2, X2, rfl, hX2, hS2⟩ := q1361
  refine a_icmp_eq C0 1742 dL_law_1364 rfl (fun h1364 => ?_) (fun h1364 => ?_)
  · exact kk _ _ _ _ _ _ _ _ _ _ _ _ (inv.tr hX2 hS2)
  · exact (h1364 rfl).elim
set_option maxRecDepth 100000 in
set_option maxHeartbeats 4000000 in
theorem lc_35 (C0 : Cx p s m args meth c G A 68 ad cL_law RL 4) (hX : va_X b L xs s s.heap) (hbl : b < s.heap.size) (hbA : ¬ A b) (hxi : xi = nI i) (hi : i + 5 ≤ L) (hL : L ≤ 2560) (hmb : mb ≤ 61 * 600) (inv : INV mb O N K B R S H Z OM SM XM) (kk : ∀ (O : RW) (N K T B R S H Z : WM) (OM SM : RW) (XM : WM), INV (mb + 61) O N K B R S H Z OM SM XM → AW p l e room_1 s m args below meth c G A 68 ad (shL G ad) 4 600000 7302250 Q 1742 [(3, .int xi), (0, .ref b), (1, .ref (ad 0)), (2, .ref (ad 54))] [] (mkL (mkX O N K T B R S H Z) (mkM OM SM XM))) : AW p l e room_1 s m args below meth c G A 68 ad (shL G ad) 4 600000 7302250 Q 1369 [(3, .int xi), (0, .ref b), (1, .ref (ad 0)), (2, .ref (ad 54))] [] (mkL (mkX O N K T B R S H Z) (mkM OM SM XM)) := by
  obtain ⟨⟨nT, mm, rp, hmm⟩, i4, iK, ⟨bn, tr⟩, ⟨cn, c6, c10, e13, rR⟩, rs, rh, dr⟩ := id inv
  have hm : mm + 61 < 2 ^ 31 := by omega
  have hx0 : IX xi (i + 0) L := IX.eqn hxi (by omega) (by omega)
  have hx1 : IX (xi + 1) (i + 1) L := IX.eqn (by rw [hxi, show (1 : Int32) = nI 1 from rfl, nI_add]) (by omega) (by omega)
  have hx2 : IX (xi + 2) (i + 2) L := IX.eqn (by rw [hxi, show (2 : Int32) = nI 2 from rfl, nI_add]) (by omega) (by omega)
  have hx3 : IX (xi + 3) (i + 3) L := IX.eqn (by rw [hxi, show (3 : Int32) = nI 3 from rfl, nI_add]) (by omega) (by omega)
  have hx4 : IX (xi + 4) (i + 4) L := IX.eqn (by rw [hxi, show (4 : Int32) = nI 4 from rfl, nI_add]) (by omega) (by omega)
  obtain ⟨cs9, hcn, hcn40⟩ := rs.cnv (xs (i + 1))
  refine a_aload_n C0 2 dL_law_1369 rfl rfl ?_
  refine a_aload_n C0 1 dL_law_1370 rfl rfl ?_
  refine a_iload_n C0 0 dL_law_1371 rfl rfl ?_
  refine a_iconst C0 1 dL_law_1372 rfl ?_
  refine a_iadd C0 dL_law_1373 ?_
  refine a_sld C0 hX hbl hbA (i + 1) hx1.1 hx1.2 dL_law_1374 ?_
  refine a_aload_n C0 1 dL_law_1375 rfl rfl ?_
  refine a_iload_n C0 0 dL_law_1376 rfl rfl ?_
  refine a_iconst C0 2 dL_law_1377 rfl ?_
  refine a_iadd C0 dL_law_1378 ?_
  refine a_sld C0 hX hbl hbA (i + 2) hx2.1 hx2.2 dL_law_1379 ?_
  refine a_aload_n C0 1 dL_law_1380 rfl rfl ?_
  refine a_iload_n C0 0 dL_law_1381 rfl rfl ?_
  refine a_iconst C0 3 dL_law_1382 rfl ?_
  refine a_iadd C0 dL_law_1383 ?_
  refine a_sld C0 hX hbl hbA (i + 3) hx3.1 hx3.2 dL_law_1384 ?_
  refine a_aload_n C0 1 dL_law_1385 rfl rfl ?_
  refine a_iload_n C0 0 dL_law_1386 rfl rfl ?_
  refine a_iconst C0 4 dL_law_1387 rfl ?_
  refine a_iadd C0 dL_law_1388 ?_
  refine a_sld C0 hX hbl hbA (i + 4) hx4.1 hx4.2 dL_law_1389 ?_
  refine a_callV _ 4 C0 em_LX (c_X5_minds l G rp.w hcn hcn40 rfl (ad := ad)) u_c_X5_minds u_m_L_162 u_im_X5_minds u_se_X5_minds u_in_X5 hy_X5_minds rfl (lt_b rfl) rfl (hRk rfl) rfl rfl (le_b rfl) dL_law_1390 (k_de ?_)
  refine a_aload_n C0 3 dL_law_1393 rfl rfl ?_
  refine a_aload_n C0 1 dL_law_1394 rfl rfl ?_
  refine a_iload_n C0 0 dL_law_1395 rfl rfl ?_
  refine a_iconst C0 1 dL_law_1396 rfl ?_
  refine a_iadd C0 dL_law_1397 ?_
  refine a_sld C0 hX hbl hbA (i + 1) hx1.1 hx1.2 dL_law_1398 ?_
  refine a_aload_n C0 1 dL_law_1399 rfl rfl ?_
  refine a_iload_n C0 0 dL_law_1400 rfl rfl ?_
  refine a_iconst C0 2 dL_law_1401 rfl ?_
  refine a_iadd C0 dL_law_1402 ?_
  refine a_sld C0 hX hbl hbA (i + 2) hx2.1 hx2.2 dL_law_1403 ?_
  refine a_aload_n C0 1 dL_law_1404 rfl rfl ?_
  refine a_iload_n C0 0 dL_law_1405 rfl rfl ?_
  refine a_iconst C0 3 dL_law_1406 rfl ?_
  refine a_iadd C0 dL_law_1407 ?_
  refine a_sld C0 hX hbl hbA (i + 3) hx3.1 hx3.2 dL_law_1408 ?_
  refine a_aload_n C0 1 dL_law_1409 rfl rfl ?_
  refine a_iload_n C0 0 dL_law_1410 rfl rfl ?_
  refine a_iconst C0 4 dL_law_1411 rfl ?_
  refine a_iadd C0 dL_law_1412 ?_
  refine a_sld C0 hX hbl hbA (i + 4) hx4.1 hx4.2 dL_law_1413 ?_
  refine a_callV _ 4 C0 em_LM (c_X6_minds l G rp rs hcn hcn40 rfl (ad := fun k => ad (54 + k))) u_c_X6_minds u_m_L_166 u_im_X6_minds u_se_X6_minds u_in_X6 hy_X6_minds rfl (lt_b rfl) rfl (hRk rfl) rfl rfl (le_b rfl) dL_law_1414 (k_i fun r1414 u1414 q1414 => ?_)
  obtain ⟨rfl, S2, rfl, rp2⟩ := q1414
  refine a_icmp_eq C0 1742 dL_law_1417 rfl (fun h1417 => ?_) (fun h1417 => ?_)
  · exact kk _ _ _ _ _ _ _ _ _ _ _ _ (inv.now rp2 (by omega))
  · exact (h1417 rfl).elim
set_option maxRecDepth 100000 in
set_option maxHeartbeats 4000000 in
theorem lc_36 (C0 : Cx p s m args meth c G A 68 ad cL_law RL 4) (hX : va_X b L xs s s.heap) (hbl : b < s.heap.size) (hbA : ¬ A b) (hxi : xi = nI i) (hi : i + 5 ≤ L) (hL : L ≤ 2560) (hmb : mb ≤ 61 * 600) (inv : INV mb O N K B R S H Z OM SM XM) (kk : ∀ (O : RW) (N K T B R S H Z : WM) (OM SM : RW) (XM : WM), INV (mb + 61) O N K B R S H Z OM SM XM → AW p l e room_1 s m args below meth c G A 68 ad (shL G ad) 4 600000 7302250 Q 1742 [(3, .int xi), (0, .ref b), (1, .ref (ad 0)), (2, .ref (ad 54))] [] (mkL (mkX O N K T B R S H Z) (mkM OM SM XM))) : AW p l e room_1 s m args below meth c G A 68 ad (shL G ad) 4 600000 7302250 Q 1422 [(3, .int xi), (0, .ref b), (1, .ref (ad 0)), (2, .ref (ad 54))] [] (mkL (mkX O N K T B R S H Z) (mkM OM SM XM)) := by
  obtain ⟨⟨nT, mm, rp, hmm⟩, i4, iK, ⟨bn, tr⟩, ⟨cn, c6, c10, e13, rR⟩, rs, rh, dr⟩ := id inv
  have hm : mm + 61 < 2 ^ 31 := by omega
  have hx0 : IX xi (i + 0) L := IX.eqn hxi (by omega) (by omega)
  have hx1 : IX (xi + 1) (i + 1) L := IX.eqn (by rw [hxi, show (1 : Int32) = nI 1 from rfl, nI_add]) (by omega) (by omega)
  have hx2 : IX (xi + 2) (i + 2) L := IX.eqn (by rw [hxi, show (2 : Int32) = nI 2 from rfl, nI_add]) (by omega) (by omega)
  have hx3 : IX (xi + 3) (i + 3) L := IX.eqn (by rw [hxi, show (3 : Int32) = nI 3 from rfl, nI_add]) (by omega) (by omega)
  have hx4 : IX (xi + 4) (i + 4) L := IX.eqn (by rw [hxi, show (4 : Int32) = nI 4 from rfl, nI_add]) (by omega) (by omega)
  refine a_aload_n C0 2 dL_law_1422 rfl rfl ?_
  refine a_aload_n C0 1 dL_law_1423 rfl rfl ?_
  refine a_iload_n C0 0 dL_law_1424 rfl rfl ?_
  refine a_iconst C0 1 dL_law_1425 rfl ?_
  refine a_iadd C0 dL_law_1426 ?_
  refine a_sld C0 hX hbl hbA (i + 1) hx1.1 hx1.2 dL_law_1427 ?_
  refine a_aload_n C0 1 dL_law_1428 rfl rfl ?_
  refine a_iload_n C0 0 dL_law_1429 rfl rfl ?_
  refine a_iconst C0 2 dL_law_1430 rfl ?_
  refine a_iadd C0 dL_law_1431 ?_
  refine a_sld C0 hX hbl hbA (i + 2) hx2.1 hx2.2 dL_law_1432 ?_
  refine a_aload_n C0 1 dL_law_1433 rfl rfl ?_
  refine a_iload_n C0 0 dL_law_1434 rfl rfl ?_
  refine a_iconst C0 3 dL_law_1435 rfl ?_
  refine a_iadd C0 dL_law_1436 ?_
  refine a_sld C0 hX hbl hbA (i + 3) hx3.1 hx3.2 dL_law_1437 ?_
  refine a_callV _ 3 C0 em_LX (c_X5_sheet l G rfl (ad := ad)) u_c_X5_sheet u_m_L_167 u_im_X5_sheet u_se_X5_sheet u_in_X5 hy_X5_sheet rfl (lt_b rfl) rfl (hRk rfl) rfl rfl (le_b rfl) dL_law_1438 (k_de ?_)
  refine a_aload_n C0 3 dL_law_1441 rfl rfl ?_
  refine a_aload_n C0 1 dL_law_1442 rfl rfl ?_
  refine a_iload_n C0 0 dL_law_1443 rfl rfl ?_
  refine a_iconst C0 1 dL_law_1444 rfl ?_
  refine a_iadd C0 dL_law_1445 ?_
  refine a_sld C0 hX hbl hbA (i + 1) hx1.1 hx1.2 dL_law_1446 ?_
  refine a_aload_n C0 1 dL_law_1447 rfl rfl ?_
  refine a_iload_n C0 0 dL_law_1448 rfl rfl ?_
  refine a_iconst C0 2 dL_law_1449 rfl ?_
  refine a_iadd C0 dL_law_1450 ?_
  refine a_sld C0 hX hbl hbA (i + 2) hx2.1 hx2.2 dL_law_1451 ?_
  refine a_aload_n C0 1 dL_law_1452 rfl rfl ?_
  refine a_iload_n C0 0 dL_law_1453 rfl rfl ?_
  refine a_iconst C0 3 dL_law_1454 rfl ?_
  refine a_iadd C0 dL_law_1455 ?_
  refine a_sld C0 hX hbl hbA (i + 3) hx3.1 hx3.2 dL_law_1456 ?_
  refine a_callV _ 3 C0 em_LM (c_X6_sheet l G rs rfl (ad := fun k => ad (54 + k))) u_c_X6_sheet u_m_L_170 u_im_X6_sheet u_se_X6_sheet u_in_X6 hy_X6_sheet rfl (lt_b rfl) rfl (hRk rfl) rfl rfl (le_b rfl) dL_law_1457 (k_i fun r1457 u1457 q1457 => ?_)
  obtain ⟨rfl, X2, rfl, hX2, hr2⟩ := q1457
  refine a_icmp_eq C0 1742 dL_law_1460 rfl (fun h1460 => ?_) (fun h1460 => ?_)
  · exact kk _ _ _ _ _ _ _ _ _ _ _ _ (inv.sheet hX2 hr2)
  · exact (h1460 rfl).elim
set_option maxRecDepth 100000 in
set_option maxHeartbeats 4000000 in
theorem lc_37 (C0 : Cx p s m args meth c G A 68 ad cL_law RL 4) (hX : va_X b L xs s s.heap) (hbl : b < s.heap.size) (hbA : ¬ A b) (hxi : xi = nI i) (hi : i + 5 ≤ L) (hL : L ≤ 2560) (hmb : mb ≤ 61 * 600) (inv : INV mb O N K B R S H Z OM SM XM) (kk : ∀ (O : RW) (N K T B R S H Z : WM) (OM SM : RW) (XM : WM), INV (mb + 61) O N K B R S H Z OM SM XM → AW p l e room_1 s m args below meth c G A 68 ad (shL G ad) 4 600000 7302250 Q 1742 [(3, .int xi), (0, .ref b), (1, .ref (ad 0)), (2, .ref (ad 54))] [] (mkL (mkX O N K T B R S H Z) (mkM OM SM XM))) : AW p l e room_1 s m args below meth c G A 68 ad (shL G ad) 4 600000 7302250 Q 1465 [(3, .int xi), (0, .ref b), (1, .ref (ad 0)), (2, .ref (ad 54))] [] (mkL (mkX O N K T B R S H Z) (mkM OM SM XM)) := by
  obtain ⟨⟨nT, mm, rp, hmm⟩, i4, iK, ⟨bn, tr⟩, ⟨cn, c6, c10, e13, rR⟩, rs, rh, dr⟩ := id inv
  have hm : mm + 61 < 2 ^ 31 := by omega
  have hx0 : IX xi (i + 0) L := IX.eqn hxi (by omega) (by omega)
  have hx1 : IX (xi + 1) (i + 1) L := IX.eqn (by rw [hxi, show (1 : Int32) = nI 1 from rfl, nI_add]) (by omega) (by omega)
  have hx2 : IX (xi + 2) (i + 2) L := IX.eqn (by rw [hxi, show (2 : Int32) = nI 2 from rfl, nI_add]) (by omega) (by omega)
  have hx3 : IX (xi + 3) (i + 3) L := IX.eqn (by rw [hxi, show (3 : Int32) = nI 3 from rfl, nI_add]) (by omega) (by omega)
  have hx4 : IX (xi + 4) (i + 4) L := IX.eqn (by rw [hxi, show (4 : Int32) = nI 4 from rfl, nI_add]) (by omega) (by omega)
  obtain ⟨cs9, hcn, hcn40⟩ := rs.cnv (xs (i + 1))
  refine a_aload_n C0 2 dL_law_1465 rfl rfl ?_
  refine a_aload_n C0 1 dL_law_1466 rfl rfl ?_
  refine a_iload_n C0 0 dL_law_1467 rfl rfl ?_
  refine a_iconst C0 1 dL_law_1468 rfl ?_
  refine a_iadd C0 dL_law_1469 ?_
  refine a_sld C0 hX hbl hbA (i + 1) hx1.1 hx1.2 dL_law_1470 ?_
  refine a_aload_n C0 1 dL_law_1471 rfl rfl ?_
  refine a_iload_n C0 0 dL_law_1472 rfl rfl ?_
  refine a_iconst C0 2 dL_law_1473 rfl ?_
  refine a_iadd C0 dL_law_1474 ?_
  refine a_sld C0 hX hbl hbA (i + 2) hx2.1 hx2.2 dL_law_1475 ?_
  refine a_aload_n C0 1 dL_law_1476 rfl rfl ?_
  refine a_iload_n C0 0 dL_law_1477 rfl rfl ?_
  refine a_iconst C0 3 dL_law_1478 rfl ?_
  refine a_iadd C0 dL_law_1479 ?_
  refine a_sld C0 hX hbl hbA (i + 3) hx3.1 hx3.2 dL_law_1480 ?_
  refine a_callV _ 3 C0 em_LX (c_X5_put l G hcn hcn40 rfl (ad := ad)) u_c_X5_put u_m_L_171 u_im_X5_put u_se_X5_put u_in_X5 hy_X5_put rfl (lt_b rfl) rfl (hRk rfl) rfl rfl (le_b rfl) dL_law_1481 (k_de ?_)
  refine a_aload_n C0 3 dL_law_1484 rfl rfl ?_
  refine a_aload_n C0 1 dL_law_1485 rfl rfl ?_
  refine a_iload_n C0 0 dL_law_1486 rfl rfl ?_
  refine a_iconst C0 1 dL_law_1487 rfl ?_
  refine a_iadd C0 dL_law_1488 ?_
  refine a_sld C0 hX hbl hbA (i + 1) hx1.1 hx1.2 dL_law_1489 ?_
  refine a_aload_n C0 1 dL_law_1490 rfl rfl ?_
  refine a_iload_n C0 0 dL_law_1491 rfl rfl ?_
  refine a_iconst C0 2 dL_law_1492 rfl ?_
  refine a_iadd C0 dL_law_1493 ?_
  refine a_sld C0 hX hbl hbA (i + 2) hx2.1 hx2.2 dL_law_1494 ?_
  refine a_aload_n C0 1 dL_law_1495 rfl rfl ?_
  refine a_iload_n C0 0 dL_law_1496 rfl rfl ?_
  refine a_iconst C0 3 dL_law_1497 rfl ?_
  refine a_iadd C0 dL_law_1498 ?_
  refine a_sld C0 hX hbl hbA (i + 3) hx3.1 hx3.2 dL_law_1499 ?_
  refine a_callV _ 3 C0 em_LM (c_X6_put l G rs hcn hcn40 rfl (ad := fun k => ad (54 + k))) u_c_X6_put u_m_L_174 u_im_X6_put u_se_X6_put u_in_X6 hy_X6_put rfl (lt_b rfl) rfl (hRk rfl) rfl rfl (le_b rfl) dL_law_1500 (k_i fun r1500 u1500 q1500 => ?_)
  obtain ⟨rfl, X2, rfl, hX2, hr2⟩ := q1500
  refine a_icmp_eq C0 1742 dL_law_1503 rfl (fun h1503 => ?_) (fun h1503 => ?_)
  · exact kk _ _ _ _ _ _ _ _ _ _ _ _ (inv.sheet hX2 hr2)
  · exact (h1503 rfl).elim
set_option maxRecDepth 100000 in
set_option maxHeartbeats 4000000 in
theorem lc_38 (C0 : Cx p s m args meth c G A 68 ad cL_law RL 4) (hX : va_X b L xs s s.heap) (hbl : b < s.heap.size) (hbA : ¬ A b) (hxi : xi = nI i) (hi : i + 5 ≤ L) (hL : L ≤ 2560) (hmb : mb ≤ 61 * 600) (inv : INV mb O N K B R S H Z OM SM XM) (kk : ∀ (O : RW) (N K T B R S H Z : WM) (OM SM : RW) (XM : WM), INV (mb + 61) O N K B R S H Z OM SM XM → AW p l e room_1 s m args below meth c G A 68 ad (shL G ad) 4 600000 7302250 Q 1742 [(3, .int xi), (0, .ref b), (1, .ref (ad 0)), (2, .ref (ad 54))] [] (mkL (mkX O N K T B R S H Z) (mkM OM SM XM))) : AW p l e room_1 s m args below meth c G A 68 ad (shL G ad) 4 600000 7302250 Q 1508 [(3, .int xi), (0, .ref b), (1, .ref (ad 0)), (2, .ref (ad 54))] [] (mkL (mkX O N K T B R S H Z) (mkM OM SM XM)) := by
  obtain ⟨⟨nT, mm, rp, hmm⟩, i4, iK, ⟨bn, tr⟩, ⟨cn, c6, c10, e13, rR⟩, rs, rh, dr⟩ := id inv
  have hm : mm + 61 < 2 ^ 31 := by omega
  have hx0 : IX xi (i + 0) L := IX.eqn hxi (by omega) (by omega)
  have hx1 : IX (xi + 1) (i + 1) L := IX.eqn (by rw [hxi, show (1 : Int32) = nI 1 from rfl, nI_add]) (by omega) (by omega)
  have hx2 : IX (xi + 2) (i + 2) L := IX.eqn (by rw [hxi, show (2 : Int32) = nI 2 from rfl, nI_add]) (by omega) (by omega)
  have hx3 : IX (xi + 3) (i + 3) L := IX.eqn (by rw [hxi, show (3 : Int32) = nI 3 from rfl, nI_add]) (by omega) (by omega)
  have hx4 : IX (xi + 4) (i + 4) L := IX.eqn (by rw [hxi, show (4 : Int32) = nI 4 from rfl, nI_add]) (by omega) (by omega)
  obtain ⟨cs9, hcn, hcn40⟩ := rs.cnv (xs (i + 1))
  refine a_aload_n C0 2 dL_law_1508 rfl rfl ?_
  refine a_aload_n C0 1 dL_law_1509 rfl rfl ?_
  refine a_iload_n C0 0 dL_law_1510 rfl rfl ?_
  refine a_iconst C0 1 dL_law_1511 rfl ?_
  refine a_iadd C0 dL_law_1512 ?_
  refine a_sld C0 hX hbl hbA (i + 1) hx1.1 hx1.2 dL_law_1513 ?_
  refine a_aload_n C0 1 dL_law_1514 rfl rfl ?_
  refine a_iload_n C0 0 dL_law_1515 rfl rfl ?_
  refine a_iconst C0 2 dL_law_1516 rfl ?_
  refine a_iadd C0 dL_law_1517 ?_
  refine a_sld C0 hX hbl hbA (i + 2) hx2.1 hx2.2 dL_law_1518 ?_
  refine a_aload_n C0 1 dL_law_1519 rfl rfl ?_
  refine a_iload_n C0 0 dL_law_1520 rfl rfl ?_
  refine a_iconst C0 3 dL_law_1521 rfl ?_
  refine a_iadd C0 dL_law_1522 ?_
  refine a_sld C0 hX hbl hbA (i + 3) hx3.1 hx3.2 dL_law_1523 ?_
  refine a_callV _ 3 C0 em_LX (c_X5_item l G hcn hcn40 rfl (ad := ad)) u_c_X5_item u_m_L_175 u_im_X5_item u_se_X5_item u_in_X5 hy_X5_item rfl (lt_b rfl) rfl (hRk rfl) rfl rfl (le_b rfl) dL_law_1524 (k_ro em_LX ?_)
  refine a_aload_n C0 3 dL_law_1527 rfl rfl ?_
  refine a_aload_n C0 1 dL_law_1528 rfl rfl ?_
  refine a_iload_n C0 0 dL_law_1529 rfl rfl ?_
  refine a_iconst C0 1 dL_law_1530 rfl ?_
  refine a_iadd C0 dL_law_1531 ?_
  refine a_sld C0 hX hbl hbA (i + 1) hx1.1 hx1.2 dL_law_1532 ?_
  refine a_aload_n C0 1 dL_law_1533 rfl rfl ?_
  refine a_iload_n C0 0 dL_law_1534 rfl rfl ?_
  refine a_iconst C0 2 dL_law_1535 rfl ?_
  refine a_iadd C0 dL_law_1536 ?_
  refine a_sld C0 hX hbl hbA (i + 2) hx2.1 hx2.2 dL_law_1537 ?_
  refine a_aload_n C0 1 dL_law_1538 rfl rfl ?_
  refine a_iload_n C0 0 dL_law_1539 rfl rfl ?_
  refine a_iconst C0 3 dL_law_1540 rfl ?_
  refine a_iadd C0 dL_law_1541 ?_
  refine a_sld C0 hX hbl hbA (i + 3) hx3.1 hx3.2 dL_law_1542 ?_
  refine a_callV _ 3 C0 em_LM (c_X6_item l G rs hcn hcn40 rfl (ad := fun k => ad (54 + k))) u_c_X6_item u_m_L_178 u_im_X6_item u_se_X6_item u_in_X6 hy_X6_item rfl (lt_b rfl) rfl (hRk rfl) rfl rfl (le_b rfl) dL_law_1543 (k_ro em_LM ?_)
  refine a_icmp_eq C0 1742 dL_law_1546 rfl (fun h1546 => ?_) (fun h1546 => ?_)
  · exact kk _ _ _ _ _ _ _ _ _ _ _ _ (inv.up)
  · exact (h1546 rfl).elim
set_option maxRecDepth 100000 in
set_option maxHeartbeats 4000000 in
theorem lc_39 (C0 : Cx p s m args meth c G A 68 ad cL_law RL 4) (hX : va_X b L xs s s.heap) (hbl : b < s.heap.size) (hbA : ¬ A b) (hxi : xi = nI i) (hi : i + 5 ≤ L) (hL : L ≤ 2560) (hmb : mb ≤ 61 * 600) (inv : INV mb O N K B R S H Z OM SM XM) (kk : ∀ (O : RW) (N K T B R S H Z : WM) (OM SM : RW) (XM : WM), INV (mb + 61) O N K B R S H Z OM SM XM → AW p l e room_1 s m args below meth c G A 68 ad (shL G ad) 4 600000 7302250 Q 1742 [(3, .int xi), (0, .ref b), (1, .ref (ad 0)), (2, .ref (ad 54))] [] (mkL (mkX O N K T B R S H Z) (mkM OM SM XM))) : AW p l e room_1 s m args below meth c G A 68 ad (shL G ad) 4 600000 7302250 Q 1551 [(3, .int xi), (0, .ref b), (1, .ref (ad 0)), (2, .ref (ad 54))] [] (mkL (mkX O N K T B R S H Z) (mkM OM SM XM)) := by
  obtain ⟨⟨nT, mm, rp, hmm⟩, i4, iK, ⟨bn, tr⟩, ⟨cn, c6, c10, e13, rR⟩, rs, rh, dr⟩ := id inv
  have hm : mm + 61 < 2 ^ 31 := by omega
  have hx0 : IX xi (i + 0) L := IX.eqn hxi (by omega) (by omega)
  have hx1 : IX (xi + 1) (i + 1) L := IX.eqn (by rw [hxi, show (1 : Int32) = nI 1 from rfl, nI_add]) (by omega) (by omega)
  have hx2 : IX (xi + 2) (i + 2) L := IX.eqn (by rw [hxi, show (2 : Int32) = nI 2 from rfl, nI_add]) (by omega) (by omega)
  have hx3 : IX (xi + 3) (i + 3) L := IX.eqn (by rw [hxi, show (3 : Int32) = nI 3 from rfl, nI_add]) (by omega) (by omega)
  have hx4 : IX (xi + 4) (i + 4) L := IX.eqn (by rw [hxi, show (4 : Int32) = nI 4 from rfl, nI_add]) (by omega) (by omega)
  refine a_aload_n C0 2 dL_law_1551 rfl rfl ?_
  refine a_aload_n C0 1 dL_law_1552 rfl rfl ?_
  refine a_iload_n C0 0 dL_law_1553 rfl rfl ?_
  refine a_iconst C0 1 dL_law_1554 rfl ?_
  refine a_iadd C0 dL_law_1555 ?_
  refine a_sld C0 hX hbl hbA (i + 1) hx1.1 hx1.2 dL_law_1556 ?_
  refine a_aload_n C0 1 dL_law_1557 rfl rfl ?_
  refine a_iload_n C0 0 dL_law_1558 rfl rfl ?_
  refine a_iconst C0 2 dL_law_1559 rfl ?_
  refine a_iadd C0 dL_law_1560 ?_
  refine a_sld C0 hX hbl hbA (i + 2) hx2.1 hx2.2 dL_law_1561 ?_
  refine a_aload_n C0 1 dL_law_1562 rfl rfl ?_
  refine a_iload_n C0 0 dL_law_1563 rfl rfl ?_
  refine a_iconst C0 3 dL_law_1564 rfl ?_
  refine a_iadd C0 dL_law_1565 ?_
  refine a_sld C0 hX hbl hbA (i + 3) hx3.1 hx3.2 dL_law_1566 ?_
  refine a_callV _ 3 C0 em_LX (c_X5_shelf l G rfl (ad := ad)) u_c_X5_shelf u_m_L_179 u_im_X5_shelf u_se_X5_shelf u_in_X5 hy_X5_shelf rfl (lt_b rfl) rfl (hRk rfl) rfl rfl (le_b rfl) dL_law_1567 (k_de ?_)
  refine a_aload_n C0 3 dL_law_1570 rfl rfl ?_
  refine a_aload_n C0 1 dL_law_1571 rfl rfl ?_
  refine a_iload_n C0 0 dL_law_1572 rfl rfl ?_
  refine a_iconst C0 1 dL_law_1573 rfl ?_
  refine a_iadd C0 dL_law_1574 ?_
  refine a_sld C0 hX hbl hbA (i + 1) hx1.1 hx1.2 dL_law_1575 ?_
  refine a_aload_n C0 1 dL_law_1576 rfl rfl ?_
  refine a_iload_n C0 0 dL_law_1577 rfl rfl ?_
  refine a_iconst C0 2 dL_law_1578 rfl ?_
  refine a_iadd C0 dL_law_1579 ?_
  refine a_sld C0 hX hbl hbA (i + 2) hx2.1 hx2.2 dL_law_1580 ?_
  refine a_aload_n C0 1 dL_law_1581 rfl rfl ?_
  refine a_iload_n C0 0 dL_law_1582 rfl rfl ?_
  refine a_iconst C0 3 dL_law_1583 rfl ?_
  refine a_iadd C0 dL_law_1584 ?_
  refine a_sld C0 hX hbl hbA (i + 3) hx3.1 hx3.2 dL_law_1585 ?_
  refine a_callV _ 3 C0 em_LM (c_X6_shelf l G rp rs rh rfl (ad := fun k => ad (54 + k))) u_c_X6_shelf u_m_L_182 u_im_X6_shelf u_se_X6_shelf u_in_X6 hy_X6_shelf rfl (lt_b rfl) rfl (hRk rfl) rfl rfl (le_b rfl) dL_law_1586 (k_i fun r1586 u1586 q1586 => ?_)
  obtain ⟨rfl, X2, rfl, hX2, hr2⟩ := q1586
  refine a_icmp_eq C0 1742 dL_law_1589 rfl (fun h1589 => ?_) (fun h1589 => ?_)
  · exact kk _ _ _ _ _ _ _ _ _ _ _ _ (inv.shelf hX2 hr2)
  · exact (h1589 rfl).elim
set_option maxRecDepth 100000 in
set_option maxHeartbeats 4000000 in
theorem lc_40 (C0 : Cx p s m args meth c G A 68 ad cL_law RL 4) (hX : va_X b L xs s s.heap) (hbl : b < s.heap.size) (hbA : ¬ A b) (hxi : xi = nI i) (hi : i + 5 ≤ L) (hL : L ≤ 2560) (hmb : mb ≤ 61 * 600) (inv : INV mb O N K B R S H Z OM SM XM) (kk : ∀ (O : RW) (N K T B R S H Z : WM) (OM SM : RW) (XM : WM), INV (mb + 61) O N K B R S H Z OM SM XM → AW p l e room_1 s m args below meth c G A 68 ad (shL G ad) 4 600000 7302250 Q 1742 [(3, .int xi), (0, .ref b), (1, .ref (ad 0)), (2, .ref (ad 54))] [] (mkL (mkX O N K T B R S H Z) (mkM OM SM XM))) : AW p l e room_1 s m args below meth c G A 68 ad (shL G ad) 4 600000 7302250 Q 1594 [(3, .int xi), (0, .ref b), (1, .ref (ad 0)), (2, .ref (ad 54))] [] (mkL (mkX O N K T B R S H Z) (mkM OM SM XM)) := by
  obtain ⟨⟨nT, mm, rp, hmm⟩, i4, iK, ⟨bn, tr⟩, ⟨cn, c6, c10, e13, rR⟩, rs, rh, dr⟩ := id inv
  have hm : mm + 61 < 2 ^ 31 := by omega
  have hx0 : IX xi (i + 0) L := IX.eqn hxi (by omega) (by omega)
  have hx1 : IX (xi + 1) (i + 1) L := IX.eqn (by rw [hxi, show (1 : Int32) = nI 1 from rfl, nI_add]) (by omega) (by omega)
  have hx2 : IX (xi + 2) (i + 2) L := IX.eqn (by rw [hxi, show (2 : Int32) = nI 2 from rfl, nI_add]) (by omega) (by omega)
  have hx3 : IX (xi + 3) (i + 3) L := IX.eqn (by rw [hxi, show (3 : Int32) = nI 3 from rfl, nI_add]) (by omega) (by omega)
  have hx4 : IX (xi + 4) (i + 4) L := IX.eqn (by rw [hxi, show (4 : Int32) = nI 4 from rfl, nI_add]) (by omega) (by omega)
  refine a_aload_n C0 2 dL_law_1594 rfl rfl ?_
  refine a_aload_n C0 1 dL_law_1595 rfl rfl ?_
  refine a_iload_n C0 0 dL_law_1596 rfl rfl ?_
  refine a_iconst C0 1 dL_law_1597 rfl ?_
  refine a_iadd C0 dL_law_1598 ?_
  refine a_sld C0 hX hbl hbA (i + 1) hx1.1 hx1.2 dL_law_1599 ?_
  refine a_aload_n C0 1 dL_law_1600 rfl rfl ?_
  refine a_iload_n C0 0 dL_law_1601 rfl rfl ?_
  refine a_iconst C0 2 dL_law_1602 rfl ?_
  refine a_iadd C0 dL_law_1603 ?_
  refine a_sld C0 hX hbl hbA (i + 2) hx2.1 hx2.2 dL_law_1604 ?_
  refine a_callV _ 2 C0 em_LX (c_X5_taken l G rp.w rfl (ad := ad)) u_c_X5_taken u_m_L_183 u_im_X5_taken u_se_X5_taken u_in_X5 hy_X5_taken rfl (lt_b rfl) rfl (hRk rfl) rfl rfl (le_b rfl) dL_law_1605 (k_ro em_LX ?_)
  refine a_aload_n C0 3 dL_law_1608 rfl rfl ?_
  refine a_aload_n C0 1 dL_law_1609 rfl rfl ?_
  refine a_iload_n C0 0 dL_law_1610 rfl rfl ?_
  refine a_iconst C0 1 dL_law_1611 rfl ?_
  refine a_iadd C0 dL_law_1612 ?_
  refine a_sld C0 hX hbl hbA (i + 1) hx1.1 hx1.2 dL_law_1613 ?_
  refine a_aload_n C0 1 dL_law_1614 rfl rfl ?_
  refine a_iload_n C0 0 dL_law_1615 rfl rfl ?_
  refine a_iconst C0 2 dL_law_1616 rfl ?_
  refine a_iadd C0 dL_law_1617 ?_
  refine a_sld C0 hX hbl hbA (i + 2) hx2.1 hx2.2 dL_law_1618 ?_
  refine a_callV _ 2 C0 em_LM (c_X6_taken l G rp rh rfl (ad := fun k => ad (54 + k))) u_c_X6_taken u_m_L_186 u_im_X6_taken u_se_X6_taken u_in_X6 hy_X6_taken rfl (lt_b rfl) rfl (hRk rfl) rfl rfl (le_b rfl) dL_law_1619 (k_ro em_LM ?_)
  refine a_icmp_eq C0 1742 dL_law_1622 rfl (fun h1622 => ?_) (fun h1622 => ?_)
  · exact kk _ _ _ _ _ _ _ _ _ _ _ _ (inv.up)
  · exact (h1622 rfl).elim
set_option maxRecDepth 100000 in
set_option maxHeartbeats 4000000 in
theorem lc_41 (C0 : Cx p s m args meth c G A 68 ad cL_law RL 4) (hX : va_X b L xs s s.heap) (hbl : b < s.heap.size) (hbA : ¬ A b) (hxi : xi = nI i) (hi : i + 5 ≤ L) (hL : L ≤ 2560) (hmb : mb ≤ 61 * 600) (inv : INV mb O N K B R S H Z OM SM XM) (kk : ∀ (O : RW) (N K T B R S H Z : WM) (OM SM : RW) (XM : WM), INV (mb + 61) O N K B R S H Z OM SM XM → AW p l e room_1 s m args below meth c G A 68 ad (shL G ad) 4 600000 7302250 Q 1742 [(3, .int xi), (0, .ref b), (1, .ref (ad 0)), (2, .ref (ad 54))] [] (mkL (mkX O N K T B R S H Z) (mkM OM SM XM))) : AW p l e room_1 s m args below meth c G A 68 ad (shL G ad) 4 600000 7302250 Q 1627 [(3, .int xi), (0, .ref b), (1, .ref (ad 0)), (2, .ref (ad 54))] [] (mkL (mkX O N K T B R S H Z) (mkM OM SM XM)) := by
  obtain ⟨⟨nT, mm, rp, hmm⟩, i4, iK, ⟨bn, tr⟩, ⟨cn, c6, c10, e13, rR⟩, rs, rh, dr⟩ := id inv
  have hm : mm + 61 < 2 ^ 31 := by omega
  have hx0 : IX xi (i + 0) L := IX.eqn hxi (by omega) (by omega)
  have hx1 : IX (xi + 1) (i + 1) L := IX.eqn (by rw [hxi, show (1 : Int32) = nI 1 from rfl, nI_add]) (by omega) (by omega)
  have hx2 : IX (xi + 2) (i + 2) L := IX.eqn (by rw [hxi, show (2 : Int32) = nI 2 from rfl, nI_add]) (by omega) (by omega)
  have hx3 : IX (xi + 3) (i + 3) L := IX.eqn (by rw [hxi, show (3 : Int32) = nI 3 from rfl, nI_add]) (by omega) (by omega)
  have hx4 : IX (xi + 4) (i + 4) L := IX.eqn (by rw [hxi, show (4 : Int32) = nI 4 from rfl, nI_add]) (by omega) (by omega)
  refine a_aload_n C0 2 dL_law_1627 rfl rfl ?_
  refine a_aload_n C0 1 dL_law_1628 rfl rfl ?_
  refine a_iload_n C0 0 dL_law_1629 rfl rfl ?_
  refine a_iconst C0 1 dL_law_1630 rfl ?_
  refine a_iadd C0 dL_law_1631 ?_
  refine a_sld C0 hX hbl hbA (i + 1) hx1.1 hx1.2 dL_law_1632 ?_
  refine a_aload_n C0 1 dL_law_1633 rfl rfl ?_
  refine a_iload_n C0 0 dL_law_1634 rfl rfl ?_
  refine a_iconst C0 2 dL_law_1635 rfl ?_
  refine a_iadd C0 dL_law_1636 ?_
  refine a_sld C0 hX hbl hbA (i + 2) hx2.1 hx2.2 dL_law_1637 ?_
  refine a_aload_n C0 1 dL_law_1638 rfl rfl ?_
  refine a_iload_n C0 0 dL_law_1639 rfl rfl ?_
  refine a_iconst C0 3 dL_law_1640 rfl ?_
  refine a_iadd C0 dL_law_1641 ?_
  refine a_sld C0 hX hbl hbA (i + 3) hx3.1 hx3.2 dL_law_1642 ?_
  refine a_callV _ 3 C0 em_LX (c_X5_act l G rp.w (fun t ht => vp_in_of (rp.kdw t ht) (by decide)) rfl (ad := ad)) u_c_X5_act u_m_L_187 u_im_X5_act u_se_X5_act u_in_X5 hy_X5_act rfl (lt_b rfl) rfl (hRk rfl) rfl rfl (le_b rfl) dL_law_1643 (k_de ?_)
  refine a_aload_n C0 3 dL_law_1646 rfl rfl ?_
  refine a_aload_n C0 1 dL_law_1647 rfl rfl ?_
  refine a_iload_n C0 0 dL_law_1648 rfl rfl ?_
  refine a_iconst C0 1 dL_law_1649 rfl ?_
  refine a_iadd C0 dL_law_1650 ?_
  refine a_sld C0 hX hbl hbA (i + 1) hx1.1 hx1.2 dL_law_1651 ?_
  refine a_aload_n C0 1 dL_law_1652 rfl rfl ?_
  refine a_iload_n C0 0 dL_law_1653 rfl rfl ?_
  refine a_iconst C0 2 dL_law_1654 rfl ?_
  refine a_iadd C0 dL_law_1655 ?_
  refine a_sld C0 hX hbl hbA (i + 2) hx2.1 hx2.2 dL_law_1656 ?_
  refine a_aload_n C0 1 dL_law_1657 rfl rfl ?_
  refine a_iload_n C0 0 dL_law_1658 rfl rfl ?_
  refine a_iconst C0 3 dL_law_1659 rfl ?_
  refine a_iadd C0 dL_law_1660 ?_
  refine a_sld C0 hX hbl hbA (i + 3) hx3.1 hx3.2 dL_law_1661 ?_
  refine a_callV _ 3 C0 em_LM (c_X6_act (Z := Z) l G rp rh dr rfl (ad := fun k => ad (54 + k))) u_c_X6_act u_m_L_190 u_im_X6_act u_se_X6_act u_in_X6 hy_X6_act rfl (lt_b rfl) rfl (hRk rfl) rfl rfl (le_b rfl) dL_law_1662 (k_i fun r1662 u1662 q1662 => ?_)
  obtain ⟨rfl, O2, X2, rfl, hr2, hE2⟩ := q1662
  refine a_icmp_eq C0 1742 dL_law_1665 rfl (fun h1665 => ?_) (fun h1665 => ?_)
  · exact kk _ _ _ _ _ _ _ _ _ _ _ _ (inv.act hr2 hE2)
  · exact (h1665 rfl).elim
set_option maxRecDepth 100000 in
set_option maxHeartbeats 4000000 in
theorem lc_42 (C0 : Cx p s m args meth c G A 68 ad cL_law RL 4) (hX : va_X b L xs s s.heap) (hbl : b < s.heap.size) (hbA : ¬ A b) (hxi : xi = nI i) (hi : i + 5 ≤ L) (hL : L ≤ 2560) (hmb : mb ≤ 61 * 600) (inv : INV mb O N K B R S H Z OM SM XM) (kk : ∀ (O : RW) (N K T B R S H Z : WM) (OM SM : RW) (XM : WM), INV (mb + 61) O N K B R S H Z OM SM XM → AW p l e room_1 s m args below meth c G A 68 ad (shL G ad) 4 600000 7302250 Q 1742 [(3, .int xi), (0, .ref b), (1, .ref (ad 0)), (2, .ref (ad 54))] [] (mkL (mkX O N K T B R S H Z) (mkM OM SM XM))) : AW p l e room_1 s m args below meth c G A 68 ad (shL G ad) 4 600000 7302250 Q 1670 [(3, .int xi), (0, .ref b), (1, .ref (ad 0)), (2, .ref (ad 54))] [] (mkL (mkX O N K T B R S H Z) (mkM OM SM XM)) := by
  obtain ⟨⟨nT, mm, rp, hmm⟩, i4, iK, ⟨bn, tr⟩, ⟨cn, c6, c10, e13, rR⟩, rs, rh, dr⟩ := id inv
  have hm : mm + 61 < 2 ^ 31 := by omega
  have hx0 : IX xi (i + 0) L := IX.eqn hxi (by omega) (by omega)
  have hx1 : IX (xi + 1) (i + 1) L := IX.eqn (by rw [hxi, show (1 : Int32) = nI 1 from rfl, nI_add]) (by omega) (by omega)
  have hx2 : IX (xi + 2) (i + 2) L := IX.eqn (by rw [hxi, show (2 : Int32) = nI 2 from rfl, nI_add]) (by omega) (by omega)
  have hx3 : IX (xi + 3) (i + 3) L := IX.eqn (by rw [hxi, show (3 : Int32) = nI 3 from rfl, nI_add]) (by omega) (by omega)
  have hx4 : IX (xi + 4) (i + 4) L := IX.eqn (by rw [hxi, show (4 : Int32) = nI 4 from rfl, nI_add]) (by omega) (by omega)
  obtain ⟨n9, hn9, en9⟩ := dr.2.1
  refine a_aload_n C0 2 dL_law_1670 rfl rfl ?_
  refine a_aload_n C0 1 dL_law_1671 rfl rfl ?_
  refine a_iload_n C0 0 dL_law_1672 rfl rfl ?_
  refine a_iconst C0 1 dL_law_1673 rfl ?_
  refine a_iadd C0 dL_law_1674 ?_
  refine a_sld C0 hX hbl hbA (i + 1) hx1.1 hx1.2 dL_law_1675 ?_
  refine a_callV _ 1 C0 em_LX (c_X5_trace l G en9 hn9 rfl (ad := ad)) u_c_X5_trace u_m_L_191 u_im_X5_trace u_se_X5_trace u_in_X5 hy_X5_trace rfl (lt_b rfl) rfl (hRk rfl) rfl rfl (le_b rfl) dL_law_1676 (k_ro em_LX ?_)
  refine a_aload_n C0 3 dL_law_1679 rfl rfl ?_
  refine a_aload_n C0 1 dL_law_1680 rfl rfl ?_
  refine a_iload_n C0 0 dL_law_1681 rfl rfl ?_
  refine a_iconst C0 1 dL_law_1682 rfl ?_
  refine a_iadd C0 dL_law_1683 ?_
  refine a_sld C0 hX hbl hbA (i + 1) hx1.1 hx1.2 dL_law_1684 ?_
  refine a_callV _ 1 C0 em_LM (c_X6_trace l G dr.1.symm en9 hn9 dr.2.2.1 rfl (ad := fun k => ad (54 + k))) u_c_X6_trace u_m_L_194 u_im_X6_trace u_se_X6_trace u_in_X6 hy_X6_trace rfl (lt_b rfl) rfl (hRk rfl) rfl rfl (le_b rfl) dL_law_1685 (k_ro em_LM ?_)
  refine a_icmp_eq C0 1742 dL_law_1688 rfl (fun h1688 => ?_) (fun h1688 => ?_)
  · exact kk _ _ _ _ _ _ _ _ _ _ _ _ (inv.up)
  · exact (h1688 rfl).elim
set_option maxRecDepth 100000 in
set_option maxHeartbeats 4000000 in
theorem lc_43 (C0 : Cx p s m args meth c G A 68 ad cL_law RL 4) (hX : va_X b L xs s s.heap) (hbl : b < s.heap.size) (hbA : ¬ A b) (hxi : xi = nI i) (hi : i + 5 ≤ L) (hL : L ≤ 2560) (hmb : mb ≤ 61 * 600) (inv : INV mb O N K B R S H Z OM SM XM) (kk : ∀ (O : RW) (N K T B R S H Z : WM) (OM SM : RW) (XM : WM), INV (mb + 61) O N K B R S H Z OM SM XM → AW p l e room_1 s m args below meth c G A 68 ad (shL G ad) 4 600000 7302250 Q 1742 [(3, .int xi), (0, .ref b), (1, .ref (ad 0)), (2, .ref (ad 54))] [] (mkL (mkX O N K T B R S H Z) (mkM OM SM XM))) : AW p l e room_1 s m args below meth c G A 68 ad (shL G ad) 4 600000 7302250 Q 1693 [(3, .int xi), (0, .ref b), (1, .ref (ad 0)), (2, .ref (ad 54))] [] (mkL (mkX O N K T B R S H Z) (mkM OM SM XM)) := by
  obtain ⟨⟨nT, mm, rp, hmm⟩, i4, iK, ⟨bn, tr⟩, ⟨cn, c6, c10, e13, rR⟩, rs, rh, dr⟩ := id inv
  have hm : mm + 61 < 2 ^ 31 := by omega
  have hx0 : IX xi (i + 0) L := IX.eqn hxi (by omega) (by omega)
  have hx1 : IX (xi + 1) (i + 1) L := IX.eqn (by rw [hxi, show (1 : Int32) = nI 1 from rfl, nI_add]) (by omega) (by omega)
  have hx2 : IX (xi + 2) (i + 2) L := IX.eqn (by rw [hxi, show (2 : Int32) = nI 2 from rfl, nI_add]) (by omega) (by omega)
  have hx3 : IX (xi + 3) (i + 3) L := IX.eqn (by rw [hxi, show (3 : Int32) = nI 3 from rfl, nI_add]) (by omega) (by omega)
  have hx4 : IX (xi + 4) (i + 4) L := IX.eqn (by rw [hxi, show (4 : Int32) = nI 4 from rfl, nI_add]) (by omega) (by omega)
  refine a_aload_n C0 2 dL_law_1693 rfl rfl ?_
  refine a_aload_n C0 1 dL_law_1694 rfl rfl ?_
  refine a_iload_n C0 0 dL_law_1695 rfl rfl ?_
  refine a_iconst C0 1 dL_law_1696 rfl ?_
  refine a_iadd C0 dL_law_1697 ?_
  refine a_sld C0 hX hbl hbA (i + 1) hx1.1 hx1.2 dL_law_1698 ?_
  refine a_callV _ 1 C0 em_LX (c_X5_many l G rp.w rfl (ad := ad)) u_c_X5_many u_m_L_195 u_im_X5_many u_se_X5_many u_in_X5 hy_X5_many rfl (lt_b rfl) rfl (hRk rfl) rfl rfl (le_b rfl) dL_law_1699 (k_ro em_LX ?_)
  refine a_aload_n C0 3 dL_law_1702 rfl rfl ?_
  refine a_aload_n C0 1 dL_law_1703 rfl rfl ?_
  refine a_iload_n C0 0 dL_law_1704 rfl rfl ?_
  refine a_iconst C0 1 dL_law_1705 rfl ?_
  refine a_iadd C0 dL_law_1706 ?_
  refine a_sld C0 hX hbl hbA (i + 1) hx1.1 hx1.2 dL_law_1707 ?_
  refine a_callV _ 1 C0 em_LM (c_X6_many l G rp e13 (tr.2.1.trans tr.1.symm) dr.1.symm rfl (ad := fun k => ad (54 + k))) u_c_X6_many u_m_L_198 u_im_X6_many u_se_X6_many u_in_X6 hy_X6_many rfl (lt_b rfl) rfl (hRk rfl) rfl rfl (le_b rfl) dL_law_1708 (k_ro em_LM ?_)
  refine a_icmp_eq C0 1742 dL_law_1711 rfl (fun h1711 => ?_) (fun h1711 => ?_)
  · exact kk _ _ _ _ _ _ _ _ _ _ _ _ (inv.up)
  · exact (h1711 rfl).elim
set_option maxRecDepth 100000 in
set_option maxHeartbeats 4000000 in
theorem lc_44 (C0 : Cx p s m args meth c G A 68 ad cL_law RL 4) (hX : va_X b L xs s s.heap) (hbl : b < s.heap.size) (hbA : ¬ A b) (hxi : xi = nI i) (hi : i + 5 ≤ L) (hL : L ≤ 2560) (hmb : mb ≤ 61 * 600) (inv : INV mb O N K B R S H Z OM SM XM) (kk : ∀ (O : RW) (N K T B R S H Z : WM) (OM SM : RW) (XM : WM), INV (mb + 61) O N K B R S H Z OM SM XM → AW p l e room_1 s m args below meth c G A 68 ad (shL G ad) 4 600000 7302250 Q 1742 [(3, .int xi), (0, .ref b), (1, .ref (ad 0)), (2, .ref (ad 54))] [] (mkL (mkX O N K T B R S H Z) (mkM OM SM XM))) : AW p l e room_1 s m args below meth c G A 68 ad (shL G ad) 4 600000 7302250 Q 1716 [(3, .int xi), (0, .ref b), (1, .ref (ad 0)), (2, .ref (ad 54))] [] (mkL (mkX O N K T B R S H Z) (mkM OM SM XM)) := by
  obtain ⟨⟨nT, mm, rp, hmm⟩, i4, iK, ⟨bn, tr⟩, ⟨cn, c6, c10, e13, rR⟩, rs, rh, dr⟩ := id inv
  have hm : mm + 61 < 2 ^ 31 := by omega
  have hx0 : IX xi (i + 0) L := IX.eqn hxi (by omega) (by omega)
  have hx1 : IX (xi + 1) (i + 1) L := IX.eqn (by rw [hxi, show (1 : Int32) = nI 1 from rfl, nI_add]) (by omega) (by omega)
  have hx2 : IX (xi + 2) (i + 2) L := IX.eqn (by rw [hxi, show (2 : Int32) = nI 2 from rfl, nI_add]) (by omega) (by omega)
  have hx3 : IX (xi + 3) (i + 3) L := IX.eqn (by rw [hxi, show (3 : Int32) = nI 3 from rfl, nI_add]) (by omega) (by omega)
  have hx4 : IX (xi + 4) (i + 4) L := IX.eqn (by rw [hxi, show (4 : Int32) = nI 4 from rfl, nI_add]) (by omega) (by omega)
  refine a_aload_n C0 2 dL_law_1716 rfl rfl ?_
  refine a_callV _ 0 C0 em_LX (c_X5_keep l G rfl (ad := ad)) u_c_X5_keep u_m_L_199 u_im_X5_keep u_se_X5_keep u_in_X5 hy_X5_keep rfl (lt_b rfl) rfl (hRk rfl) rfl rfl (le_b rfl) dL_law_1717 (k_de ?_)
  refine a_aload_n C0 3 dL_law_1720 rfl rfl ?_
  refine a_callV _ 0 C0 em_LM (c_X6_keep l G rfl (ad := fun k => ad (54 + k))) u_c_X6_keep u_m_L_202 u_im_X6_keep u_se_X6_keep u_in_X6 hy_X6_keep rfl (lt_b rfl) rfl (hRk rfl) rfl rfl (le_b rfl) dL_law_1721 (k_i fun r1721 u1721 q1721 => ?_)
  obtain ⟨rfl, X2, rfl, hX2, h22⟩ := q1721
  refine a_icmp_eq C0 1742 dL_law_1724 rfl (fun h1724 => ?_) (fun h1724 => ?_)
  · exact kk _ _ _ _ _ _ _ _ _ _ _ _ (inv.keep hX2 h22)
  · exact (h1724 rfl).elim
set_option maxRecDepth 100000 in
set_option maxHeartbeats 4000000 in
theorem lc_45 (C0 : Cx p s m args meth c G A 68 ad cL_law RL 4) (hX : va_X b L xs s s.heap) (hbl : b < s.heap.size) (hbA : ¬ A b) (hxi : xi = nI i) (hi : i + 5 ≤ L) (hL : L ≤ 2560) (hmb : mb ≤ 61 * 600) (inv : INV mb O N K B R S H Z OM SM XM) (kk : ∀ (O : RW) (N K T B R S H Z : WM) (OM SM : RW) (XM : WM), INV (mb + 61) O N K B R S H Z OM SM XM → AW p l e room_1 s m args below meth c G A 68 ad (shL G ad) 4 600000 7302250 Q 1742 [(3, .int xi), (0, .ref b), (1, .ref (ad 0)), (2, .ref (ad 54))] [] (mkL (mkX O N K T B R S H Z) (mkM OM SM XM))) : AW p l e room_1 s m args below meth c G A 68 ad (shL G ad) 4 600000 7302250 Q 1729 [(3, .int xi), (0, .ref b), (1, .ref (ad 0)), (2, .ref (ad 54))] [] (mkL (mkX O N K T B R S H Z) (mkM OM SM XM)) := by
  obtain ⟨⟨nT, mm, rp, hmm⟩, i4, iK, ⟨bn, tr⟩, ⟨cn, c6, c10, e13, rR⟩, rs, rh, dr⟩ := id inv
  have hm : mm + 61 < 2 ^ 31 := by omega
  have hx0 : IX xi (i + 0) L := IX.eqn hxi (by omega) (by omega)
  have hx1 : IX (xi + 1) (i + 1) L := IX.eqn (by rw [hxi, show (1 : Int32) = nI 1 from rfl, nI_add]) (by omega) (by omega)
  have hx2 : IX (xi + 2) (i + 2) L := IX.eqn (by rw [hxi, show (2 : Int32) = nI 2 from rfl, nI_add]) (by omega) (by omega)
  have hx3 : IX (xi + 3) (i + 3) L := IX.eqn (by rw [hxi, show (3 : Int32) = nI 3 from rfl, nI_add]) (by omega) (by omega)
  have hx4 : IX (xi + 4) (i + 4) L := IX.eqn (by rw [hxi, show (4 : Int32) = nI 4 from rfl, nI_add]) (by omega) (by omega)
  refine a_aload_n C0 2 dL_law_1729 rfl rfl ?_
  refine a_callV _ 0 C0 em_LX (c_X5_again l G rfl (ad := ad)) u_c_X5_again u_m_L_203 u_im_X5_again u_se_X5_again u_in_X5 hy_X5_again rfl (lt_b rfl) rfl (hRk rfl) rfl rfl (le_b rfl) dL_law_1730 (k_de ?_)
  refine a_aload_n C0 3 dL_law_1733 rfl rfl ?_
  refine a_callV _ 0 C0 em_LM (c_X6_again l G rfl (ad := fun k => ad (54 + k))) u_c_X6_again u_m_L_206 u_im_X6_again u_se_X6_again u_in_X6 hy_X6_again rfl (lt_b rfl) rfl (hRk rfl) rfl rfl (le_b rfl) dL_law_1734 (k_i fun r1734 u1734 q1734 => ?_)
  obtain ⟨hr9, S2, rfl, hS2⟩ := q1734
  rw [inv.againR] at hr9
  subst hr9
  refine a_icmp_eq C0 1742 dL_law_1737 rfl (fun h1737 => ?_) (fun h1737 => ?_)
  · exact kk _ _ _ _ _ _ _ _ _ _ _ _ (inv.again hS2)
  · exact (h1737 rfl).elim
end LC
