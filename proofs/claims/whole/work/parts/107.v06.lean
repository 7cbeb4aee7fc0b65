section
variable {G : zG} {X X1 : zX} {Y : zY} {O : zO}
set_option maxRecDepth 100000 in
set_option maxHeartbeats 4000000 in
theorem q_10 {i kc ks : Nat} {e6 e7 e8 e9 : Option Value} {P : zRes → zWorld → Prop} (hg : good X Y) (hL : i + 5 ≤ G.L) (hL2 : G.L ≤ 2560) (hk : kc + 1 ≤ room_1.cells ∧ ks + 6 ≤ room_1.slots) (hx2 : lK G P i (kc + 1) (ks + 6)) : Z G mL_law room_1 kc ks 922 [some (.ref zSI), some (.ref 0), some (.ref 77), some (.ref 94), some (.ref 95), some (.int (nI i)), e6, e7, e8, e9] [] (zw X Y O) P := by
  refine z_aload_n (i := 1) dL_law_922 rfl rfl (q := 923) rfl ?_
  refine z_aload_n (i := 0) dL_law_923 rfl rfl (q := 924) rfl ?_
  refine z_iload dL_law_924 rfl (q := 926) rfl ?_
  refine z_iconst (v := 1) dL_law_926 rfl (q := 927) rfl ?_
  refine z_iadd dL_law_927 (q := 928) rfl ?_
  refine z_sld dL_law_928 (sinx (j := 1) hL hL2 (by decide)) (q := 929) rfl ?_
  refine z_aload_n (i := 3) dL_law_929 rfl rfl (q := 930) rfl ?_
  obtain ⟨S, hx, ho, hy, hb⟩ := p_inTheWay hg ((G.xs (nI i + 1).toNatClampNeg))
  refine z_callSW (As := [_, _, _]) dL_law_930 kL_173 (c_L_inTheWay (hx O) ho) rfl (zle rfl) ⟨zle rfl, zle rfl⟩ hk (q := 933) rfl (fun rv w2 hw2 => ?_) (fun E w2 hw2 => by obtain ⟨_, _, _, _, h9, _⟩ := hw2; cases h9)
  obtain ⟨r0, X2, O2, hS, h9, rfl, hO⟩ := hw2
  cases h9
  refine z_istore dL_law_933 (zle rfl) rfl (q := 935) rfl ?_
  refine z_aload_n (i := 2) dL_law_935 rfl rfl (q := 936) rfl ?_
  refine z_aload_n (i := 0) dL_law_936 rfl rfl (q := 937) rfl ?_
  refine z_iload dL_law_937 rfl (q := 939) rfl ?_
  refine z_iconst (v := 1) dL_law_939 rfl (q := 940) rfl ?_
  refine z_iadd dL_law_940 (q := 941) rfl ?_
  refine z_sld dL_law_941 (sinx (j := 1) hL hL2 (by decide)) (q := 942) rfl ?_
  refine z_callV (As := [_]) dL_law_942 kL_175 (hy r0 X2 O2 hS) (wm _ _ _) rfl rfl (zle rfl) ⟨zle rfl, zle rfl⟩ hk (q := 945) rfl (fun rv w2 hw2 => ?_) (fun E w2 hw2 => by obtain ⟨_, _, h9, _⟩ := hw2; cases h9)
  obtain ⟨Y2, a, h9, rfl, hth, ha, hg2⟩ := hw2
  cases h9
  refine z_istore dL_law_945 (zle rfl) rfl (q := 947) rfl ?_
  refine z_aload_n (i := 2) dL_law_947 rfl rfl (q := 948) rfl ?_
  refine z_callVF (As := []) dL_law_948 kL_137 (c_X9_thrown) (wm _ _ _) rfl rfl (zle rfl) ⟨zle rfl, zle rfl⟩ hk (q := 951) rfl ?_
  rw [hth]
  refine z_iload dL_law_951 rfl (q := 953) rfl ?_
  refine z_icmp_eq (tgt := 958) dL_law_953 (by decide) (q := 956) rfl (fun h953 => ?_) (fun h953 => absurd rfl h953)
  refine z_iload dL_law_958 rfl (q := 960) rfl ?_
  refine z_if_ne (tgt := 975) dL_law_960 (by decide) (q := 963) rfl (fun h960 => ?_) (fun h960 => ?_)
  · refine z_goto (tgt := 2306) dL_law_975 (by decide) ?_
    exact hx2 _ _ _ _ _ _ _ hg2
  · obtain ⟨v, rfl⟩ := lcode_0 (by decide) (ho _ _ hS) h960
    have hav := ha v rfl
    subst hav
    have hOv := hO a rfl
    refine z_aload_n (i := 3) dL_law_963 rfl rfl (q := 964) rfl ?_
    refine z_iconst (v := 0) dL_law_964 rfl (q := 965) rfl ?_
    refine z_lald dL_law_965 (wout _ _ _) (zin (k := 0) (by decide) (by decide)) (q := 966) rfl ?_
    refine Z.eqst (st2 := [.long a.toInt64]) (congrArg (fun x => [Value.long x]) hOv) ?_
    refine z_iload dL_law_966 rfl (q := 968) rfl ?_
    refine z_i2l dL_law_968 (q := 969) rfl ?_
    refine z_lcmp dL_law_969 (q := 970) rfl ?_
    rw [lg_self]
    refine z_if_eq (tgt := 975) dL_law_970 (by decide) (q := 973) rfl (fun h970 => ?_) (fun h970 => absurd rfl h970)
    refine z_goto (tgt := 2306) dL_law_975 (by decide) ?_
    exact hx2 _ _ _ _ _ _ _ hg2
set_option maxRecDepth 100000 in
set_option maxHeartbeats 4000000 in
theorem q_11 {i kc ks : Nat} {e6 e7 e8 e9 : Option Value} {P : zRes → zWorld → Prop} (hg : good X Y) (hL : i + 5 ≤ G.L) (hL2 : G.L ≤ 2560) (hk : kc + 1 ≤ room_1.cells ∧ ks + 6 ≤ room_1.slots) (hx2 : lK G P i (kc + 1) (ks + 6)) : Z G mL_law room_1 kc ks 978 [some (.ref zSI), some (.ref 0), some (.ref 77), some (.ref 94), some (.ref 95), some (.int (nI i)), e6, e7, e8, e9] [] (zw X Y O) P := by
  refine z_aload_n (i := 1) dL_law_978 rfl rfl (q := 979) rfl ?_
  refine z_aload_n (i := 0) dL_law_979 rfl rfl (q := 980) rfl ?_
  refine z_iload dL_law_980 rfl (q := 982) rfl ?_
  refine z_iconst (v := 1) dL_law_982 rfl (q := 983) rfl ?_
  refine z_iadd dL_law_983 (q := 984) rfl ?_
  refine z_sld dL_law_984 (sinx (j := 1) hL hL2 (by decide)) (q := 985) rfl ?_
  refine z_i2c dL_law_985 (q := 986) rfl ?_
  refine z_aload_n (i := 0) dL_law_986 rfl rfl (q := 987) rfl ?_
  refine z_iload dL_law_987 rfl (q := 989) rfl ?_
  refine z_iconst (v := 2) dL_law_989 rfl (q := 990) rfl ?_
  refine z_iadd dL_law_990 (q := 991) rfl ?_
  refine z_sld dL_law_991 (sinx (j := 2) hL hL2 (by decide)) (q := 992) rfl ?_
  refine z_aload_n (i := 0) dL_law_992 rfl rfl (q := 993) rfl ?_
  refine z_iload dL_law_993 rfl (q := 995) rfl ?_
  refine z_iconst (v := 3) dL_law_995 rfl (q := 996) rfl ?_
  refine z_iadd dL_law_996 (q := 997) rfl ?_
  refine z_sld dL_law_997 (sinx (j := 3) hL hL2 (by decide)) (q := 998) rfl ?_
  refine z_aload_n (i := 0) dL_law_998 rfl rfl (q := 999) rfl ?_
  refine z_iload dL_law_999 rfl (q := 1001) rfl ?_
  refine z_iconst (v := 4) dL_law_1001 rfl (q := 1002) rfl ?_
  refine z_iadd dL_law_1002 (q := 1003) rfl ?_
  refine z_sld dL_law_1003 (sinx (j := 4) hL hL2 (by decide)) (q := 1004) rfl ?_
  refine z_aload_n (i := 3) dL_law_1004 rfl rfl (q := 1005) rfl ?_
  obtain ⟨S, hx, ho, hy, hb⟩ := p_addWish hg (((G.xs (nI i + 1).toNatClampNeg).toUInt32 % 65536).toInt32) ((G.xs (nI i + 2).toNatClampNeg)) ((G.xs (nI i + 3).toNatClampNeg)) ((G.xs (nI i + 4).toNatClampNeg))
  refine z_callSW (As := [_, _, _, _, _, _]) dL_law_1005 kL_176 (c_L_addWish (hx O) ho) rfl (zle rfl) ⟨zle rfl, zle rfl⟩ hk (q := 1008) rfl (fun rv w2 hw2 => ?_) (fun E w2 hw2 => by obtain ⟨_, _, _, _, h9, _⟩ := hw2; cases h9)
  obtain ⟨r0, X2, O2, hS, h9, rfl, hO⟩ := hw2
  cases h9
  refine z_istore dL_law_1008 (zle rfl) rfl (q := 1010) rfl ?_
  refine z_aload_n (i := 2) dL_law_1010 rfl rfl (q := 1011) rfl ?_
  refine z_aload_n (i := 0) dL_law_1011 rfl rfl (q := 1012) rfl ?_
  refine z_iload dL_law_1012 rfl (q := 1014) rfl ?_
  refine z_iconst (v := 1) dL_law_1014 rfl (q := 1015) rfl ?_
  refine z_iadd dL_law_1015 (q := 1016) rfl ?_
  refine z_sld dL_law_1016 (sinx (j := 1) hL hL2 (by decide)) (q := 1017) rfl ?_
  refine z_i2c dL_law_1017 (q := 1018) rfl ?_
  refine z_aload_n (i := 0) dL_law_1018 rfl rfl (q := 1019) rfl ?_
  refine z_iload dL_law_1019 rfl (q := 1021) rfl ?_
  refine z_iconst (v := 2) dL_law_1021 rfl (q := 1022) rfl ?_
  refine z_iadd dL_law_1022 (q := 1023) rfl ?_
  refine z_sld dL_law_1023 (sinx (j := 2) hL hL2 (by decide)) (q := 1024) rfl ?_
  refine z_aload_n (i := 0) dL_law_1024 rfl rfl (q := 1025) rfl ?_
  refine z_iload dL_law_1025 rfl (q := 1027) rfl ?_
  refine z_iconst (v := 3) dL_law_1027 rfl (q := 1028) rfl ?_
  refine z_iadd dL_law_1028 (q := 1029) rfl ?_
  refine z_sld dL_law_1029 (sinx (j := 3) hL hL2 (by decide)) (q := 1030) rfl ?_
  refine z_aload_n (i := 0) dL_law_1030 rfl rfl (q := 1031) rfl ?_
  refine z_iload dL_law_1031 rfl (q := 1033) rfl ?_
  refine z_iconst (v := 4) dL_law_1033 rfl (q := 1034) rfl ?_
  refine z_iadd dL_law_1034 (q := 1035) rfl ?_
  refine z_sld dL_law_1035 (sinx (j := 4) hL hL2 (by decide)) (q := 1036) rfl ?_
  refine z_callV (As := [_, _, _, _]) dL_law_1036 kL_179 (hy r0 X2 O2 hS) (wm _ _ _) rfl rfl (zle rfl) ⟨zle rfl, zle rfl⟩ hk (q := 1039) rfl (fun rv w2 hw2 => ?_) (fun E w2 hw2 => by obtain ⟨_, _, h9, _⟩ := hw2; cases h9)
  obtain ⟨Y2, a, h9, rfl, hth, ha, hg2⟩ := hw2
  cases h9
  refine z_istore dL_law_1039 (zle rfl) rfl (q := 1041) rfl ?_
  refine z_aload_n (i := 2) dL_law_1041 rfl rfl (q := 1042) rfl ?_
  refine z_callVF (As := []) dL_law_1042 kL_137 (c_X9_thrown) (wm _ _ _) rfl rfl (zle rfl) ⟨zle rfl, zle rfl⟩ hk (q := 1045) rfl ?_
  rw [hth]
  refine z_iload dL_law_1045 rfl (q := 1047) rfl ?_
  refine z_icmp_eq (tgt := 1052) dL_law_1047 (by decide) (q := 1050) rfl (fun h1047 => ?_) (fun h1047 => absurd rfl h1047)
  refine z_iload dL_law_1052 rfl (q := 1054) rfl ?_
  refine z_if_ne (tgt := 1069) dL_law_1054 (by decide) (q := 1057) rfl (fun h1054 => ?_) (fun h1054 => ?_)
  · refine z_goto (tgt := 2306) dL_law_1069 (by decide) ?_
    exact hx2 _ _ _ _ _ _ _ hg2
  · obtain ⟨v, rfl⟩ := lcode_0 (by decide) (ho _ _ hS) h1054
    have hav := ha v rfl
    subst hav
    have hOv := hO a rfl
    refine z_aload_n (i := 3) dL_law_1057 rfl rfl (q := 1058) rfl ?_
    refine z_iconst (v := 0) dL_law_1058 rfl (q := 1059) rfl ?_
    refine z_lald dL_law_1059 (wout _ _ _) (zin (k := 0) (by decide) (by decide)) (q := 1060) rfl ?_
    refine Z.eqst (st2 := [.long a.toInt64]) (congrArg (fun x => [Value.long x]) hOv) ?_
    refine z_iload dL_law_1060 rfl (q := 1062) rfl ?_
    refine z_i2l dL_law_1062 (q := 1063) rfl ?_
    refine z_lcmp dL_law_1063 (q := 1064) rfl ?_
    rw [lg_self]
    refine z_if_eq (tgt := 1069) dL_law_1064 (by decide) (q := 1067) rfl (fun h1064 => ?_) (fun h1064 => absurd rfl h1064)
    refine z_goto (tgt := 2306) dL_law_1069 (by decide) ?_
    exact hx2 _ _ _ _ _ _ _ hg2
set_option maxRecDepth 100000 in
set_option maxHeartbeats 4000000 in
theorem q_12 {i kc ks : Nat} {e6 e7 e8 e9 : Option Value} {P : zRes → zWorld → Prop} (hg : good X Y) (hL : i + 5 ≤ G.L) (hL2 : G.L ≤ 2560) (hk : kc + 1 ≤ room_1.cells ∧ ks + 6 ≤ room_1.slots) (hx2 : lK G P i (kc + 1) (ks + 6)) : Z G mL_law room_1 kc ks 1072 [some (.ref zSI), some (.ref 0), some (.ref 77), some (.ref 94), some (.ref 95), some (.int (nI i)), e6, e7, e8, e9] [] (zw X Y O) P := by
  refine z_aload_n (i := 1) dL_law_1072 rfl rfl (q := 1073) rfl ?_
  refine z_aload_n (i := 0) dL_law_1073 rfl rfl (q := 1074) rfl ?_
  refine z_iload dL_law_1074 rfl (q := 1076) rfl ?_
  refine z_iconst (v := 1) dL_law_1076 rfl (q := 1077) rfl ?_
  refine z_iadd dL_law_1077 (q := 1078) rfl ?_
  refine z_sld dL_law_1078 (sinx (j := 1) hL hL2 (by decide)) (q := 1079) rfl ?_
  refine z_aload_n (i := 3) dL_law_1079 rfl rfl (q := 1080) rfl ?_
  obtain ⟨S, hx, ho, hy, hb⟩ := p_dropWish hg ((G.xs (nI i + 1).toNatClampNeg))
  refine z_callSW (As := [_, _, _]) dL_law_1080 kL_180 (c_L_dropWish (hx O) ho) rfl (zle rfl) ⟨zle rfl, zle rfl⟩ hk (q := 1083) rfl (fun rv w2 hw2 => ?_) (fun E w2 hw2 => by obtain ⟨_, _, _, _, h9, _⟩ := hw2; cases h9)
  obtain ⟨r0, X2, O2, hS, h9, rfl, hO⟩ := hw2
  cases h9
  refine z_istore dL_law_1083 (zle rfl) rfl (q := 1085) rfl ?_
  refine z_aload_n (i := 2) dL_law_1085 rfl rfl (q := 1086) rfl ?_
  refine z_aload_n (i := 0) dL_law_1086 rfl rfl (q := 1087) rfl ?_
  refine z_iload dL_law_1087 rfl (q := 1089) rfl ?_
  refine z_iconst (v := 1) dL_law_1089 rfl (q := 1090) rfl ?_
  refine z_iadd dL_law_1090 (q := 1091) rfl ?_
  refine z_sld dL_law_1091 (sinx (j := 1) hL hL2 (by decide)) (q := 1092) rfl ?_
  refine z_callV (As := [_]) dL_law_1092 kL_182 (hy r0 X2 O2 hS) (wm _ _ _) rfl rfl (zle rfl) ⟨zle rfl, zle rfl⟩ hk (q := 1095) rfl (fun rv w2 hw2 => ?_) (fun E w2 hw2 => by obtain ⟨_, _, h9, _⟩ := hw2; cases h9)
  obtain ⟨Y2, a, h9, rfl, hth, ha, hg2⟩ := hw2
  cases h9
  refine z_istore dL_law_1095 (zle rfl) rfl (q := 1097) rfl ?_
  refine z_aload_n (i := 2) dL_law_1097 rfl rfl (q := 1098) rfl ?_
  refine z_callVF (As := []) dL_law_1098 kL_137 (c_X9_thrown) (wm _ _ _) rfl rfl (zle rfl) ⟨zle rfl, zle rfl⟩ hk (q := 1101) rfl ?_
  rw [hth]
  refine z_iload dL_law_1101 rfl (q := 1103) rfl ?_
  refine z_icmp_eq (tgt := 1108) dL_law_1103 (by decide) (q := 1106) rfl (fun h1103 => ?_) (fun h1103 => absurd rfl h1103)
  refine z_iload dL_law_1108 rfl (q := 1110) rfl ?_
  refine z_if_ne (tgt := 1125) dL_law_1110 (by decide) (q := 1113) rfl (fun h1110 => ?_) (fun h1110 => ?_)
  · refine z_goto (tgt := 2306) dL_law_1125 (by decide) ?_
    exact hx2 _ _ _ _ _ _ _ hg2
  · obtain ⟨v, rfl⟩ := lcode_0 (by decide) (ho _ _ hS) h1110
    have hav := ha v rfl
    subst hav
    have hOv := hO a rfl
    refine z_aload_n (i := 3) dL_law_1113 rfl rfl (q := 1114) rfl ?_
    refine z_iconst (v := 0) dL_law_1114 rfl (q := 1115) rfl ?_
    refine z_lald dL_law_1115 (wout _ _ _) (zin (k := 0) (by decide) (by decide)) (q := 1116) rfl ?_
    refine Z.eqst (st2 := [.long a.toInt64]) (congrArg (fun x => [Value.long x]) hOv) ?_
    refine z_iload dL_law_1116 rfl (q := 1118) rfl ?_
    refine z_i2l dL_law_1118 (q := 1119) rfl ?_
    refine z_lcmp dL_law_1119 (q := 1120) rfl ?_
    rw [lg_self]
    refine z_if_eq (tgt := 1125) dL_law_1120 (by decide) (q := 1123) rfl (fun h1120 => ?_) (fun h1120 => absurd rfl h1120)
    refine z_goto (tgt := 2306) dL_law_1125 (by decide) ?_
    exact hx2 _ _ _ _ _ _ _ hg2
set_option maxRecDepth 100000 in
set_option maxHeartbeats 4000000 in
theorem q_13 {i kc ks : Nat} {e6 e7 e8 e9 : Option Value} {P : zRes → zWorld → Prop} (hg : good X Y) (hL : i + 5 ≤ G.L) (hL2 : G.L ≤ 2560) (hk : kc + 1 ≤ room_1.cells ∧ ks + 6 ≤ room_1.slots) (hx2 : lK G P i (kc + 1) (ks + 6)) : Z G mL_law room_1 kc ks 1128 [some (.ref zSI), some (.ref 0), some (.ref 77), some (.ref 94), some (.ref 95), some (.int (nI i)), e6, e7, e8, e9] [] (zw X Y O) P := by
  refine z_aload_n (i := 1) dL_law_1128 rfl rfl (q := 1129) rfl ?_
  refine z_aload_n (i := 0) dL_law_1129 rfl rfl (q := 1130) rfl ?_
  refine z_iload dL_law_1130 rfl (q := 1132) rfl ?_
  refine z_iconst (v := 1) dL_law_1132 rfl (q := 1133) rfl ?_
  refine z_iadd dL_law_1133 (q := 1134) rfl ?_
  refine z_sld dL_law_1134 (sinx (j := 1) hL hL2 (by decide)) (q := 1135) rfl ?_
  refine z_aload_n (i := 3) dL_law_1135 rfl rfl (q := 1136) rfl ?_
  obtain ⟨S, hx, ho, hy, hb⟩ := p_isMet hg ((G.xs (nI i + 1).toNatClampNeg))
  refine z_callSW (As := [_, _, _]) dL_law_1136 kL_183 (c_L_isMet (hx O) ho (hb rfl)) rfl (zle rfl) ⟨zle rfl, zle rfl⟩ hk (q := 1139) rfl (fun rv w2 hw2 => ?_) (fun E w2 hw2 => by obtain ⟨_, _, _, _, h9, _⟩ := hw2; cases h9)
  obtain ⟨r0, X2, O2, hS, h9, rfl, hO⟩ := hw2
  cases h9
  refine z_istore dL_law_1139 (zle rfl) rfl (q := 1141) rfl ?_
  refine z_aload_n (i := 2) dL_law_1141 rfl rfl (q := 1142) rfl ?_
  refine z_aload_n (i := 0) dL_law_1142 rfl rfl (q := 1143) rfl ?_
  refine z_iload dL_law_1143 rfl (q := 1145) rfl ?_
  refine z_iconst (v := 1) dL_law_1145 rfl (q := 1146) rfl ?_
  refine z_iadd dL_law_1146 (q := 1147) rfl ?_
  refine z_sld dL_law_1147 (sinx (j := 1) hL hL2 (by decide)) (q := 1148) rfl ?_
  refine z_callV (As := [_]) dL_law_1148 kL_185 (hy r0 X2 O2 hS) (wm _ _ _) rfl rfl (zle rfl) ⟨zle rfl, zle rfl⟩ hk (q := 1151) rfl (fun rv w2 hw2 => ?_) (fun E w2 hw2 => by obtain ⟨_, _, h9, _⟩ := hw2; cases h9)
  obtain ⟨Y2, a, h9, rfl, hth, ha, hg2⟩ := hw2
  cases h9
  refine z_istore dL_law_1151 (zle rfl) rfl (q := 1153) rfl ?_
  refine z_aload_n (i := 2) dL_law_1153 rfl rfl (q := 1154) rfl ?_
  refine z_callVF (As := []) dL_law_1154 kL_137 (c_X9_thrown) (wm _ _ _) rfl rfl (zle rfl) ⟨zle rfl, zle rfl⟩ hk (q := 1157) rfl ?_
  rw [hth]
  refine z_iload dL_law_1157 rfl (q := 1159) rfl ?_
  refine z_icmp_eq (tgt := 1164) dL_law_1159 (by decide) (q := 1162) rfl (fun h1159 => ?_) (fun h1159 => absurd rfl h1159)
  refine z_iload dL_law_1164 rfl (q := 1166) rfl ?_
  refine z_if_ne (tgt := 1188) dL_law_1166 (by decide) (q := 1169) rfl (fun h1166 => ?_) (fun h1166 => ?_)
  · refine z_goto (tgt := 2306) dL_law_1188 (by decide) ?_
    exact hx2 _ _ _ _ _ _ _ hg2
  · obtain ⟨v, rfl⟩ := lcode_0 (by decide) (ho _ _ hS) h1166
    have hav := ha v rfl
    subst hav
    have hOv := hO a rfl
    refine z_aload_n (i := 3) dL_law_1169 rfl rfl (q := 1170) rfl ?_
    refine z_iconst (v := 0) dL_law_1170 rfl (q := 1171) rfl ?_
    refine z_lald dL_law_1171 (wout _ _ _) (zin (k := 0) (by decide) (by decide)) (q := 1172) rfl ?_
    refine Z.eqst (st2 := [.long a.toInt64]) (congrArg (fun x => [Value.long x]) hOv) ?_
    refine z_iload dL_law_1172 rfl (q := 1174) rfl ?_
    refine z_if_eq (tgt := 1181) dL_law_1174 (by decide) (q := 1177) rfl (fun h1174 => ?_) (fun h1174 => ?_)
    · refine z_lconst (v := 0) dL_law_1181 rfl (q := 1182) rfl ?_
      refine z_lcmp dL_law_1182 (q := 1183) rfl ?_
      have ha0 : a = 0 := h1174
      subst ha0
      rw [lg_00]
      refine z_if_eq (tgt := 1188) dL_law_1183 (by decide) (q := 1186) rfl (fun h1183 => ?_) (fun h1183 => absurd rfl h1183)
      refine z_goto (tgt := 2306) dL_law_1188 (by decide) ?_
      exact hx2 _ _ _ _ _ _ _ hg2
    · refine z_lconst (v := 1) dL_law_1177 rfl (q := 1178) rfl ?_
      refine z_goto (tgt := 1182) dL_law_1178 (by decide) ?_
      refine z_lcmp dL_law_1182 (q := 1183) rfl ?_
      have ha1 : a = 1 := (hb rfl _ _ hS).resolve_left h1174
      subst ha1
      rw [lg_11]
      refine z_if_eq (tgt := 1188) dL_law_1183 (by decide) (q := 1186) rfl (fun h1183 => ?_) (fun h1183 => absurd rfl h1183)
      refine z_goto (tgt := 2306) dL_law_1188 (by decide) ?_
      exact hx2 _ _ _ _ _ _ _ hg2
set_option maxRecDepth 100000 in
set_option maxHeartbeats 4000000 in
theorem q_14 {i kc ks : Nat} {e6 e7 e8 e9 : Option Value} {P : zRes → zWorld → Prop} (hg : good X Y) (hL : i + 5 ≤ G.L) (hL2 : G.L ≤ 2560) (hk : kc + 1 ≤ room_1.cells ∧ ks + 6 ≤ room_1.slots) (hx2 : lK G P i (kc + 1) (ks + 6)) : Z G mL_law room_1 kc ks 1191 [some (.ref zSI), some (.ref 0), some (.ref 77), some (.ref 94), some (.ref 95), some (.int (nI i)), e6, e7, e8, e9] [] (zw X Y O) P := by
  refine z_aload_n (i := 1) dL_law_1191 rfl rfl (q := 1192) rfl ?_
  refine z_aload_n (i := 0) dL_law_1192 rfl rfl (q := 1193) rfl ?_
  refine z_iload dL_law_1193 rfl (q := 1195) rfl ?_
  refine z_iconst (v := 1) dL_law_1195 rfl (q := 1196) rfl ?_
  refine z_iadd dL_law_1196 (q := 1197) rfl ?_
  refine z_sld dL_law_1197 (sinx (j := 1) hL hL2 (by decide)) (q := 1198) rfl ?_
  refine z_i2c dL_law_1198 (q := 1199) rfl ?_
  refine z_aload_n (i := 3) dL_law_1199 rfl rfl (q := 1200) rfl ?_
  obtain ⟨S, hx, ho, hy, hb⟩ := p_strength hg (((G.xs (nI i + 1).toNatClampNeg).toUInt32 % 65536).toInt32)
  refine z_callSW (As := [_, _, _]) dL_law_1200 kL_186 (c_L_strength (hx O) ho) rfl (zle rfl) ⟨zle rfl, zle rfl⟩ hk (q := 1203) rfl (fun rv w2 hw2 => ?_) (fun E w2 hw2 => by obtain ⟨_, _, _, _, h9, _⟩ := hw2; cases h9)
  obtain ⟨r0, X2, O2, hS, h9, rfl, hO⟩ := hw2
  cases h9
  refine z_istore dL_law_1203 (zle rfl) rfl (q := 1205) rfl ?_
  refine z_aload_n (i := 2) dL_law_1205 rfl rfl (q := 1206) rfl ?_
  refine z_aload_n (i := 0) dL_law_1206 rfl rfl (q := 1207) rfl ?_
  refine z_iload dL_law_1207 rfl (q := 1209) rfl ?_
  refine z_iconst (v := 1) dL_law_1209 rfl (q := 1210) rfl ?_
  refine z_iadd dL_law_1210 (q := 1211) rfl ?_
  refine z_sld dL_law_1211 (sinx (j := 1) hL hL2 (by decide)) (q := 1212) rfl ?_
  refine z_i2c dL_law_1212 (q := 1213) rfl ?_
  refine z_callV (As := [_]) dL_law_1213 kL_189 (hy r0 X2 O2 hS) (wm _ _ _) rfl rfl (zle rfl) ⟨zle rfl, zle rfl⟩ hk (q := 1216) rfl (fun rv w2 hw2 => ?_) (fun E w2 hw2 => by obtain ⟨_, _, h9, _⟩ := hw2; cases h9)
  obtain ⟨Y2, a, h9, rfl, hth, ha, hg2⟩ := hw2
  cases h9
  refine z_istore dL_law_1216 (zle rfl) rfl (q := 1218) rfl ?_
  refine z_aload_n (i := 2) dL_law_1218 rfl rfl (q := 1219) rfl ?_
  refine z_callVF (As := []) dL_law_1219 kL_137 (c_X9_thrown) (wm _ _ _) rfl rfl (zle rfl) ⟨zle rfl, zle rfl⟩ hk (q := 1222) rfl ?_
  rw [hth]
  refine z_iload dL_law_1222 rfl (q := 1224) rfl ?_
  refine z_icmp_eq (tgt := 1229) dL_law_1224 (by decide) (q := 1227) rfl (fun h1224 => ?_) (fun h1224 => absurd rfl h1224)
  refine z_iload dL_law_1229 rfl (q := 1231) rfl ?_
  refine z_if_ne (tgt := 1246) dL_law_1231 (by decide) (q := 1234) rfl (fun h1231 => ?_) (fun h1231 => ?_)
  · refine z_goto (tgt := 2306) dL_law_1246 (by decide) ?_
    exact hx2 _ _ _ _ _ _ _ hg2
  · obtain ⟨v, rfl⟩ := lcode_0 (by decide) (ho _ _ hS) h1231
    have hav := ha v rfl
    subst hav
    have hOv := hO a rfl
    refine z_aload_n (i := 3) dL_law_1234 rfl rfl (q := 1235) rfl ?_
    refine z_iconst (v := 0) dL_law_1235 rfl (q := 1236) rfl ?_
    refine z_lald dL_law_1236 (wout _ _ _) (zin (k := 0) (by decide) (by decide)) (q := 1237) rfl ?_
    refine Z.eqst (st2 := [.long a.toInt64]) (congrArg (fun x => [Value.long x]) hOv) ?_
    refine z_iload dL_law_1237 rfl (q := 1239) rfl ?_
    refine z_i2l dL_law_1239 (q := 1240) rfl ?_
    refine z_lcmp dL_law_1240 (q := 1241) rfl ?_
    rw [lg_self]
    refine z_if_eq (tgt := 1246) dL_law_1241 (by decide) (q := 1244) rfl (fun h1241 => ?_) (fun h1241 => absurd rfl h1241)
    refine z_goto (tgt := 2306) dL_law_1246 (by decide) ?_
    exact hx2 _ _ _ _ _ _ _ hg2
set_option maxRecDepth 100000 in
set_option maxHeartbeats 4000000 in
theorem q_15 {i kc ks : Nat} {e6 e7 e8 e9 : Option Value} {P : zRes → zWorld → Prop} (hg : good X Y) (hL : i + 5 ≤ G.L) (hL2 : G.L ≤ 2560) (hk : kc + 1 ≤ room_1.cells ∧ ks + 6 ≤ room_1.slots) (hx2 : lK G P i (kc + 1) (ks + 6)) : Z G mL_law room_1 kc ks 1249 [some (.ref zSI), some (.ref 0), some (.ref 77), some (.ref 94), some (.ref 95), some (.int (nI i)), e6, e7, e8, e9] [] (zw X Y O) P := by
  refine z_aload_n (i := 1) dL_law_1249 rfl rfl (q := 1250) rfl ?_
  refine z_aload_n (i := 0) dL_law_1250 rfl rfl (q := 1251) rfl ?_
  refine z_iload dL_law_1251 rfl (q := 1253) rfl ?_
  refine z_iconst (v := 1) dL_law_1253 rfl (q := 1254) rfl ?_
  refine z_iadd dL_law_1254 (q := 1255) rfl ?_
  refine z_sld dL_law_1255 (sinx (j := 1) hL hL2 (by decide)) (q := 1256) rfl ?_
  refine z_aload_n (i := 0) dL_law_1256 rfl rfl (q := 1257) rfl ?_
  refine z_iload dL_law_1257 rfl (q := 1259) rfl ?_
  refine z_iconst (v := 2) dL_law_1259 rfl (q := 1260) rfl ?_
  refine z_iadd dL_law_1260 (q := 1261) rfl ?_
  refine z_sld dL_law_1261 (sinx (j := 2) hL hL2 (by decide)) (q := 1262) rfl ?_
  refine z_i2c dL_law_1262 (q := 1263) rfl ?_
  refine z_aload_n (i := 3) dL_law_1263 rfl rfl (q := 1264) rfl ?_
  obtain ⟨S, hx, ho, hy, hb⟩ := p_snaps hg ((G.xs (nI i + 1).toNatClampNeg)) (((G.xs (nI i + 2).toNatClampNeg).toUInt32 % 65536).toInt32)
  refine z_callSW (As := [_, _, _, _]) dL_law_1264 kL_190 (c_L_snaps (hx O) ho) rfl (zle rfl) ⟨zle rfl, zle rfl⟩ hk (q := 1267) rfl (fun rv w2 hw2 => ?_) (fun E w2 hw2 => by obtain ⟨_, _, _, _, h9, _⟩ := hw2; cases h9)
  obtain ⟨r0, X2, O2, hS, h9, rfl, hO⟩ := hw2
  cases h9
  refine z_istore dL_law_1267 (zle rfl) rfl (q := 1269) rfl ?_
  refine z_aload_n (i := 2) dL_law_1269 rfl rfl (q := 1270) rfl ?_
  refine z_aload_n (i := 0) dL_law_1270 rfl rfl (q := 1271) rfl ?_
  refine z_iload dL_law_1271 rfl (q := 1273) rfl ?_
  refine z_iconst (v := 1) dL_law_1273 rfl (q := 1274) rfl ?_
  refine z_iadd dL_law_1274 (q := 1275) rfl ?_
  refine z_sld dL_law_1275 (sinx (j := 1) hL hL2 (by decide)) (q := 1276) rfl ?_
  refine z_aload_n (i := 0) dL_law_1276 rfl rfl (q := 1277) rfl ?_
  refine z_iload dL_law_1277 rfl (q := 1279) rfl ?_
  refine z_iconst (v := 2) dL_law_1279 rfl (q := 1280) rfl ?_
  refine z_iadd dL_law_1280 (q := 1281) rfl ?_
  refine z_sld dL_law_1281 (sinx (j := 2) hL hL2 (by decide)) (q := 1282) rfl ?_
  refine z_i2c dL_law_1282 (q := 1283) rfl ?_
  refine z_callV (As := [_, _]) dL_law_1283 kL_192 (hy r0 X2 O2 hS) (wm _ _ _) rfl rfl (zle rfl) ⟨zle rfl, zle rfl⟩ hk (q := 1286) rfl (fun rv w2 hw2 => ?_) (fun E w2 hw2 => by obtain ⟨_, _, h9, _⟩ := hw2; cases h9)
  obtain ⟨Y2, a, h9, rfl, hth, ha, hg2⟩ := hw2
  cases h9
  refine z_istore dL_law_1286 (zle rfl) rfl (q := 1288) rfl ?_
  refine z_aload_n (i := 2) dL_law_1288 rfl rfl (q := 1289) rfl ?_
  refine z_callVF (As := []) dL_law_1289 kL_137 (c_X9_thrown) (wm _ _ _) rfl rfl (zle rfl) ⟨zle rfl, zle rfl⟩ hk (q := 1292) rfl ?_
  rw [hth]
  refine z_iload dL_law_1292 rfl (q := 1294) rfl ?_
  refine z_icmp_eq (tgt := 1299) dL_law_1294 (by decide) (q := 1297) rfl (fun h1294 => ?_) (fun h1294 => absurd rfl h1294)
  refine z_iload dL_law_1299 rfl (q := 1301) rfl ?_
  refine z_if_ne (tgt := 1316) dL_law_1301 (by decide) (q := 1304) rfl (fun h1301 => ?_) (fun h1301 => ?_)
  · refine z_goto (tgt := 2306) dL_law_1316 (by decide) ?_
    exact hx2 _ _ _ _ _ _ _ hg2
  · obtain ⟨v, rfl⟩ := lcode_0 (by decide) (ho _ _ hS) h1301
    have hav := ha v rfl
    subst hav
    have hOv := hO a rfl
    refine z_aload_n (i := 3) dL_law_1304 rfl rfl (q := 1305) rfl ?_
    refine z_iconst (v := 0) dL_law_1305 rfl (q := 1306) rfl ?_
    refine z_lald dL_law_1306 (wout _ _ _) (zin (k := 0) (by decide) (by decide)) (q := 1307) rfl ?_
    refine Z.eqst (st2 := [.long a.toInt64]) (congrArg (fun x => [Value.long x]) hOv) ?_
    refine z_iload dL_law_1307 rfl (q := 1309) rfl ?_
    refine z_i2l dL_law_1309 (q := 1310) rfl ?_
    refine z_lcmp dL_law_1310 (q := 1311) rfl ?_
    rw [lg_self]
    refine z_if_eq (tgt := 1316) dL_law_1311 (by decide) (q := 1314) rfl (fun h1311 => ?_) (fun h1311 => absurd rfl h1311)
    refine z_goto (tgt := 2306) dL_law_1316 (by decide) ?_
    exact hx2 _ _ _ _ _ _ _ hg2
set_option maxRecDepth 100000 in
set_option maxHeartbeats 4000000 in
theorem q_16 {i kc ks : Nat} {e6 e7 e8 e9 : Option Value} {P : zRes → zWorld → Prop} (hg : good X Y) (hL : i + 5 ≤ G.L) (hL2 : G.L ≤ 2560) (hk : kc + 1 ≤ room_1.cells ∧ ks + 6 ≤ room_1.slots) (hx2 : lK G P i (kc + 1) (ks + 6)) : Z G mL_law room_1 kc ks 1319 [some (.ref zSI), some (.ref 0), some (.ref 77), some (.ref 94), some (.ref 95), some (.int (nI i)), e6, e7, e8, e9] [] (zw X Y O) P := by
  refine z_aload_n (i := 1) dL_law_1319 rfl rfl (q := 1320) rfl ?_
  refine z_aload_n (i := 0) dL_law_1320 rfl rfl (q := 1321) rfl ?_
  refine z_iload dL_law_1321 rfl (q := 1323) rfl ?_
  refine z_iconst (v := 1) dL_law_1323 rfl (q := 1324) rfl ?_
  refine z_iadd dL_law_1324 (q := 1325) rfl ?_
  refine z_sld dL_law_1325 (sinx (j := 1) hL hL2 (by decide)) (q := 1326) rfl ?_
  refine z_i2c dL_law_1326 (q := 1327) rfl ?_
  refine z_aload_n (i := 3) dL_law_1327 rfl rfl (q := 1328) rfl ?_
  obtain ⟨S, hx, ho, hy, hb⟩ := p_bestStrength hg (((G.xs (nI i + 1).toNatClampNeg).toUInt32 % 65536).toInt32)
  refine z_callSW (As := [_, _, _]) dL_law_1328 kL_193 (c_L_bestStrength (hx O) ho) rfl (zle rfl) ⟨zle rfl, zle rfl⟩ hk (q := 1331) rfl (fun rv w2 hw2 => ?_) (fun E w2 hw2 => by obtain ⟨_, _, _, _, h9, _⟩ := hw2; cases h9)
  obtain ⟨r0, X2, O2, hS, h9, rfl, hO⟩ := hw2
  cases h9
  refine z_istore dL_law_1331 (zle rfl) rfl (q := 1333) rfl ?_
  refine z_aload_n (i := 2) dL_law_1333 rfl rfl (q := 1334) rfl ?_
  refine z_aload_n (i := 0) dL_law_1334 rfl rfl (q := 1335) rfl ?_
  refine z_iload dL_law_1335 rfl (q := 1337) rfl ?_
  refine z_iconst (v := 1) dL_law_1337 rfl (q := 1338) rfl ?_
  refine z_iadd dL_law_1338 (q := 1339) rfl ?_
  refine z_sld dL_law_1339 (sinx (j := 1) hL hL2 (by decide)) (q := 1340) rfl ?_
  refine z_i2c dL_law_1340 (q := 1341) rfl ?_
  refine z_callV (As := [_]) dL_law_1341 kL_195 (hy r0 X2 O2 hS) (wm _ _ _) rfl rfl (zle rfl) ⟨zle rfl, zle rfl⟩ hk (q := 1344) rfl (fun rv w2 hw2 => ?_) (fun E w2 hw2 => by obtain ⟨_, _, h9, _⟩ := hw2; cases h9)
  obtain ⟨Y2, a, h9, rfl, hth, ha, hg2⟩ := hw2
  cases h9
  refine z_istore dL_law_1344 (zle rfl) rfl (q := 1346) rfl ?_
  refine z_aload_n (i := 2) dL_law_1346 rfl rfl (q := 1347) rfl ?_
  refine z_callVF (As := []) dL_law_1347 kL_137 (c_X9_thrown) (wm _ _ _) rfl rfl (zle rfl) ⟨zle rfl, zle rfl⟩ hk (q := 1350) rfl ?_
  rw [hth]
  refine z_iload dL_law_1350 rfl (q := 1352) rfl ?_
  refine z_icmp_eq (tgt := 1357) dL_law_1352 (by decide) (q := 1355) rfl (fun h1352 => ?_) (fun h1352 => absurd rfl h1352)
  refine z_iload dL_law_1357 rfl (q := 1359) rfl ?_
  refine z_if_ne (tgt := 1374) dL_law_1359 (by decide) (q := 1362) rfl (fun h1359 => ?_) (fun h1359 => ?_)
  · refine z_goto (tgt := 2306) dL_law_1374 (by decide) ?_
    exact hx2 _ _ _ _ _ _ _ hg2
  · obtain ⟨v, rfl⟩ := lcode_0 (by decide) (ho _ _ hS) h1359
    have hav := ha v rfl
    subst hav
    have hOv := hO a rfl
    refine z_aload_n (i := 3) dL_law_1362 rfl rfl (q := 1363) rfl ?_
    refine z_iconst (v := 0) dL_law_1363 rfl (q := 1364) rfl ?_
    refine z_lald dL_law_1364 (wout _ _ _) (zin (k := 0) (by decide) (by decide)) (q := 1365) rfl ?_
    refine Z.eqst (st2 := [.long a.toInt64]) (congrArg (fun x => [Value.long x]) hOv) ?_
    refine z_iload dL_law_1365 rfl (q := 1367) rfl ?_
    refine z_i2l dL_law_1367 (q := 1368) rfl ?_
    refine z_lcmp dL_law_1368 (q := 1369) rfl ?_
    rw [lg_self]
    refine z_if_eq (tgt := 1374) dL_law_1369 (by decide) (q := 1372) rfl (fun h1369 => ?_) (fun h1369 => absurd rfl h1369)
    refine z_goto (tgt := 2306) dL_law_1374 (by decide) ?_
    exact hx2 _ _ _ _ _ _ _ hg2
set_option maxRecDepth 100000 in
set_option maxHeartbeats 4000000 in
theorem q_17 {i kc ks : Nat} {e6 e7 e8 e9 : Option Value} {P : zRes → zWorld → Prop} (hg : good X Y) (hL : i + 5 ≤ G.L) (hL2 : G.L ≤ 2560) (hk : kc + 1 ≤ room_1.cells ∧ ks + 6 ≤ room_1.slots) (hx2 : lK G P i (kc + 1) (ks + 6)) : Z G mL_law room_1 kc ks 1377 [some (.ref zSI), some (.ref 0), some (.ref 77), some (.ref 94), some (.ref 95), some (.int (nI i)), e6, e7, e8, e9] [] (zw X Y O) P := by
  refine z_aload_n (i := 1) dL_law_1377 rfl rfl (q := 1378) rfl ?_
  refine z_aload_n (i := 0) dL_law_1378 rfl rfl (q := 1379) rfl ?_
  refine z_iload dL_law_1379 rfl (q := 1381) rfl ?_
  refine z_iconst (v := 1) dL_law_1381 rfl (q := 1382) rfl ?_
  refine z_iadd dL_law_1382 (q := 1383) rfl ?_
  refine z_sld dL_law_1383 (sinx (j := 1) hL hL2 (by decide)) (q := 1384) rfl ?_
  refine z_i2c dL_law_1384 (q := 1385) rfl ?_
  refine z_aload_n (i := 3) dL_law_1385 rfl rfl (q := 1386) rfl ?_
  obtain ⟨S, hx, ho, hy, hb⟩ := p_bestByAll hg (((G.xs (nI i + 1).toNatClampNeg).toUInt32 % 65536).toInt32)
  refine z_callSW (As := [_, _, _]) dL_law_1386 kL_196 (c_L_bestByAll (hx O) ho) rfl (zle rfl) ⟨zle rfl, zle rfl⟩ hk (q := 1389) rfl (fun rv w2 hw2 => ?_) (fun E w2 hw2 => by obtain ⟨_, _, _, _, h9, _⟩ := hw2; cases h9)
  obtain ⟨r0, X2, O2, hS, h9, rfl, hO⟩ := hw2
  cases h9
  refine z_istore dL_law_1389 (zle rfl) rfl (q := 1391) rfl ?_
  refine z_aload_n (i := 2) dL_law_1391 rfl rfl (q := 1392) rfl ?_
  refine z_aload_n (i := 0) dL_law_1392 rfl rfl (q := 1393) rfl ?_
  refine z_iload dL_law_1393 rfl (q := 1395) rfl ?_
  refine z_iconst (v := 1) dL_law_1395 rfl (q := 1396) rfl ?_
  refine z_iadd dL_law_1396 (q := 1397) rfl ?_
  refine z_sld dL_law_1397 (sinx (j := 1) hL hL2 (by decide)) (q := 1398) rfl ?_
  refine z_i2c dL_law_1398 (q := 1399) rfl ?_
  refine z_callV (As := [_]) dL_law_1399 kL_198 (hy r0 X2 O2 hS) (wm _ _ _) rfl rfl (zle rfl) ⟨zle rfl, zle rfl⟩ hk (q := 1402) rfl (fun rv w2 hw2 => ?_) (fun E w2 hw2 => by obtain ⟨_, _, h9, _⟩ := hw2; cases h9)
  obtain ⟨Y2, a, h9, rfl, hth, ha, hg2⟩ := hw2
  cases h9
  refine z_istore dL_law_1402 (zle rfl) rfl (q := 1404) rfl ?_
  refine z_aload_n (i := 2) dL_law_1404 rfl rfl (q := 1405) rfl ?_
  refine z_callVF (As := []) dL_law_1405 kL_137 (c_X9_thrown) (wm _ _ _) rfl rfl (zle rfl) ⟨zle rfl, zle rfl⟩ hk (q := 1408) rfl ?_
  rw [hth]
  refine z_iload dL_law_1408 rfl (q := 1410) rfl ?_
  refine z_icmp_eq (tgt := 1415) dL_law_1410 (by decide) (q := 1413) rfl (fun h1410 => ?_) (fun h1410 => absurd rfl h1410)
  refine z_iload dL_law_1415 rfl (q := 1417) rfl ?_
  refine z_if_ne (tgt := 1432) dL_law_1417 (by decide) (q := 1420) rfl (fun h1417 => ?_) (fun h1417 => ?_)
  · refine z_goto (tgt := 2306) dL_law_1432 (by decide) ?_
    exact hx2 _ _ _ _ _ _ _ hg2
  · obtain ⟨v, rfl⟩ := lcode_0 (by decide) (ho _ _ hS) h1417
    have hav := ha v rfl
    subst hav
    have hOv := hO a rfl
    refine z_aload_n (i := 3) dL_law_1420 rfl rfl (q := 1421) rfl ?_
    refine z_iconst (v := 0) dL_law_1421 rfl (q := 1422) rfl ?_
    refine z_lald dL_law_1422 (wout _ _ _) (zin (k := 0) (by decide) (by decide)) (q := 1423) rfl ?_
    refine Z.eqst (st2 := [.long a.toInt64]) (congrArg (fun x => [Value.long x]) hOv) ?_
    refine z_iload dL_law_1423 rfl (q := 1425) rfl ?_
    refine z_i2l dL_law_1425 (q := 1426) rfl ?_
    refine z_lcmp dL_law_1426 (q := 1427) rfl ?_
    rw [lg_self]
    refine z_if_eq (tgt := 1432) dL_law_1427 (by decide) (q := 1430) rfl (fun h1427 => ?_) (fun h1427 => absurd rfl h1427)
    refine z_goto (tgt := 2306) dL_law_1432 (by decide) ?_
    exact hx2 _ _ _ _ _ _ _ hg2
set_option maxRecDepth 100000 in
set_option maxHeartbeats 4000000 in
theorem q_18 {i kc ks : Nat} {e6 e7 e8 e9 : Option Value} {P : zRes → zWorld → Prop} (hg : good X Y) (hL : i + 5 ≤ G.L) (hL2 : G.L ≤ 2560) (hk : kc + 1 ≤ room_1.cells ∧ ks + 6 ≤ room_1.slots) (hx2 : lK G P i (kc + 1) (ks + 6)) : Z G mL_law room_1 kc ks 1435 [some (.ref zSI), some (.ref 0), some (.ref 77), some (.ref 94), some (.ref 95), some (.int (nI i)), e6, e7, e8, e9] [] (zw X Y O) P := by
  refine z_aload_n (i := 1) dL_law_1435 rfl rfl (q := 1436) rfl ?_
  refine z_aload_n (i := 0) dL_law_1436 rfl rfl (q := 1437) rfl ?_
  refine z_iload dL_law_1437 rfl (q := 1439) rfl ?_
  refine z_iconst (v := 1) dL_law_1439 rfl (q := 1440) rfl ?_
  refine z_iadd dL_law_1440 (q := 1441) rfl ?_
  refine z_sld dL_law_1441 (sinx (j := 1) hL hL2 (by decide)) (q := 1442) rfl ?_
  refine z_i2c dL_law_1442 (q := 1443) rfl ?_
  refine z_aload_n (i := 3) dL_law_1443 rfl rfl (q := 1444) rfl ?_
  obtain ⟨S, hx, ho, hy, hb⟩ := p_tidyCost hg (((G.xs (nI i + 1).toNatClampNeg).toUInt32 % 65536).toInt32)
  refine z_callSW (As := [_, _, _]) dL_law_1444 kL_199 (c_L_tidyCost (hx O) ho) rfl (zle rfl) ⟨zle rfl, zle rfl⟩ hk (q := 1447) rfl (fun rv w2 hw2 => ?_) (fun E w2 hw2 => by obtain ⟨_, _, _, _, h9, _⟩ := hw2; cases h9)
  obtain ⟨r0, X2, O2, hS, h9, rfl, hO⟩ := hw2
  cases h9
  refine z_istore dL_law_1447 (zle rfl) rfl (q := 1449) rfl ?_
  refine z_aload_n (i := 2) dL_law_1449 rfl rfl (q := 1450) rfl ?_
  refine z_aload_n (i := 0) dL_law_1450 rfl rfl (q := 1451) rfl ?_
  refine z_iload dL_law_1451 rfl (q := 1453) rfl ?_
  refine z_iconst (v := 1) dL_law_1453 rfl (q := 1454) rfl ?_
  refine z_iadd dL_law_1454 (q := 1455) rfl ?_
  refine z_sld dL_law_1455 (sinx (j := 1) hL hL2 (by decide)) (q := 1456) rfl ?_
  refine z_i2c dL_law_1456 (q := 1457) rfl ?_
  refine z_callV (As := [_]) dL_law_1457 kL_201 (hy r0 X2 O2 hS) (wm _ _ _) rfl rfl (zle rfl) ⟨zle rfl, zle rfl⟩ hk (q := 1460) rfl (fun rv w2 hw2 => ?_) (fun E w2 hw2 => by obtain ⟨_, _, h9, _⟩ := hw2; cases h9)
  obtain ⟨Y2, a, h9, rfl, hth, ha, hg2⟩ := hw2
  cases h9
  refine z_istore dL_law_1460 (zle rfl) rfl (q := 1462) rfl ?_
  refine z_aload_n (i := 2) dL_law_1462 rfl rfl (q := 1463) rfl ?_
  refine z_callVF (As := []) dL_law_1463 kL_137 (c_X9_thrown) (wm _ _ _) rfl rfl (zle rfl) ⟨zle rfl, zle rfl⟩ hk (q := 1466) rfl ?_
  rw [hth]
  refine z_iload dL_law_1466 rfl (q := 1468) rfl ?_
  refine z_icmp_eq (tgt := 1473) dL_law_1468 (by decide) (q := 1471) rfl (fun h1468 => ?_) (fun h1468 => absurd rfl h1468)
  refine z_iload dL_law_1473 rfl (q := 1475) rfl ?_
  refine z_if_ne (tgt := 1490) dL_law_1475 (by decide) (q := 1478) rfl (fun h1475 => ?_) (fun h1475 => ?_)
  · refine z_goto (tgt := 2306) dL_law_1490 (by decide) ?_
    exact hx2 _ _ _ _ _ _ _ hg2
  · obtain ⟨v, rfl⟩ := lcode_0 (by decide) (ho _ _ hS) h1475
    have hav := ha v rfl
    subst hav
    have hOv := hO a rfl
    refine z_aload_n (i := 3) dL_law_1478 rfl rfl (q := 1479) rfl ?_
    refine z_iconst (v := 0) dL_law_1479 rfl (q := 1480) rfl ?_
    refine z_lald dL_law_1480 (wout _ _ _) (zin (k := 0) (by decide) (by decide)) (q := 1481) rfl ?_
    refine Z.eqst (st2 := [.long a.toInt64]) (congrArg (fun x => [Value.long x]) hOv) ?_
    refine z_iload dL_law_1481 rfl (q := 1483) rfl ?_
    refine z_i2l dL_law_1483 (q := 1484) rfl ?_
    refine z_lcmp dL_law_1484 (q := 1485) rfl ?_
    rw [lg_self]
    refine z_if_eq (tgt := 1490) dL_law_1485 (by decide) (q := 1488) rfl (fun h1485 => ?_) (fun h1485 => absurd rfl h1485)
    refine z_goto (tgt := 2306) dL_law_1490 (by decide) ?_
    exact hx2 _ _ _ _ _ _ _ hg2
set_option maxRecDepth 100000 in
set_option maxHeartbeats 4000000 in
theorem q_19 {i kc ks : Nat} {e6 e7 e8 e9 : Option Value} {P : zRes → zWorld → Prop} (hg : good X Y) (hL : i + 5 ≤ G.L) (hL2 : G.L ≤ 2560) (hk : kc + 1 ≤ room_1.cells ∧ ks + 6 ≤ room_1.slots) (hx2 : lK G P i (kc + 1) (ks + 6)) : Z G mL_law room_1 kc ks 1493 [some (.ref zSI), some (.ref 0), some (.ref 77), some (.ref 94), some (.ref 95), some (.int (nI i)), e6, e7, e8, e9] [] (zw X Y O) P := by
  refine z_aload_n (i := 1) dL_law_1493 rfl rfl (q := 1494) rfl ?_
  refine z_aload_n (i := 0) dL_law_1494 rfl rfl (q := 1495) rfl ?_
  refine z_iload dL_law_1495 rfl (q := 1497) rfl ?_
  refine z_iconst (v := 1) dL_law_1497 rfl (q := 1498) rfl ?_
  refine z_iadd dL_law_1498 (q := 1499) rfl ?_
  refine z_sld dL_law_1499 (sinx (j := 1) hL hL2 (by decide)) (q := 1500) rfl ?_
  refine z_aload_n (i := 0) dL_law_1500 rfl rfl (q := 1501) rfl ?_
  refine z_iload dL_law_1501 rfl (q := 1503) rfl ?_
  refine z_iconst (v := 2) dL_law_1503 rfl (q := 1504) rfl ?_
  refine z_iadd dL_law_1504 (q := 1505) rfl ?_
  refine z_sld dL_law_1505 (sinx (j := 2) hL hL2 (by decide)) (q := 1506) rfl ?_
  refine z_i2c dL_law_1506 (q := 1507) rfl ?_
  refine z_aload_n (i := 3) dL_law_1507 rfl rfl (q := 1508) rfl ?_
  obtain ⟨S, hx, ho, hy, hb⟩ := p_tidyStart hg ((G.xs (nI i + 1).toNatClampNeg)) (((G.xs (nI i + 2).toNatClampNeg).toUInt32 % 65536).toInt32)
  refine z_callSW (As := [_, _, _, _]) dL_law_1508 kL_202 (c_L_tidyStart (hx O) ho) rfl (zle rfl) ⟨zle rfl, zle rfl⟩ hk (q := 1511) rfl (fun rv w2 hw2 => ?_) (fun E w2 hw2 => by obtain ⟨_, _, _, _, h9, _⟩ := hw2; cases h9)
  obtain ⟨r0, X2, O2, hS, h9, rfl, hO⟩ := hw2
  cases h9
  refine z_istore dL_law_1511 (zle rfl) rfl (q := 1513) rfl ?_
  refine z_aload_n (i := 2) dL_law_1513 rfl rfl (q := 1514) rfl ?_
  refine z_aload_n (i := 0) dL_law_1514 rfl rfl (q := 1515) rfl ?_
  refine z_iload dL_law_1515 rfl (q := 1517) rfl ?_
  refine z_iconst (v := 1) dL_law_1517 rfl (q := 1518) rfl ?_
  refine z_iadd dL_law_1518 (q := 1519) rfl ?_
  refine z_sld dL_law_1519 (sinx (j := 1) hL hL2 (by decide)) (q := 1520) rfl ?_
  refine z_aload_n (i := 0) dL_law_1520 rfl rfl (q := 1521) rfl ?_
  refine z_iload dL_law_1521 rfl (q := 1523) rfl ?_
  refine z_iconst (v := 2) dL_law_1523 rfl (q := 1524) rfl ?_
  refine z_iadd dL_law_1524 (q := 1525) rfl ?_
  refine z_sld dL_law_1525 (sinx (j := 2) hL hL2 (by decide)) (q := 1526) rfl ?_
  refine z_i2c dL_law_1526 (q := 1527) rfl ?_
  refine z_callV (As := [_, _]) dL_law_1527 kL_204 (hy r0 X2 O2 hS) (wm _ _ _) rfl rfl (zle rfl) ⟨zle rfl, zle rfl⟩ hk (q := 1530) rfl (fun rv w2 hw2 => ?_) (fun E w2 hw2 => by obtain ⟨_, _, h9, _⟩ := hw2; cases h9)
  obtain ⟨Y2, a, h9, rfl, hth, ha, hg2⟩ := hw2
  cases h9
  refine z_istore dL_law_1530 (zle rfl) rfl (q := 1532) rfl ?_
  refine z_aload_n (i := 2) dL_law_1532 rfl rfl (q := 1533) rfl ?_
  refine z_callVF (As := []) dL_law_1533 kL_137 (c_X9_thrown) (wm _ _ _) rfl rfl (zle rfl) ⟨zle rfl, zle rfl⟩ hk (q := 1536) rfl ?_
  rw [hth]
  refine z_iload dL_law_1536 rfl (q := 1538) rfl ?_
  refine z_icmp_eq (tgt := 1543) dL_law_1538 (by decide) (q := 1541) rfl (fun h1538 => ?_) (fun h1538 => absurd rfl h1538)
  refine z_iload dL_law_1543 rfl (q := 1545) rfl ?_
  refine z_if_ne (tgt := 1560) dL_law_1545 (by decide) (q := 1548) rfl (fun h1545 => ?_) (fun h1545 => ?_)
  · refine z_goto (tgt := 2306) dL_law_1560 (by decide) ?_
    exact hx2 _ _ _ _ _ _ _ hg2
  · obtain ⟨v, rfl⟩ := lcode_0 (by decide) (ho _ _ hS) h1545
    have hav := ha v rfl
    subst hav
    have hOv := hO a rfl
    refine z_aload_n (i := 3) dL_law_1548 rfl rfl (q := 1549) rfl ?_
    refine z_iconst (v := 0) dL_law_1549 rfl (q := 1550) rfl ?_
    refine z_lald dL_law_1550 (wout _ _ _) (zin (k := 0) (by decide) (by decide)) (q := 1551) rfl ?_
    refine Z.eqst (st2 := [.long a.toInt64]) (congrArg (fun x => [Value.long x]) hOv) ?_
    refine z_iload dL_law_1551 rfl (q := 1553) rfl ?_
    refine z_i2l dL_law_1553 (q := 1554) rfl ?_
    refine z_lcmp dL_law_1554 (q := 1555) rfl ?_
    rw [lg_self]
    refine z_if_eq (tgt := 1560) dL_law_1555 (by decide) (q := 1558) rfl (fun h1555 => ?_) (fun h1555 => absurd rfl h1555)
    refine z_goto (tgt := 2306) dL_law_1560 (by decide) ?_
    exact hx2 _ _ _ _ _ _ _ hg2
end
