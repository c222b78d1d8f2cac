/-! THE LAW's calls, 2 of 3. -/
section LAW72
variable {p : Program} {e : Env} {s : State} {m : MethodId} {args : Array Value} {below : List Frame} {meth : Method} {c : Code} {D : wD} {Q : State → Prop}
variable {S : wS} {k n : Nat} {A : Nat → Prop} {q o la da b L : Nat} {B : Nat → Nat} {M : wM} {xs : Nat → Int32} {i : Int}
set_option maxHeartbeats 1000000 in
theorem b_shotAt (l : Launch) (hfl : l.stackTraces = false) (C : Cx p l s m args meth c cL_law 9 RL D A) (hs : hN s) (hX : va_X b L xs s s.heap) (hb : b < s.heap.size ∧ ¬ A b) (hi : 0 ≤ i ∧ i + 5 ≤ (L : Int) ∧ L ≤ 2560) (I : LwI D S q o la da B M) (hR : k + 100 ≤ 603072 ∧ n + 10000 ≤ 7215209) (hd : M 29 0 + 99 ≤ 50688)
    (kk : ∀ (S' : wS) (M' : wM), LwI D S' q o la da B M' → M' 29 0 ≤ M 29 0 + 99 → J p l e room_1 s m args below meth c 9 D A Q 2278 (L0 b q o la da i) [] S' (k + 100) (n + 10000)) : J p l e room_1 s m args below meth c 9 D A Q 840 (L0 b q o la da i) [] S k n := by
  refine j_aload_n C dL_law_840 rfl ?_
  refine j_arg C hX hb (j := 1) ⟨by omega, by omega, hi.2.2⟩ rfl rfl dL_law_841 dL_law_842 dL_law_844 dL_law_845 dL_law_846 ?_
  refine j_arg C hX hb (j := 2) ⟨by omega, by omega, hi.2.2⟩ rfl rfl dL_law_847 dL_law_848 dL_law_850 dL_law_851 dL_law_852 ?_
  refine j_aload_n C dL_law_853 rfl ?_
  refine j_wcall C hs (Or.inl ⟨rfl, rfl⟩) I (w_shotAt l hfl I.1 I.2.2.1 (f := ax xs i 1) (z := ax xs i 2) ax_rg ax_rg) calH_shotAt st_L_shotAt ml_La_169 rfl rfl (Nat.le_of_ble_eq_true rfl) (Nat.le_of_ble_eq_true rfl) hR dL_law_854 dL_law_857 (fun S1 K1 v1 => ?_)
  refine j_aload_n C dL_law_859 rfl ?_
  refine j_arg C hX hb (j := 1) ⟨by omega, by omega, hi.2.2⟩ rfl rfl dL_law_860 dL_law_861 dL_law_863 dL_law_864 dL_law_865 ?_
  refine j_arg C hX hb (j := 2) ⟨by omega, by omega, hi.2.2⟩ rfl rfl dL_law_866 dL_law_867 dL_law_869 dL_law_870 dL_law_871 ?_
  refine j_rcall C (kd := 10) (a := la) (rest := []) (Or.inl rfl) K1 (m_shotAt l hfl (f := ax xs i 1) (z := ax xs i 2) ax_rg ax_rg I.1.inv) cal_X6_shotAt vi_X6_shotAt rfl ml_La_171 rfl rfl (Nat.le_of_ble_eq_true rfl) ⟨Nat.le_of_ble_eq_true rfl, Nat.le_of_ble_eq_true rfl⟩ hR dL_law_872 (fun S2 K2 v2 => ?_)
  refine j_istore C dL_law_875 (by decide) ?_
  refine j_tail l hfl C K2 qx_shotAt qr_shotAt (fun z => v2.trans (v1 z)) rfl rfl rfl rfl hR dL_law_877 dL_law_878 dL_law_881 dL_law_883 dL_law_888 dL_law_890 dL_law_893 dL_law_894 dL_law_895 dL_law_896 dL_law_898 dL_law_899 dL_law_900 dL_law_905 (by decide) (fun S3 K3 => ?_)
  exact J.lvs L0_67 (kk S3 _ K3 qd_shotAt)
set_option maxHeartbeats 1000000 in
theorem b_reelOf (l : Launch) (hfl : l.stackTraces = false) (C : Cx p l s m args meth c cL_law 9 RL D A) (hs : hN s) (hX : va_X b L xs s s.heap) (hb : b < s.heap.size ∧ ¬ A b) (hi : 0 ≤ i ∧ i + 5 ≤ (L : Int) ∧ L ≤ 2560) (I : LwI D S q o la da B M) (hR : k + 100 ≤ 603072 ∧ n + 10000 ≤ 7215209) (hd : M 29 0 + 99 ≤ 50688)
    (kk : ∀ (S' : wS) (M' : wM), LwI D S' q o la da B M' → M' 29 0 ≤ M 29 0 + 99 → J p l e room_1 s m args below meth c 9 D A Q 2278 (L0 b q o la da i) [] S' (k + 100) (n + 10000)) : J p l e room_1 s m args below meth c 9 D A Q 908 (L0 b q o la da i) [] S k n := by
  refine j_aload_n C dL_law_908 rfl ?_
  refine j_arg C hX hb (j := 1) ⟨by omega, by omega, hi.2.2⟩ rfl rfl dL_law_909 dL_law_910 dL_law_912 dL_law_913 dL_law_914 ?_
  refine j_aload_n C dL_law_915 rfl ?_
  refine j_wcall C hs (Or.inl ⟨rfl, rfl⟩) I (w_reelOf l hfl I.1 I.2.2.1 (z := ax xs i 1) ax_rg) calH_reelOf st_L_reelOf ml_La_172 rfl rfl (Nat.le_of_ble_eq_true rfl) (Nat.le_of_ble_eq_true rfl) hR dL_law_916 dL_law_919 (fun S1 K1 v1 => ?_)
  refine j_aload_n C dL_law_921 rfl ?_
  refine j_arg C hX hb (j := 1) ⟨by omega, by omega, hi.2.2⟩ rfl rfl dL_law_922 dL_law_923 dL_law_925 dL_law_926 dL_law_927 ?_
  refine j_rcall C (kd := 10) (a := la) (rest := []) (Or.inl rfl) K1 (m_reelOf l hfl (z := ax xs i 1) ax_rg I.1.inv) cal_X6_reelOf vi_X6_reelOf rfl ml_La_174 rfl rfl (Nat.le_of_ble_eq_true rfl) ⟨Nat.le_of_ble_eq_true rfl, Nat.le_of_ble_eq_true rfl⟩ hR dL_law_928 (fun S2 K2 v2 => ?_)
  refine j_istore C dL_law_931 (by decide) ?_
  refine j_tail l hfl C K2 qx_reelOf qr_reelOf (fun z => v2.trans (v1 z)) rfl rfl rfl rfl hR dL_law_933 dL_law_934 dL_law_937 dL_law_939 dL_law_944 dL_law_946 dL_law_949 dL_law_950 dL_law_951 dL_law_952 dL_law_954 dL_law_955 dL_law_956 dL_law_961 (by decide) (fun S3 K3 => ?_)
  exact J.lvs L0_67 (kk S3 _ K3 qd_reelOf)
set_option maxHeartbeats 1000000 in
theorem b_setLimit (l : Launch) (hfl : l.stackTraces = false) (C : Cx p l s m args meth c cL_law 9 RL D A) (hs : hN s) (hX : va_X b L xs s s.heap) (hb : b < s.heap.size ∧ ¬ A b) (hi : 0 ≤ i ∧ i + 5 ≤ (L : Int) ∧ L ≤ 2560) (I : LwI D S q o la da B M) (hR : k + 100 ≤ 603072 ∧ n + 10000 ≤ 7215209) (hd : M 29 0 + 99 ≤ 50688)
    (kk : ∀ (S' : wS) (M' : wM), LwI D S' q o la da B M' → M' 29 0 ≤ M 29 0 + 99 → J p l e room_1 s m args below meth c 9 D A Q 2278 (L0 b q o la da i) [] S' (k + 100) (n + 10000)) : J p l e room_1 s m args below meth c 9 D A Q 964 (L0 b q o la da i) [] S k n := by
  refine j_aload_n C dL_law_964 rfl ?_
  refine j_arg C hX hb (j := 1) ⟨by omega, by omega, hi.2.2⟩ rfl rfl dL_law_965 dL_law_966 dL_law_968 dL_law_969 dL_law_970 ?_
  refine j_aload_n C dL_law_971 rfl ?_
  refine j_wcall C hs (Or.inl ⟨rfl, rfl⟩) I (w_setLimit l hfl I.1 I.2.2.1 (a := ax xs i 1) ax_rg) calH_setLimit st_L_setLimit ml_La_175 rfl rfl (Nat.le_of_ble_eq_true rfl) (Nat.le_of_ble_eq_true rfl) hR dL_law_972 dL_law_975 (fun S1 K1 v1 => ?_)
  refine j_aload_n C dL_law_977 rfl ?_
  refine j_arg C hX hb (j := 1) ⟨by omega, by omega, hi.2.2⟩ rfl rfl dL_law_978 dL_law_979 dL_law_981 dL_law_982 dL_law_983 ?_
  refine j_rcall C (kd := 10) (a := la) (rest := []) (Or.inl rfl) K1 (m_setLimit l hfl (a := ax xs i 1) ax_rg I.1.inv) cal_X6_setLimit vi_X6_setLimit rfl ml_La_177 rfl rfl (Nat.le_of_ble_eq_true rfl) ⟨Nat.le_of_ble_eq_true rfl, Nat.le_of_ble_eq_true rfl⟩ hR dL_law_984 (fun S2 K2 v2 => ?_)
  refine j_istore C dL_law_987 (by decide) ?_
  refine j_tail l hfl C K2 qx_setLimit qr_setLimit (fun z => v2.trans (v1 z)) rfl rfl rfl rfl hR dL_law_989 dL_law_990 dL_law_993 dL_law_995 dL_law_1000 dL_law_1002 dL_law_1005 dL_law_1006 dL_law_1007 dL_law_1008 dL_law_1010 dL_law_1011 dL_law_1012 dL_law_1017 (by decide) (fun S3 K3 => ?_)
  exact J.lvs L0_67 (kk S3 _ K3 qd_setLimit)
set_option maxHeartbeats 1000000 in
theorem b_run (l : Launch) (hfl : l.stackTraces = false) (C : Cx p l s m args meth c cL_law 9 RL D A) (hs : hN s) (hX : va_X b L xs s s.heap) (hb : b < s.heap.size ∧ ¬ A b) (hi : 0 ≤ i ∧ i + 5 ≤ (L : Int) ∧ L ≤ 2560) (I : LwI D S q o la da B M) (hR : k + 100 ≤ 603072 ∧ n + 10000 ≤ 7215209) (hd : M 29 0 + 99 ≤ 50688)
    (kk : ∀ (S' : wS) (M' : wM), LwI D S' q o la da B M' → M' 29 0 ≤ M 29 0 + 99 → J p l e room_1 s m args below meth c 9 D A Q 2278 (L0 b q o la da i) [] S' (k + 100) (n + 10000)) : J p l e room_1 s m args below meth c 9 D A Q 1020 (L0 b q o la da i) [] S k n := by
  refine j_aload_n C dL_law_1020 rfl ?_
  refine j_arg C hX hb (j := 1) ⟨by omega, by omega, hi.2.2⟩ rfl rfl dL_law_1021 dL_law_1022 dL_law_1024 dL_law_1025 dL_law_1026 ?_
  refine j_aload_n C dL_law_1027 rfl ?_
  refine j_wcall C hs (Or.inl ⟨rfl, rfl⟩) I (w_run l hfl I.1 I.2.2.1 (r := ax xs i 1) ax_rg) calH_run st_L_run ml_La_178 rfl rfl (Nat.le_of_ble_eq_true rfl) (Nat.le_of_ble_eq_true rfl) hR dL_law_1028 dL_law_1031 (fun S1 K1 v1 => ?_)
  refine j_aload_n C dL_law_1033 rfl ?_
  refine j_arg C hX hb (j := 1) ⟨by omega, by omega, hi.2.2⟩ rfl rfl dL_law_1034 dL_law_1035 dL_law_1037 dL_law_1038 dL_law_1039 ?_
  refine j_rcall C (kd := 10) (a := la) (rest := []) (Or.inl rfl) K1 (m_run l hfl (r := ax xs i 1) ax_rg I.1.inv) cal_X6_run vi_X6_run rfl ml_La_180 rfl rfl (Nat.le_of_ble_eq_true rfl) ⟨Nat.le_of_ble_eq_true rfl, Nat.le_of_ble_eq_true rfl⟩ hR dL_law_1040 (fun S2 K2 v2 => ?_)
  refine j_istore C dL_law_1043 (by decide) ?_
  refine j_tail l hfl C K2 qx_run qr_run (fun z => v2.trans (v1 z)) rfl rfl rfl rfl hR dL_law_1045 dL_law_1046 dL_law_1049 dL_law_1051 dL_law_1056 dL_law_1058 dL_law_1061 dL_law_1062 dL_law_1063 dL_law_1064 dL_law_1066 dL_law_1067 dL_law_1068 dL_law_1073 (by decide) (fun S3 K3 => ?_)
  exact J.lvs L0_67 (kk S3 _ K3 qd_run)
set_option maxHeartbeats 1000000 in
theorem b_wear (l : Launch) (hfl : l.stackTraces = false) (C : Cx p l s m args meth c cL_law 9 RL D A) (hs : hN s) (hX : va_X b L xs s s.heap) (hb : b < s.heap.size ∧ ¬ A b) (hi : 0 ≤ i ∧ i + 5 ≤ (L : Int) ∧ L ≤ 2560) (I : LwI D S q o la da B M) (hR : k + 100 ≤ 603072 ∧ n + 10000 ≤ 7215209) (hd : M 29 0 + 99 ≤ 50688)
    (kk : ∀ (S' : wS) (M' : wM), LwI D S' q o la da B M' → M' 29 0 ≤ M 29 0 + 99 → J p l e room_1 s m args below meth c 9 D A Q 2278 (L0 b q o la da i) [] S' (k + 100) (n + 10000)) : J p l e room_1 s m args below meth c 9 D A Q 1076 (L0 b q o la da i) [] S k n := by
  refine j_aload_n C dL_law_1076 rfl ?_
  refine j_arg C hX hb (j := 1) ⟨by omega, by omega, hi.2.2⟩ rfl rfl dL_law_1077 dL_law_1078 dL_law_1080 dL_law_1081 dL_law_1082 ?_
  refine j_arg C hX hb (j := 2) ⟨by omega, by omega, hi.2.2⟩ rfl rfl dL_law_1083 dL_law_1084 dL_law_1086 dL_law_1087 dL_law_1088 ?_
  refine j_aload_n C dL_law_1089 rfl ?_
  refine j_wcall C hs (Or.inl ⟨rfl, rfl⟩) I (w_wear l hfl I.1 I.2.2.1 (r := ax xs i 1) (z := ax xs i 2) ax_rg ax_rg) calH_wear st_L_wear ml_La_181 rfl rfl (Nat.le_of_ble_eq_true rfl) (Nat.le_of_ble_eq_true rfl) hR dL_law_1090 dL_law_1093 (fun S1 K1 v1 => ?_)
  refine j_aload_n C dL_law_1095 rfl ?_
  refine j_arg C hX hb (j := 1) ⟨by omega, by omega, hi.2.2⟩ rfl rfl dL_law_1096 dL_law_1097 dL_law_1099 dL_law_1100 dL_law_1101 ?_
  refine j_arg C hX hb (j := 2) ⟨by omega, by omega, hi.2.2⟩ rfl rfl dL_law_1102 dL_law_1103 dL_law_1105 dL_law_1106 dL_law_1107 ?_
  refine j_rcall C (kd := 10) (a := la) (rest := []) (Or.inl rfl) K1 (m_wear l hfl (r := ax xs i 1) (z := ax xs i 2) ax_rg ax_rg I.1.inv) cal_X6_wear vi_X6_wear rfl ml_La_183 rfl rfl (Nat.le_of_ble_eq_true rfl) ⟨Nat.le_of_ble_eq_true rfl, Nat.le_of_ble_eq_true rfl⟩ hR dL_law_1108 (fun S2 K2 v2 => ?_)
  refine j_istore C dL_law_1111 (by decide) ?_
  refine j_tail l hfl C K2 qx_wear qr_wear (fun z => v2.trans (v1 z)) rfl rfl rfl rfl hR dL_law_1113 dL_law_1114 dL_law_1117 dL_law_1119 dL_law_1124 dL_law_1126 dL_law_1129 dL_law_1130 dL_law_1131 dL_law_1132 dL_law_1134 dL_law_1135 dL_law_1136 dL_law_1141 (by decide) (fun S3 K3 => ?_)
  exact J.lvs L0_67 (kk S3 _ K3 qd_wear)
set_option maxHeartbeats 1000000 in
theorem b_mend (l : Launch) (hfl : l.stackTraces = false) (C : Cx p l s m args meth c cL_law 9 RL D A) (hs : hN s) (hX : va_X b L xs s s.heap) (hb : b < s.heap.size ∧ ¬ A b) (hi : 0 ≤ i ∧ i + 5 ≤ (L : Int) ∧ L ≤ 2560) (I : LwI D S q o la da B M) (hR : k + 100 ≤ 603072 ∧ n + 10000 ≤ 7215209) (hd : M 29 0 + 99 ≤ 50688)
    (kk : ∀ (S' : wS) (M' : wM), LwI D S' q o la da B M' → M' 29 0 ≤ M 29 0 + 99 → J p l e room_1 s m args below meth c 9 D A Q 2278 (L0 b q o la da i) [] S' (k + 100) (n + 10000)) : J p l e room_1 s m args below meth c 9 D A Q 1144 (L0 b q o la da i) [] S k n := by
  refine j_aload_n C dL_law_1144 rfl ?_
  refine j_arg C hX hb (j := 1) ⟨by omega, by omega, hi.2.2⟩ rfl rfl dL_law_1145 dL_law_1146 dL_law_1148 dL_law_1149 dL_law_1150 ?_
  refine j_arg C hX hb (j := 2) ⟨by omega, by omega, hi.2.2⟩ rfl rfl dL_law_1151 dL_law_1152 dL_law_1154 dL_law_1155 dL_law_1156 ?_
  refine j_aload_n C dL_law_1157 rfl ?_
  refine j_wcall C hs (Or.inl ⟨rfl, rfl⟩) I (w_mend l hfl I.1 I.2.2.1 (r := ax xs i 1) (z := ax xs i 2) ax_rg ax_rg) calH_mend st_L_mend ml_La_184 rfl rfl (Nat.le_of_ble_eq_true rfl) (Nat.le_of_ble_eq_true rfl) hR dL_law_1158 dL_law_1161 (fun S1 K1 v1 => ?_)
  refine j_aload_n C dL_law_1163 rfl ?_
  refine j_arg C hX hb (j := 1) ⟨by omega, by omega, hi.2.2⟩ rfl rfl dL_law_1164 dL_law_1165 dL_law_1167 dL_law_1168 dL_law_1169 ?_
  refine j_arg C hX hb (j := 2) ⟨by omega, by omega, hi.2.2⟩ rfl rfl dL_law_1170 dL_law_1171 dL_law_1173 dL_law_1174 dL_law_1175 ?_
  refine j_rcall C (kd := 10) (a := la) (rest := []) (Or.inl rfl) K1 (m_mend l hfl (r := ax xs i 1) (z := ax xs i 2) ax_rg ax_rg I.1.inv) cal_X6_mend vi_X6_mend rfl ml_La_186 rfl rfl (Nat.le_of_ble_eq_true rfl) ⟨Nat.le_of_ble_eq_true rfl, Nat.le_of_ble_eq_true rfl⟩ hR dL_law_1176 (fun S2 K2 v2 => ?_)
  refine j_istore C dL_law_1179 (by decide) ?_
  refine j_tail l hfl C K2 qx_mend qr_mend (fun z => v2.trans (v1 z)) rfl rfl rfl rfl hR dL_law_1181 dL_law_1182 dL_law_1185 dL_law_1187 dL_law_1192 dL_law_1194 dL_law_1197 dL_law_1198 dL_law_1199 dL_law_1200 dL_law_1202 dL_law_1203 dL_law_1204 dL_law_1209 (by decide) (fun S3 K3 => ?_)
  exact J.lvs L0_67 (kk S3 _ K3 qd_mend)
set_option maxHeartbeats 1000000 in
theorem b_scan (l : Launch) (hfl : l.stackTraces = false) (C : Cx p l s m args meth c cL_law 9 RL D A) (hs : hN s) (hX : va_X b L xs s s.heap) (hb : b < s.heap.size ∧ ¬ A b) (hi : 0 ≤ i ∧ i + 5 ≤ (L : Int) ∧ L ≤ 2560) (I : LwI D S q o la da B M) (hR : k + 100 ≤ 603072 ∧ n + 10000 ≤ 7215209) (hd : M 29 0 + 99 ≤ 50688)
    (kk : ∀ (S' : wS) (M' : wM), LwI D S' q o la da B M' → M' 29 0 ≤ M 29 0 + 99 → J p l e room_1 s m args below meth c 9 D A Q 2278 (L0 b q o la da i) [] S' (k + 100) (n + 10000)) : J p l e room_1 s m args below meth c 9 D A Q 1212 (L0 b q o la da i) [] S k n := by
  refine j_aload_n C dL_law_1212 rfl ?_
  refine j_arg C hX hb (j := 1) ⟨by omega, by omega, hi.2.2⟩ rfl rfl dL_law_1213 dL_law_1214 dL_law_1216 dL_law_1217 dL_law_1218 ?_
  refine j_arg C hX hb (j := 2) ⟨by omega, by omega, hi.2.2⟩ rfl rfl dL_law_1219 dL_law_1220 dL_law_1222 dL_law_1223 dL_law_1224 ?_
  refine j_aload_n C dL_law_1225 rfl ?_
  refine j_wcall C hs (Or.inl ⟨rfl, rfl⟩) I (w_scan l hfl I.1 I.2.2.1 (r := ax xs i 1) (z := ax xs i 2) ax_rg ax_rg) calH_scan st_L_scan ml_La_187 rfl rfl (Nat.le_of_ble_eq_true rfl) (Nat.le_of_ble_eq_true rfl) hR dL_law_1226 dL_law_1229 (fun S1 K1 v1 => ?_)
  refine j_aload_n C dL_law_1231 rfl ?_
  refine j_arg C hX hb (j := 1) ⟨by omega, by omega, hi.2.2⟩ rfl rfl dL_law_1232 dL_law_1233 dL_law_1235 dL_law_1236 dL_law_1237 ?_
  refine j_arg C hX hb (j := 2) ⟨by omega, by omega, hi.2.2⟩ rfl rfl dL_law_1238 dL_law_1239 dL_law_1241 dL_law_1242 dL_law_1243 ?_
  refine j_rcall C (kd := 10) (a := la) (rest := []) (Or.inl rfl) K1 (m_scan l hfl (r := ax xs i 1) (z := ax xs i 2) ax_rg ax_rg I.1.inv) cal_X6_scan vi_X6_scan rfl ml_La_189 rfl rfl (Nat.le_of_ble_eq_true rfl) ⟨Nat.le_of_ble_eq_true rfl, Nat.le_of_ble_eq_true rfl⟩ hR dL_law_1244 (fun S2 K2 v2 => ?_)
  refine j_istore C dL_law_1247 (by decide) ?_
  refine j_tail l hfl C K2 qx_scan qr_scan (fun z => v2.trans (v1 z)) rfl rfl rfl rfl hR dL_law_1249 dL_law_1250 dL_law_1253 dL_law_1255 dL_law_1260 dL_law_1262 dL_law_1265 dL_law_1266 dL_law_1267 dL_law_1268 dL_law_1270 dL_law_1271 dL_law_1272 dL_law_1277 (by decide) (fun S3 K3 => ?_)
  exact J.lvs L0_67 (kk S3 _ K3 qd_scan)
set_option maxHeartbeats 1000000 in
theorem b_scanned (l : Launch) (hfl : l.stackTraces = false) (C : Cx p l s m args meth c cL_law 9 RL D A) (hs : hN s) (hX : va_X b L xs s s.heap) (hb : b < s.heap.size ∧ ¬ A b) (hi : 0 ≤ i ∧ i + 5 ≤ (L : Int) ∧ L ≤ 2560) (I : LwI D S q o la da B M) (hR : k + 100 ≤ 603072 ∧ n + 10000 ≤ 7215209) (hd : M 29 0 + 99 ≤ 50688)
    (kk : ∀ (S' : wS) (M' : wM), LwI D S' q o la da B M' → M' 29 0 ≤ M 29 0 + 99 → J p l e room_1 s m args below meth c 9 D A Q 2278 (L0 b q o la da i) [] S' (k + 100) (n + 10000)) : J p l e room_1 s m args below meth c 9 D A Q 1280 (L0 b q o la da i) [] S k n := by
  refine j_aload_n C dL_law_1280 rfl ?_
  refine j_arg C hX hb (j := 1) ⟨by omega, by omega, hi.2.2⟩ rfl rfl dL_law_1281 dL_law_1282 dL_law_1284 dL_law_1285 dL_law_1286 ?_
  refine j_aload_n C dL_law_1287 rfl ?_
  refine j_wcall C hs (Or.inl ⟨rfl, rfl⟩) I (w_scanned l hfl I.1 I.2.2.1 (z := ax xs i 1) ax_rg) calH_scanned st_L_scanned ml_La_190 rfl rfl (Nat.le_of_ble_eq_true rfl) (Nat.le_of_ble_eq_true rfl) hR dL_law_1288 dL_law_1291 (fun S1 K1 v1 => ?_)
  refine j_aload_n C dL_law_1293 rfl ?_
  refine j_arg C hX hb (j := 1) ⟨by omega, by omega, hi.2.2⟩ rfl rfl dL_law_1294 dL_law_1295 dL_law_1297 dL_law_1298 dL_law_1299 ?_
  refine j_rcall C (kd := 10) (a := la) (rest := []) (Or.inl rfl) K1 (m_scanned l hfl (z := ax xs i 1) ax_rg I.1.inv) cal_X6_scanned vi_X6_scanned rfl ml_La_192 rfl rfl (Nat.le_of_ble_eq_true rfl) ⟨Nat.le_of_ble_eq_true rfl, Nat.le_of_ble_eq_true rfl⟩ hR dL_law_1300 (fun S2 K2 v2 => ?_)
  refine j_istore C dL_law_1303 (by decide) ?_
  refine j_tail l hfl C K2 qx_scanned qr_scanned (fun z => v2.trans (v1 z)) rfl rfl rfl rfl hR dL_law_1305 dL_law_1306 dL_law_1309 dL_law_1311 dL_law_1316 dL_law_1318 dL_law_1321 dL_law_1322 dL_law_1323 dL_law_1324 dL_law_1326 dL_law_1327 dL_law_1328 dL_law_1333 (by decide) (fun S3 K3 => ?_)
  exact J.lvs L0_67 (kk S3 _ K3 qd_scanned)
set_option maxHeartbeats 1000000 in
theorem b_missed (l : Launch) (hfl : l.stackTraces = false) (C : Cx p l s m args meth c cL_law 9 RL D A) (hs : hN s) (hX : va_X b L xs s s.heap) (hb : b < s.heap.size ∧ ¬ A b) (hi : 0 ≤ i ∧ i + 5 ≤ (L : Int) ∧ L ≤ 2560) (I : LwI D S q o la da B M) (hR : k + 100 ≤ 603072 ∧ n + 10000 ≤ 7215209) (hd : M 29 0 + 99 ≤ 50688)
    (kk : ∀ (S' : wS) (M' : wM), LwI D S' q o la da B M' → M' 29 0 ≤ M 29 0 + 99 → J p l e room_1 s m args below meth c 9 D A Q 2278 (L0 b q o la da i) [] S' (k + 100) (n + 10000)) : J p l e room_1 s m args below meth c 9 D A Q 1336 (L0 b q o la da i) [] S k n := by
  refine j_aload_n C dL_law_1336 rfl ?_
  refine j_arg C hX hb (j := 1) ⟨by omega, by omega, hi.2.2⟩ rfl rfl dL_law_1337 dL_law_1338 dL_law_1340 dL_law_1341 dL_law_1342 ?_
  refine j_aload_n C dL_law_1343 rfl ?_
  refine j_wcall C hs (Or.inl ⟨rfl, rfl⟩) I (w_missed l hfl I.1 I.2.2.1 (z := ax xs i 1) ax_rg) calH_missed st_L_missed ml_La_193 rfl rfl (Nat.le_of_ble_eq_true rfl) (Nat.le_of_ble_eq_true rfl) hR dL_law_1344 dL_law_1347 (fun S1 K1 v1 => ?_)
  refine j_aload_n C dL_law_1349 rfl ?_
  refine j_arg C hX hb (j := 1) ⟨by omega, by omega, hi.2.2⟩ rfl rfl dL_law_1350 dL_law_1351 dL_law_1353 dL_law_1354 dL_law_1355 ?_
  refine j_rcall C (kd := 10) (a := la) (rest := []) (Or.inl rfl) K1 (m_missed l hfl (z := ax xs i 1) ax_rg I.1.inv) cal_X6_missed vi_X6_missed rfl ml_La_195 rfl rfl (Nat.le_of_ble_eq_true rfl) ⟨Nat.le_of_ble_eq_true rfl, Nat.le_of_ble_eq_true rfl⟩ hR dL_law_1356 (fun S2 K2 v2 => ?_)
  refine j_istore C dL_law_1359 (by decide) ?_
  refine j_tail l hfl C K2 qx_missed qr_missed (fun z => v2.trans (v1 z)) rfl rfl rfl rfl hR dL_law_1361 dL_law_1362 dL_law_1365 dL_law_1367 dL_law_1372 dL_law_1374 dL_law_1377 dL_law_1378 dL_law_1379 dL_law_1380 dL_law_1382 dL_law_1383 dL_law_1384 dL_law_1389 (by decide) (fun S3 K3 => ?_)
  exact J.lvs L0_67 (kk S3 _ K3 qd_missed)
set_option maxHeartbeats 1000000 in
theorem b_grade (l : Launch) (hfl : l.stackTraces = false) (C : Cx p l s m args meth c cL_law 9 RL D A) (hs : hN s) (hX : va_X b L xs s s.heap) (hb : b < s.heap.size ∧ ¬ A b) (hi : 0 ≤ i ∧ i + 5 ≤ (L : Int) ∧ L ≤ 2560) (I : LwI D S q o la da B M) (hR : k + 100 ≤ 603072 ∧ n + 10000 ≤ 7215209) (hd : M 29 0 + 99 ≤ 50688)
    (kk : ∀ (S' : wS) (M' : wM), LwI D S' q o la da B M' → M' 29 0 ≤ M 29 0 + 99 → J p l e room_1 s m args below meth c 9 D A Q 2278 (L0 b q o la da i) [] S' (k + 100) (n + 10000)) : J p l e room_1 s m args below meth c 9 D A Q 1392 (L0 b q o la da i) [] S k n := by
  refine j_aload_n C dL_law_1392 rfl ?_
  refine j_arg C hX hb (j := 1) ⟨by omega, by omega, hi.2.2⟩ rfl rfl dL_law_1393 dL_law_1394 dL_law_1396 dL_law_1397 dL_law_1398 ?_
  refine j_arg C hX hb (j := 2) ⟨by omega, by omega, hi.2.2⟩ rfl rfl dL_law_1399 dL_law_1400 dL_law_1402 dL_law_1403 dL_law_1404 ?_
  refine j_aload_n C dL_law_1405 rfl ?_
  refine j_wcall C hs (Or.inl ⟨rfl, rfl⟩) I (w_grade l hfl I.1 I.2.2.1 (z := ax xs i 1) (g := ax xs i 2) ax_rg ax_rg) calH_grade st_L_grade ml_La_196 rfl rfl (Nat.le_of_ble_eq_true rfl) (Nat.le_of_ble_eq_true rfl) hR dL_law_1406 dL_law_1409 (fun S1 K1 v1 => ?_)
  refine j_aload_n C dL_law_1411 rfl ?_
  refine j_arg C hX hb (j := 1) ⟨by omega, by omega, hi.2.2⟩ rfl rfl dL_law_1412 dL_law_1413 dL_law_1415 dL_law_1416 dL_law_1417 ?_
  refine j_arg C hX hb (j := 2) ⟨by omega, by omega, hi.2.2⟩ rfl rfl dL_law_1418 dL_law_1419 dL_law_1421 dL_law_1422 dL_law_1423 ?_
  refine j_rcall C (kd := 10) (a := la) (rest := []) (Or.inl rfl) K1 (m_grade l hfl (z := ax xs i 1) (g := ax xs i 2) ax_rg ax_rg I.1.inv) cal_X6_grade vi_X6_grade rfl ml_La_198 rfl rfl (Nat.le_of_ble_eq_true rfl) ⟨Nat.le_of_ble_eq_true rfl, Nat.le_of_ble_eq_true rfl⟩ hR dL_law_1424 (fun S2 K2 v2 => ?_)
  refine j_istore C dL_law_1427 (by decide) ?_
  refine j_tail l hfl C K2 qx_grade qr_grade (fun z => v2.trans (v1 z)) rfl rfl rfl rfl hR dL_law_1429 dL_law_1430 dL_law_1433 dL_law_1435 dL_law_1440 dL_law_1442 dL_law_1445 dL_law_1446 dL_law_1447 dL_law_1448 dL_law_1450 dL_law_1451 dL_law_1452 dL_law_1457 (by decide) (fun S3 K3 => ?_)
  exact J.lvs L0_67 (kk S3 _ K3 qd_grade)
end LAW72
