set_option maxHeartbeats 100000000 in
theorem g_case_1144 {ns : Nat} (hns : ns ≤ 320) (s0 : h_S) (I0 : h_I s0) (j0 : d_tape s0 s0) (j1 : s0 64 4 = s0 98 16) (j2 : c_R true s0) (j3 : g_ti s0) (j4 : g_SH s0) (y3 : Int32) (b3 : Int) (hy3 : y3.toInt = b3) (hr : 0 ≤ b3 ∧ b3 + 5 ≤ ns) {Q : Option Value → h_S → Prop} (kk : ∀ τ, h_I τ → (d_tape τ τ) → (τ 64 4 = τ 98 16) → (c_R true τ) → (g_ti τ) → (g_SH τ) → h_T g_P (g_Y ns) 225 1441 [(0, .ref 0), (1, .ref 9), (2, .ref 98), (3, .int y3)] [] τ Q) : h_T g_P (g_Y ns) 225 1144 [(0, .ref 0), (1, .ref 9), (2, .ref 98), (3, .int y3)] [] s0 Q := by
  have F0_ : h_F (fun _ _ => true) s0 s0 := h_F.rf
  have j0_ := j0.2
  have i0 := tf_64_1 I0
  have i1 := tf_98_11 I0
  have i2 := tf_64_4 I0
  have i3 := tf_98_16 I0
  refine h_aload_n (pc' := 1145) rfl rfl rfl ?_
  refine h_aload_n (pc' := 1146) rfl rfl rfl ?_
  refine h_iload_n (pc' := 1147) rfl rfl rfl ?_
  refine h_iconst (pc' := 1148) (x := (Int32.ofInt 1)) rfl rfl rfl ?_
  refine h_iadd (pc' := 1149) rfl rfl hy3 ci_1 rfl (by omega) (by omega) (fun z1 hz1 => ?_)
  refine h_iald (pc' := 1150) (v := s0 0 (b3 + 1)) rfl rfl rfl hz1 (by omega) (by omega) rfl (fun z2 hz2 => ?_)
  have tz2 := h_rgv hz2
  clear hz1
  refine h_aload_n (pc' := 1151) rfl rfl rfl ?_
  refine h_iload_n (pc' := 1152) rfl rfl rfl ?_
  refine h_iconst (pc' := 1153) (x := (Int32.ofInt 2)) rfl rfl rfl ?_
  refine h_iadd (pc' := 1154) rfl rfl hy3 ci_2 rfl (by omega) (by omega) (fun z3 hz3 => ?_)
  refine h_iald (pc' := 1155) (v := s0 0 (b3 + 2)) rfl rfl rfl hz3 (by omega) (by omega) rfl (fun z4 hz4 => ?_)
  have tz4 := h_rgv hz4
  clear hz3
  refine h_call (sp := false) (pc' := 1158) (M := [(0, .ref 9), (1, .int z2), (2, .int z4)]) rfl rfl rfl rfl rfl rfl rfl rfl ?_
  refine w_114_9 _ I0 z2 _ hz2 z4 _ hz4 (fun r5 br5 hr5 s6 Is6 Gs6 tr5 => h_Kv ?_)
  have Zs6 : ∀ i, s6 0 i = s0 0 i := fun i => (Gs6 0 i rfl).trans rfl
  have Fs6 : h_F (fun _ _ => true) s6 s0 := fun _ _ h => by cases h
  have es6_0 : s6 64 1 = s0 64 1 := (Gs6 64 1 rfl).trans rfl
  have es6_1 : s6 98 11 = s0 98 11 := (Gs6 98 11 rfl).trans rfl
  have es6_2 : s6 64 4 = s0 64 4 := (Gs6 64 4 rfl).trans rfl
  have es6_3 : s6 98 16 = s0 98 16 := (Gs6 98 16 rfl).trans rfl
  clear hz2 hz4
  refine h_pop (pc' := 1159) rfl rfl rfl ?_
  clear hr5
  refine h_aload_n (pc' := 1160) rfl rfl rfl ?_
  refine h_aload_n (pc' := 1161) rfl rfl rfl ?_
  refine h_iload_n (pc' := 1162) rfl rfl rfl ?_
  refine h_iconst (pc' := 1163) (x := (Int32.ofInt 1)) rfl rfl rfl ?_
  refine h_iadd (pc' := 1164) rfl rfl hy3 ci_1 rfl (by omega) (by omega) (fun z7 hz7 => ?_)
  refine h_iald (pc' := 1165) (v := s0 0 (b3 + 1)) rfl rfl rfl hz7 (by omega) (by omega) (Zs6 _) (fun z8 hz8 => ?_)
  have tz8 := h_rgv hz8
  clear hz7
  refine h_aload_n (pc' := 1166) rfl rfl rfl ?_
  refine h_iload_n (pc' := 1167) rfl rfl rfl ?_
  refine h_iconst (pc' := 1168) (x := (Int32.ofInt 2)) rfl rfl rfl ?_
  refine h_iadd (pc' := 1169) rfl rfl hy3 ci_2 rfl (by omega) (by omega) (fun z9 hz9 => ?_)
  refine h_iald (pc' := 1170) (v := s0 0 (b3 + 2)) rfl rfl rfl hz9 (by omega) (by omega) (Zs6 _) (fun z10 hz10 => ?_)
  have tz10 := h_rgv hz10
  clear hz9
  refine h_call (sp := false) (pc' := 1173) (M := [(0, .ref 98), (1, .int z8), (2, .int z10)]) rfl rfl rfl rfl rfl rfl rfl rfl ?_
  refine w_215_98 _ Is6 z8 _ hz8 z10 _ hz10 (fun r11 br11 hr11 s12 Is12 Gs12 => h_Kv ?_)
  have Zs12 : ∀ i, s12 0 i = s0 0 i := fun i => (Gs12 0 i rfl).trans (Zs6 i)
  have Fs12 : h_F (fun _ _ => true) s12 s0 := fun _ _ h => by cases h
  have es12_0 : s12 64 1 = s0 64 1 := (Gs12 64 1 rfl).trans es6_0
  have es12_1 : s12 98 11 = s0 98 11 := (Gs12 98 11 rfl).trans es6_1
  have es12_2 : s12 64 4 = s0 64 4 := (Gs12 64 4 rfl).trans es6_2
  have es12_3 : s12 98 16 = s0 98 16 := (Gs12 98 16 rfl).trans es6_3
  clear es6_0 es6_1 es6_2 es6_3
  clear hz10 hz8
  refine h_pop (pc' := 1174) rfl rfl rfl ?_
  clear hr11
  refine h_goto (pc' := 1441) rfl rfl ?_
  exact kk _ Is12 (by first | exact d_tape.le j0 (Int.le_antisymm (by omega) (by omega)) (by omega) (fun j => (Gs12 65 j rfl).trans ((Gs6 65 j rfl))) (fun j => (Gs12 102 j rfl).trans ((Gs6 102 j rfl))) | (exfalso; omega)) (Int.le_antisymm (by omega) (by omega)) (c_R.fr (c_R.fr j2 I0 Gs6 rfl) Is6 Gs12 rfl) (g_ti.e j3 ((funext (fun j => Gs12 100 j rfl)).trans (funext (fun j => Gs6 100 j rfl)))) (g_SH.e j4 ((funext (fun j => Gs12 94 j rfl)).trans (funext (fun j => Gs6 94 j rfl))) ((funext (fun j => Gs12 95 j rfl)).trans (funext (fun j => Gs6 95 j rfl))) ((funext (fun j => Gs12 96 j rfl)).trans (funext (fun j => Gs6 96 j rfl))) ((funext (fun j => Gs12 111 j rfl)).trans (funext (fun j => Gs6 111 j rfl))) ((funext (fun j => Gs12 112 j rfl)).trans (funext (fun j => Gs6 112 j rfl))) ((funext (fun j => Gs12 113 j rfl)).trans (funext (fun j => Gs6 113 j rfl))))
set_option maxHeartbeats 100000000 in
theorem g_case_1177 {ns : Nat} (hns : ns ≤ 320) (s0 : h_S) (I0 : h_I s0) (j0 : d_tape s0 s0) (j1 : s0 64 4 = s0 98 16) (j2 : c_R true s0) (j3 : g_ti s0) (j4 : g_SH s0) (y3 : Int32) (b3 : Int) (hy3 : y3.toInt = b3) (hr : 0 ≤ b3 ∧ b3 + 5 ≤ ns) {Q : Option Value → h_S → Prop} (kk : ∀ τ, h_I τ → (d_tape τ τ) → (τ 64 4 = τ 98 16) → (c_R true τ) → (g_ti τ) → (g_SH τ) → h_T g_P (g_Y ns) 225 1441 [(0, .ref 0), (1, .ref 9), (2, .ref 98), (3, .int y3)] [] τ Q) : h_T g_P (g_Y ns) 225 1177 [(0, .ref 0), (1, .ref 9), (2, .ref 98), (3, .int y3)] [] s0 Q := by
  have F0_ : h_F (fun _ _ => true) s0 s0 := h_F.rf
  have j0_ := j0.2
  have i0 := tf_64_1 I0
  have i1 := tf_98_11 I0
  have i2 := tf_64_4 I0
  have i3 := tf_98_16 I0
  refine h_aload_n (pc' := 1178) rfl rfl rfl ?_
  refine h_aload_n (pc' := 1179) rfl rfl rfl ?_
  refine h_iload_n (pc' := 1180) rfl rfl rfl ?_
  refine h_iconst (pc' := 1181) (x := (Int32.ofInt 1)) rfl rfl rfl ?_
  refine h_iadd (pc' := 1182) rfl rfl hy3 ci_1 rfl (by omega) (by omega) (fun z1 hz1 => ?_)
  refine h_iald (pc' := 1183) (v := s0 0 (b3 + 1)) rfl rfl rfl hz1 (by omega) (by omega) rfl (fun z2 hz2 => ?_)
  have tz2 := h_rgv hz2
  clear hz1
  refine h_aload_n (pc' := 1184) rfl rfl rfl ?_
  refine h_iload_n (pc' := 1185) rfl rfl rfl ?_
  refine h_iconst (pc' := 1186) (x := (Int32.ofInt 2)) rfl rfl rfl ?_
  refine h_iadd (pc' := 1187) rfl rfl hy3 ci_2 rfl (by omega) (by omega) (fun z3 hz3 => ?_)
  refine h_iald (pc' := 1188) (v := s0 0 (b3 + 2)) rfl rfl rfl hz3 (by omega) (by omega) rfl (fun z4 hz4 => ?_)
  have tz4 := h_rgv hz4
  clear hz3
  refine h_aload_n (pc' := 1189) rfl rfl rfl ?_
  refine h_iload_n (pc' := 1190) rfl rfl rfl ?_
  refine h_iconst (pc' := 1191) (x := (Int32.ofInt 3)) rfl rfl rfl ?_
  refine h_iadd (pc' := 1192) rfl rfl hy3 ci_3 rfl (by omega) (by omega) (fun z5 hz5 => ?_)
  refine h_iald (pc' := 1193) (v := s0 0 (b3 + 3)) rfl rfl rfl hz5 (by omega) (by omega) rfl (fun z6 hz6 => ?_)
  have tz6 := h_rgv hz6
  clear hz5
  refine h_call (sp := false) (pc' := 1196) (M := [(0, .ref 9), (1, .int z2), (2, .int z4), (3, .int z6)]) rfl rfl rfl rfl rfl rfl rfl rfl ?_
  refine w_115_9 _ I0 z2 _ hz2 z4 _ hz4 z6 _ hz6 (fun r7 br7 hr7 s8 Is8 Gs8 => h_Kv ?_)
  have Zs8 : ∀ i, s8 0 i = s0 0 i := fun i => (Gs8 0 i rfl).trans rfl
  have Fs8 : h_F (fun _ _ => true) s8 s0 := fun _ _ h => by cases h
  have es8_0 : s8 64 1 = s0 64 1 := (Gs8 64 1 rfl).trans rfl
  have es8_1 : s8 98 11 = s0 98 11 := (Gs8 98 11 rfl).trans rfl
  have es8_2 : s8 64 4 = s0 64 4 := (Gs8 64 4 rfl).trans rfl
  have es8_3 : s8 98 16 = s0 98 16 := (Gs8 98 16 rfl).trans rfl
  clear hz2 hz4 hz6
  refine h_pop (pc' := 1197) rfl rfl rfl ?_
  clear hr7
  refine h_aload_n (pc' := 1198) rfl rfl rfl ?_
  refine h_aload_n (pc' := 1199) rfl rfl rfl ?_
  refine h_iload_n (pc' := 1200) rfl rfl rfl ?_
  refine h_iconst (pc' := 1201) (x := (Int32.ofInt 1)) rfl rfl rfl ?_
  refine h_iadd (pc' := 1202) rfl rfl hy3 ci_1 rfl (by omega) (by omega) (fun z9 hz9 => ?_)
  refine h_iald (pc' := 1203) (v := s0 0 (b3 + 1)) rfl rfl rfl hz9 (by omega) (by omega) (Zs8 _) (fun z10 hz10 => ?_)
  have tz10 := h_rgv hz10
  clear hz9
  refine h_aload_n (pc' := 1204) rfl rfl rfl ?_
  refine h_iload_n (pc' := 1205) rfl rfl rfl ?_
  refine h_iconst (pc' := 1206) (x := (Int32.ofInt 2)) rfl rfl rfl ?_
  refine h_iadd (pc' := 1207) rfl rfl hy3 ci_2 rfl (by omega) (by omega) (fun z11 hz11 => ?_)
  refine h_iald (pc' := 1208) (v := s0 0 (b3 + 2)) rfl rfl rfl hz11 (by omega) (by omega) (Zs8 _) (fun z12 hz12 => ?_)
  have tz12 := h_rgv hz12
  clear hz11
  refine h_aload_n (pc' := 1209) rfl rfl rfl ?_
  refine h_iload_n (pc' := 1210) rfl rfl rfl ?_
  refine h_iconst (pc' := 1211) (x := (Int32.ofInt 3)) rfl rfl rfl ?_
  refine h_iadd (pc' := 1212) rfl rfl hy3 ci_3 rfl (by omega) (by omega) (fun z13 hz13 => ?_)
  refine h_iald (pc' := 1213) (v := s0 0 (b3 + 3)) rfl rfl rfl hz13 (by omega) (by omega) (Zs8 _) (fun z14 hz14 => ?_)
  have tz14 := h_rgv hz14
  clear hz13
  refine h_call (sp := false) (pc' := 1216) (M := [(0, .ref 98), (1, .int z10), (2, .int z12), (3, .int z14)]) rfl rfl rfl rfl rfl rfl rfl rfl ?_
  refine w_217_98 _ Is8 z10 _ hz10 z12 _ hz12 z14 _ hz14 (fun r15 br15 hr15 s16 Is16 Gs16 => h_Kv ?_)
  have Zs16 : ∀ i, s16 0 i = s0 0 i := fun i => (Gs16 0 i rfl).trans (Zs8 i)
  have Fs16 : h_F (fun _ _ => true) s16 s0 := fun _ _ h => by cases h
  have es16_0 : s16 64 1 = s0 64 1 := (Gs16 64 1 rfl).trans es8_0
  have es16_1 : s16 98 11 = s0 98 11 := (Gs16 98 11 rfl).trans es8_1
  have es16_2 : s16 64 4 = s0 64 4 := (Gs16 64 4 rfl).trans es8_2
  have es16_3 : s16 98 16 = s0 98 16 := (Gs16 98 16 rfl).trans es8_3
  clear es8_0 es8_1 es8_2 es8_3
  clear hz10 hz12 hz14
  refine h_pop (pc' := 1217) rfl rfl rfl ?_
  clear hr15
  refine h_goto (pc' := 1441) rfl rfl ?_
  exact kk _ Is16 (by first | exact d_tape.le j0 (Int.le_antisymm (by omega) (by omega)) (by omega) (fun j => (Gs16 65 j rfl).trans ((Gs8 65 j rfl))) (fun j => (Gs16 102 j rfl).trans ((Gs8 102 j rfl))) | (exfalso; omega)) (Int.le_antisymm (by omega) (by omega)) (c_R.fr (c_R.fr j2 I0 Gs8 rfl) Is8 Gs16 rfl) (g_ti.e j3 ((funext (fun j => Gs16 100 j rfl)).trans (funext (fun j => Gs8 100 j rfl)))) (g_SH.e j4 ((funext (fun j => Gs16 94 j rfl)).trans (funext (fun j => Gs8 94 j rfl))) ((funext (fun j => Gs16 95 j rfl)).trans (funext (fun j => Gs8 95 j rfl))) ((funext (fun j => Gs16 96 j rfl)).trans (funext (fun j => Gs8 96 j rfl))) ((funext (fun j => Gs16 111 j rfl)).trans (funext (fun j => Gs8 111 j rfl))) ((funext (fun j => Gs16 112 j rfl)).trans (funext (fun j => Gs8 112 j rfl))) ((funext (fun j => Gs16 113 j rfl)).trans (funext (fun j => Gs8 113 j rfl))))
