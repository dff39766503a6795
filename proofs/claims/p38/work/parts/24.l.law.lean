theorem v_undo {ns : Nat} (σ : h_S) (hI : h_I σ) (x0 : Int32) (a0 : Int) (hx0 : x0.toInt = a0) (x1 : Int32) (a1 : Int) (hx1 : x1.toInt = a1) {Q : Option Value → h_S → Prop} (kk : ∀ (r : Int32) (b : Int) (hb : r.toInt = b) (τ : h_S), h_I τ → h_F k_nt τ σ → Q (some (.int r)) τ) : h_T g_P (g_Y ns) 183 0 [(0, .ref 98), (1, .int x0), (2, .int x1)] [] σ Q := by
  have hg := h_rgv hx0
  rcases (show a0 < 0 ∨ a0 = 0 ∨ a0 = 1 ∨ 2 ≤ a0 by omega) with h | h | h | h
  · exact w_undo_n σ hI x0 a0 hx0 (by omega) x1 a1 hx1 (fun r b hb τ I G _ => kk r b hb τ I G.g1)
  · subst h
    have q := h_lit hx0 ci_0
    subst q
    exact w_183_98_e0 σ hI x1 a1 hx1 (fun r b hb τ I G _ => kk r b hb τ I G)
  · subst h
    have q := h_lit hx0 ci_1
    subst q
    exact w_183_98_e1 σ hI x1 a1 hx1 (fun r b hb τ I G _ => kk r b hb τ I G)
  · exact w_undo_p σ hI x0 a0 hx0 (by omega) x1 a1 hx1 (fun r b hb τ I G _ => kk r b hb τ I G.g1)
/-! THE LAW -/
theorem g_case_212 {ns : Nat} (hns : ns ≤ 320) (s0 : h_S) (I0 : h_I s0)  (y3 : Int32) (b3 : Int) (hy3 : y3.toInt = b3) (hr : 0 ≤ b3 ∧ b3 + 5 ≤ ns) {Q : Option Value → h_S → Prop} (kk : ∀ τ, h_I τ → h_T g_P (g_Y ns) 225 1441 [(0, .ref 0), (1, .ref 9), (2, .ref 98), (3, .int y3)] [] τ Q) : h_T g_P (g_Y ns) 225 212 [(0, .ref 0), (1, .ref 9), (2, .ref 98), (3, .int y3)] [] s0 Q := by
  refine h_aload_n (pc' := 213) rfl rfl rfl ?_
  refine h_aload_n (pc' := 214) rfl rfl rfl ?_
  refine h_iload_n (pc' := 215) rfl rfl rfl ?_
  refine h_iconst (pc' := 216) (x := (Int32.ofInt 1)) rfl rfl rfl ?_
  refine h_iadd (pc' := 217) rfl rfl hy3 ci_1 rfl (by omega) (by omega) (fun z1 hz1 => ?_)
  refine h_iald (pc' := 218) (v := s0 0 (b3 + 1)) rfl rfl rfl hz1 (by omega) (by omega) rfl (fun z2 hz2 => ?_)
  have tz2 := h_rgv hz2
  refine h_call (sp := false) (pc' := 221) (M := [(0, .ref 9), (1, .int z2)]) rfl rfl rfl rfl rfl rfl rfl rfl ?_
  refine v_feedX _ I0 z2 _ hz2 (fun r3 br3 hr3 s4 Is4 Gs4 tr3 ps4_0 ps4_1 => h_Kv ?_)
  have Zs4 : ∀ i, s4 0 i = s0 0 i := fun i => (Gs4 0 i rfl).trans rfl
  refine h_pop (pc' := 222) rfl rfl rfl ?_
  refine h_aload_n (pc' := 223) rfl rfl rfl ?_
  refine h_aload_n (pc' := 224) rfl rfl rfl ?_
  refine h_iload_n (pc' := 225) rfl rfl rfl ?_
  refine h_iconst (pc' := 226) (x := (Int32.ofInt 1)) rfl rfl rfl ?_
  refine h_iadd (pc' := 227) rfl rfl hy3 ci_1 rfl (by omega) (by omega) (fun z5 hz5 => ?_)
  refine h_iald (pc' := 228) (v := s0 0 (b3 + 1)) rfl rfl rfl hz5 (by omega) (by omega) (Zs4 _) (fun z6 hz6 => ?_)
  have tz6 := h_rgv hz6
  refine h_call (sp := false) (pc' := 231) (M := [(0, .ref 98), (1, .int z6)]) rfl rfl rfl rfl rfl rfl rfl rfl ?_
  refine v_feedM _ Is4 z6 _ hz6 (fun r7 br7 hr7 s8 Is8 Gs8 tr7 ps8_0 ps8_1 => h_Kv ?_)
  have Zs8 : ∀ i, s8 0 i = s0 0 i := fun i => (Gs8 0 i rfl).trans (Zs4 i)
  refine h_pop (pc' := 232) rfl rfl rfl ?_
  refine h_goto (pc' := 1441) rfl rfl ?_
  exact kk _ Is8 
theorem g_case_235 {ns : Nat} (hns : ns ≤ 320) (s0 : h_S) (I0 : h_I s0)  (y3 : Int32) (b3 : Int) (hy3 : y3.toInt = b3) (hr : 0 ≤ b3 ∧ b3 + 5 ≤ ns) {Q : Option Value → h_S → Prop} (kk : ∀ τ, h_I τ → h_T g_P (g_Y ns) 225 1441 [(0, .ref 0), (1, .ref 9), (2, .ref 98), (3, .int y3)] [] τ Q) : h_T g_P (g_Y ns) 225 235 [(0, .ref 0), (1, .ref 9), (2, .ref 98), (3, .int y3)] [] s0 Q := by
  refine h_aload_n (pc' := 236) rfl rfl rfl ?_
  refine h_aload_n (pc' := 237) rfl rfl rfl ?_
  refine h_iload_n (pc' := 238) rfl rfl rfl ?_
  refine h_iconst (pc' := 239) (x := (Int32.ofInt 1)) rfl rfl rfl ?_
  refine h_iadd (pc' := 240) rfl rfl hy3 ci_1 rfl (by omega) (by omega) (fun z1 hz1 => ?_)
  refine h_iald (pc' := 241) (v := s0 0 (b3 + 1)) rfl rfl rfl hz1 (by omega) (by omega) rfl (fun z2 hz2 => ?_)
  have tz2 := h_rgv hz2
  refine h_call (sp := false) (pc' := 244) (M := [(0, .ref 9), (1, .int z2)]) rfl rfl rfl rfl rfl rfl rfl rfl ?_
  refine v_endX _ I0 z2 _ hz2 (fun r3 br3 hr3 s4 Is4 Gs4 tr3 ps4_0 ps4_1 => h_Kv ?_)
  have Zs4 : ∀ i, s4 0 i = s0 0 i := fun i => (Gs4 0 i rfl).trans rfl
  refine h_pop (pc' := 245) rfl rfl rfl ?_
  refine h_aload_n (pc' := 246) rfl rfl rfl ?_
  refine h_aload_n (pc' := 247) rfl rfl rfl ?_
  refine h_iload_n (pc' := 248) rfl rfl rfl ?_
  refine h_iconst (pc' := 249) (x := (Int32.ofInt 1)) rfl rfl rfl ?_
  refine h_iadd (pc' := 250) rfl rfl hy3 ci_1 rfl (by omega) (by omega) (fun z5 hz5 => ?_)
  refine h_iald (pc' := 251) (v := s0 0 (b3 + 1)) rfl rfl rfl hz5 (by omega) (by omega) (Zs4 _) (fun z6 hz6 => ?_)
  have tz6 := h_rgv hz6
  refine h_call (sp := false) (pc' := 254) (M := [(0, .ref 98), (1, .int z6)]) rfl rfl rfl rfl rfl rfl rfl rfl ?_
  refine v_endM _ Is4 z6 _ hz6 (fun r7 br7 hr7 s8 Is8 Gs8 tr7 ps8_0 ps8_1 => h_Kv ?_)
  have Zs8 : ∀ i, s8 0 i = s0 0 i := fun i => (Gs8 0 i rfl).trans (Zs4 i)
  refine h_pop (pc' := 255) rfl rfl rfl ?_
  refine h_goto (pc' := 1441) rfl rfl ?_
  exact kk _ Is8 
theorem g_case_258 {ns : Nat} (hns : ns ≤ 320) (s0 : h_S) (I0 : h_I s0)  (y3 : Int32) (b3 : Int) (hy3 : y3.toInt = b3) (hr : 0 ≤ b3 ∧ b3 + 5 ≤ ns) {Q : Option Value → h_S → Prop} (kk : ∀ τ, h_I τ → h_T g_P (g_Y ns) 225 1441 [(0, .ref 0), (1, .ref 9), (2, .ref 98), (3, .int y3)] [] τ Q) : h_T g_P (g_Y ns) 225 258 [(0, .ref 0), (1, .ref 9), (2, .ref 98), (3, .int y3)] [] s0 Q := by
  refine h_aload_n (pc' := 259) rfl rfl rfl ?_
  refine h_call (sp := false) (pc' := 262) (M := [(0, .ref 9)]) rfl rfl rfl rfl rfl rfl rfl rfl ?_
  refine v_textX _ I0  (fun r1 br1 hr1 s2 Is2 Gs2 ps2_0 ps2_1 => h_Kv ?_)
  have Zs2 : ∀ i, s2 0 i = s0 0 i := fun i => (Gs2 0 i rfl).trans rfl
  refine h_pop (pc' := 263) rfl rfl rfl ?_
  refine h_aload_n (pc' := 264) rfl rfl rfl ?_
  refine h_call (sp := false) (pc' := 267) (M := [(0, .ref 98)]) rfl rfl rfl rfl rfl rfl rfl rfl ?_
  refine v_textM _ Is2  (fun r3 br3 hr3 s4 Is4 Gs4 ps4_0 ps4_1 => h_Kv ?_)
  have Zs4 : ∀ i, s4 0 i = s0 0 i := fun i => (Gs4 0 i rfl).trans (Zs2 i)
  refine h_pop (pc' := 268) rfl rfl rfl ?_
  refine h_goto (pc' := 1441) rfl rfl ?_
  exact kk _ Is4 
theorem g_case_271 {ns : Nat} (hns : ns ≤ 320) (s0 : h_S) (I0 : h_I s0)  (y3 : Int32) (b3 : Int) (hy3 : y3.toInt = b3) (hr : 0 ≤ b3 ∧ b3 + 5 ≤ ns) {Q : Option Value → h_S → Prop} (kk : ∀ τ, h_I τ → h_T g_P (g_Y ns) 225 1441 [(0, .ref 0), (1, .ref 9), (2, .ref 98), (3, .int y3)] [] τ Q) : h_T g_P (g_Y ns) 225 271 [(0, .ref 0), (1, .ref 9), (2, .ref 98), (3, .int y3)] [] s0 Q := by
  refine h_aload_n (pc' := 272) rfl rfl rfl ?_
  refine h_call (sp := false) (pc' := 275) (M := [(0, .ref 9)]) rfl rfl rfl rfl rfl rfl rfl rfl ?_
  refine w_85_9 _ I0  (fun r1 br1 hr1 s2 Is2 Gs2 tr1 => h_Kv ?_)
  have Zs2 : ∀ i, s2 0 i = s0 0 i := fun i => (Gs2 0 i rfl).trans rfl
  refine h_pop (pc' := 276) rfl rfl rfl ?_
  refine h_aload_n (pc' := 277) rfl rfl rfl ?_
  refine h_call (sp := false) (pc' := 280) (M := [(0, .ref 98)]) rfl rfl rfl rfl rfl rfl rfl rfl ?_
  refine w_156_98 _ Is2  (fun r3 br3 hr3 s4 Is4 Gs4 => h_Kv ?_)
  have Zs4 : ∀ i, s4 0 i = s0 0 i := fun i => (Gs4 0 i rfl).trans (Zs2 i)
  refine h_pop (pc' := 281) rfl rfl rfl ?_
  refine h_goto (pc' := 1441) rfl rfl ?_
  exact kk _ Is4 
theorem g_case_284 {ns : Nat} (hns : ns ≤ 320) (s0 : h_S) (I0 : h_I s0)  (y3 : Int32) (b3 : Int) (hy3 : y3.toInt = b3) (hr : 0 ≤ b3 ∧ b3 + 5 ≤ ns) {Q : Option Value → h_S → Prop} (kk : ∀ τ, h_I τ → h_T g_P (g_Y ns) 225 1441 [(0, .ref 0), (1, .ref 9), (2, .ref 98), (3, .int y3)] [] τ Q) : h_T g_P (g_Y ns) 225 284 [(0, .ref 0), (1, .ref 9), (2, .ref 98), (3, .int y3)] [] s0 Q := by
  refine h_aload_n (pc' := 285) rfl rfl rfl ?_
  refine h_aload_n (pc' := 286) rfl rfl rfl ?_
  refine h_iload_n (pc' := 287) rfl rfl rfl ?_
  refine h_iconst (pc' := 288) (x := (Int32.ofInt 1)) rfl rfl rfl ?_
  refine h_iadd (pc' := 289) rfl rfl hy3 ci_1 rfl (by omega) (by omega) (fun z1 hz1 => ?_)
  refine h_iald (pc' := 290) (v := s0 0 (b3 + 1)) rfl rfl rfl hz1 (by omega) (by omega) rfl (fun z2 hz2 => ?_)
  have tz2 := h_rgv hz2
  refine h_call (sp := false) (pc' := 293) (M := [(0, .ref 9), (1, .int z2)]) rfl rfl rfl rfl rfl rfl rfl rfl ?_
  refine w_86_9 _ I0 z2 _ hz2 (fun r3 br3 hr3 s4 Is4 Gs4 => h_Kv ?_)
  have Zs4 : ∀ i, s4 0 i = s0 0 i := fun i => (Gs4 0 i rfl).trans rfl
  refine h_pop (pc' := 294) rfl rfl rfl ?_
  refine h_aload_n (pc' := 295) rfl rfl rfl ?_
  refine h_aload_n (pc' := 296) rfl rfl rfl ?_
  refine h_iload_n (pc' := 297) rfl rfl rfl ?_
  refine h_iconst (pc' := 298) (x := (Int32.ofInt 1)) rfl rfl rfl ?_
  refine h_iadd (pc' := 299) rfl rfl hy3 ci_1 rfl (by omega) (by omega) (fun z5 hz5 => ?_)
  refine h_iald (pc' := 300) (v := s0 0 (b3 + 1)) rfl rfl rfl hz5 (by omega) (by omega) (Zs4 _) (fun z6 hz6 => ?_)
  have tz6 := h_rgv hz6
  refine h_call (sp := false) (pc' := 303) (M := [(0, .ref 98), (1, .int z6)]) rfl rfl rfl rfl rfl rfl rfl rfl ?_
  refine w_160_98 _ Is4 z6 _ hz6 (fun r7 br7 hr7 s8 Is8 Gs8 => h_Kv ?_)
  have Zs8 : ∀ i, s8 0 i = s0 0 i := fun i => (Gs8 0 i rfl).trans (Zs4 i)
  refine h_pop (pc' := 304) rfl rfl rfl ?_
  refine h_goto (pc' := 1441) rfl rfl ?_
  exact kk _ Is8 
theorem g_case_307 {ns : Nat} (hns : ns ≤ 320) (s0 : h_S) (I0 : h_I s0)  (y3 : Int32) (b3 : Int) (hy3 : y3.toInt = b3) (hr : 0 ≤ b3 ∧ b3 + 5 ≤ ns) {Q : Option Value → h_S → Prop} (kk : ∀ τ, h_I τ → h_T g_P (g_Y ns) 225 1441 [(0, .ref 0), (1, .ref 9), (2, .ref 98), (3, .int y3)] [] τ Q) : h_T g_P (g_Y ns) 225 307 [(0, .ref 0), (1, .ref 9), (2, .ref 98), (3, .int y3)] [] s0 Q := by
  refine h_aload_n (pc' := 308) rfl rfl rfl ?_
  refine h_aload_n (pc' := 309) rfl rfl rfl ?_
  refine h_iload_n (pc' := 310) rfl rfl rfl ?_
  refine h_iconst (pc' := 311) (x := (Int32.ofInt 1)) rfl rfl rfl ?_
  refine h_iadd (pc' := 312) rfl rfl hy3 ci_1 rfl (by omega) (by omega) (fun z1 hz1 => ?_)
  refine h_iald (pc' := 313) (v := s0 0 (b3 + 1)) rfl rfl rfl hz1 (by omega) (by omega) rfl (fun z2 hz2 => ?_)
  have tz2 := h_rgv hz2
  refine h_aload_n (pc' := 314) rfl rfl rfl ?_
  refine h_iload_n (pc' := 315) rfl rfl rfl ?_
  refine h_iconst (pc' := 316) (x := (Int32.ofInt 2)) rfl rfl rfl ?_
  refine h_iadd (pc' := 317) rfl rfl hy3 ci_2 rfl (by omega) (by omega) (fun z3 hz3 => ?_)
  refine h_iald (pc' := 318) (v := s0 0 (b3 + 2)) rfl rfl rfl hz3 (by omega) (by omega) rfl (fun z4 hz4 => ?_)
  have tz4 := h_rgv hz4
  refine h_call (sp := false) (pc' := 321) (M := [(0, .ref 9), (1, .int z2), (2, .int z4)]) rfl rfl rfl rfl rfl rfl rfl rfl ?_
  refine w_87_9 _ I0 z2 _ hz2 z4 _ hz4 (fun r5 br5 hr5 s6 Is6 Gs6 => h_Kv ?_)
  have Zs6 : ∀ i, s6 0 i = s0 0 i := fun i => (Gs6 0 i rfl).trans rfl
  refine h_pop (pc' := 322) rfl rfl rfl ?_
  refine h_aload_n (pc' := 323) rfl rfl rfl ?_
  refine h_aload_n (pc' := 324) rfl rfl rfl ?_
  refine h_iload_n (pc' := 325) rfl rfl rfl ?_
  refine h_iconst (pc' := 326) (x := (Int32.ofInt 1)) rfl rfl rfl ?_
  refine h_iadd (pc' := 327) rfl rfl hy3 ci_1 rfl (by omega) (by omega) (fun z7 hz7 => ?_)
  refine h_iald (pc' := 328) (v := s0 0 (b3 + 1)) rfl rfl rfl hz7 (by omega) (by omega) (Zs6 _) (fun z8 hz8 => ?_)
  have tz8 := h_rgv hz8
  refine h_aload_n (pc' := 329) rfl rfl rfl ?_
  refine h_iload_n (pc' := 330) rfl rfl rfl ?_
  refine h_iconst (pc' := 331) (x := (Int32.ofInt 2)) rfl rfl rfl ?_
  refine h_iadd (pc' := 332) rfl rfl hy3 ci_2 rfl (by omega) (by omega) (fun z9 hz9 => ?_)
  refine h_iald (pc' := 333) (v := s0 0 (b3 + 2)) rfl rfl rfl hz9 (by omega) (by omega) (Zs6 _) (fun z10 hz10 => ?_)
  have tz10 := h_rgv hz10
  refine h_call (sp := false) (pc' := 336) (M := [(0, .ref 98), (1, .int z8), (2, .int z10)]) rfl rfl rfl rfl rfl rfl rfl rfl ?_
  refine w_168_98 _ Is6 z8 _ hz8 z10 _ hz10 (fun r11 br11 hr11 s12 Is12 Gs12 => h_Kv ?_)
  have Zs12 : ∀ i, s12 0 i = s0 0 i := fun i => (Gs12 0 i rfl).trans (Zs6 i)
  refine h_pop (pc' := 337) rfl rfl rfl ?_
  refine h_goto (pc' := 1441) rfl rfl ?_
  exact kk _ Is12 
theorem g_case_340 {ns : Nat} (hns : ns ≤ 320) (s0 : h_S) (I0 : h_I s0)  (y3 : Int32) (b3 : Int) (hy3 : y3.toInt = b3) (hr : 0 ≤ b3 ∧ b3 + 5 ≤ ns) {Q : Option Value → h_S → Prop} (kk : ∀ τ, h_I τ → h_T g_P (g_Y ns) 225 1441 [(0, .ref 0), (1, .ref 9), (2, .ref 98), (3, .int y3)] [] τ Q) : h_T g_P (g_Y ns) 225 340 [(0, .ref 0), (1, .ref 9), (2, .ref 98), (3, .int y3)] [] s0 Q := by
  refine h_aload_n (pc' := 341) rfl rfl rfl ?_
  refine h_aload_n (pc' := 342) rfl rfl rfl ?_
  refine h_iload_n (pc' := 343) rfl rfl rfl ?_
  refine h_iconst (pc' := 344) (x := (Int32.ofInt 1)) rfl rfl rfl ?_
  refine h_iadd (pc' := 345) rfl rfl hy3 ci_1 rfl (by omega) (by omega) (fun z1 hz1 => ?_)
  refine h_iald (pc' := 346) (v := s0 0 (b3 + 1)) rfl rfl rfl hz1 (by omega) (by omega) rfl (fun z2 hz2 => ?_)
  have tz2 := h_rgv hz2
  refine h_aload_n (pc' := 347) rfl rfl rfl ?_
  refine h_iload_n (pc' := 348) rfl rfl rfl ?_
  refine h_iconst (pc' := 349) (x := (Int32.ofInt 2)) rfl rfl rfl ?_
  refine h_iadd (pc' := 350) rfl rfl hy3 ci_2 rfl (by omega) (by omega) (fun z3 hz3 => ?_)
  refine h_iald (pc' := 351) (v := s0 0 (b3 + 2)) rfl rfl rfl hz3 (by omega) (by omega) rfl (fun z4 hz4 => ?_)
  have tz4 := h_rgv hz4
  refine h_call (sp := false) (pc' := 354) (M := [(0, .ref 9), (1, .int z2), (2, .int z4)]) rfl rfl rfl rfl rfl rfl rfl rfl ?_
  refine w_88_9 _ I0 z2 _ hz2 z4 _ hz4 (fun r5 br5 hr5 s6 Is6 Gs6 => h_Kv ?_)
  have Zs6 : ∀ i, s6 0 i = s0 0 i := fun i => (Gs6 0 i rfl).trans rfl
  refine h_pop (pc' := 355) rfl rfl rfl ?_
  refine h_aload_n (pc' := 356) rfl rfl rfl ?_
  refine h_aload_n (pc' := 357) rfl rfl rfl ?_
  refine h_iload_n (pc' := 358) rfl rfl rfl ?_
  refine h_iconst (pc' := 359) (x := (Int32.ofInt 1)) rfl rfl rfl ?_
  refine h_iadd (pc' := 360) rfl rfl hy3 ci_1 rfl (by omega) (by omega) (fun z7 hz7 => ?_)
  refine h_iald (pc' := 361) (v := s0 0 (b3 + 1)) rfl rfl rfl hz7 (by omega) (by omega) (Zs6 _) (fun z8 hz8 => ?_)
  have tz8 := h_rgv hz8
  refine h_aload_n (pc' := 362) rfl rfl rfl ?_
  refine h_iload_n (pc' := 363) rfl rfl rfl ?_
  refine h_iconst (pc' := 364) (x := (Int32.ofInt 2)) rfl rfl rfl ?_
  refine h_iadd (pc' := 365) rfl rfl hy3 ci_2 rfl (by omega) (by omega) (fun z9 hz9 => ?_)
  refine h_iald (pc' := 366) (v := s0 0 (b3 + 2)) rfl rfl rfl hz9 (by omega) (by omega) (Zs6 _) (fun z10 hz10 => ?_)
  have tz10 := h_rgv hz10
  refine h_call (sp := false) (pc' := 369) (M := [(0, .ref 98), (1, .int z8), (2, .int z10)]) rfl rfl rfl rfl rfl rfl rfl rfl ?_
  refine w_170_98 _ Is6 z8 _ hz8 z10 _ hz10 (fun r11 br11 hr11 s12 Is12 Gs12 => h_Kv ?_)
  have Zs12 : ∀ i, s12 0 i = s0 0 i := fun i => (Gs12 0 i rfl).trans (Zs6 i)
  refine h_pop (pc' := 370) rfl rfl rfl ?_
  refine h_goto (pc' := 1441) rfl rfl ?_
  exact kk _ Is12 
theorem g_case_373 {ns : Nat} (hns : ns ≤ 320) (s0 : h_S) (I0 : h_I s0)  (y3 : Int32) (b3 : Int) (hy3 : y3.toInt = b3) (hr : 0 ≤ b3 ∧ b3 + 5 ≤ ns) {Q : Option Value → h_S → Prop} (kk : ∀ τ, h_I τ → h_T g_P (g_Y ns) 225 1441 [(0, .ref 0), (1, .ref 9), (2, .ref 98), (3, .int y3)] [] τ Q) : h_T g_P (g_Y ns) 225 373 [(0, .ref 0), (1, .ref 9), (2, .ref 98), (3, .int y3)] [] s0 Q := by
  refine h_aload_n (pc' := 374) rfl rfl rfl ?_
  refine h_aload_n (pc' := 375) rfl rfl rfl ?_
  refine h_iload_n (pc' := 376) rfl rfl rfl ?_
  refine h_iconst (pc' := 377) (x := (Int32.ofInt 1)) rfl rfl rfl ?_
  refine h_iadd (pc' := 378) rfl rfl hy3 ci_1 rfl (by omega) (by omega) (fun z1 hz1 => ?_)
  refine h_iald (pc' := 379) (v := s0 0 (b3 + 1)) rfl rfl rfl hz1 (by omega) (by omega) rfl (fun z2 hz2 => ?_)
  have tz2 := h_rgv hz2
  refine h_aload_n (pc' := 380) rfl rfl rfl ?_
  refine h_iload_n (pc' := 381) rfl rfl rfl ?_
  refine h_iconst (pc' := 382) (x := (Int32.ofInt 2)) rfl rfl rfl ?_
  refine h_iadd (pc' := 383) rfl rfl hy3 ci_2 rfl (by omega) (by omega) (fun z3 hz3 => ?_)
  refine h_iald (pc' := 384) (v := s0 0 (b3 + 2)) rfl rfl rfl hz3 (by omega) (by omega) rfl (fun z4 hz4 => ?_)
  have tz4 := h_rgv hz4
  refine h_call (sp := false) (pc' := 387) (M := [(0, .ref 9), (1, .int z2), (2, .int z4)]) rfl rfl rfl rfl rfl rfl rfl rfl ?_
  refine w_89_9 _ I0 z2 _ hz2 z4 _ hz4 (fun r5 br5 hr5 s6 Is6 Gs6 tr5 => h_Kv ?_)
  have Zs6 : ∀ i, s6 0 i = s0 0 i := fun i => (Gs6 0 i rfl).trans rfl
  refine h_pop (pc' := 388) rfl rfl rfl ?_
  refine h_aload_n (pc' := 389) rfl rfl rfl ?_
  refine h_aload_n (pc' := 390) rfl rfl rfl ?_
  refine h_iload_n (pc' := 391) rfl rfl rfl ?_
  refine h_iconst (pc' := 392) (x := (Int32.ofInt 1)) rfl rfl rfl ?_
  refine h_iadd (pc' := 393) rfl rfl hy3 ci_1 rfl (by omega) (by omega) (fun z7 hz7 => ?_)
  refine h_iald (pc' := 394) (v := s0 0 (b3 + 1)) rfl rfl rfl hz7 (by omega) (by omega) (Zs6 _) (fun z8 hz8 => ?_)
  have tz8 := h_rgv hz8
  refine h_aload_n (pc' := 395) rfl rfl rfl ?_
  refine h_iload_n (pc' := 396) rfl rfl rfl ?_
  refine h_iconst (pc' := 397) (x := (Int32.ofInt 2)) rfl rfl rfl ?_
  refine h_iadd (pc' := 398) rfl rfl hy3 ci_2 rfl (by omega) (by omega) (fun z9 hz9 => ?_)
  refine h_iald (pc' := 399) (v := s0 0 (b3 + 2)) rfl rfl rfl hz9 (by omega) (by omega) (Zs6 _) (fun z10 hz10 => ?_)
  have tz10 := h_rgv hz10
  refine h_call (sp := false) (pc' := 402) (M := [(0, .ref 98), (1, .int z8), (2, .int z10)]) rfl rfl rfl rfl rfl rfl rfl rfl ?_
  refine w_173_98 _ Is6 z8 _ hz8 z10 _ hz10 (fun r11 br11 hr11 s12 Is12 Gs12 tr11 => h_Kv ?_)
  have Zs12 : ∀ i, s12 0 i = s0 0 i := fun i => (Gs12 0 i rfl).trans (Zs6 i)
  refine h_pop (pc' := 403) rfl rfl rfl ?_
  refine h_goto (pc' := 1441) rfl rfl ?_
  exact kk _ Is12 
theorem g_case_406 {ns : Nat} (hns : ns ≤ 320) (s0 : h_S) (I0 : h_I s0)  (y3 : Int32) (b3 : Int) (hy3 : y3.toInt = b3) (hr : 0 ≤ b3 ∧ b3 + 5 ≤ ns) {Q : Option Value → h_S → Prop} (kk : ∀ τ, h_I τ → h_T g_P (g_Y ns) 225 1441 [(0, .ref 0), (1, .ref 9), (2, .ref 98), (3, .int y3)] [] τ Q) : h_T g_P (g_Y ns) 225 406 [(0, .ref 0), (1, .ref 9), (2, .ref 98), (3, .int y3)] [] s0 Q := by
  refine h_aload_n (pc' := 407) rfl rfl rfl ?_
  refine h_aload_n (pc' := 408) rfl rfl rfl ?_
  refine h_iload_n (pc' := 409) rfl rfl rfl ?_
  refine h_iconst (pc' := 410) (x := (Int32.ofInt 1)) rfl rfl rfl ?_
  refine h_iadd (pc' := 411) rfl rfl hy3 ci_1 rfl (by omega) (by omega) (fun z1 hz1 => ?_)
  refine h_iald (pc' := 412) (v := s0 0 (b3 + 1)) rfl rfl rfl hz1 (by omega) (by omega) rfl (fun z2 hz2 => ?_)
  have tz2 := h_rgv hz2
  refine h_call (sp := false) (pc' := 415) (M := [(0, .ref 9), (1, .int z2)]) rfl rfl rfl rfl rfl rfl rfl rfl ?_
  refine w_90_9 _ I0 z2 _ hz2 (fun r3 br3 hr3 s4 Is4 Gs4 tr3 => h_Kv ?_)
  have Zs4 : ∀ i, s4 0 i = s0 0 i := fun i => (Gs4 0 i rfl).trans rfl
  refine h_pop (pc' := 416) rfl rfl rfl ?_
  refine h_aload_n (pc' := 417) rfl rfl rfl ?_
  refine h_aload_n (pc' := 418) rfl rfl rfl ?_
  refine h_iload_n (pc' := 419) rfl rfl rfl ?_
  refine h_iconst (pc' := 420) (x := (Int32.ofInt 1)) rfl rfl rfl ?_
  refine h_iadd (pc' := 421) rfl rfl hy3 ci_1 rfl (by omega) (by omega) (fun z5 hz5 => ?_)
  refine h_iald (pc' := 422) (v := s0 0 (b3 + 1)) rfl rfl rfl hz5 (by omega) (by omega) (Zs4 _) (fun z6 hz6 => ?_)
  have tz6 := h_rgv hz6
  refine h_call (sp := false) (pc' := 425) (M := [(0, .ref 98), (1, .int z6)]) rfl rfl rfl rfl rfl rfl rfl rfl ?_
  refine w_174_98 _ Is4 z6 _ hz6 (fun r7 br7 hr7 s8 Is8 Gs8 tr7 => h_Kv ?_)
  have Zs8 : ∀ i, s8 0 i = s0 0 i := fun i => (Gs8 0 i rfl).trans (Zs4 i)
  refine h_pop (pc' := 426) rfl rfl rfl ?_
  refine h_goto (pc' := 1441) rfl rfl ?_
  exact kk _ Is8 
theorem g_case_429 {ns : Nat} (hns : ns ≤ 320) (s0 : h_S) (I0 : h_I s0)  (y3 : Int32) (b3 : Int) (hy3 : y3.toInt = b3) (hr : 0 ≤ b3 ∧ b3 + 5 ≤ ns) {Q : Option Value → h_S → Prop} (kk : ∀ τ, h_I τ → h_T g_P (g_Y ns) 225 1441 [(0, .ref 0), (1, .ref 9), (2, .ref 98), (3, .int y3)] [] τ Q) : h_T g_P (g_Y ns) 225 429 [(0, .ref 0), (1, .ref 9), (2, .ref 98), (3, .int y3)] [] s0 Q := by
  refine h_aload_n (pc' := 430) rfl rfl rfl ?_
  refine h_aload_n (pc' := 431) rfl rfl rfl ?_
  refine h_iload_n (pc' := 432) rfl rfl rfl ?_
  refine h_iconst (pc' := 433) (x := (Int32.ofInt 1)) rfl rfl rfl ?_
  refine h_iadd (pc' := 434) rfl rfl hy3 ci_1 rfl (by omega) (by omega) (fun z1 hz1 => ?_)
  refine h_iald (pc' := 435) (v := s0 0 (b3 + 1)) rfl rfl rfl hz1 (by omega) (by omega) rfl (fun z2 hz2 => ?_)
  have tz2 := h_rgv hz2
  refine h_aload_n (pc' := 436) rfl rfl rfl ?_
  refine h_iload_n (pc' := 437) rfl rfl rfl ?_
  refine h_iconst (pc' := 438) (x := (Int32.ofInt 2)) rfl rfl rfl ?_
  refine h_iadd (pc' := 439) rfl rfl hy3 ci_2 rfl (by omega) (by omega) (fun z3 hz3 => ?_)
  refine h_iald (pc' := 440) (v := s0 0 (b3 + 2)) rfl rfl rfl hz3 (by omega) (by omega) rfl (fun z4 hz4 => ?_)
  have tz4 := h_rgv hz4
  refine h_call (sp := false) (pc' := 443) (M := [(0, .ref 9), (1, .int z2), (2, .int z4)]) rfl rfl rfl rfl rfl rfl rfl rfl ?_
  refine w_91_9 _ I0 z2 _ hz2 z4 _ hz4 (fun r5 br5 hr5 s6 Is6 Gs6 tr5 => h_Kv ?_)
  have Zs6 : ∀ i, s6 0 i = s0 0 i := fun i => (Gs6 0 i rfl).trans rfl
  refine h_pop (pc' := 444) rfl rfl rfl ?_
  refine h_aload_n (pc' := 445) rfl rfl rfl ?_
  refine h_aload_n (pc' := 446) rfl rfl rfl ?_
  refine h_iload_n (pc' := 447) rfl rfl rfl ?_
  refine h_iconst (pc' := 448) (x := (Int32.ofInt 1)) rfl rfl rfl ?_
  refine h_iadd (pc' := 449) rfl rfl hy3 ci_1 rfl (by omega) (by omega) (fun z7 hz7 => ?_)
  refine h_iald (pc' := 450) (v := s0 0 (b3 + 1)) rfl rfl rfl hz7 (by omega) (by omega) (Zs6 _) (fun z8 hz8 => ?_)
  have tz8 := h_rgv hz8
  refine h_aload_n (pc' := 451) rfl rfl rfl ?_
  refine h_iload_n (pc' := 452) rfl rfl rfl ?_
  refine h_iconst (pc' := 453) (x := (Int32.ofInt 2)) rfl rfl rfl ?_
  refine h_iadd (pc' := 454) rfl rfl hy3 ci_2 rfl (by omega) (by omega) (fun z9 hz9 => ?_)
  refine h_iald (pc' := 455) (v := s0 0 (b3 + 2)) rfl rfl rfl hz9 (by omega) (by omega) (Zs6 _) (fun z10 hz10 => ?_)
  have tz10 := h_rgv hz10
  refine h_call (sp := false) (pc' := 458) (M := [(0, .ref 98), (1, .int z8), (2, .int z10)]) rfl rfl rfl rfl rfl rfl rfl rfl ?_
  refine w_175_98 _ Is6 z8 _ hz8 z10 _ hz10 (fun r11 br11 hr11 s12 Is12 Gs12 tr11 => h_Kv ?_)
  have Zs12 : ∀ i, s12 0 i = s0 0 i := fun i => (Gs12 0 i rfl).trans (Zs6 i)
  refine h_pop (pc' := 459) rfl rfl rfl ?_
  refine h_goto (pc' := 1441) rfl rfl ?_
  exact kk _ Is12 
theorem g_case_462 {ns : Nat} (hns : ns ≤ 320) (s0 : h_S) (I0 : h_I s0)  (y3 : Int32) (b3 : Int) (hy3 : y3.toInt = b3) (hr : 0 ≤ b3 ∧ b3 + 5 ≤ ns) {Q : Option Value → h_S → Prop} (kk : ∀ τ, h_I τ → h_T g_P (g_Y ns) 225 1441 [(0, .ref 0), (1, .ref 9), (2, .ref 98), (3, .int y3)] [] τ Q) : h_T g_P (g_Y ns) 225 462 [(0, .ref 0), (1, .ref 9), (2, .ref 98), (3, .int y3)] [] s0 Q := by
  refine h_aload_n (pc' := 463) rfl rfl rfl ?_
  refine h_aload_n (pc' := 464) rfl rfl rfl ?_
  refine h_iload_n (pc' := 465) rfl rfl rfl ?_
  refine h_iconst (pc' := 466) (x := (Int32.ofInt 1)) rfl rfl rfl ?_
  refine h_iadd (pc' := 467) rfl rfl hy3 ci_1 rfl (by omega) (by omega) (fun z1 hz1 => ?_)
  refine h_iald (pc' := 468) (v := s0 0 (b3 + 1)) rfl rfl rfl hz1 (by omega) (by omega) rfl (fun z2 hz2 => ?_)
  have tz2 := h_rgv hz2
  refine h_aload_n (pc' := 469) rfl rfl rfl ?_
  refine h_iload_n (pc' := 470) rfl rfl rfl ?_
  refine h_iconst (pc' := 471) (x := (Int32.ofInt 2)) rfl rfl rfl ?_
  refine h_iadd (pc' := 472) rfl rfl hy3 ci_2 rfl (by omega) (by omega) (fun z3 hz3 => ?_)
  refine h_iald (pc' := 473) (v := s0 0 (b3 + 2)) rfl rfl rfl hz3 (by omega) (by omega) rfl (fun z4 hz4 => ?_)
  have tz4 := h_rgv hz4
  refine h_call (sp := false) (pc' := 476) (M := [(0, .ref 9), (1, .int z2), (2, .int z4)]) rfl rfl rfl rfl rfl rfl rfl rfl ?_
  refine w_92_9 _ I0 z2 _ hz2 z4 _ hz4 (fun r5 br5 hr5 s6 Is6 Gs6 tr5 => h_Kv ?_)
  have Zs6 : ∀ i, s6 0 i = s0 0 i := fun i => (Gs6 0 i rfl).trans rfl
  refine h_pop (pc' := 477) rfl rfl rfl ?_
  refine h_aload_n (pc' := 478) rfl rfl rfl ?_
  refine h_aload_n (pc' := 479) rfl rfl rfl ?_
  refine h_iload_n (pc' := 480) rfl rfl rfl ?_
  refine h_iconst (pc' := 481) (x := (Int32.ofInt 1)) rfl rfl rfl ?_
  refine h_iadd (pc' := 482) rfl rfl hy3 ci_1 rfl (by omega) (by omega) (fun z7 hz7 => ?_)
  refine h_iald (pc' := 483) (v := s0 0 (b3 + 1)) rfl rfl rfl hz7 (by omega) (by omega) (Zs6 _) (fun z8 hz8 => ?_)
  have tz8 := h_rgv hz8
  refine h_aload_n (pc' := 484) rfl rfl rfl ?_
  refine h_iload_n (pc' := 485) rfl rfl rfl ?_
  refine h_iconst (pc' := 486) (x := (Int32.ofInt 2)) rfl rfl rfl ?_
  refine h_iadd (pc' := 487) rfl rfl hy3 ci_2 rfl (by omega) (by omega) (fun z9 hz9 => ?_)
  refine h_iald (pc' := 488) (v := s0 0 (b3 + 2)) rfl rfl rfl hz9 (by omega) (by omega) (Zs6 _) (fun z10 hz10 => ?_)
  have tz10 := h_rgv hz10
  refine h_call (sp := false) (pc' := 491) (M := [(0, .ref 98), (1, .int z8), (2, .int z10)]) rfl rfl rfl rfl rfl rfl rfl rfl ?_
  refine w_177_98 _ Is6 z8 _ hz8 z10 _ hz10 (fun r11 br11 hr11 s12 Is12 Gs12 tr11 => h_Kv ?_)
  have Zs12 : ∀ i, s12 0 i = s0 0 i := fun i => (Gs12 0 i rfl).trans (Zs6 i)
  refine h_pop (pc' := 492) rfl rfl rfl ?_
  refine h_goto (pc' := 1441) rfl rfl ?_
  exact kk _ Is12 
theorem g_case_495 {ns : Nat} (hns : ns ≤ 320) (s0 : h_S) (I0 : h_I s0)  (y3 : Int32) (b3 : Int) (hy3 : y3.toInt = b3) (hr : 0 ≤ b3 ∧ b3 + 5 ≤ ns) {Q : Option Value → h_S → Prop} (kk : ∀ τ, h_I τ → h_T g_P (g_Y ns) 225 1441 [(0, .ref 0), (1, .ref 9), (2, .ref 98), (3, .int y3)] [] τ Q) : h_T g_P (g_Y ns) 225 495 [(0, .ref 0), (1, .ref 9), (2, .ref 98), (3, .int y3)] [] s0 Q := by
  refine h_aload_n (pc' := 496) rfl rfl rfl ?_
  refine h_aload_n (pc' := 497) rfl rfl rfl ?_
  refine h_iload_n (pc' := 498) rfl rfl rfl ?_
  refine h_iconst (pc' := 499) (x := (Int32.ofInt 1)) rfl rfl rfl ?_
  refine h_iadd (pc' := 500) rfl rfl hy3 ci_1 rfl (by omega) (by omega) (fun z1 hz1 => ?_)
  refine h_iald (pc' := 501) (v := s0 0 (b3 + 1)) rfl rfl rfl hz1 (by omega) (by omega) rfl (fun z2 hz2 => ?_)
  have tz2 := h_rgv hz2
  refine h_aload_n (pc' := 502) rfl rfl rfl ?_
  refine h_iload_n (pc' := 503) rfl rfl rfl ?_
  refine h_iconst (pc' := 504) (x := (Int32.ofInt 2)) rfl rfl rfl ?_
  refine h_iadd (pc' := 505) rfl rfl hy3 ci_2 rfl (by omega) (by omega) (fun z3 hz3 => ?_)
  refine h_iald (pc' := 506) (v := s0 0 (b3 + 2)) rfl rfl rfl hz3 (by omega) (by omega) rfl (fun z4 hz4 => ?_)
  have tz4 := h_rgv hz4
  refine h_aload_n (pc' := 507) rfl rfl rfl ?_
  refine h_iload_n (pc' := 508) rfl rfl rfl ?_
  refine h_iconst (pc' := 509) (x := (Int32.ofInt 3)) rfl rfl rfl ?_
  refine h_iadd (pc' := 510) rfl rfl hy3 ci_3 rfl (by omega) (by omega) (fun z5 hz5 => ?_)
  refine h_iald (pc' := 511) (v := s0 0 (b3 + 3)) rfl rfl rfl hz5 (by omega) (by omega) rfl (fun z6 hz6 => ?_)
  have tz6 := h_rgv hz6
  refine h_call (sp := false) (pc' := 514) (M := [(0, .ref 9), (1, .int z2), (2, .int z4), (3, .int z6)]) rfl rfl rfl rfl rfl rfl rfl rfl ?_
  refine w_93_9 _ I0 z2 _ hz2 z4 _ hz4 z6 _ hz6 (fun r7 br7 hr7 s8 Is8 Gs8 tr7 => h_Kv ?_)
  have Zs8 : ∀ i, s8 0 i = s0 0 i := fun i => (Gs8 0 i rfl).trans rfl
  refine h_pop (pc' := 515) rfl rfl rfl ?_
  refine h_aload_n (pc' := 516) rfl rfl rfl ?_
  refine h_aload_n (pc' := 517) rfl rfl rfl ?_
  refine h_iload_n (pc' := 518) rfl rfl rfl ?_
  refine h_iconst (pc' := 519) (x := (Int32.ofInt 1)) rfl rfl rfl ?_
  refine h_iadd (pc' := 520) rfl rfl hy3 ci_1 rfl (by omega) (by omega) (fun z9 hz9 => ?_)
  refine h_iald (pc' := 521) (v := s0 0 (b3 + 1)) rfl rfl rfl hz9 (by omega) (by omega) (Zs8 _) (fun z10 hz10 => ?_)
  have tz10 := h_rgv hz10
  refine h_aload_n (pc' := 522) rfl rfl rfl ?_
  refine h_iload_n (pc' := 523) rfl rfl rfl ?_
  refine h_iconst (pc' := 524) (x := (Int32.ofInt 2)) rfl rfl rfl ?_
  refine h_iadd (pc' := 525) rfl rfl hy3 ci_2 rfl (by omega) (by omega) (fun z11 hz11 => ?_)
  refine h_iald (pc' := 526) (v := s0 0 (b3 + 2)) rfl rfl rfl hz11 (by omega) (by omega) (Zs8 _) (fun z12 hz12 => ?_)
  have tz12 := h_rgv hz12
  refine h_aload_n (pc' := 527) rfl rfl rfl ?_
  refine h_iload_n (pc' := 528) rfl rfl rfl ?_
  refine h_iconst (pc' := 529) (x := (Int32.ofInt 3)) rfl rfl rfl ?_
  refine h_iadd (pc' := 530) rfl rfl hy3 ci_3 rfl (by omega) (by omega) (fun z13 hz13 => ?_)
  refine h_iald (pc' := 531) (v := s0 0 (b3 + 3)) rfl rfl rfl hz13 (by omega) (by omega) (Zs8 _) (fun z14 hz14 => ?_)
  have tz14 := h_rgv hz14
  refine h_call (sp := false) (pc' := 534) (M := [(0, .ref 98), (1, .int z10), (2, .int z12), (3, .int z14)]) rfl rfl rfl rfl rfl rfl rfl rfl ?_
  refine w_179_98 _ Is8 z10 _ hz10 z12 _ hz12 z14 _ hz14 (fun r15 br15 hr15 s16 Is16 Gs16 tr15 => h_Kv ?_)
  have Zs16 : ∀ i, s16 0 i = s0 0 i := fun i => (Gs16 0 i rfl).trans (Zs8 i)
  refine h_pop (pc' := 535) rfl rfl rfl ?_
  refine h_goto (pc' := 1441) rfl rfl ?_
  exact kk _ Is16 
theorem g_case_538 {ns : Nat} (hns : ns ≤ 320) (s0 : h_S) (I0 : h_I s0)  (y3 : Int32) (b3 : Int) (hy3 : y3.toInt = b3) (hr : 0 ≤ b3 ∧ b3 + 5 ≤ ns) {Q : Option Value → h_S → Prop} (kk : ∀ τ, h_I τ → h_T g_P (g_Y ns) 225 1441 [(0, .ref 0), (1, .ref 9), (2, .ref 98), (3, .int y3)] [] τ Q) : h_T g_P (g_Y ns) 225 538 [(0, .ref 0), (1, .ref 9), (2, .ref 98), (3, .int y3)] [] s0 Q := by
  refine h_aload_n (pc' := 539) rfl rfl rfl ?_
  refine h_aload_n (pc' := 540) rfl rfl rfl ?_
  refine h_iload_n (pc' := 541) rfl rfl rfl ?_
  refine h_iconst (pc' := 542) (x := (Int32.ofInt 1)) rfl rfl rfl ?_
  refine h_iadd (pc' := 543) rfl rfl hy3 ci_1 rfl (by omega) (by omega) (fun z1 hz1 => ?_)
  refine h_iald (pc' := 544) (v := s0 0 (b3 + 1)) rfl rfl rfl hz1 (by omega) (by omega) rfl (fun z2 hz2 => ?_)
  have tz2 := h_rgv hz2
  refine h_aload_n (pc' := 545) rfl rfl rfl ?_
  refine h_iload_n (pc' := 546) rfl rfl rfl ?_
  refine h_iconst (pc' := 547) (x := (Int32.ofInt 2)) rfl rfl rfl ?_
  refine h_iadd (pc' := 548) rfl rfl hy3 ci_2 rfl (by omega) (by omega) (fun z3 hz3 => ?_)
  refine h_iald (pc' := 549) (v := s0 0 (b3 + 2)) rfl rfl rfl hz3 (by omega) (by omega) rfl (fun z4 hz4 => ?_)
  have tz4 := h_rgv hz4
  refine h_call (sp := false) (pc' := 552) (M := [(0, .ref 9), (1, .int z2), (2, .int z4)]) rfl rfl rfl rfl rfl rfl rfl rfl ?_
  refine w_94_9 _ I0 z2 _ hz2 z4 _ hz4 (fun r5 br5 hr5 s6 Is6 Gs6 tr5 => h_Kv ?_)
  have Zs6 : ∀ i, s6 0 i = s0 0 i := fun i => (Gs6 0 i rfl).trans rfl
  refine h_pop (pc' := 553) rfl rfl rfl ?_
  refine h_aload_n (pc' := 554) rfl rfl rfl ?_
  refine h_aload_n (pc' := 555) rfl rfl rfl ?_
  refine h_iload_n (pc' := 556) rfl rfl rfl ?_
  refine h_iconst (pc' := 557) (x := (Int32.ofInt 1)) rfl rfl rfl ?_
  refine h_iadd (pc' := 558) rfl rfl hy3 ci_1 rfl (by omega) (by omega) (fun z7 hz7 => ?_)
  refine h_iald (pc' := 559) (v := s0 0 (b3 + 1)) rfl rfl rfl hz7 (by omega) (by omega) (Zs6 _) (fun z8 hz8 => ?_)
  have tz8 := h_rgv hz8
  refine h_aload_n (pc' := 560) rfl rfl rfl ?_
  refine h_iload_n (pc' := 561) rfl rfl rfl ?_
  refine h_iconst (pc' := 562) (x := (Int32.ofInt 2)) rfl rfl rfl ?_
  refine h_iadd (pc' := 563) rfl rfl hy3 ci_2 rfl (by omega) (by omega) (fun z9 hz9 => ?_)
  refine h_iald (pc' := 564) (v := s0 0 (b3 + 2)) rfl rfl rfl hz9 (by omega) (by omega) (Zs6 _) (fun z10 hz10 => ?_)
  have tz10 := h_rgv hz10
  refine h_call (sp := false) (pc' := 567) (M := [(0, .ref 98), (1, .int z8), (2, .int z10)]) rfl rfl rfl rfl rfl rfl rfl rfl ?_
  refine w_181_98 _ Is6 z8 _ hz8 z10 _ hz10 (fun r11 br11 hr11 s12 Is12 Gs12 tr11 => h_Kv ?_)
  have Zs12 : ∀ i, s12 0 i = s0 0 i := fun i => (Gs12 0 i rfl).trans (Zs6 i)
  refine h_pop (pc' := 568) rfl rfl rfl ?_
  refine h_goto (pc' := 1441) rfl rfl ?_
  exact kk _ Is12 
theorem g_case_571 {ns : Nat} (hns : ns ≤ 320) (s0 : h_S) (I0 : h_I s0)  (y3 : Int32) (b3 : Int) (hy3 : y3.toInt = b3) (hr : 0 ≤ b3 ∧ b3 + 5 ≤ ns) {Q : Option Value → h_S → Prop} (kk : ∀ τ, h_I τ → h_T g_P (g_Y ns) 225 1441 [(0, .ref 0), (1, .ref 9), (2, .ref 98), (3, .int y3)] [] τ Q) : h_T g_P (g_Y ns) 225 571 [(0, .ref 0), (1, .ref 9), (2, .ref 98), (3, .int y3)] [] s0 Q := by
  refine h_aload_n (pc' := 572) rfl rfl rfl ?_
  refine h_aload_n (pc' := 573) rfl rfl rfl ?_
  refine h_iload_n (pc' := 574) rfl rfl rfl ?_
  refine h_iconst (pc' := 575) (x := (Int32.ofInt 1)) rfl rfl rfl ?_
  refine h_iadd (pc' := 576) rfl rfl hy3 ci_1 rfl (by omega) (by omega) (fun z1 hz1 => ?_)
  refine h_iald (pc' := 577) (v := s0 0 (b3 + 1)) rfl rfl rfl hz1 (by omega) (by omega) rfl (fun z2 hz2 => ?_)
  have tz2 := h_rgv hz2
  refine h_aload_n (pc' := 578) rfl rfl rfl ?_
  refine h_iload_n (pc' := 579) rfl rfl rfl ?_
  refine h_iconst (pc' := 580) (x := (Int32.ofInt 2)) rfl rfl rfl ?_
  refine h_iadd (pc' := 581) rfl rfl hy3 ci_2 rfl (by omega) (by omega) (fun z3 hz3 => ?_)
  refine h_iald (pc' := 582) (v := s0 0 (b3 + 2)) rfl rfl rfl hz3 (by omega) (by omega) rfl (fun z4 hz4 => ?_)
  have tz4 := h_rgv hz4
  refine h_call (sp := false) (pc' := 585) (M := [(0, .ref 9), (1, .int z2), (2, .int z4)]) rfl rfl rfl rfl rfl rfl rfl rfl ?_
  refine w_95_9 _ I0 z2 _ hz2 z4 _ hz4 (fun r5 br5 hr5 s6 Is6 Gs6 tr5 => h_Kv ?_)
  have Zs6 : ∀ i, s6 0 i = s0 0 i := fun i => (Gs6 0 i rfl).trans rfl
  refine h_pop (pc' := 586) rfl rfl rfl ?_
  refine h_aload_n (pc' := 587) rfl rfl rfl ?_
  refine h_aload_n (pc' := 588) rfl rfl rfl ?_
  refine h_iload_n (pc' := 589) rfl rfl rfl ?_
  refine h_iconst (pc' := 590) (x := (Int32.ofInt 1)) rfl rfl rfl ?_
  refine h_iadd (pc' := 591) rfl rfl hy3 ci_1 rfl (by omega) (by omega) (fun z7 hz7 => ?_)
  refine h_iald (pc' := 592) (v := s0 0 (b3 + 1)) rfl rfl rfl hz7 (by omega) (by omega) (Zs6 _) (fun z8 hz8 => ?_)
  have tz8 := h_rgv hz8
  refine h_aload_n (pc' := 593) rfl rfl rfl ?_
  refine h_iload_n (pc' := 594) rfl rfl rfl ?_
  refine h_iconst (pc' := 595) (x := (Int32.ofInt 2)) rfl rfl rfl ?_
  refine h_iadd (pc' := 596) rfl rfl hy3 ci_2 rfl (by omega) (by omega) (fun z9 hz9 => ?_)
  refine h_iald (pc' := 597) (v := s0 0 (b3 + 2)) rfl rfl rfl hz9 (by omega) (by omega) (Zs6 _) (fun z10 hz10 => ?_)
  have tz10 := h_rgv hz10
  refine h_call (sp := false) (pc' := 600) (M := [(0, .ref 98), (1, .int z8), (2, .int z10)]) rfl rfl rfl rfl rfl rfl rfl rfl ?_
  refine w_182_98 _ Is6 z8 _ hz8 z10 _ hz10 (fun r11 br11 hr11 s12 Is12 Gs12 tr11 => h_Kv ?_)
  have Zs12 : ∀ i, s12 0 i = s0 0 i := fun i => (Gs12 0 i rfl).trans (Zs6 i)
  refine h_pop (pc' := 601) rfl rfl rfl ?_
  refine h_goto (pc' := 1441) rfl rfl ?_
  exact kk _ Is12 
theorem g_case_604 {ns : Nat} (hns : ns ≤ 320) (s0 : h_S) (I0 : h_I s0)  (y3 : Int32) (b3 : Int) (hy3 : y3.toInt = b3) (hr : 0 ≤ b3 ∧ b3 + 5 ≤ ns) {Q : Option Value → h_S → Prop} (kk : ∀ τ, h_I τ → h_T g_P (g_Y ns) 225 1441 [(0, .ref 0), (1, .ref 9), (2, .ref 98), (3, .int y3)] [] τ Q) : h_T g_P (g_Y ns) 225 604 [(0, .ref 0), (1, .ref 9), (2, .ref 98), (3, .int y3)] [] s0 Q := by
  refine h_aload_n (pc' := 605) rfl rfl rfl ?_
  refine h_aload_n (pc' := 606) rfl rfl rfl ?_
  refine h_iload_n (pc' := 607) rfl rfl rfl ?_
  refine h_iconst (pc' := 608) (x := (Int32.ofInt 1)) rfl rfl rfl ?_
  refine h_iadd (pc' := 609) rfl rfl hy3 ci_1 rfl (by omega) (by omega) (fun z1 hz1 => ?_)
  refine h_iald (pc' := 610) (v := s0 0 (b3 + 1)) rfl rfl rfl hz1 (by omega) (by omega) rfl (fun z2 hz2 => ?_)
  have tz2 := h_rgv hz2
  refine h_aload_n (pc' := 611) rfl rfl rfl ?_
  refine h_iload_n (pc' := 612) rfl rfl rfl ?_
  refine h_iconst (pc' := 613) (x := (Int32.ofInt 2)) rfl rfl rfl ?_
  refine h_iadd (pc' := 614) rfl rfl hy3 ci_2 rfl (by omega) (by omega) (fun z3 hz3 => ?_)
  refine h_iald (pc' := 615) (v := s0 0 (b3 + 2)) rfl rfl rfl hz3 (by omega) (by omega) rfl (fun z4 hz4 => ?_)
  have tz4 := h_rgv hz4
  refine h_call (sp := false) (pc' := 618) (M := [(0, .ref 9), (1, .int z2), (2, .int z4)]) rfl rfl rfl rfl rfl rfl rfl rfl ?_
  refine w_96_9 _ I0 z2 _ hz2 z4 _ hz4 (fun r5 br5 hr5 s6 Is6 Gs6 tr5 => h_Kv ?_)
  have Zs6 : ∀ i, s6 0 i = s0 0 i := fun i => (Gs6 0 i rfl).trans rfl
  refine h_pop (pc' := 619) rfl rfl rfl ?_
  refine h_aload_n (pc' := 620) rfl rfl rfl ?_
  refine h_aload_n (pc' := 621) rfl rfl rfl ?_
  refine h_iload_n (pc' := 622) rfl rfl rfl ?_
  refine h_iconst (pc' := 623) (x := (Int32.ofInt 1)) rfl rfl rfl ?_
  refine h_iadd (pc' := 624) rfl rfl hy3 ci_1 rfl (by omega) (by omega) (fun z7 hz7 => ?_)
  refine h_iald (pc' := 625) (v := s0 0 (b3 + 1)) rfl rfl rfl hz7 (by omega) (by omega) (Zs6 _) (fun z8 hz8 => ?_)
  have tz8 := h_rgv hz8
  refine h_aload_n (pc' := 626) rfl rfl rfl ?_
  refine h_iload_n (pc' := 627) rfl rfl rfl ?_
  refine h_iconst (pc' := 628) (x := (Int32.ofInt 2)) rfl rfl rfl ?_
  refine h_iadd (pc' := 629) rfl rfl hy3 ci_2 rfl (by omega) (by omega) (fun z9 hz9 => ?_)
  refine h_iald (pc' := 630) (v := s0 0 (b3 + 2)) rfl rfl rfl hz9 (by omega) (by omega) (Zs6 _) (fun z10 hz10 => ?_)
  have tz10 := h_rgv hz10
  refine h_call (sp := false) (pc' := 633) (M := [(0, .ref 98), (1, .int z8), (2, .int z10)]) rfl rfl rfl rfl rfl rfl rfl rfl ?_
  refine v_undo _ Is6 z8 _ hz8 z10 _ hz10 (fun r11 br11 hr11 s12 Is12 Gs12 => h_Kv ?_)
  have Zs12 : ∀ i, s12 0 i = s0 0 i := fun i => (Gs12 0 i rfl).trans (Zs6 i)
  refine h_pop (pc' := 634) rfl rfl rfl ?_
  refine h_goto (pc' := 1441) rfl rfl ?_
  exact kk _ Is12 
theorem g_case_637 {ns : Nat} (hns : ns ≤ 320) (s0 : h_S) (I0 : h_I s0)  (y3 : Int32) (b3 : Int) (hy3 : y3.toInt = b3) (hr : 0 ≤ b3 ∧ b3 + 5 ≤ ns) {Q : Option Value → h_S → Prop} (kk : ∀ τ, h_I τ → h_T g_P (g_Y ns) 225 1441 [(0, .ref 0), (1, .ref 9), (2, .ref 98), (3, .int y3)] [] τ Q) : h_T g_P (g_Y ns) 225 637 [(0, .ref 0), (1, .ref 9), (2, .ref 98), (3, .int y3)] [] s0 Q := by
  refine h_aload_n (pc' := 638) rfl rfl rfl ?_
  refine h_aload_n (pc' := 639) rfl rfl rfl ?_
  refine h_iload_n (pc' := 640) rfl rfl rfl ?_
  refine h_iconst (pc' := 641) (x := (Int32.ofInt 1)) rfl rfl rfl ?_
  refine h_iadd (pc' := 642) rfl rfl hy3 ci_1 rfl (by omega) (by omega) (fun z1 hz1 => ?_)
  refine h_iald (pc' := 643) (v := s0 0 (b3 + 1)) rfl rfl rfl hz1 (by omega) (by omega) rfl (fun z2 hz2 => ?_)
  have tz2 := h_rgv hz2
  refine h_aload_n (pc' := 644) rfl rfl rfl ?_
  refine h_iload_n (pc' := 645) rfl rfl rfl ?_
  refine h_iconst (pc' := 646) (x := (Int32.ofInt 2)) rfl rfl rfl ?_
  refine h_iadd (pc' := 647) rfl rfl hy3 ci_2 rfl (by omega) (by omega) (fun z3 hz3 => ?_)
  refine h_iald (pc' := 648) (v := s0 0 (b3 + 2)) rfl rfl rfl hz3 (by omega) (by omega) rfl (fun z4 hz4 => ?_)
  have tz4 := h_rgv hz4
  refine h_aload_n (pc' := 649) rfl rfl rfl ?_
  refine h_iload_n (pc' := 650) rfl rfl rfl ?_
  refine h_iconst (pc' := 651) (x := (Int32.ofInt 3)) rfl rfl rfl ?_
  refine h_iadd (pc' := 652) rfl rfl hy3 ci_3 rfl (by omega) (by omega) (fun z5 hz5 => ?_)
  refine h_iald (pc' := 653) (v := s0 0 (b3 + 3)) rfl rfl rfl hz5 (by omega) (by omega) rfl (fun z6 hz6 => ?_)
  have tz6 := h_rgv hz6
  refine h_call (sp := false) (pc' := 656) (M := [(0, .ref 9), (1, .int z2), (2, .int z4), (3, .int z6)]) rfl rfl rfl rfl rfl rfl rfl rfl ?_
  refine w_97_9 _ I0 z2 _ hz2 z4 _ hz4 z6 _ hz6 (fun r7 br7 hr7 s8 Is8 Gs8 tr7 => h_Kv ?_)
  have Zs8 : ∀ i, s8 0 i = s0 0 i := fun i => (Gs8 0 i rfl).trans rfl
  refine h_pop (pc' := 657) rfl rfl rfl ?_
  refine h_aload_n (pc' := 658) rfl rfl rfl ?_
  refine h_aload_n (pc' := 659) rfl rfl rfl ?_
  refine h_iload_n (pc' := 660) rfl rfl rfl ?_
  refine h_iconst (pc' := 661) (x := (Int32.ofInt 1)) rfl rfl rfl ?_
  refine h_iadd (pc' := 662) rfl rfl hy3 ci_1 rfl (by omega) (by omega) (fun z9 hz9 => ?_)
  refine h_iald (pc' := 663) (v := s0 0 (b3 + 1)) rfl rfl rfl hz9 (by omega) (by omega) (Zs8 _) (fun z10 hz10 => ?_)
  have tz10 := h_rgv hz10
  refine h_aload_n (pc' := 664) rfl rfl rfl ?_
  refine h_iload_n (pc' := 665) rfl rfl rfl ?_
  refine h_iconst (pc' := 666) (x := (Int32.ofInt 2)) rfl rfl rfl ?_
  refine h_iadd (pc' := 667) rfl rfl hy3 ci_2 rfl (by omega) (by omega) (fun z11 hz11 => ?_)
  refine h_iald (pc' := 668) (v := s0 0 (b3 + 2)) rfl rfl rfl hz11 (by omega) (by omega) (Zs8 _) (fun z12 hz12 => ?_)
  have tz12 := h_rgv hz12
  refine h_aload_n (pc' := 669) rfl rfl rfl ?_
  refine h_iload_n (pc' := 670) rfl rfl rfl ?_
  refine h_iconst (pc' := 671) (x := (Int32.ofInt 3)) rfl rfl rfl ?_
  refine h_iadd (pc' := 672) rfl rfl hy3 ci_3 rfl (by omega) (by omega) (fun z13 hz13 => ?_)
  refine h_iald (pc' := 673) (v := s0 0 (b3 + 3)) rfl rfl rfl hz13 (by omega) (by omega) (Zs8 _) (fun z14 hz14 => ?_)
  have tz14 := h_rgv hz14
  refine h_call (sp := false) (pc' := 676) (M := [(0, .ref 98), (1, .int z10), (2, .int z12), (3, .int z14)]) rfl rfl rfl rfl rfl rfl rfl rfl ?_
  refine w_184_98 _ Is8 z10 _ hz10 z12 _ hz12 z14 _ hz14 (fun r15 br15 hr15 s16 Is16 Gs16 tr15 => h_Kv ?_)
  have Zs16 : ∀ i, s16 0 i = s0 0 i := fun i => (Gs16 0 i rfl).trans (Zs8 i)
  refine h_pop (pc' := 677) rfl rfl rfl ?_
  refine h_goto (pc' := 1441) rfl rfl ?_
  exact kk _ Is16 
theorem g_case_680 {ns : Nat} (hns : ns ≤ 320) (s0 : h_S) (I0 : h_I s0)  (y3 : Int32) (b3 : Int) (hy3 : y3.toInt = b3) (hr : 0 ≤ b3 ∧ b3 + 5 ≤ ns) {Q : Option Value → h_S → Prop} (kk : ∀ τ, h_I τ → h_T g_P (g_Y ns) 225 1441 [(0, .ref 0), (1, .ref 9), (2, .ref 98), (3, .int y3)] [] τ Q) : h_T g_P (g_Y ns) 225 680 [(0, .ref 0), (1, .ref 9), (2, .ref 98), (3, .int y3)] [] s0 Q := by
  refine h_aload_n (pc' := 681) rfl rfl rfl ?_
  refine h_aload_n (pc' := 682) rfl rfl rfl ?_
  refine h_iload_n (pc' := 683) rfl rfl rfl ?_
  refine h_iconst (pc' := 684) (x := (Int32.ofInt 1)) rfl rfl rfl ?_
  refine h_iadd (pc' := 685) rfl rfl hy3 ci_1 rfl (by omega) (by omega) (fun z1 hz1 => ?_)
  refine h_iald (pc' := 686) (v := s0 0 (b3 + 1)) rfl rfl rfl hz1 (by omega) (by omega) rfl (fun z2 hz2 => ?_)
  have tz2 := h_rgv hz2
  refine h_call (sp := false) (pc' := 689) (M := [(0, .ref 9), (1, .int z2)]) rfl rfl rfl rfl rfl rfl rfl rfl ?_
  refine w_98_9 _ I0 z2 _ hz2 (fun r3 br3 hr3 s4 Is4 Gs4 tr3 => h_Kv ?_)
  have Zs4 : ∀ i, s4 0 i = s0 0 i := fun i => (Gs4 0 i rfl).trans rfl
  refine h_pop (pc' := 690) rfl rfl rfl ?_
  refine h_aload_n (pc' := 691) rfl rfl rfl ?_
  refine h_aload_n (pc' := 692) rfl rfl rfl ?_
  refine h_iload_n (pc' := 693) rfl rfl rfl ?_
  refine h_iconst (pc' := 694) (x := (Int32.ofInt 1)) rfl rfl rfl ?_
  refine h_iadd (pc' := 695) rfl rfl hy3 ci_1 rfl (by omega) (by omega) (fun z5 hz5 => ?_)
  refine h_iald (pc' := 696) (v := s0 0 (b3 + 1)) rfl rfl rfl hz5 (by omega) (by omega) (Zs4 _) (fun z6 hz6 => ?_)
  have tz6 := h_rgv hz6
  refine h_call (sp := false) (pc' := 699) (M := [(0, .ref 98), (1, .int z6)]) rfl rfl rfl rfl rfl rfl rfl rfl ?_
  refine w_185_98 _ Is4 z6 _ hz6 (fun r7 br7 hr7 s8 Is8 Gs8 tr7 => h_Kv ?_)
  have Zs8 : ∀ i, s8 0 i = s0 0 i := fun i => (Gs8 0 i rfl).trans (Zs4 i)
  refine h_pop (pc' := 700) rfl rfl rfl ?_
  refine h_goto (pc' := 1441) rfl rfl ?_
  exact kk _ Is8 
theorem g_case_703 {ns : Nat} (hns : ns ≤ 320) (s0 : h_S) (I0 : h_I s0)  (y3 : Int32) (b3 : Int) (hy3 : y3.toInt = b3) (hr : 0 ≤ b3 ∧ b3 + 5 ≤ ns) {Q : Option Value → h_S → Prop} (kk : ∀ τ, h_I τ → h_T g_P (g_Y ns) 225 1441 [(0, .ref 0), (1, .ref 9), (2, .ref 98), (3, .int y3)] [] τ Q) : h_T g_P (g_Y ns) 225 703 [(0, .ref 0), (1, .ref 9), (2, .ref 98), (3, .int y3)] [] s0 Q := by
  refine h_aload_n (pc' := 704) rfl rfl rfl ?_
  refine h_aload_n (pc' := 705) rfl rfl rfl ?_
  refine h_iload_n (pc' := 706) rfl rfl rfl ?_
  refine h_iconst (pc' := 707) (x := (Int32.ofInt 1)) rfl rfl rfl ?_
  refine h_iadd (pc' := 708) rfl rfl hy3 ci_1 rfl (by omega) (by omega) (fun z1 hz1 => ?_)
  refine h_iald (pc' := 709) (v := s0 0 (b3 + 1)) rfl rfl rfl hz1 (by omega) (by omega) rfl (fun z2 hz2 => ?_)
  have tz2 := h_rgv hz2
  refine h_call (sp := false) (pc' := 712) (M := [(0, .ref 9), (1, .int z2)]) rfl rfl rfl rfl rfl rfl rfl rfl ?_
  refine w_99_9 _ I0 z2 _ hz2 (fun r3 br3 hr3 s4 Is4 Gs4 tr3 => h_Kv ?_)
  have Zs4 : ∀ i, s4 0 i = s0 0 i := fun i => (Gs4 0 i rfl).trans rfl
  refine h_pop (pc' := 713) rfl rfl rfl ?_
  refine h_aload_n (pc' := 714) rfl rfl rfl ?_
  refine h_aload_n (pc' := 715) rfl rfl rfl ?_
  refine h_iload_n (pc' := 716) rfl rfl rfl ?_
  refine h_iconst (pc' := 717) (x := (Int32.ofInt 1)) rfl rfl rfl ?_
  refine h_iadd (pc' := 718) rfl rfl hy3 ci_1 rfl (by omega) (by omega) (fun z5 hz5 => ?_)
  refine h_iald (pc' := 719) (v := s0 0 (b3 + 1)) rfl rfl rfl hz5 (by omega) (by omega) (Zs4 _) (fun z6 hz6 => ?_)
  have tz6 := h_rgv hz6
  refine h_call (sp := false) (pc' := 722) (M := [(0, .ref 98), (1, .int z6)]) rfl rfl rfl rfl rfl rfl rfl rfl ?_
  refine w_186_98 _ Is4 z6 _ hz6 (fun r7 br7 hr7 s8 Is8 Gs8 tr7 => h_Kv ?_)
  have Zs8 : ∀ i, s8 0 i = s0 0 i := fun i => (Gs8 0 i rfl).trans (Zs4 i)
  refine h_pop (pc' := 723) rfl rfl rfl ?_
  refine h_goto (pc' := 1441) rfl rfl ?_
  exact kk _ Is8 
theorem g_case_726 {ns : Nat} (hns : ns ≤ 320) (s0 : h_S) (I0 : h_I s0)  (y3 : Int32) (b3 : Int) (hy3 : y3.toInt = b3) (hr : 0 ≤ b3 ∧ b3 + 5 ≤ ns) {Q : Option Value → h_S → Prop} (kk : ∀ τ, h_I τ → h_T g_P (g_Y ns) 225 1441 [(0, .ref 0), (1, .ref 9), (2, .ref 98), (3, .int y3)] [] τ Q) : h_T g_P (g_Y ns) 225 726 [(0, .ref 0), (1, .ref 9), (2, .ref 98), (3, .int y3)] [] s0 Q := by
  refine h_aload_n (pc' := 727) rfl rfl rfl ?_
  refine h_aload_n (pc' := 728) rfl rfl rfl ?_
  refine h_iload_n (pc' := 729) rfl rfl rfl ?_
  refine h_iconst (pc' := 730) (x := (Int32.ofInt 1)) rfl rfl rfl ?_
  refine h_iadd (pc' := 731) rfl rfl hy3 ci_1 rfl (by omega) (by omega) (fun z1 hz1 => ?_)
  refine h_iald (pc' := 732) (v := s0 0 (b3 + 1)) rfl rfl rfl hz1 (by omega) (by omega) rfl (fun z2 hz2 => ?_)
  have tz2 := h_rgv hz2
  refine h_aload_n (pc' := 733) rfl rfl rfl ?_
  refine h_iload_n (pc' := 734) rfl rfl rfl ?_
  refine h_iconst (pc' := 735) (x := (Int32.ofInt 2)) rfl rfl rfl ?_
  refine h_iadd (pc' := 736) rfl rfl hy3 ci_2 rfl (by omega) (by omega) (fun z3 hz3 => ?_)
  refine h_iald (pc' := 737) (v := s0 0 (b3 + 2)) rfl rfl rfl hz3 (by omega) (by omega) rfl (fun z4 hz4 => ?_)
  have tz4 := h_rgv hz4
  refine h_call (sp := false) (pc' := 740) (M := [(0, .ref 9), (1, .int z2), (2, .int z4)]) rfl rfl rfl rfl rfl rfl rfl rfl ?_
  refine w_100_9 _ I0 z2 _ hz2 z4 _ hz4 (fun r5 br5 hr5 s6 Is6 Gs6 tr5 => h_Kv ?_)
  have Zs6 : ∀ i, s6 0 i = s0 0 i := fun i => (Gs6 0 i rfl).trans rfl
  refine h_pop (pc' := 741) rfl rfl rfl ?_
  refine h_aload_n (pc' := 742) rfl rfl rfl ?_
  refine h_aload_n (pc' := 743) rfl rfl rfl ?_
  refine h_iload_n (pc' := 744) rfl rfl rfl ?_
  refine h_iconst (pc' := 745) (x := (Int32.ofInt 1)) rfl rfl rfl ?_
  refine h_iadd (pc' := 746) rfl rfl hy3 ci_1 rfl (by omega) (by omega) (fun z7 hz7 => ?_)
  refine h_iald (pc' := 747) (v := s0 0 (b3 + 1)) rfl rfl rfl hz7 (by omega) (by omega) (Zs6 _) (fun z8 hz8 => ?_)
  have tz8 := h_rgv hz8
  refine h_aload_n (pc' := 748) rfl rfl rfl ?_
  refine h_iload_n (pc' := 749) rfl rfl rfl ?_
  refine h_iconst (pc' := 750) (x := (Int32.ofInt 2)) rfl rfl rfl ?_
  refine h_iadd (pc' := 751) rfl rfl hy3 ci_2 rfl (by omega) (by omega) (fun z9 hz9 => ?_)
  refine h_iald (pc' := 752) (v := s0 0 (b3 + 2)) rfl rfl rfl hz9 (by omega) (by omega) (Zs6 _) (fun z10 hz10 => ?_)
  have tz10 := h_rgv hz10
  refine h_call (sp := false) (pc' := 755) (M := [(0, .ref 98), (1, .int z8), (2, .int z10)]) rfl rfl rfl rfl rfl rfl rfl rfl ?_
  refine w_189_98 _ Is6 z8 _ hz8 z10 _ hz10 (fun r11 br11 hr11 s12 Is12 Gs12 tr11 => h_Kv ?_)
  have Zs12 : ∀ i, s12 0 i = s0 0 i := fun i => (Gs12 0 i rfl).trans (Zs6 i)
  refine h_pop (pc' := 756) rfl rfl rfl ?_
  refine h_goto (pc' := 1441) rfl rfl ?_
  exact kk _ Is12 
theorem g_case_759 {ns : Nat} (hns : ns ≤ 320) (s0 : h_S) (I0 : h_I s0)  (y3 : Int32) (b3 : Int) (hy3 : y3.toInt = b3) (hr : 0 ≤ b3 ∧ b3 + 5 ≤ ns) {Q : Option Value → h_S → Prop} (kk : ∀ τ, h_I τ → h_T g_P (g_Y ns) 225 1441 [(0, .ref 0), (1, .ref 9), (2, .ref 98), (3, .int y3)] [] τ Q) : h_T g_P (g_Y ns) 225 759 [(0, .ref 0), (1, .ref 9), (2, .ref 98), (3, .int y3)] [] s0 Q := by
  refine h_aload_n (pc' := 760) rfl rfl rfl ?_
  refine h_aload_n (pc' := 761) rfl rfl rfl ?_
  refine h_iload_n (pc' := 762) rfl rfl rfl ?_
  refine h_iconst (pc' := 763) (x := (Int32.ofInt 1)) rfl rfl rfl ?_
  refine h_iadd (pc' := 764) rfl rfl hy3 ci_1 rfl (by omega) (by omega) (fun z1 hz1 => ?_)
  refine h_iald (pc' := 765) (v := s0 0 (b3 + 1)) rfl rfl rfl hz1 (by omega) (by omega) rfl (fun z2 hz2 => ?_)
  have tz2 := h_rgv hz2
  refine h_call (sp := false) (pc' := 768) (M := [(0, .ref 9), (1, .int z2)]) rfl rfl rfl rfl rfl rfl rfl rfl ?_
  refine w_101_9 _ I0 z2 _ hz2 (fun r3 br3 hr3 s4 Is4 Gs4 => h_Kv ?_)
  have Zs4 : ∀ i, s4 0 i = s0 0 i := fun i => (Gs4 0 i rfl).trans rfl
  refine h_pop (pc' := 769) rfl rfl rfl ?_
  refine h_aload_n (pc' := 770) rfl rfl rfl ?_
  refine h_aload_n (pc' := 771) rfl rfl rfl ?_
  refine h_iload_n (pc' := 772) rfl rfl rfl ?_
  refine h_iconst (pc' := 773) (x := (Int32.ofInt 1)) rfl rfl rfl ?_
  refine h_iadd (pc' := 774) rfl rfl hy3 ci_1 rfl (by omega) (by omega) (fun z5 hz5 => ?_)
  refine h_iald (pc' := 775) (v := s0 0 (b3 + 1)) rfl rfl rfl hz5 (by omega) (by omega) (Zs4 _) (fun z6 hz6 => ?_)
  have tz6 := h_rgv hz6
  refine h_call (sp := false) (pc' := 778) (M := [(0, .ref 98), (1, .int z6)]) rfl rfl rfl rfl rfl rfl rfl rfl ?_
  refine w_194_98 _ Is4 z6 _ hz6 (fun r7 br7 hr7 s8 Is8 Gs8 => h_Kv ?_)
  have Zs8 : ∀ i, s8 0 i = s0 0 i := fun i => (Gs8 0 i rfl).trans (Zs4 i)
  refine h_pop (pc' := 779) rfl rfl rfl ?_
  refine h_goto (pc' := 1441) rfl rfl ?_
  exact kk _ Is8 
theorem g_case_782 {ns : Nat} (hns : ns ≤ 320) (s0 : h_S) (I0 : h_I s0)  (y3 : Int32) (b3 : Int) (hy3 : y3.toInt = b3) (hr : 0 ≤ b3 ∧ b3 + 5 ≤ ns) {Q : Option Value → h_S → Prop} (kk : ∀ τ, h_I τ → h_T g_P (g_Y ns) 225 1441 [(0, .ref 0), (1, .ref 9), (2, .ref 98), (3, .int y3)] [] τ Q) : h_T g_P (g_Y ns) 225 782 [(0, .ref 0), (1, .ref 9), (2, .ref 98), (3, .int y3)] [] s0 Q := by
  refine h_aload_n (pc' := 783) rfl rfl rfl ?_
  refine h_aload_n (pc' := 784) rfl rfl rfl ?_
  refine h_iload_n (pc' := 785) rfl rfl rfl ?_
  refine h_iconst (pc' := 786) (x := (Int32.ofInt 1)) rfl rfl rfl ?_
  refine h_iadd (pc' := 787) rfl rfl hy3 ci_1 rfl (by omega) (by omega) (fun z1 hz1 => ?_)
  refine h_iald (pc' := 788) (v := s0 0 (b3 + 1)) rfl rfl rfl hz1 (by omega) (by omega) rfl (fun z2 hz2 => ?_)
  have tz2 := h_rgv hz2
  refine h_call (sp := false) (pc' := 791) (M := [(0, .ref 9), (1, .int z2)]) rfl rfl rfl rfl rfl rfl rfl rfl ?_
  refine w_102_9 _ I0 z2 _ hz2 (fun r3 br3 hr3 s4 Is4 Gs4 tr3 => h_Kv ?_)
  have Zs4 : ∀ i, s4 0 i = s0 0 i := fun i => (Gs4 0 i rfl).trans rfl
  refine h_pop (pc' := 792) rfl rfl rfl ?_
  refine h_aload_n (pc' := 793) rfl rfl rfl ?_
  refine h_aload_n (pc' := 794) rfl rfl rfl ?_
  refine h_iload_n (pc' := 795) rfl rfl rfl ?_
  refine h_iconst (pc' := 796) (x := (Int32.ofInt 1)) rfl rfl rfl ?_
  refine h_iadd (pc' := 797) rfl rfl hy3 ci_1 rfl (by omega) (by omega) (fun z5 hz5 => ?_)
  refine h_iald (pc' := 798) (v := s0 0 (b3 + 1)) rfl rfl rfl hz5 (by omega) (by omega) (Zs4 _) (fun z6 hz6 => ?_)
  have tz6 := h_rgv hz6
  refine h_call (sp := false) (pc' := 801) (M := [(0, .ref 98), (1, .int z6)]) rfl rfl rfl rfl rfl rfl rfl rfl ?_
  refine w_195_98 _ Is4 z6 _ hz6 (fun r7 br7 hr7 s8 Is8 Gs8 tr7 => h_Kv ?_)
  have Zs8 : ∀ i, s8 0 i = s0 0 i := fun i => (Gs8 0 i rfl).trans (Zs4 i)
  refine h_pop (pc' := 802) rfl rfl rfl ?_
  refine h_goto (pc' := 1441) rfl rfl ?_
  exact kk _ Is8 
theorem g_case_805 {ns : Nat} (hns : ns ≤ 320) (s0 : h_S) (I0 : h_I s0)  (y3 : Int32) (b3 : Int) (hy3 : y3.toInt = b3) (hr : 0 ≤ b3 ∧ b3 + 5 ≤ ns) {Q : Option Value → h_S → Prop} (kk : ∀ τ, h_I τ → h_T g_P (g_Y ns) 225 1441 [(0, .ref 0), (1, .ref 9), (2, .ref 98), (3, .int y3)] [] τ Q) : h_T g_P (g_Y ns) 225 805 [(0, .ref 0), (1, .ref 9), (2, .ref 98), (3, .int y3)] [] s0 Q := by
  refine h_aload_n (pc' := 806) rfl rfl rfl ?_
  refine h_aload_n (pc' := 807) rfl rfl rfl ?_
  refine h_iload_n (pc' := 808) rfl rfl rfl ?_
  refine h_iconst (pc' := 809) (x := (Int32.ofInt 1)) rfl rfl rfl ?_
  refine h_iadd (pc' := 810) rfl rfl hy3 ci_1 rfl (by omega) (by omega) (fun z1 hz1 => ?_)
  refine h_iald (pc' := 811) (v := s0 0 (b3 + 1)) rfl rfl rfl hz1 (by omega) (by omega) rfl (fun z2 hz2 => ?_)
  have tz2 := h_rgv hz2
  refine h_aload_n (pc' := 812) rfl rfl rfl ?_
  refine h_iload_n (pc' := 813) rfl rfl rfl ?_
  refine h_iconst (pc' := 814) (x := (Int32.ofInt 2)) rfl rfl rfl ?_
  refine h_iadd (pc' := 815) rfl rfl hy3 ci_2 rfl (by omega) (by omega) (fun z3 hz3 => ?_)
  refine h_iald (pc' := 816) (v := s0 0 (b3 + 2)) rfl rfl rfl hz3 (by omega) (by omega) rfl (fun z4 hz4 => ?_)
  have tz4 := h_rgv hz4
  refine h_call (sp := false) (pc' := 819) (M := [(0, .ref 9), (1, .int z2), (2, .int z4)]) rfl rfl rfl rfl rfl rfl rfl rfl ?_
  refine w_103_9 _ I0 z2 _ hz2 z4 _ hz4 (fun r5 br5 hr5 s6 Is6 Gs6 => h_Kv ?_)
  have Zs6 : ∀ i, s6 0 i = s0 0 i := fun i => (Gs6 0 i rfl).trans rfl
  refine h_pop (pc' := 820) rfl rfl rfl ?_
  refine h_aload_n (pc' := 821) rfl rfl rfl ?_
  refine h_aload_n (pc' := 822) rfl rfl rfl ?_
  refine h_iload_n (pc' := 823) rfl rfl rfl ?_
  refine h_iconst (pc' := 824) (x := (Int32.ofInt 1)) rfl rfl rfl ?_
  refine h_iadd (pc' := 825) rfl rfl hy3 ci_1 rfl (by omega) (by omega) (fun z7 hz7 => ?_)
  refine h_iald (pc' := 826) (v := s0 0 (b3 + 1)) rfl rfl rfl hz7 (by omega) (by omega) (Zs6 _) (fun z8 hz8 => ?_)
  have tz8 := h_rgv hz8
  refine h_aload_n (pc' := 827) rfl rfl rfl ?_
  refine h_iload_n (pc' := 828) rfl rfl rfl ?_
  refine h_iconst (pc' := 829) (x := (Int32.ofInt 2)) rfl rfl rfl ?_
  refine h_iadd (pc' := 830) rfl rfl hy3 ci_2 rfl (by omega) (by omega) (fun z9 hz9 => ?_)
  refine h_iald (pc' := 831) (v := s0 0 (b3 + 2)) rfl rfl rfl hz9 (by omega) (by omega) (Zs6 _) (fun z10 hz10 => ?_)
  have tz10 := h_rgv hz10
  refine h_call (sp := false) (pc' := 834) (M := [(0, .ref 98), (1, .int z8), (2, .int z10)]) rfl rfl rfl rfl rfl rfl rfl rfl ?_
  refine w_199_98 _ Is6 z8 _ hz8 z10 _ hz10 (fun r11 br11 hr11 s12 Is12 Gs12 => h_Kv ?_)
  have Zs12 : ∀ i, s12 0 i = s0 0 i := fun i => (Gs12 0 i rfl).trans (Zs6 i)
  refine h_pop (pc' := 835) rfl rfl rfl ?_
  refine h_goto (pc' := 1441) rfl rfl ?_
  exact kk _ Is12 
theorem g_case_838 {ns : Nat} (hns : ns ≤ 320) (s0 : h_S) (I0 : h_I s0)  (y3 : Int32) (b3 : Int) (hy3 : y3.toInt = b3) (hr : 0 ≤ b3 ∧ b3 + 5 ≤ ns) {Q : Option Value → h_S → Prop} (kk : ∀ τ, h_I τ → h_T g_P (g_Y ns) 225 1441 [(0, .ref 0), (1, .ref 9), (2, .ref 98), (3, .int y3)] [] τ Q) : h_T g_P (g_Y ns) 225 838 [(0, .ref 0), (1, .ref 9), (2, .ref 98), (3, .int y3)] [] s0 Q := by
  refine h_aload_n (pc' := 839) rfl rfl rfl ?_
  refine h_aload_n (pc' := 840) rfl rfl rfl ?_
  refine h_iload_n (pc' := 841) rfl rfl rfl ?_
  refine h_iconst (pc' := 842) (x := (Int32.ofInt 1)) rfl rfl rfl ?_
  refine h_iadd (pc' := 843) rfl rfl hy3 ci_1 rfl (by omega) (by omega) (fun z1 hz1 => ?_)
  refine h_iald (pc' := 844) (v := s0 0 (b3 + 1)) rfl rfl rfl hz1 (by omega) (by omega) rfl (fun z2 hz2 => ?_)
  have tz2 := h_rgv hz2
  refine h_aload_n (pc' := 845) rfl rfl rfl ?_
  refine h_iload_n (pc' := 846) rfl rfl rfl ?_
  refine h_iconst (pc' := 847) (x := (Int32.ofInt 2)) rfl rfl rfl ?_
  refine h_iadd (pc' := 848) rfl rfl hy3 ci_2 rfl (by omega) (by omega) (fun z3 hz3 => ?_)
  refine h_iald (pc' := 849) (v := s0 0 (b3 + 2)) rfl rfl rfl hz3 (by omega) (by omega) rfl (fun z4 hz4 => ?_)
  have tz4 := h_rgv hz4
  refine h_aload_n (pc' := 850) rfl rfl rfl ?_
  refine h_iload_n (pc' := 851) rfl rfl rfl ?_
  refine h_iconst (pc' := 852) (x := (Int32.ofInt 3)) rfl rfl rfl ?_
  refine h_iadd (pc' := 853) rfl rfl hy3 ci_3 rfl (by omega) (by omega) (fun z5 hz5 => ?_)
  refine h_iald (pc' := 854) (v := s0 0 (b3 + 3)) rfl rfl rfl hz5 (by omega) (by omega) rfl (fun z6 hz6 => ?_)
  have tz6 := h_rgv hz6
  refine h_call (sp := false) (pc' := 857) (M := [(0, .ref 9), (1, .int z2), (2, .int z4), (3, .int z6)]) rfl rfl rfl rfl rfl rfl rfl rfl ?_
  refine w_104_9 _ I0 z2 _ hz2 z4 _ hz4 z6 _ hz6 (fun r7 br7 hr7 s8 Is8 Gs8 tr7 => h_Kv ?_)
  have Zs8 : ∀ i, s8 0 i = s0 0 i := fun i => (Gs8 0 i rfl).trans rfl
  refine h_pop (pc' := 858) rfl rfl rfl ?_
  refine h_aload_n (pc' := 859) rfl rfl rfl ?_
  refine h_aload_n (pc' := 860) rfl rfl rfl ?_
  refine h_iload_n (pc' := 861) rfl rfl rfl ?_
  refine h_iconst (pc' := 862) (x := (Int32.ofInt 1)) rfl rfl rfl ?_
  refine h_iadd (pc' := 863) rfl rfl hy3 ci_1 rfl (by omega) (by omega) (fun z9 hz9 => ?_)
  refine h_iald (pc' := 864) (v := s0 0 (b3 + 1)) rfl rfl rfl hz9 (by omega) (by omega) (Zs8 _) (fun z10 hz10 => ?_)
  have tz10 := h_rgv hz10
  refine h_aload_n (pc' := 865) rfl rfl rfl ?_
  refine h_iload_n (pc' := 866) rfl rfl rfl ?_
  refine h_iconst (pc' := 867) (x := (Int32.ofInt 2)) rfl rfl rfl ?_
  refine h_iadd (pc' := 868) rfl rfl hy3 ci_2 rfl (by omega) (by omega) (fun z11 hz11 => ?_)
  refine h_iald (pc' := 869) (v := s0 0 (b3 + 2)) rfl rfl rfl hz11 (by omega) (by omega) (Zs8 _) (fun z12 hz12 => ?_)
  have tz12 := h_rgv hz12
  refine h_aload_n (pc' := 870) rfl rfl rfl ?_
  refine h_iload_n (pc' := 871) rfl rfl rfl ?_
  refine h_iconst (pc' := 872) (x := (Int32.ofInt 3)) rfl rfl rfl ?_
  refine h_iadd (pc' := 873) rfl rfl hy3 ci_3 rfl (by omega) (by omega) (fun z13 hz13 => ?_)
  refine h_iald (pc' := 874) (v := s0 0 (b3 + 3)) rfl rfl rfl hz13 (by omega) (by omega) (Zs8 _) (fun z14 hz14 => ?_)
  have tz14 := h_rgv hz14
  refine h_call (sp := false) (pc' := 877) (M := [(0, .ref 98), (1, .int z10), (2, .int z12), (3, .int z14)]) rfl rfl rfl rfl rfl rfl rfl rfl ?_
  refine w_201_98 _ Is8 z10 _ hz10 z12 _ hz12 z14 _ hz14 (fun r15 br15 hr15 s16 Is16 Gs16 tr15 => h_Kv ?_)
  have Zs16 : ∀ i, s16 0 i = s0 0 i := fun i => (Gs16 0 i rfl).trans (Zs8 i)
  refine h_pop (pc' := 878) rfl rfl rfl ?_
  refine h_goto (pc' := 1441) rfl rfl ?_
  exact kk _ Is16 
theorem g_case_881 {ns : Nat} (hns : ns ≤ 320) (s0 : h_S) (I0 : h_I s0)  (y3 : Int32) (b3 : Int) (hy3 : y3.toInt = b3) (hr : 0 ≤ b3 ∧ b3 + 5 ≤ ns) {Q : Option Value → h_S → Prop} (kk : ∀ τ, h_I τ → h_T g_P (g_Y ns) 225 1441 [(0, .ref 0), (1, .ref 9), (2, .ref 98), (3, .int y3)] [] τ Q) : h_T g_P (g_Y ns) 225 881 [(0, .ref 0), (1, .ref 9), (2, .ref 98), (3, .int y3)] [] s0 Q := by
  refine h_aload_n (pc' := 882) rfl rfl rfl ?_
  refine h_aload_n (pc' := 883) rfl rfl rfl ?_
  refine h_iload_n (pc' := 884) rfl rfl rfl ?_
  refine h_iconst (pc' := 885) (x := (Int32.ofInt 1)) rfl rfl rfl ?_
  refine h_iadd (pc' := 886) rfl rfl hy3 ci_1 rfl (by omega) (by omega) (fun z1 hz1 => ?_)
  refine h_iald (pc' := 887) (v := s0 0 (b3 + 1)) rfl rfl rfl hz1 (by omega) (by omega) rfl (fun z2 hz2 => ?_)
  have tz2 := h_rgv hz2
  refine h_aload_n (pc' := 888) rfl rfl rfl ?_
  refine h_iload_n (pc' := 889) rfl rfl rfl ?_
  refine h_iconst (pc' := 890) (x := (Int32.ofInt 2)) rfl rfl rfl ?_
  refine h_iadd (pc' := 891) rfl rfl hy3 ci_2 rfl (by omega) (by omega) (fun z3 hz3 => ?_)
  refine h_iald (pc' := 892) (v := s0 0 (b3 + 2)) rfl rfl rfl hz3 (by omega) (by omega) rfl (fun z4 hz4 => ?_)
  have tz4 := h_rgv hz4
  refine h_call (sp := false) (pc' := 895) (M := [(0, .ref 9), (1, .int z2), (2, .int z4)]) rfl rfl rfl rfl rfl rfl rfl rfl ?_
  refine w_105_9 _ I0 z2 _ hz2 z4 _ hz4 (fun r5 br5 hr5 s6 Is6 Gs6 => h_Kv ?_)
  have Zs6 : ∀ i, s6 0 i = s0 0 i := fun i => (Gs6 0 i rfl).trans rfl
  refine h_pop (pc' := 896) rfl rfl rfl ?_
  refine h_aload_n (pc' := 897) rfl rfl rfl ?_
  refine h_aload_n (pc' := 898) rfl rfl rfl ?_
  refine h_iload_n (pc' := 899) rfl rfl rfl ?_
  refine h_iconst (pc' := 900) (x := (Int32.ofInt 1)) rfl rfl rfl ?_
  refine h_iadd (pc' := 901) rfl rfl hy3 ci_1 rfl (by omega) (by omega) (fun z7 hz7 => ?_)
  refine h_iald (pc' := 902) (v := s0 0 (b3 + 1)) rfl rfl rfl hz7 (by omega) (by omega) (Zs6 _) (fun z8 hz8 => ?_)
  have tz8 := h_rgv hz8
  refine h_aload_n (pc' := 903) rfl rfl rfl ?_
  refine h_iload_n (pc' := 904) rfl rfl rfl ?_
  refine h_iconst (pc' := 905) (x := (Int32.ofInt 2)) rfl rfl rfl ?_
  refine h_iadd (pc' := 906) rfl rfl hy3 ci_2 rfl (by omega) (by omega) (fun z9 hz9 => ?_)
  refine h_iald (pc' := 907) (v := s0 0 (b3 + 2)) rfl rfl rfl hz9 (by omega) (by omega) (Zs6 _) (fun z10 hz10 => ?_)
  have tz10 := h_rgv hz10
  refine h_call (sp := false) (pc' := 910) (M := [(0, .ref 98), (1, .int z8), (2, .int z10)]) rfl rfl rfl rfl rfl rfl rfl rfl ?_
  refine w_202_98 _ Is6 z8 _ hz8 z10 _ hz10 (fun r11 br11 hr11 s12 Is12 Gs12 tr11 => h_Kv ?_)
  have Zs12 : ∀ i, s12 0 i = s0 0 i := fun i => (Gs12 0 i rfl).trans (Zs6 i)
  refine h_pop (pc' := 911) rfl rfl rfl ?_
  refine h_goto (pc' := 1441) rfl rfl ?_
  exact kk _ Is12 
theorem g_case_914 {ns : Nat} (hns : ns ≤ 320) (s0 : h_S) (I0 : h_I s0)  (y3 : Int32) (b3 : Int) (hy3 : y3.toInt = b3) (hr : 0 ≤ b3 ∧ b3 + 5 ≤ ns) {Q : Option Value → h_S → Prop} (kk : ∀ τ, h_I τ → h_T g_P (g_Y ns) 225 1441 [(0, .ref 0), (1, .ref 9), (2, .ref 98), (3, .int y3)] [] τ Q) : h_T g_P (g_Y ns) 225 914 [(0, .ref 0), (1, .ref 9), (2, .ref 98), (3, .int y3)] [] s0 Q := by
  refine h_aload_n (pc' := 915) rfl rfl rfl ?_
  refine h_call (sp := false) (pc' := 918) (M := [(0, .ref 9)]) rfl rfl rfl rfl rfl rfl rfl rfl ?_
  refine w_106_9 _ I0  (fun r1 br1 hr1 s2 Is2 Gs2 => h_Kv ?_)
  have Zs2 : ∀ i, s2 0 i = s0 0 i := fun i => (Gs2 0 i rfl).trans rfl
  refine h_pop (pc' := 919) rfl rfl rfl ?_
  refine h_aload_n (pc' := 920) rfl rfl rfl ?_
  refine h_call (sp := false) (pc' := 923) (M := [(0, .ref 98)]) rfl rfl rfl rfl rfl rfl rfl rfl ?_
  refine w_203_98 _ Is2  (fun r3 br3 hr3 s4 Is4 Gs4 => h_Kv ?_)
  have Zs4 : ∀ i, s4 0 i = s0 0 i := fun i => (Gs4 0 i rfl).trans (Zs2 i)
  refine h_pop (pc' := 924) rfl rfl rfl ?_
  refine h_goto (pc' := 1441) rfl rfl ?_
  exact kk _ Is4 
theorem g_case_927 {ns : Nat} (hns : ns ≤ 320) (s0 : h_S) (I0 : h_I s0)  (y3 : Int32) (b3 : Int) (hy3 : y3.toInt = b3) (hr : 0 ≤ b3 ∧ b3 + 5 ≤ ns) {Q : Option Value → h_S → Prop} (kk : ∀ τ, h_I τ → h_T g_P (g_Y ns) 225 1441 [(0, .ref 0), (1, .ref 9), (2, .ref 98), (3, .int y3)] [] τ Q) : h_T g_P (g_Y ns) 225 927 [(0, .ref 0), (1, .ref 9), (2, .ref 98), (3, .int y3)] [] s0 Q := by
  refine h_aload_n (pc' := 928) rfl rfl rfl ?_
  refine h_aload_n (pc' := 929) rfl rfl rfl ?_
  refine h_iload_n (pc' := 930) rfl rfl rfl ?_
  refine h_iconst (pc' := 931) (x := (Int32.ofInt 1)) rfl rfl rfl ?_
  refine h_iadd (pc' := 932) rfl rfl hy3 ci_1 rfl (by omega) (by omega) (fun z1 hz1 => ?_)
  refine h_iald (pc' := 933) (v := s0 0 (b3 + 1)) rfl rfl rfl hz1 (by omega) (by omega) rfl (fun z2 hz2 => ?_)
  have tz2 := h_rgv hz2
  refine h_call (sp := false) (pc' := 936) (M := [(0, .ref 9), (1, .int z2)]) rfl rfl rfl rfl rfl rfl rfl rfl ?_
  refine w_107_9 _ I0 z2 _ hz2 (fun r3 br3 hr3 s4 Is4 Gs4 tr3 => h_Kv ?_)
  have Zs4 : ∀ i, s4 0 i = s0 0 i := fun i => (Gs4 0 i rfl).trans rfl
  refine h_pop (pc' := 937) rfl rfl rfl ?_
  refine h_aload_n (pc' := 938) rfl rfl rfl ?_
  refine h_aload_n (pc' := 939) rfl rfl rfl ?_
  refine h_iload_n (pc' := 940) rfl rfl rfl ?_
  refine h_iconst (pc' := 941) (x := (Int32.ofInt 1)) rfl rfl rfl ?_
  refine h_iadd (pc' := 942) rfl rfl hy3 ci_1 rfl (by omega) (by omega) (fun z5 hz5 => ?_)
  refine h_iald (pc' := 943) (v := s0 0 (b3 + 1)) rfl rfl rfl hz5 (by omega) (by omega) (Zs4 _) (fun z6 hz6 => ?_)
  have tz6 := h_rgv hz6
  refine h_call (sp := false) (pc' := 946) (M := [(0, .ref 98), (1, .int z6)]) rfl rfl rfl rfl rfl rfl rfl rfl ?_
  refine w_204_98 _ Is4 z6 _ hz6 (fun r7 br7 hr7 s8 Is8 Gs8 tr7 => h_Kv ?_)
  have Zs8 : ∀ i, s8 0 i = s0 0 i := fun i => (Gs8 0 i rfl).trans (Zs4 i)
  refine h_pop (pc' := 947) rfl rfl rfl ?_
  refine h_goto (pc' := 1441) rfl rfl ?_
  exact kk _ Is8 
theorem g_case_950 {ns : Nat} (hns : ns ≤ 320) (s0 : h_S) (I0 : h_I s0)  (y3 : Int32) (b3 : Int) (hy3 : y3.toInt = b3) (hr : 0 ≤ b3 ∧ b3 + 5 ≤ ns) {Q : Option Value → h_S → Prop} (kk : ∀ τ, h_I τ → h_T g_P (g_Y ns) 225 1441 [(0, .ref 0), (1, .ref 9), (2, .ref 98), (3, .int y3)] [] τ Q) : h_T g_P (g_Y ns) 225 950 [(0, .ref 0), (1, .ref 9), (2, .ref 98), (3, .int y3)] [] s0 Q := by
  refine h_aload_n (pc' := 951) rfl rfl rfl ?_
  refine h_aload_n (pc' := 952) rfl rfl rfl ?_
  refine h_iload_n (pc' := 953) rfl rfl rfl ?_
  refine h_iconst (pc' := 954) (x := (Int32.ofInt 1)) rfl rfl rfl ?_
  refine h_iadd (pc' := 955) rfl rfl hy3 ci_1 rfl (by omega) (by omega) (fun z1 hz1 => ?_)
  refine h_iald (pc' := 956) (v := s0 0 (b3 + 1)) rfl rfl rfl hz1 (by omega) (by omega) rfl (fun z2 hz2 => ?_)
  have tz2 := h_rgv hz2
  refine h_aload_n (pc' := 957) rfl rfl rfl ?_
  refine h_iload_n (pc' := 958) rfl rfl rfl ?_
  refine h_iconst (pc' := 959) (x := (Int32.ofInt 2)) rfl rfl rfl ?_
  refine h_iadd (pc' := 960) rfl rfl hy3 ci_2 rfl (by omega) (by omega) (fun z3 hz3 => ?_)
  refine h_iald (pc' := 961) (v := s0 0 (b3 + 2)) rfl rfl rfl hz3 (by omega) (by omega) rfl (fun z4 hz4 => ?_)
  have tz4 := h_rgv hz4
  refine h_call (sp := false) (pc' := 964) (M := [(0, .ref 9), (1, .int z2), (2, .int z4)]) rfl rfl rfl rfl rfl rfl rfl rfl ?_
  refine w_108_9 _ I0 z2 _ hz2 z4 _ hz4 (fun r5 s6 Is6 Gs6 => h_Kv ?_)
  have Zs6 : ∀ i, s6 0 i = s0 0 i := fun i => (Gs6 0 i rfl).trans rfl
  refine h_pop2 (pc' := 965) rfl rfl rfl ?_
  refine h_aload_n (pc' := 966) rfl rfl rfl ?_
  refine h_aload_n (pc' := 967) rfl rfl rfl ?_
  refine h_iload_n (pc' := 968) rfl rfl rfl ?_
  refine h_iconst (pc' := 969) (x := (Int32.ofInt 1)) rfl rfl rfl ?_
  refine h_iadd (pc' := 970) rfl rfl hy3 ci_1 rfl (by omega) (by omega) (fun z7 hz7 => ?_)
  refine h_iald (pc' := 971) (v := s0 0 (b3 + 1)) rfl rfl rfl hz7 (by omega) (by omega) (Zs6 _) (fun z8 hz8 => ?_)
  have tz8 := h_rgv hz8
  refine h_aload_n (pc' := 972) rfl rfl rfl ?_
  refine h_iload_n (pc' := 973) rfl rfl rfl ?_
  refine h_iconst (pc' := 974) (x := (Int32.ofInt 2)) rfl rfl rfl ?_
  refine h_iadd (pc' := 975) rfl rfl hy3 ci_2 rfl (by omega) (by omega) (fun z9 hz9 => ?_)
  refine h_iald (pc' := 976) (v := s0 0 (b3 + 2)) rfl rfl rfl hz9 (by omega) (by omega) (Zs6 _) (fun z10 hz10 => ?_)
  have tz10 := h_rgv hz10
  refine h_call (sp := false) (pc' := 979) (M := [(0, .ref 98), (1, .int z8), (2, .int z10)]) rfl rfl rfl rfl rfl rfl rfl rfl ?_
  refine w_207_98 _ Is6 z8 _ hz8 z10 _ hz10 (fun r11 s12 Is12 Gs12 => h_Kv ?_)
  have Zs12 : ∀ i, s12 0 i = s0 0 i := fun i => (Gs12 0 i rfl).trans (Zs6 i)
  refine h_pop2 (pc' := 980) rfl rfl rfl ?_
  refine h_goto (pc' := 1441) rfl rfl ?_
  exact kk _ Is12 
theorem g_case_983 {ns : Nat} (hns : ns ≤ 320) (s0 : h_S) (I0 : h_I s0)  (y3 : Int32) (b3 : Int) (hy3 : y3.toInt = b3) (hr : 0 ≤ b3 ∧ b3 + 5 ≤ ns) {Q : Option Value → h_S → Prop} (kk : ∀ τ, h_I τ → h_T g_P (g_Y ns) 225 1441 [(0, .ref 0), (1, .ref 9), (2, .ref 98), (3, .int y3)] [] τ Q) : h_T g_P (g_Y ns) 225 983 [(0, .ref 0), (1, .ref 9), (2, .ref 98), (3, .int y3)] [] s0 Q := by
  refine h_aload_n (pc' := 984) rfl rfl rfl ?_
  refine h_aload_n (pc' := 985) rfl rfl rfl ?_
  refine h_iload_n (pc' := 986) rfl rfl rfl ?_
  refine h_iconst (pc' := 987) (x := (Int32.ofInt 1)) rfl rfl rfl ?_
  refine h_iadd (pc' := 988) rfl rfl hy3 ci_1 rfl (by omega) (by omega) (fun z1 hz1 => ?_)
  refine h_iald (pc' := 989) (v := s0 0 (b3 + 1)) rfl rfl rfl hz1 (by omega) (by omega) rfl (fun z2 hz2 => ?_)
  have tz2 := h_rgv hz2
  refine h_aload_n (pc' := 990) rfl rfl rfl ?_
  refine h_iload_n (pc' := 991) rfl rfl rfl ?_
  refine h_iconst (pc' := 992) (x := (Int32.ofInt 2)) rfl rfl rfl ?_
  refine h_iadd (pc' := 993) rfl rfl hy3 ci_2 rfl (by omega) (by omega) (fun z3 hz3 => ?_)
  refine h_iald (pc' := 994) (v := s0 0 (b3 + 2)) rfl rfl rfl hz3 (by omega) (by omega) rfl (fun z4 hz4 => ?_)
  have tz4 := h_rgv hz4
  refine h_aload_n (pc' := 995) rfl rfl rfl ?_
  refine h_iload_n (pc' := 996) rfl rfl rfl ?_
  refine h_iconst (pc' := 997) (x := (Int32.ofInt 3)) rfl rfl rfl ?_
  refine h_iadd (pc' := 998) rfl rfl hy3 ci_3 rfl (by omega) (by omega) (fun z5 hz5 => ?_)
  refine h_iald (pc' := 999) (v := s0 0 (b3 + 3)) rfl rfl rfl hz5 (by omega) (by omega) rfl (fun z6 hz6 => ?_)
  have tz6 := h_rgv hz6
  refine h_call (sp := false) (pc' := 1002) (M := [(0, .ref 9), (1, .int z2), (2, .int z4), (3, .int z6)]) rfl rfl rfl rfl rfl rfl rfl rfl ?_
  refine w_109_9 _ I0 z2 _ hz2 z4 _ hz4 z6 _ hz6 (fun r7 s8 Is8 Gs8 => h_Kv ?_)
  have Zs8 : ∀ i, s8 0 i = s0 0 i := fun i => (Gs8 0 i rfl).trans rfl
  refine h_pop2 (pc' := 1003) rfl rfl rfl ?_
  refine h_aload_n (pc' := 1004) rfl rfl rfl ?_
  refine h_aload_n (pc' := 1005) rfl rfl rfl ?_
  refine h_iload_n (pc' := 1006) rfl rfl rfl ?_
  refine h_iconst (pc' := 1007) (x := (Int32.ofInt 1)) rfl rfl rfl ?_
  refine h_iadd (pc' := 1008) rfl rfl hy3 ci_1 rfl (by omega) (by omega) (fun z9 hz9 => ?_)
  refine h_iald (pc' := 1009) (v := s0 0 (b3 + 1)) rfl rfl rfl hz9 (by omega) (by omega) (Zs8 _) (fun z10 hz10 => ?_)
  have tz10 := h_rgv hz10
  refine h_aload_n (pc' := 1010) rfl rfl rfl ?_
  refine h_iload_n (pc' := 1011) rfl rfl rfl ?_
  refine h_iconst (pc' := 1012) (x := (Int32.ofInt 2)) rfl rfl rfl ?_
  refine h_iadd (pc' := 1013) rfl rfl hy3 ci_2 rfl (by omega) (by omega) (fun z11 hz11 => ?_)
  refine h_iald (pc' := 1014) (v := s0 0 (b3 + 2)) rfl rfl rfl hz11 (by omega) (by omega) (Zs8 _) (fun z12 hz12 => ?_)
  have tz12 := h_rgv hz12
  refine h_aload_n (pc' := 1015) rfl rfl rfl ?_
  refine h_iload_n (pc' := 1016) rfl rfl rfl ?_
  refine h_iconst (pc' := 1017) (x := (Int32.ofInt 3)) rfl rfl rfl ?_
  refine h_iadd (pc' := 1018) rfl rfl hy3 ci_3 rfl (by omega) (by omega) (fun z13 hz13 => ?_)
  refine h_iald (pc' := 1019) (v := s0 0 (b3 + 3)) rfl rfl rfl hz13 (by omega) (by omega) (Zs8 _) (fun z14 hz14 => ?_)
  have tz14 := h_rgv hz14
  refine h_call (sp := false) (pc' := 1022) (M := [(0, .ref 98), (1, .int z10), (2, .int z12), (3, .int z14)]) rfl rfl rfl rfl rfl rfl rfl rfl ?_
  refine w_208_98 _ Is8 z10 _ hz10 z12 _ hz12 z14 _ hz14 (fun r15 s16 Is16 Gs16 => h_Kv ?_)
  have Zs16 : ∀ i, s16 0 i = s0 0 i := fun i => (Gs16 0 i rfl).trans (Zs8 i)
  refine h_pop2 (pc' := 1023) rfl rfl rfl ?_
  refine h_goto (pc' := 1441) rfl rfl ?_
  exact kk _ Is16 
theorem g_case_1026 {ns : Nat} (hns : ns ≤ 320) (s0 : h_S) (I0 : h_I s0)  (y3 : Int32) (b3 : Int) (hy3 : y3.toInt = b3) (hr : 0 ≤ b3 ∧ b3 + 5 ≤ ns) {Q : Option Value → h_S → Prop} (kk : ∀ τ, h_I τ → h_T g_P (g_Y ns) 225 1441 [(0, .ref 0), (1, .ref 9), (2, .ref 98), (3, .int y3)] [] τ Q) : h_T g_P (g_Y ns) 225 1026 [(0, .ref 0), (1, .ref 9), (2, .ref 98), (3, .int y3)] [] s0 Q := by
  refine h_aload_n (pc' := 1027) rfl rfl rfl ?_
  refine h_aload_n (pc' := 1028) rfl rfl rfl ?_
  refine h_iload_n (pc' := 1029) rfl rfl rfl ?_
  refine h_iconst (pc' := 1030) (x := (Int32.ofInt 1)) rfl rfl rfl ?_
  refine h_iadd (pc' := 1031) rfl rfl hy3 ci_1 rfl (by omega) (by omega) (fun z1 hz1 => ?_)
  refine h_iald (pc' := 1032) (v := s0 0 (b3 + 1)) rfl rfl rfl hz1 (by omega) (by omega) rfl (fun z2 hz2 => ?_)
  have tz2 := h_rgv hz2
  refine h_aload_n (pc' := 1033) rfl rfl rfl ?_
  refine h_iload_n (pc' := 1034) rfl rfl rfl ?_
  refine h_iconst (pc' := 1035) (x := (Int32.ofInt 2)) rfl rfl rfl ?_
  refine h_iadd (pc' := 1036) rfl rfl hy3 ci_2 rfl (by omega) (by omega) (fun z3 hz3 => ?_)
  refine h_iald (pc' := 1037) (v := s0 0 (b3 + 2)) rfl rfl rfl hz3 (by omega) (by omega) rfl (fun z4 hz4 => ?_)
  have tz4 := h_rgv hz4
  refine h_zeq (tg := 1044) (pc' := 1040) rfl rfl rfl hz4 (fun c5 => ?_) (fun c5 => ?_)
  · refine h_iconst (pc' := 1045) (x := (Int32.ofInt 0)) rfl rfl rfl ?_
    refine h_call (sp := false) (pc' := 1048) (M := [(0, .ref 9), (1, .int z2), (2, .int (Int32.ofInt 0))]) rfl rfl rfl rfl rfl rfl rfl rfl ?_
    refine w_110_9 _ I0 z2 _ hz2 (Int32.ofInt 0) _ ci_0 (by omega) (fun r6 br6 hr6 s7 Is7 Gs7 tr6 => h_Kv ?_)
    have Zs7 : ∀ i, s7 0 i = s0 0 i := fun i => (Gs7 0 i rfl).trans rfl
    refine h_pop (pc' := 1049) rfl rfl rfl ?_
    refine h_aload_n (pc' := 1050) rfl rfl rfl ?_
    refine h_aload_n (pc' := 1051) rfl rfl rfl ?_
    refine h_iload_n (pc' := 1052) rfl rfl rfl ?_
    refine h_iconst (pc' := 1053) (x := (Int32.ofInt 1)) rfl rfl rfl ?_
    refine h_iadd (pc' := 1054) rfl rfl hy3 ci_1 rfl (by omega) (by omega) (fun z8 hz8 => ?_)
    refine h_iald (pc' := 1055) (v := s0 0 (b3 + 1)) rfl rfl rfl hz8 (by omega) (by omega) (Zs7 _) (fun z9 hz9 => ?_)
    have tz9 := h_rgv hz9
    refine h_aload_n (pc' := 1056) rfl rfl rfl ?_
    refine h_iload_n (pc' := 1057) rfl rfl rfl ?_
    refine h_iconst (pc' := 1058) (x := (Int32.ofInt 2)) rfl rfl rfl ?_
    refine h_iadd (pc' := 1059) rfl rfl hy3 ci_2 rfl (by omega) (by omega) (fun z10 hz10 => ?_)
    refine h_iald (pc' := 1060) (v := s0 0 (b3 + 2)) rfl rfl rfl hz10 (by omega) (by omega) (Zs7 _) (fun z11 hz11 => ?_)
    have tz11 := h_rgv hz11
    refine h_zeq (tg := 1067) (pc' := 1063) rfl rfl rfl hz11 (fun c12 => ?_) (fun c12 => ?_)
    · refine h_iconst (pc' := 1068) (x := (Int32.ofInt 0)) rfl rfl rfl ?_
      refine h_call (sp := false) (pc' := 1071) (M := [(0, .ref 98), (1, .int z9), (2, .int (Int32.ofInt 0))]) rfl rfl rfl rfl rfl rfl rfl rfl ?_
      refine w_209_98 _ Is7 z9 _ hz9 (Int32.ofInt 0) _ ci_0 (by omega) (fun r13 br13 hr13 s14 Is14 Gs14 tr13 => h_Kv ?_)
      have Zs14 : ∀ i, s14 0 i = s0 0 i := fun i => (Gs14 0 i rfl).trans (Zs7 i)
      refine h_pop (pc' := 1072) rfl rfl rfl ?_
      refine h_goto (pc' := 1441) rfl rfl ?_
      exact kk _ Is14 
    · refine h_iconst (pc' := 1064) (x := (Int32.ofInt 1)) rfl rfl rfl ?_
      refine h_goto (pc' := 1068) rfl rfl ?_
      refine h_call (sp := false) (pc' := 1071) (M := [(0, .ref 98), (1, .int z9), (2, .int (Int32.ofInt 1))]) rfl rfl rfl rfl rfl rfl rfl rfl ?_
      refine w_209_98 _ Is7 z9 _ hz9 (Int32.ofInt 1) _ ci_1 (by omega) (fun r15 br15 hr15 s16 Is16 Gs16 tr15 => h_Kv ?_)
      have Zs16 : ∀ i, s16 0 i = s0 0 i := fun i => (Gs16 0 i rfl).trans (Zs7 i)
      refine h_pop (pc' := 1072) rfl rfl rfl ?_
      refine h_goto (pc' := 1441) rfl rfl ?_
      exact kk _ Is16 
  · refine h_iconst (pc' := 1041) (x := (Int32.ofInt 1)) rfl rfl rfl ?_
    refine h_goto (pc' := 1045) rfl rfl ?_
    refine h_call (sp := false) (pc' := 1048) (M := [(0, .ref 9), (1, .int z2), (2, .int (Int32.ofInt 1))]) rfl rfl rfl rfl rfl rfl rfl rfl ?_
    refine w_110_9 _ I0 z2 _ hz2 (Int32.ofInt 1) _ ci_1 (by omega) (fun r17 br17 hr17 s18 Is18 Gs18 tr17 => h_Kv ?_)
    have Zs18 : ∀ i, s18 0 i = s0 0 i := fun i => (Gs18 0 i rfl).trans rfl
    refine h_pop (pc' := 1049) rfl rfl rfl ?_
    refine h_aload_n (pc' := 1050) rfl rfl rfl ?_
    refine h_aload_n (pc' := 1051) rfl rfl rfl ?_
    refine h_iload_n (pc' := 1052) rfl rfl rfl ?_
    refine h_iconst (pc' := 1053) (x := (Int32.ofInt 1)) rfl rfl rfl ?_
    refine h_iadd (pc' := 1054) rfl rfl hy3 ci_1 rfl (by omega) (by omega) (fun z19 hz19 => ?_)
    refine h_iald (pc' := 1055) (v := s0 0 (b3 + 1)) rfl rfl rfl hz19 (by omega) (by omega) (Zs18 _) (fun z20 hz20 => ?_)
    have tz20 := h_rgv hz20
    refine h_aload_n (pc' := 1056) rfl rfl rfl ?_
    refine h_iload_n (pc' := 1057) rfl rfl rfl ?_
    refine h_iconst (pc' := 1058) (x := (Int32.ofInt 2)) rfl rfl rfl ?_
    refine h_iadd (pc' := 1059) rfl rfl hy3 ci_2 rfl (by omega) (by omega) (fun z21 hz21 => ?_)
    refine h_iald (pc' := 1060) (v := s0 0 (b3 + 2)) rfl rfl rfl hz21 (by omega) (by omega) (Zs18 _) (fun z22 hz22 => ?_)
    have tz22 := h_rgv hz22
    refine h_zeq (tg := 1067) (pc' := 1063) rfl rfl rfl hz22 (fun c23 => ?_) (fun c23 => ?_)
    · refine h_iconst (pc' := 1068) (x := (Int32.ofInt 0)) rfl rfl rfl ?_
      refine h_call (sp := false) (pc' := 1071) (M := [(0, .ref 98), (1, .int z20), (2, .int (Int32.ofInt 0))]) rfl rfl rfl rfl rfl rfl rfl rfl ?_
      refine w_209_98 _ Is18 z20 _ hz20 (Int32.ofInt 0) _ ci_0 (by omega) (fun r24 br24 hr24 s25 Is25 Gs25 tr24 => h_Kv ?_)
      have Zs25 : ∀ i, s25 0 i = s0 0 i := fun i => (Gs25 0 i rfl).trans (Zs18 i)
      refine h_pop (pc' := 1072) rfl rfl rfl ?_
      refine h_goto (pc' := 1441) rfl rfl ?_
      exact kk _ Is25 
    · refine h_iconst (pc' := 1064) (x := (Int32.ofInt 1)) rfl rfl rfl ?_
      refine h_goto (pc' := 1068) rfl rfl ?_
      refine h_call (sp := false) (pc' := 1071) (M := [(0, .ref 98), (1, .int z20), (2, .int (Int32.ofInt 1))]) rfl rfl rfl rfl rfl rfl rfl rfl ?_
      refine w_209_98 _ Is18 z20 _ hz20 (Int32.ofInt 1) _ ci_1 (by omega) (fun r26 br26 hr26 s27 Is27 Gs27 tr26 => h_Kv ?_)
      have Zs27 : ∀ i, s27 0 i = s0 0 i := fun i => (Gs27 0 i rfl).trans (Zs18 i)
      refine h_pop (pc' := 1072) rfl rfl rfl ?_
      refine h_goto (pc' := 1441) rfl rfl ?_
      exact kk _ Is27 
theorem g_case_1075 {ns : Nat} (hns : ns ≤ 320) (s0 : h_S) (I0 : h_I s0)  (y3 : Int32) (b3 : Int) (hy3 : y3.toInt = b3) (hr : 0 ≤ b3 ∧ b3 + 5 ≤ ns) {Q : Option Value → h_S → Prop} (kk : ∀ τ, h_I τ → h_T g_P (g_Y ns) 225 1441 [(0, .ref 0), (1, .ref 9), (2, .ref 98), (3, .int y3)] [] τ Q) : h_T g_P (g_Y ns) 225 1075 [(0, .ref 0), (1, .ref 9), (2, .ref 98), (3, .int y3)] [] s0 Q := by
  refine h_aload_n (pc' := 1076) rfl rfl rfl ?_
  refine h_aload_n (pc' := 1077) rfl rfl rfl ?_
  refine h_iload_n (pc' := 1078) rfl rfl rfl ?_
  refine h_iconst (pc' := 1079) (x := (Int32.ofInt 1)) rfl rfl rfl ?_
  refine h_iadd (pc' := 1080) rfl rfl hy3 ci_1 rfl (by omega) (by omega) (fun z1 hz1 => ?_)
  refine h_iald (pc' := 1081) (v := s0 0 (b3 + 1)) rfl rfl rfl hz1 (by omega) (by omega) rfl (fun z2 hz2 => ?_)
  have tz2 := h_rgv hz2
  refine h_call (sp := false) (pc' := 1084) (M := [(0, .ref 9), (1, .int z2)]) rfl rfl rfl rfl rfl rfl rfl rfl ?_
  refine w_111_9 _ I0 z2 _ hz2 (fun r3 br3 hr3 s4 Is4 Gs4 tr3 => h_Kv ?_)
  have Zs4 : ∀ i, s4 0 i = s0 0 i := fun i => (Gs4 0 i rfl).trans rfl
  refine h_pop (pc' := 1085) rfl rfl rfl ?_
  refine h_aload_n (pc' := 1086) rfl rfl rfl ?_
  refine h_aload_n (pc' := 1087) rfl rfl rfl ?_
  refine h_iload_n (pc' := 1088) rfl rfl rfl ?_
  refine h_iconst (pc' := 1089) (x := (Int32.ofInt 1)) rfl rfl rfl ?_
  refine h_iadd (pc' := 1090) rfl rfl hy3 ci_1 rfl (by omega) (by omega) (fun z5 hz5 => ?_)
  refine h_iald (pc' := 1091) (v := s0 0 (b3 + 1)) rfl rfl rfl hz5 (by omega) (by omega) (Zs4 _) (fun z6 hz6 => ?_)
  have tz6 := h_rgv hz6
  refine h_call (sp := false) (pc' := 1094) (M := [(0, .ref 98), (1, .int z6)]) rfl rfl rfl rfl rfl rfl rfl rfl ?_
  refine w_210_98 _ Is4 z6 _ hz6 (fun r7 br7 hr7 s8 Is8 Gs8 tr7 => h_Kv ?_)
  have Zs8 : ∀ i, s8 0 i = s0 0 i := fun i => (Gs8 0 i rfl).trans (Zs4 i)
  refine h_pop (pc' := 1095) rfl rfl rfl ?_
  refine h_goto (pc' := 1441) rfl rfl ?_
  exact kk _ Is8 
theorem g_case_1098 {ns : Nat} (hns : ns ≤ 320) (s0 : h_S) (I0 : h_I s0)  (y3 : Int32) (b3 : Int) (hy3 : y3.toInt = b3) (hr : 0 ≤ b3 ∧ b3 + 5 ≤ ns) {Q : Option Value → h_S → Prop} (kk : ∀ τ, h_I τ → h_T g_P (g_Y ns) 225 1441 [(0, .ref 0), (1, .ref 9), (2, .ref 98), (3, .int y3)] [] τ Q) : h_T g_P (g_Y ns) 225 1098 [(0, .ref 0), (1, .ref 9), (2, .ref 98), (3, .int y3)] [] s0 Q := by
  refine h_aload_n (pc' := 1099) rfl rfl rfl ?_
  refine h_aload_n (pc' := 1100) rfl rfl rfl ?_
  refine h_iload_n (pc' := 1101) rfl rfl rfl ?_
  refine h_iconst (pc' := 1102) (x := (Int32.ofInt 1)) rfl rfl rfl ?_
  refine h_iadd (pc' := 1103) rfl rfl hy3 ci_1 rfl (by omega) (by omega) (fun z1 hz1 => ?_)
  refine h_iald (pc' := 1104) (v := s0 0 (b3 + 1)) rfl rfl rfl hz1 (by omega) (by omega) rfl (fun z2 hz2 => ?_)
  have tz2 := h_rgv hz2
  refine h_call (sp := false) (pc' := 1107) (M := [(0, .ref 9), (1, .int z2)]) rfl rfl rfl rfl rfl rfl rfl rfl ?_
  refine w_112_9 _ I0 z2 _ hz2 (fun r3 br3 hr3 s4 Is4 Gs4 => h_Kv ?_)
  have Zs4 : ∀ i, s4 0 i = s0 0 i := fun i => (Gs4 0 i rfl).trans rfl
  refine h_pop (pc' := 1108) rfl rfl rfl ?_
  refine h_aload_n (pc' := 1109) rfl rfl rfl ?_
  refine h_aload_n (pc' := 1110) rfl rfl rfl ?_
  refine h_iload_n (pc' := 1111) rfl rfl rfl ?_
  refine h_iconst (pc' := 1112) (x := (Int32.ofInt 1)) rfl rfl rfl ?_
  refine h_iadd (pc' := 1113) rfl rfl hy3 ci_1 rfl (by omega) (by omega) (fun z5 hz5 => ?_)
  refine h_iald (pc' := 1114) (v := s0 0 (b3 + 1)) rfl rfl rfl hz5 (by omega) (by omega) (Zs4 _) (fun z6 hz6 => ?_)
  have tz6 := h_rgv hz6
  refine h_call (sp := false) (pc' := 1117) (M := [(0, .ref 98), (1, .int z6)]) rfl rfl rfl rfl rfl rfl rfl rfl ?_
  refine w_213_98 _ Is4 z6 _ hz6 (fun r7 br7 hr7 s8 Is8 Gs8 => h_Kv ?_)
  have Zs8 : ∀ i, s8 0 i = s0 0 i := fun i => (Gs8 0 i rfl).trans (Zs4 i)
  refine h_pop (pc' := 1118) rfl rfl rfl ?_
  refine h_goto (pc' := 1441) rfl rfl ?_
  exact kk _ Is8 
theorem g_case_1121 {ns : Nat} (hns : ns ≤ 320) (s0 : h_S) (I0 : h_I s0)  (y3 : Int32) (b3 : Int) (hy3 : y3.toInt = b3) (hr : 0 ≤ b3 ∧ b3 + 5 ≤ ns) {Q : Option Value → h_S → Prop} (kk : ∀ τ, h_I τ → h_T g_P (g_Y ns) 225 1441 [(0, .ref 0), (1, .ref 9), (2, .ref 98), (3, .int y3)] [] τ Q) : h_T g_P (g_Y ns) 225 1121 [(0, .ref 0), (1, .ref 9), (2, .ref 98), (3, .int y3)] [] s0 Q := by
  refine h_aload_n (pc' := 1122) rfl rfl rfl ?_
  refine h_aload_n (pc' := 1123) rfl rfl rfl ?_
  refine h_iload_n (pc' := 1124) rfl rfl rfl ?_
  refine h_iconst (pc' := 1125) (x := (Int32.ofInt 1)) rfl rfl rfl ?_
  refine h_iadd (pc' := 1126) rfl rfl hy3 ci_1 rfl (by omega) (by omega) (fun z1 hz1 => ?_)
  refine h_iald (pc' := 1127) (v := s0 0 (b3 + 1)) rfl rfl rfl hz1 (by omega) (by omega) rfl (fun z2 hz2 => ?_)
  have tz2 := h_rgv hz2
  refine h_call (sp := false) (pc' := 1130) (M := [(0, .ref 9), (1, .int z2)]) rfl rfl rfl rfl rfl rfl rfl rfl ?_
  refine w_113_9 _ I0 z2 _ hz2 (fun r3 br3 hr3 s4 Is4 Gs4 => h_Kv ?_)
  have Zs4 : ∀ i, s4 0 i = s0 0 i := fun i => (Gs4 0 i rfl).trans rfl
  refine h_pop (pc' := 1131) rfl rfl rfl ?_
  refine h_aload_n (pc' := 1132) rfl rfl rfl ?_
  refine h_aload_n (pc' := 1133) rfl rfl rfl ?_
  refine h_iload_n (pc' := 1134) rfl rfl rfl ?_
  refine h_iconst (pc' := 1135) (x := (Int32.ofInt 1)) rfl rfl rfl ?_
  refine h_iadd (pc' := 1136) rfl rfl hy3 ci_1 rfl (by omega) (by omega) (fun z5 hz5 => ?_)
  refine h_iald (pc' := 1137) (v := s0 0 (b3 + 1)) rfl rfl rfl hz5 (by omega) (by omega) (Zs4 _) (fun z6 hz6 => ?_)
  have tz6 := h_rgv hz6
  refine h_call (sp := false) (pc' := 1140) (M := [(0, .ref 98), (1, .int z6)]) rfl rfl rfl rfl rfl rfl rfl rfl ?_
  refine w_214_98 _ Is4 z6 _ hz6 (fun r7 br7 hr7 s8 Is8 Gs8 => h_Kv ?_)
  have Zs8 : ∀ i, s8 0 i = s0 0 i := fun i => (Gs8 0 i rfl).trans (Zs4 i)
  refine h_pop (pc' := 1141) rfl rfl rfl ?_
  refine h_goto (pc' := 1441) rfl rfl ?_
  exact kk _ Is8 
theorem g_case_1144 {ns : Nat} (hns : ns ≤ 320) (s0 : h_S) (I0 : h_I s0)  (y3 : Int32) (b3 : Int) (hy3 : y3.toInt = b3) (hr : 0 ≤ b3 ∧ b3 + 5 ≤ ns) {Q : Option Value → h_S → Prop} (kk : ∀ τ, h_I τ → h_T g_P (g_Y ns) 225 1441 [(0, .ref 0), (1, .ref 9), (2, .ref 98), (3, .int y3)] [] τ Q) : h_T g_P (g_Y ns) 225 1144 [(0, .ref 0), (1, .ref 9), (2, .ref 98), (3, .int y3)] [] s0 Q := by
  refine h_aload_n (pc' := 1145) rfl rfl rfl ?_
  refine h_aload_n (pc' := 1146) rfl rfl rfl ?_
  refine h_iload_n (pc' := 1147) rfl rfl rfl ?_
  refine h_iconst (pc' := 1148) (x := (Int32.ofInt 1)) rfl rfl rfl ?_
  refine h_iadd (pc' := 1149) rfl rfl hy3 ci_1 rfl (by omega) (by omega) (fun z1 hz1 => ?_)
  refine h_iald (pc' := 1150) (v := s0 0 (b3 + 1)) rfl rfl rfl hz1 (by omega) (by omega) rfl (fun z2 hz2 => ?_)
  have tz2 := h_rgv hz2
  refine h_aload_n (pc' := 1151) rfl rfl rfl ?_
  refine h_iload_n (pc' := 1152) rfl rfl rfl ?_
  refine h_iconst (pc' := 1153) (x := (Int32.ofInt 2)) rfl rfl rfl ?_
  refine h_iadd (pc' := 1154) rfl rfl hy3 ci_2 rfl (by omega) (by omega) (fun z3 hz3 => ?_)
  refine h_iald (pc' := 1155) (v := s0 0 (b3 + 2)) rfl rfl rfl hz3 (by omega) (by omega) rfl (fun z4 hz4 => ?_)
  have tz4 := h_rgv hz4
  refine h_call (sp := false) (pc' := 1158) (M := [(0, .ref 9), (1, .int z2), (2, .int z4)]) rfl rfl rfl rfl rfl rfl rfl rfl ?_
  refine w_114_9 _ I0 z2 _ hz2 z4 _ hz4 (fun r5 br5 hr5 s6 Is6 Gs6 tr5 => h_Kv ?_)
  have Zs6 : ∀ i, s6 0 i = s0 0 i := fun i => (Gs6 0 i rfl).trans rfl
  refine h_pop (pc' := 1159) rfl rfl rfl ?_
  refine h_aload_n (pc' := 1160) rfl rfl rfl ?_
  refine h_aload_n (pc' := 1161) rfl rfl rfl ?_
  refine h_iload_n (pc' := 1162) rfl rfl rfl ?_
  refine h_iconst (pc' := 1163) (x := (Int32.ofInt 1)) rfl rfl rfl ?_
  refine h_iadd (pc' := 1164) rfl rfl hy3 ci_1 rfl (by omega) (by omega) (fun z7 hz7 => ?_)
  refine h_iald (pc' := 1165) (v := s0 0 (b3 + 1)) rfl rfl rfl hz7 (by omega) (by omega) (Zs6 _) (fun z8 hz8 => ?_)
  have tz8 := h_rgv hz8
  refine h_aload_n (pc' := 1166) rfl rfl rfl ?_
  refine h_iload_n (pc' := 1167) rfl rfl rfl ?_
  refine h_iconst (pc' := 1168) (x := (Int32.ofInt 2)) rfl rfl rfl ?_
  refine h_iadd (pc' := 1169) rfl rfl hy3 ci_2 rfl (by omega) (by omega) (fun z9 hz9 => ?_)
  refine h_iald (pc' := 1170) (v := s0 0 (b3 + 2)) rfl rfl rfl hz9 (by omega) (by omega) (Zs6 _) (fun z10 hz10 => ?_)
  have tz10 := h_rgv hz10
  refine h_call (sp := false) (pc' := 1173) (M := [(0, .ref 98), (1, .int z8), (2, .int z10)]) rfl rfl rfl rfl rfl rfl rfl rfl ?_
  refine w_215_98 _ Is6 z8 _ hz8 z10 _ hz10 (fun r11 br11 hr11 s12 Is12 Gs12 => h_Kv ?_)
  have Zs12 : ∀ i, s12 0 i = s0 0 i := fun i => (Gs12 0 i rfl).trans (Zs6 i)
  refine h_pop (pc' := 1174) rfl rfl rfl ?_
  refine h_goto (pc' := 1441) rfl rfl ?_
  exact kk _ Is12 
theorem g_case_1177 {ns : Nat} (hns : ns ≤ 320) (s0 : h_S) (I0 : h_I s0)  (y3 : Int32) (b3 : Int) (hy3 : y3.toInt = b3) (hr : 0 ≤ b3 ∧ b3 + 5 ≤ ns) {Q : Option Value → h_S → Prop} (kk : ∀ τ, h_I τ → h_T g_P (g_Y ns) 225 1441 [(0, .ref 0), (1, .ref 9), (2, .ref 98), (3, .int y3)] [] τ Q) : h_T g_P (g_Y ns) 225 1177 [(0, .ref 0), (1, .ref 9), (2, .ref 98), (3, .int y3)] [] s0 Q := by
  refine h_aload_n (pc' := 1178) rfl rfl rfl ?_
  refine h_aload_n (pc' := 1179) rfl rfl rfl ?_
  refine h_iload_n (pc' := 1180) rfl rfl rfl ?_
  refine h_iconst (pc' := 1181) (x := (Int32.ofInt 1)) rfl rfl rfl ?_
  refine h_iadd (pc' := 1182) rfl rfl hy3 ci_1 rfl (by omega) (by omega) (fun z1 hz1 => ?_)
  refine h_iald (pc' := 1183) (v := s0 0 (b3 + 1)) rfl rfl rfl hz1 (by omega) (by omega) rfl (fun z2 hz2 => ?_)
  have tz2 := h_rgv hz2
  refine h_aload_n (pc' := 1184) rfl rfl rfl ?_
  refine h_iload_n (pc' := 1185) rfl rfl rfl ?_
  refine h_iconst (pc' := 1186) (x := (Int32.ofInt 2)) rfl rfl rfl ?_
  refine h_iadd (pc' := 1187) rfl rfl hy3 ci_2 rfl (by omega) (by omega) (fun z3 hz3 => ?_)
  refine h_iald (pc' := 1188) (v := s0 0 (b3 + 2)) rfl rfl rfl hz3 (by omega) (by omega) rfl (fun z4 hz4 => ?_)
  have tz4 := h_rgv hz4
  refine h_aload_n (pc' := 1189) rfl rfl rfl ?_
  refine h_iload_n (pc' := 1190) rfl rfl rfl ?_
  refine h_iconst (pc' := 1191) (x := (Int32.ofInt 3)) rfl rfl rfl ?_
  refine h_iadd (pc' := 1192) rfl rfl hy3 ci_3 rfl (by omega) (by omega) (fun z5 hz5 => ?_)
  refine h_iald (pc' := 1193) (v := s0 0 (b3 + 3)) rfl rfl rfl hz5 (by omega) (by omega) rfl (fun z6 hz6 => ?_)
  have tz6 := h_rgv hz6
  refine h_call (sp := false) (pc' := 1196) (M := [(0, .ref 9), (1, .int z2), (2, .int z4), (3, .int z6)]) rfl rfl rfl rfl rfl rfl rfl rfl ?_
  refine w_115_9 _ I0 z2 _ hz2 z4 _ hz4 z6 _ hz6 (fun r7 br7 hr7 s8 Is8 Gs8 => h_Kv ?_)
  have Zs8 : ∀ i, s8 0 i = s0 0 i := fun i => (Gs8 0 i rfl).trans rfl
  refine h_pop (pc' := 1197) rfl rfl rfl ?_
  refine h_aload_n (pc' := 1198) rfl rfl rfl ?_
  refine h_aload_n (pc' := 1199) rfl rfl rfl ?_
  refine h_iload_n (pc' := 1200) rfl rfl rfl ?_
  refine h_iconst (pc' := 1201) (x := (Int32.ofInt 1)) rfl rfl rfl ?_
  refine h_iadd (pc' := 1202) rfl rfl hy3 ci_1 rfl (by omega) (by omega) (fun z9 hz9 => ?_)
  refine h_iald (pc' := 1203) (v := s0 0 (b3 + 1)) rfl rfl rfl hz9 (by omega) (by omega) (Zs8 _) (fun z10 hz10 => ?_)
  have tz10 := h_rgv hz10
  refine h_aload_n (pc' := 1204) rfl rfl rfl ?_
  refine h_iload_n (pc' := 1205) rfl rfl rfl ?_
  refine h_iconst (pc' := 1206) (x := (Int32.ofInt 2)) rfl rfl rfl ?_
  refine h_iadd (pc' := 1207) rfl rfl hy3 ci_2 rfl (by omega) (by omega) (fun z11 hz11 => ?_)
  refine h_iald (pc' := 1208) (v := s0 0 (b3 + 2)) rfl rfl rfl hz11 (by omega) (by omega) (Zs8 _) (fun z12 hz12 => ?_)
  have tz12 := h_rgv hz12
  refine h_aload_n (pc' := 1209) rfl rfl rfl ?_
  refine h_iload_n (pc' := 1210) rfl rfl rfl ?_
  refine h_iconst (pc' := 1211) (x := (Int32.ofInt 3)) rfl rfl rfl ?_
  refine h_iadd (pc' := 1212) rfl rfl hy3 ci_3 rfl (by omega) (by omega) (fun z13 hz13 => ?_)
  refine h_iald (pc' := 1213) (v := s0 0 (b3 + 3)) rfl rfl rfl hz13 (by omega) (by omega) (Zs8 _) (fun z14 hz14 => ?_)
  have tz14 := h_rgv hz14
  refine h_call (sp := false) (pc' := 1216) (M := [(0, .ref 98), (1, .int z10), (2, .int z12), (3, .int z14)]) rfl rfl rfl rfl rfl rfl rfl rfl ?_
  refine w_217_98 _ Is8 z10 _ hz10 z12 _ hz12 z14 _ hz14 (fun r15 br15 hr15 s16 Is16 Gs16 => h_Kv ?_)
  have Zs16 : ∀ i, s16 0 i = s0 0 i := fun i => (Gs16 0 i rfl).trans (Zs8 i)
  refine h_pop (pc' := 1217) rfl rfl rfl ?_
  refine h_goto (pc' := 1441) rfl rfl ?_
  exact kk _ Is16 
theorem g_case_1220 {ns : Nat} (hns : ns ≤ 320) (s0 : h_S) (I0 : h_I s0)  (y3 : Int32) (b3 : Int) (hy3 : y3.toInt = b3) (hr : 0 ≤ b3 ∧ b3 + 5 ≤ ns) {Q : Option Value → h_S → Prop} (kk : ∀ τ, h_I τ → h_T g_P (g_Y ns) 225 1441 [(0, .ref 0), (1, .ref 9), (2, .ref 98), (3, .int y3)] [] τ Q) : h_T g_P (g_Y ns) 225 1220 [(0, .ref 0), (1, .ref 9), (2, .ref 98), (3, .int y3)] [] s0 Q := by
  refine h_aload_n (pc' := 1221) rfl rfl rfl ?_
  refine h_aload_n (pc' := 1222) rfl rfl rfl ?_
  refine h_iload_n (pc' := 1223) rfl rfl rfl ?_
  refine h_iconst (pc' := 1224) (x := (Int32.ofInt 1)) rfl rfl rfl ?_
  refine h_iadd (pc' := 1225) rfl rfl hy3 ci_1 rfl (by omega) (by omega) (fun z1 hz1 => ?_)
  refine h_iald (pc' := 1226) (v := s0 0 (b3 + 1)) rfl rfl rfl hz1 (by omega) (by omega) rfl (fun z2 hz2 => ?_)
  have tz2 := h_rgv hz2
  refine h_call (sp := false) (pc' := 1229) (M := [(0, .ref 9), (1, .int z2)]) rfl rfl rfl rfl rfl rfl rfl rfl ?_
  refine w_116_9 _ I0 z2 _ hz2 (fun r3 br3 hr3 s4 Is4 Gs4 tr3 => h_Kv ?_)
  have Zs4 : ∀ i, s4 0 i = s0 0 i := fun i => (Gs4 0 i rfl).trans rfl
  refine h_pop (pc' := 1230) rfl rfl rfl ?_
  refine h_aload_n (pc' := 1231) rfl rfl rfl ?_
  refine h_aload_n (pc' := 1232) rfl rfl rfl ?_
  refine h_iload_n (pc' := 1233) rfl rfl rfl ?_
  refine h_iconst (pc' := 1234) (x := (Int32.ofInt 1)) rfl rfl rfl ?_
  refine h_iadd (pc' := 1235) rfl rfl hy3 ci_1 rfl (by omega) (by omega) (fun z5 hz5 => ?_)
  refine h_iald (pc' := 1236) (v := s0 0 (b3 + 1)) rfl rfl rfl hz5 (by omega) (by omega) (Zs4 _) (fun z6 hz6 => ?_)
  have tz6 := h_rgv hz6
  refine h_call (sp := false) (pc' := 1239) (M := [(0, .ref 98), (1, .int z6)]) rfl rfl rfl rfl rfl rfl rfl rfl ?_
  refine w_218_98 _ Is4 z6 _ hz6 (fun r7 br7 hr7 s8 Is8 Gs8 tr7 => h_Kv ?_)
  have Zs8 : ∀ i, s8 0 i = s0 0 i := fun i => (Gs8 0 i rfl).trans (Zs4 i)
  refine h_pop (pc' := 1240) rfl rfl rfl ?_
  refine h_goto (pc' := 1441) rfl rfl ?_
  exact kk _ Is8 
theorem g_case_1243 {ns : Nat} (hns : ns ≤ 320) (s0 : h_S) (I0 : h_I s0)  (y3 : Int32) (b3 : Int) (hy3 : y3.toInt = b3) (hr : 0 ≤ b3 ∧ b3 + 5 ≤ ns) {Q : Option Value → h_S → Prop} (kk : ∀ τ, h_I τ → h_T g_P (g_Y ns) 225 1441 [(0, .ref 0), (1, .ref 9), (2, .ref 98), (3, .int y3)] [] τ Q) : h_T g_P (g_Y ns) 225 1243 [(0, .ref 0), (1, .ref 9), (2, .ref 98), (3, .int y3)] [] s0 Q := by
  refine h_aload_n (pc' := 1244) rfl rfl rfl ?_
  refine h_aload_n (pc' := 1245) rfl rfl rfl ?_
  refine h_iload_n (pc' := 1246) rfl rfl rfl ?_
  refine h_iconst (pc' := 1247) (x := (Int32.ofInt 1)) rfl rfl rfl ?_
  refine h_iadd (pc' := 1248) rfl rfl hy3 ci_1 rfl (by omega) (by omega) (fun z1 hz1 => ?_)
  refine h_iald (pc' := 1249) (v := s0 0 (b3 + 1)) rfl rfl rfl hz1 (by omega) (by omega) rfl (fun z2 hz2 => ?_)
  have tz2 := h_rgv hz2
  refine h_call (sp := false) (pc' := 1252) (M := [(0, .ref 9), (1, .int z2)]) rfl rfl rfl rfl rfl rfl rfl rfl ?_
  refine w_117_9 _ I0 z2 _ hz2 (fun r3 br3 hr3 s4 Is4 Gs4 => h_Kv ?_)
  have Zs4 : ∀ i, s4 0 i = s0 0 i := fun i => (Gs4 0 i rfl).trans rfl
  refine h_pop (pc' := 1253) rfl rfl rfl ?_
  refine h_aload_n (pc' := 1254) rfl rfl rfl ?_
  refine h_aload_n (pc' := 1255) rfl rfl rfl ?_
  refine h_iload_n (pc' := 1256) rfl rfl rfl ?_
  refine h_iconst (pc' := 1257) (x := (Int32.ofInt 1)) rfl rfl rfl ?_
  refine h_iadd (pc' := 1258) rfl rfl hy3 ci_1 rfl (by omega) (by omega) (fun z5 hz5 => ?_)
  refine h_iald (pc' := 1259) (v := s0 0 (b3 + 1)) rfl rfl rfl hz5 (by omega) (by omega) (Zs4 _) (fun z6 hz6 => ?_)
  have tz6 := h_rgv hz6
  refine h_call (sp := false) (pc' := 1262) (M := [(0, .ref 98), (1, .int z6)]) rfl rfl rfl rfl rfl rfl rfl rfl ?_
  refine w_219_98 _ Is4 z6 _ hz6 (fun r7 br7 hr7 s8 Is8 Gs8 => h_Kv ?_)
  have Zs8 : ∀ i, s8 0 i = s0 0 i := fun i => (Gs8 0 i rfl).trans (Zs4 i)
  refine h_pop (pc' := 1263) rfl rfl rfl ?_
  refine h_goto (pc' := 1441) rfl rfl ?_
  exact kk _ Is8 
theorem g_case_1266 {ns : Nat} (hns : ns ≤ 320) (s0 : h_S) (I0 : h_I s0)  (y3 : Int32) (b3 : Int) (hy3 : y3.toInt = b3) (hr : 0 ≤ b3 ∧ b3 + 5 ≤ ns) {Q : Option Value → h_S → Prop} (kk : ∀ τ, h_I τ → h_T g_P (g_Y ns) 225 1441 [(0, .ref 0), (1, .ref 9), (2, .ref 98), (3, .int y3)] [] τ Q) : h_T g_P (g_Y ns) 225 1266 [(0, .ref 0), (1, .ref 9), (2, .ref 98), (3, .int y3)] [] s0 Q := by
  refine h_aload_n (pc' := 1267) rfl rfl rfl ?_
  refine h_aload_n (pc' := 1268) rfl rfl rfl ?_
  refine h_iload_n (pc' := 1269) rfl rfl rfl ?_
  refine h_iconst (pc' := 1270) (x := (Int32.ofInt 1)) rfl rfl rfl ?_
  refine h_iadd (pc' := 1271) rfl rfl hy3 ci_1 rfl (by omega) (by omega) (fun z1 hz1 => ?_)
  refine h_iald (pc' := 1272) (v := s0 0 (b3 + 1)) rfl rfl rfl hz1 (by omega) (by omega) rfl (fun z2 hz2 => ?_)
  have tz2 := h_rgv hz2
  refine h_aload_n (pc' := 1273) rfl rfl rfl ?_
  refine h_iload_n (pc' := 1274) rfl rfl rfl ?_
  refine h_iconst (pc' := 1275) (x := (Int32.ofInt 2)) rfl rfl rfl ?_
  refine h_iadd (pc' := 1276) rfl rfl hy3 ci_2 rfl (by omega) (by omega) (fun z3 hz3 => ?_)
  refine h_iald (pc' := 1277) (v := s0 0 (b3 + 2)) rfl rfl rfl hz3 (by omega) (by omega) rfl (fun z4 hz4 => ?_)
  have tz4 := h_rgv hz4
  refine h_aload_n (pc' := 1278) rfl rfl rfl ?_
  refine h_iload_n (pc' := 1279) rfl rfl rfl ?_
  refine h_iconst (pc' := 1280) (x := (Int32.ofInt 3)) rfl rfl rfl ?_
  refine h_iadd (pc' := 1281) rfl rfl hy3 ci_3 rfl (by omega) (by omega) (fun z5 hz5 => ?_)
  refine h_iald (pc' := 1282) (v := s0 0 (b3 + 3)) rfl rfl rfl hz5 (by omega) (by omega) rfl (fun z6 hz6 => ?_)
  have tz6 := h_rgv hz6
  rcases (show ((s0 0 (b3 + 1)) = 0) ∨ ((s0 0 (b3 + 1)) = 1) ∨ ((s0 0 (b3 + 1)) = 2) ∨ ((s0 0 (b3 + 1)) = 3) ∨ ((s0 0 (b3 + 1)) ≤ (-1)) ∨ (4 ≤ (s0 0 (b3 + 1))) by omega) with c7 | c7 | c7 | c7 | c7 | c7
  · have qz2 : z2 = (Int32.ofInt 0) := h_lit (show z2.toInt = 0 by omega) ci_0
    subst qz2
    refine h_call (sp := false) (pc' := 1285) (M := [(0, .ref 9), (1, .int (Int32.ofInt 0)), (2, .int z4), (3, .int z6)]) rfl rfl rfl rfl rfl rfl rfl rfl ?_
    refine u_sheetX0 _ I0  z4 _ hz4 z6 _ hz6 (fun r8 br8 hr8 s9 Is9 Gs9 tr8 pcs9 => h_Kv ?_)
    have Zs9 : ∀ i, s9 0 i = s0 0 i := fun i => (Gs9 0 i rfl).trans rfl
    rcases pcs9 with pcs9 | pcs9 | pcs9
    · refine h_aload_n (pc' := 1286) rfl rfl rfl ?_
      refine h_aload_n (pc' := 1287) rfl rfl rfl ?_
      refine h_iload_n (pc' := 1288) rfl rfl rfl ?_
      refine h_iconst (pc' := 1289) (x := (Int32.ofInt 1)) rfl rfl rfl ?_
      refine h_iadd (pc' := 1290) rfl rfl hy3 ci_1 rfl (by omega) (by omega) (fun z10 hz10 => ?_)
      refine h_iald (pc' := 1291) (v := s0 0 (b3 + 1)) rfl rfl rfl hz10 (by omega) (by omega) (Zs9 _) (fun z11 hz11 => ?_)
      have tz11 := h_rgv hz11
      refine h_aload_n (pc' := 1292) rfl rfl rfl ?_
      refine h_iload_n (pc' := 1293) rfl rfl rfl ?_
      refine h_iconst (pc' := 1294) (x := (Int32.ofInt 2)) rfl rfl rfl ?_
      refine h_iadd (pc' := 1295) rfl rfl hy3 ci_2 rfl (by omega) (by omega) (fun z12 hz12 => ?_)
      refine h_iald (pc' := 1296) (v := s0 0 (b3 + 2)) rfl rfl rfl hz12 (by omega) (by omega) (Zs9 _) (fun z13 hz13 => ?_)
      have tz13 := h_rgv hz13
      refine h_aload_n (pc' := 1297) rfl rfl rfl ?_
      refine h_iload_n (pc' := 1298) rfl rfl rfl ?_
      refine h_iconst (pc' := 1299) (x := (Int32.ofInt 3)) rfl rfl rfl ?_
      refine h_iadd (pc' := 1300) rfl rfl hy3 ci_3 rfl (by omega) (by omega) (fun z14 hz14 => ?_)
      refine h_iald (pc' := 1301) (v := s0 0 (b3 + 3)) rfl rfl rfl hz14 (by omega) (by omega) (Zs9 _) (fun z15 hz15 => ?_)
      have tz15 := h_rgv hz15
      rcases (show ((s0 0 (b3 + 1)) = 0) ∨ ((s0 0 (b3 + 1)) = 1) ∨ ((s0 0 (b3 + 1)) = 2) ∨ ((s0 0 (b3 + 1)) = 3) ∨ ((s0 0 (b3 + 1)) ≤ (-1)) ∨ (4 ≤ (s0 0 (b3 + 1))) by omega) with c16 | c16 | c16 | c16 | c16 | c16
      · have qz11 : z11 = (Int32.ofInt 0) := h_lit (show z11.toInt = 0 by omega) ci_0
        subst qz11
        refine h_call (sp := false) (pc' := 1304) (M := [(0, .ref 98), (1, .int (Int32.ofInt 0)), (2, .int z13), (3, .int z15)]) rfl rfl rfl rfl rfl rfl rfl rfl ?_
        refine u_sheetM0 _ Is9  z13 _ hz13 z15 _ hz15 (fun r17 br17 hr17 s18 Is18 Gs18 tr17 pcs18 => h_Kv ?_)
        have Zs18 : ∀ i, s18 0 i = s0 0 i := fun i => (Gs18 0 i rfl).trans (Zs9 i)
        rcases pcs18 with pcs18 | pcs18 | pcs18
        · refine h_ceq (tg := 1441) (pc' := 1307) rfl rfl rfl hr8 hr17 (fun c19 => ?_) (fun c19 => absurd c19 (by omega))
          exact kk _ Is18 
        · refine h_ceq (tg := 1441) (pc' := 1307) rfl rfl rfl hr8 hr17 (fun c20 => absurd c20 (by omega)) (fun c20 => ?_)
          refine h_iconst (pc' := 1308) (x := (Int32.ofInt 0)) rfl rfl rfl ?_
          exfalso
          omega
        · refine h_ceq (tg := 1441) (pc' := 1307) rfl rfl rfl hr8 hr17 (fun c21 => absurd c21 (by omega)) (fun c21 => ?_)
          refine h_iconst (pc' := 1308) (x := (Int32.ofInt 0)) rfl rfl rfl ?_
          exfalso
          omega
      · have qz11 : z11 = (Int32.ofInt 1) := h_lit (show z11.toInt = 1 by omega) ci_1
        subst qz11
        refine h_call (sp := false) (pc' := 1304) (M := [(0, .ref 98), (1, .int (Int32.ofInt 1)), (2, .int z13), (3, .int z15)]) rfl rfl rfl rfl rfl rfl rfl rfl ?_
        refine u_sheetM1 _ Is9  z13 _ hz13 z15 _ hz15 (fun r22 br22 hr22 s23 Is23 Gs23 tr22 pcs23 => h_Kv ?_)
        have Zs23 : ∀ i, s23 0 i = s0 0 i := fun i => (Gs23 0 i rfl).trans (Zs9 i)
        rcases pcs23 with pcs23 | pcs23 | pcs23
        · refine h_ceq (tg := 1441) (pc' := 1307) rfl rfl rfl hr8 hr22 (fun c24 => ?_) (fun c24 => absurd c24 (by omega))
          exact kk _ Is23 
        · refine h_ceq (tg := 1441) (pc' := 1307) rfl rfl rfl hr8 hr22 (fun c25 => absurd c25 (by omega)) (fun c25 => ?_)
          refine h_iconst (pc' := 1308) (x := (Int32.ofInt 0)) rfl rfl rfl ?_
          exfalso
          omega
        · refine h_ceq (tg := 1441) (pc' := 1307) rfl rfl rfl hr8 hr22 (fun c26 => absurd c26 (by omega)) (fun c26 => ?_)
          refine h_iconst (pc' := 1308) (x := (Int32.ofInt 0)) rfl rfl rfl ?_
          exfalso
          omega
      · have qz11 : z11 = (Int32.ofInt 2) := h_lit (show z11.toInt = 2 by omega) ci_2
        subst qz11
        refine h_call (sp := false) (pc' := 1304) (M := [(0, .ref 98), (1, .int (Int32.ofInt 2)), (2, .int z13), (3, .int z15)]) rfl rfl rfl rfl rfl rfl rfl rfl ?_
        refine u_sheetM2 _ Is9  z13 _ hz13 z15 _ hz15 (fun r27 br27 hr27 s28 Is28 Gs28 tr27 pcs28 => h_Kv ?_)
        have Zs28 : ∀ i, s28 0 i = s0 0 i := fun i => (Gs28 0 i rfl).trans (Zs9 i)
        rcases pcs28 with pcs28 | pcs28 | pcs28
        · refine h_ceq (tg := 1441) (pc' := 1307) rfl rfl rfl hr8 hr27 (fun c29 => ?_) (fun c29 => absurd c29 (by omega))
          exact kk _ Is28 
        · refine h_ceq (tg := 1441) (pc' := 1307) rfl rfl rfl hr8 hr27 (fun c30 => absurd c30 (by omega)) (fun c30 => ?_)
          refine h_iconst (pc' := 1308) (x := (Int32.ofInt 0)) rfl rfl rfl ?_
          exfalso
          omega
        · refine h_ceq (tg := 1441) (pc' := 1307) rfl rfl rfl hr8 hr27 (fun c31 => absurd c31 (by omega)) (fun c31 => ?_)
          refine h_iconst (pc' := 1308) (x := (Int32.ofInt 0)) rfl rfl rfl ?_
          exfalso
          omega
      · have qz11 : z11 = (Int32.ofInt 3) := h_lit (show z11.toInt = 3 by omega) ci_3
        subst qz11
        refine h_call (sp := false) (pc' := 1304) (M := [(0, .ref 98), (1, .int (Int32.ofInt 3)), (2, .int z13), (3, .int z15)]) rfl rfl rfl rfl rfl rfl rfl rfl ?_
        refine u_sheetM3 _ Is9  z13 _ hz13 z15 _ hz15 (fun r32 br32 hr32 s33 Is33 Gs33 tr32 pcs33 => h_Kv ?_)
        have Zs33 : ∀ i, s33 0 i = s0 0 i := fun i => (Gs33 0 i rfl).trans (Zs9 i)
        rcases pcs33 with pcs33 | pcs33 | pcs33
        · refine h_ceq (tg := 1441) (pc' := 1307) rfl rfl rfl hr8 hr32 (fun c34 => ?_) (fun c34 => absurd c34 (by omega))
          exact kk _ Is33 
        · refine h_ceq (tg := 1441) (pc' := 1307) rfl rfl rfl hr8 hr32 (fun c35 => absurd c35 (by omega)) (fun c35 => ?_)
          refine h_iconst (pc' := 1308) (x := (Int32.ofInt 0)) rfl rfl rfl ?_
          exfalso
          omega
        · refine h_ceq (tg := 1441) (pc' := 1307) rfl rfl rfl hr8 hr32 (fun c36 => absurd c36 (by omega)) (fun c36 => ?_)
          refine h_iconst (pc' := 1308) (x := (Int32.ofInt 0)) rfl rfl rfl ?_
          exfalso
          omega
      · refine h_call (sp := false) (pc' := 1304) (M := [(0, .ref 98), (1, .int z11), (2, .int z13), (3, .int z15)]) rfl rfl rfl rfl rfl rfl rfl rfl ?_
        refine u_sheetMn _ Is9 z11 _ hz11 (by omega) z13 _ hz13 z15 _ hz15 (fun r37 br37 hr37 s38 Is38 Gs38 tr37 pcs38 => h_Kv ?_)
        have Zs38 : ∀ i, s38 0 i = s0 0 i := fun i => (Gs38 0 i rfl).trans (Zs9 i)
        rcases pcs38 with pcs38
        · refine h_ceq (tg := 1441) (pc' := 1307) rfl rfl rfl hr8 hr37 (fun c39 => ?_) (fun c39 => absurd c39 (by omega))
          exact kk _ Is38 
      · refine h_call (sp := false) (pc' := 1304) (M := [(0, .ref 98), (1, .int z11), (2, .int z13), (3, .int z15)]) rfl rfl rfl rfl rfl rfl rfl rfl ?_
        refine u_sheetMp _ Is9 z11 _ hz11 (by omega) z13 _ hz13 z15 _ hz15 (fun r40 br40 hr40 s41 Is41 Gs41 tr40 pcs41 => h_Kv ?_)
        have Zs41 : ∀ i, s41 0 i = s0 0 i := fun i => (Gs41 0 i rfl).trans (Zs9 i)
        rcases pcs41 with pcs41
        · refine h_ceq (tg := 1441) (pc' := 1307) rfl rfl rfl hr8 hr40 (fun c42 => ?_) (fun c42 => absurd c42 (by omega))
          exact kk _ Is41 
    · refine h_aload_n (pc' := 1286) rfl rfl rfl ?_
      refine h_aload_n (pc' := 1287) rfl rfl rfl ?_
      refine h_iload_n (pc' := 1288) rfl rfl rfl ?_
      refine h_iconst (pc' := 1289) (x := (Int32.ofInt 1)) rfl rfl rfl ?_
      refine h_iadd (pc' := 1290) rfl rfl hy3 ci_1 rfl (by omega) (by omega) (fun z43 hz43 => ?_)
      refine h_iald (pc' := 1291) (v := s0 0 (b3 + 1)) rfl rfl rfl hz43 (by omega) (by omega) (Zs9 _) (fun z44 hz44 => ?_)
      have tz44 := h_rgv hz44
      refine h_aload_n (pc' := 1292) rfl rfl rfl ?_
      refine h_iload_n (pc' := 1293) rfl rfl rfl ?_
      refine h_iconst (pc' := 1294) (x := (Int32.ofInt 2)) rfl rfl rfl ?_
      refine h_iadd (pc' := 1295) rfl rfl hy3 ci_2 rfl (by omega) (by omega) (fun z45 hz45 => ?_)
      refine h_iald (pc' := 1296) (v := s0 0 (b3 + 2)) rfl rfl rfl hz45 (by omega) (by omega) (Zs9 _) (fun z46 hz46 => ?_)
      have tz46 := h_rgv hz46
      refine h_aload_n (pc' := 1297) rfl rfl rfl ?_
      refine h_iload_n (pc' := 1298) rfl rfl rfl ?_
      refine h_iconst (pc' := 1299) (x := (Int32.ofInt 3)) rfl rfl rfl ?_
      refine h_iadd (pc' := 1300) rfl rfl hy3 ci_3 rfl (by omega) (by omega) (fun z47 hz47 => ?_)
      refine h_iald (pc' := 1301) (v := s0 0 (b3 + 3)) rfl rfl rfl hz47 (by omega) (by omega) (Zs9 _) (fun z48 hz48 => ?_)
      have tz48 := h_rgv hz48
      rcases (show ((s0 0 (b3 + 1)) = 0) ∨ ((s0 0 (b3 + 1)) = 1) ∨ ((s0 0 (b3 + 1)) = 2) ∨ ((s0 0 (b3 + 1)) = 3) ∨ ((s0 0 (b3 + 1)) ≤ (-1)) ∨ (4 ≤ (s0 0 (b3 + 1))) by omega) with c49 | c49 | c49 | c49 | c49 | c49
      · have qz44 : z44 = (Int32.ofInt 0) := h_lit (show z44.toInt = 0 by omega) ci_0
        subst qz44
        refine h_call (sp := false) (pc' := 1304) (M := [(0, .ref 98), (1, .int (Int32.ofInt 0)), (2, .int z46), (3, .int z48)]) rfl rfl rfl rfl rfl rfl rfl rfl ?_
        refine u_sheetM0 _ Is9  z46 _ hz46 z48 _ hz48 (fun r50 br50 hr50 s51 Is51 Gs51 tr50 pcs51 => h_Kv ?_)
        have Zs51 : ∀ i, s51 0 i = s0 0 i := fun i => (Gs51 0 i rfl).trans (Zs9 i)
        rcases pcs51 with pcs51 | pcs51 | pcs51
        · refine h_ceq (tg := 1441) (pc' := 1307) rfl rfl rfl hr8 hr50 (fun c52 => absurd c52 (by omega)) (fun c52 => ?_)
          refine h_iconst (pc' := 1308) (x := (Int32.ofInt 0)) rfl rfl rfl ?_
          exfalso
          omega
        · refine h_ceq (tg := 1441) (pc' := 1307) rfl rfl rfl hr8 hr50 (fun c53 => ?_) (fun c53 => absurd c53 (by omega))
          exact kk _ Is51 
        · refine h_ceq (tg := 1441) (pc' := 1307) rfl rfl rfl hr8 hr50 (fun c54 => absurd c54 (by omega)) (fun c54 => ?_)
          refine h_iconst (pc' := 1308) (x := (Int32.ofInt 0)) rfl rfl rfl ?_
          exfalso
          omega
      · have qz44 : z44 = (Int32.ofInt 1) := h_lit (show z44.toInt = 1 by omega) ci_1
        subst qz44
        refine h_call (sp := false) (pc' := 1304) (M := [(0, .ref 98), (1, .int (Int32.ofInt 1)), (2, .int z46), (3, .int z48)]) rfl rfl rfl rfl rfl rfl rfl rfl ?_
        refine u_sheetM1 _ Is9  z46 _ hz46 z48 _ hz48 (fun r55 br55 hr55 s56 Is56 Gs56 tr55 pcs56 => h_Kv ?_)
        have Zs56 : ∀ i, s56 0 i = s0 0 i := fun i => (Gs56 0 i rfl).trans (Zs9 i)
        rcases pcs56 with pcs56 | pcs56 | pcs56
        · refine h_ceq (tg := 1441) (pc' := 1307) rfl rfl rfl hr8 hr55 (fun c57 => absurd c57 (by omega)) (fun c57 => ?_)
          refine h_iconst (pc' := 1308) (x := (Int32.ofInt 0)) rfl rfl rfl ?_
          exfalso
          omega
        · refine h_ceq (tg := 1441) (pc' := 1307) rfl rfl rfl hr8 hr55 (fun c58 => ?_) (fun c58 => absurd c58 (by omega))
          exact kk _ Is56 
        · refine h_ceq (tg := 1441) (pc' := 1307) rfl rfl rfl hr8 hr55 (fun c59 => absurd c59 (by omega)) (fun c59 => ?_)
          refine h_iconst (pc' := 1308) (x := (Int32.ofInt 0)) rfl rfl rfl ?_
          exfalso
          omega
      · have qz44 : z44 = (Int32.ofInt 2) := h_lit (show z44.toInt = 2 by omega) ci_2
        subst qz44
        refine h_call (sp := false) (pc' := 1304) (M := [(0, .ref 98), (1, .int (Int32.ofInt 2)), (2, .int z46), (3, .int z48)]) rfl rfl rfl rfl rfl rfl rfl rfl ?_
        refine u_sheetM2 _ Is9  z46 _ hz46 z48 _ hz48 (fun r60 br60 hr60 s61 Is61 Gs61 tr60 pcs61 => h_Kv ?_)
        have Zs61 : ∀ i, s61 0 i = s0 0 i := fun i => (Gs61 0 i rfl).trans (Zs9 i)
        rcases pcs61 with pcs61 | pcs61 | pcs61
        · refine h_ceq (tg := 1441) (pc' := 1307) rfl rfl rfl hr8 hr60 (fun c62 => absurd c62 (by omega)) (fun c62 => ?_)
          refine h_iconst (pc' := 1308) (x := (Int32.ofInt 0)) rfl rfl rfl ?_
          exfalso
          omega
        · refine h_ceq (tg := 1441) (pc' := 1307) rfl rfl rfl hr8 hr60 (fun c63 => ?_) (fun c63 => absurd c63 (by omega))
          exact kk _ Is61 
        · refine h_ceq (tg := 1441) (pc' := 1307) rfl rfl rfl hr8 hr60 (fun c64 => absurd c64 (by omega)) (fun c64 => ?_)
          refine h_iconst (pc' := 1308) (x := (Int32.ofInt 0)) rfl rfl rfl ?_
          exfalso
          omega
      · have qz44 : z44 = (Int32.ofInt 3) := h_lit (show z44.toInt = 3 by omega) ci_3
        subst qz44
        refine h_call (sp := false) (pc' := 1304) (M := [(0, .ref 98), (1, .int (Int32.ofInt 3)), (2, .int z46), (3, .int z48)]) rfl rfl rfl rfl rfl rfl rfl rfl ?_
        refine u_sheetM3 _ Is9  z46 _ hz46 z48 _ hz48 (fun r65 br65 hr65 s66 Is66 Gs66 tr65 pcs66 => h_Kv ?_)
        have Zs66 : ∀ i, s66 0 i = s0 0 i := fun i => (Gs66 0 i rfl).trans (Zs9 i)
        rcases pcs66 with pcs66 | pcs66 | pcs66
        · refine h_ceq (tg := 1441) (pc' := 1307) rfl rfl rfl hr8 hr65 (fun c67 => absurd c67 (by omega)) (fun c67 => ?_)
          refine h_iconst (pc' := 1308) (x := (Int32.ofInt 0)) rfl rfl rfl ?_
          exfalso
          omega
        · refine h_ceq (tg := 1441) (pc' := 1307) rfl rfl rfl hr8 hr65 (fun c68 => ?_) (fun c68 => absurd c68 (by omega))
          exact kk _ Is66 
        · refine h_ceq (tg := 1441) (pc' := 1307) rfl rfl rfl hr8 hr65 (fun c69 => absurd c69 (by omega)) (fun c69 => ?_)
          refine h_iconst (pc' := 1308) (x := (Int32.ofInt 0)) rfl rfl rfl ?_
          exfalso
          omega
      · refine h_call (sp := false) (pc' := 1304) (M := [(0, .ref 98), (1, .int z44), (2, .int z46), (3, .int z48)]) rfl rfl rfl rfl rfl rfl rfl rfl ?_
        refine u_sheetMn _ Is9 z44 _ hz44 (by omega) z46 _ hz46 z48 _ hz48 (fun r70 br70 hr70 s71 Is71 Gs71 tr70 pcs71 => h_Kv ?_)
        have Zs71 : ∀ i, s71 0 i = s0 0 i := fun i => (Gs71 0 i rfl).trans (Zs9 i)
        rcases pcs71 with pcs71
        · refine h_ceq (tg := 1441) (pc' := 1307) rfl rfl rfl hr8 hr70 (fun c72 => absurd c72 (by omega)) (fun c72 => ?_)
          refine h_iconst (pc' := 1308) (x := (Int32.ofInt 0)) rfl rfl rfl ?_
          exfalso
          omega
      · refine h_call (sp := false) (pc' := 1304) (M := [(0, .ref 98), (1, .int z44), (2, .int z46), (3, .int z48)]) rfl rfl rfl rfl rfl rfl rfl rfl ?_
        refine u_sheetMp _ Is9 z44 _ hz44 (by omega) z46 _ hz46 z48 _ hz48 (fun r73 br73 hr73 s74 Is74 Gs74 tr73 pcs74 => h_Kv ?_)
        have Zs74 : ∀ i, s74 0 i = s0 0 i := fun i => (Gs74 0 i rfl).trans (Zs9 i)
        rcases pcs74 with pcs74
        · refine h_ceq (tg := 1441) (pc' := 1307) rfl rfl rfl hr8 hr73 (fun c75 => absurd c75 (by omega)) (fun c75 => ?_)
          refine h_iconst (pc' := 1308) (x := (Int32.ofInt 0)) rfl rfl rfl ?_
          exfalso
          omega
    · refine h_aload_n (pc' := 1286) rfl rfl rfl ?_
      refine h_aload_n (pc' := 1287) rfl rfl rfl ?_
      refine h_iload_n (pc' := 1288) rfl rfl rfl ?_
      refine h_iconst (pc' := 1289) (x := (Int32.ofInt 1)) rfl rfl rfl ?_
      refine h_iadd (pc' := 1290) rfl rfl hy3 ci_1 rfl (by omega) (by omega) (fun z76 hz76 => ?_)
      refine h_iald (pc' := 1291) (v := s0 0 (b3 + 1)) rfl rfl rfl hz76 (by omega) (by omega) (Zs9 _) (fun z77 hz77 => ?_)
      have tz77 := h_rgv hz77
      refine h_aload_n (pc' := 1292) rfl rfl rfl ?_
      refine h_iload_n (pc' := 1293) rfl rfl rfl ?_
      refine h_iconst (pc' := 1294) (x := (Int32.ofInt 2)) rfl rfl rfl ?_
      refine h_iadd (pc' := 1295) rfl rfl hy3 ci_2 rfl (by omega) (by omega) (fun z78 hz78 => ?_)
      refine h_iald (pc' := 1296) (v := s0 0 (b3 + 2)) rfl rfl rfl hz78 (by omega) (by omega) (Zs9 _) (fun z79 hz79 => ?_)
      have tz79 := h_rgv hz79
      refine h_aload_n (pc' := 1297) rfl rfl rfl ?_
      refine h_iload_n (pc' := 1298) rfl rfl rfl ?_
      refine h_iconst (pc' := 1299) (x := (Int32.ofInt 3)) rfl rfl rfl ?_
      refine h_iadd (pc' := 1300) rfl rfl hy3 ci_3 rfl (by omega) (by omega) (fun z80 hz80 => ?_)
      refine h_iald (pc' := 1301) (v := s0 0 (b3 + 3)) rfl rfl rfl hz80 (by omega) (by omega) (Zs9 _) (fun z81 hz81 => ?_)
      have tz81 := h_rgv hz81
      rcases (show ((s0 0 (b3 + 1)) = 0) ∨ ((s0 0 (b3 + 1)) = 1) ∨ ((s0 0 (b3 + 1)) = 2) ∨ ((s0 0 (b3 + 1)) = 3) ∨ ((s0 0 (b3 + 1)) ≤ (-1)) ∨ (4 ≤ (s0 0 (b3 + 1))) by omega) with c82 | c82 | c82 | c82 | c82 | c82
      · have qz77 : z77 = (Int32.ofInt 0) := h_lit (show z77.toInt = 0 by omega) ci_0
        subst qz77
        refine h_call (sp := false) (pc' := 1304) (M := [(0, .ref 98), (1, .int (Int32.ofInt 0)), (2, .int z79), (3, .int z81)]) rfl rfl rfl rfl rfl rfl rfl rfl ?_
        refine u_sheetM0 _ Is9  z79 _ hz79 z81 _ hz81 (fun r83 br83 hr83 s84 Is84 Gs84 tr83 pcs84 => h_Kv ?_)
        have Zs84 : ∀ i, s84 0 i = s0 0 i := fun i => (Gs84 0 i rfl).trans (Zs9 i)
        rcases pcs84 with pcs84 | pcs84 | pcs84
        · refine h_ceq (tg := 1441) (pc' := 1307) rfl rfl rfl hr8 hr83 (fun c85 => absurd c85 (by omega)) (fun c85 => ?_)
          refine h_iconst (pc' := 1308) (x := (Int32.ofInt 0)) rfl rfl rfl ?_
          exfalso
          omega
        · refine h_ceq (tg := 1441) (pc' := 1307) rfl rfl rfl hr8 hr83 (fun c86 => absurd c86 (by omega)) (fun c86 => ?_)
          refine h_iconst (pc' := 1308) (x := (Int32.ofInt 0)) rfl rfl rfl ?_
          exfalso
          omega
        · refine h_ceq (tg := 1441) (pc' := 1307) rfl rfl rfl hr8 hr83 (fun c87 => ?_) (fun c87 => absurd c87 (by omega))
          exact kk _ Is84 
      · have qz77 : z77 = (Int32.ofInt 1) := h_lit (show z77.toInt = 1 by omega) ci_1
        subst qz77
        refine h_call (sp := false) (pc' := 1304) (M := [(0, .ref 98), (1, .int (Int32.ofInt 1)), (2, .int z79), (3, .int z81)]) rfl rfl rfl rfl rfl rfl rfl rfl ?_
        refine u_sheetM1 _ Is9  z79 _ hz79 z81 _ hz81 (fun r88 br88 hr88 s89 Is89 Gs89 tr88 pcs89 => h_Kv ?_)
        have Zs89 : ∀ i, s89 0 i = s0 0 i := fun i => (Gs89 0 i rfl).trans (Zs9 i)
        rcases pcs89 with pcs89 | pcs89 | pcs89
        · refine h_ceq (tg := 1441) (pc' := 1307) rfl rfl rfl hr8 hr88 (fun c90 => absurd c90 (by omega)) (fun c90 => ?_)
          refine h_iconst (pc' := 1308) (x := (Int32.ofInt 0)) rfl rfl rfl ?_
          exfalso
          omega
        · refine h_ceq (tg := 1441) (pc' := 1307) rfl rfl rfl hr8 hr88 (fun c91 => absurd c91 (by omega)) (fun c91 => ?_)
          refine h_iconst (pc' := 1308) (x := (Int32.ofInt 0)) rfl rfl rfl ?_
          exfalso
          omega
        · refine h_ceq (tg := 1441) (pc' := 1307) rfl rfl rfl hr8 hr88 (fun c92 => ?_) (fun c92 => absurd c92 (by omega))
          exact kk _ Is89 
      · have qz77 : z77 = (Int32.ofInt 2) := h_lit (show z77.toInt = 2 by omega) ci_2
        subst qz77
        refine h_call (sp := false) (pc' := 1304) (M := [(0, .ref 98), (1, .int (Int32.ofInt 2)), (2, .int z79), (3, .int z81)]) rfl rfl rfl rfl rfl rfl rfl rfl ?_
        refine u_sheetM2 _ Is9  z79 _ hz79 z81 _ hz81 (fun r93 br93 hr93 s94 Is94 Gs94 tr93 pcs94 => h_Kv ?_)
        have Zs94 : ∀ i, s94 0 i = s0 0 i := fun i => (Gs94 0 i rfl).trans (Zs9 i)
        rcases pcs94 with pcs94 | pcs94 | pcs94
        · refine h_ceq (tg := 1441) (pc' := 1307) rfl rfl rfl hr8 hr93 (fun c95 => absurd c95 (by omega)) (fun c95 => ?_)
          refine h_iconst (pc' := 1308) (x := (Int32.ofInt 0)) rfl rfl rfl ?_
          exfalso
          omega
        · refine h_ceq (tg := 1441) (pc' := 1307) rfl rfl rfl hr8 hr93 (fun c96 => absurd c96 (by omega)) (fun c96 => ?_)
          refine h_iconst (pc' := 1308) (x := (Int32.ofInt 0)) rfl rfl rfl ?_
          exfalso
          omega
        · refine h_ceq (tg := 1441) (pc' := 1307) rfl rfl rfl hr8 hr93 (fun c97 => ?_) (fun c97 => absurd c97 (by omega))
          exact kk _ Is94 
      · have qz77 : z77 = (Int32.ofInt 3) := h_lit (show z77.toInt = 3 by omega) ci_3
        subst qz77
        refine h_call (sp := false) (pc' := 1304) (M := [(0, .ref 98), (1, .int (Int32.ofInt 3)), (2, .int z79), (3, .int z81)]) rfl rfl rfl rfl rfl rfl rfl rfl ?_
        refine u_sheetM3 _ Is9  z79 _ hz79 z81 _ hz81 (fun r98 br98 hr98 s99 Is99 Gs99 tr98 pcs99 => h_Kv ?_)
        have Zs99 : ∀ i, s99 0 i = s0 0 i := fun i => (Gs99 0 i rfl).trans (Zs9 i)
        rcases pcs99 with pcs99 | pcs99 | pcs99
        · refine h_ceq (tg := 1441) (pc' := 1307) rfl rfl rfl hr8 hr98 (fun c100 => absurd c100 (by omega)) (fun c100 => ?_)
          refine h_iconst (pc' := 1308) (x := (Int32.ofInt 0)) rfl rfl rfl ?_
          exfalso
          omega
        · refine h_ceq (tg := 1441) (pc' := 1307) rfl rfl rfl hr8 hr98 (fun c101 => absurd c101 (by omega)) (fun c101 => ?_)
          refine h_iconst (pc' := 1308) (x := (Int32.ofInt 0)) rfl rfl rfl ?_
          exfalso
          omega
        · refine h_ceq (tg := 1441) (pc' := 1307) rfl rfl rfl hr8 hr98 (fun c102 => ?_) (fun c102 => absurd c102 (by omega))
          exact kk _ Is99 
      · refine h_call (sp := false) (pc' := 1304) (M := [(0, .ref 98), (1, .int z77), (2, .int z79), (3, .int z81)]) rfl rfl rfl rfl rfl rfl rfl rfl ?_
        refine u_sheetMn _ Is9 z77 _ hz77 (by omega) z79 _ hz79 z81 _ hz81 (fun r103 br103 hr103 s104 Is104 Gs104 tr103 pcs104 => h_Kv ?_)
        have Zs104 : ∀ i, s104 0 i = s0 0 i := fun i => (Gs104 0 i rfl).trans (Zs9 i)
        rcases pcs104 with pcs104
        · refine h_ceq (tg := 1441) (pc' := 1307) rfl rfl rfl hr8 hr103 (fun c105 => absurd c105 (by omega)) (fun c105 => ?_)
          refine h_iconst (pc' := 1308) (x := (Int32.ofInt 0)) rfl rfl rfl ?_
          exfalso
          omega
      · refine h_call (sp := false) (pc' := 1304) (M := [(0, .ref 98), (1, .int z77), (2, .int z79), (3, .int z81)]) rfl rfl rfl rfl rfl rfl rfl rfl ?_
        refine u_sheetMp _ Is9 z77 _ hz77 (by omega) z79 _ hz79 z81 _ hz81 (fun r106 br106 hr106 s107 Is107 Gs107 tr106 pcs107 => h_Kv ?_)
        have Zs107 : ∀ i, s107 0 i = s0 0 i := fun i => (Gs107 0 i rfl).trans (Zs9 i)
        rcases pcs107 with pcs107
        · refine h_ceq (tg := 1441) (pc' := 1307) rfl rfl rfl hr8 hr106 (fun c108 => absurd c108 (by omega)) (fun c108 => ?_)
          refine h_iconst (pc' := 1308) (x := (Int32.ofInt 0)) rfl rfl rfl ?_
          exfalso
          omega
  · have qz2 : z2 = (Int32.ofInt 1) := h_lit (show z2.toInt = 1 by omega) ci_1
    subst qz2
    refine h_call (sp := false) (pc' := 1285) (M := [(0, .ref 9), (1, .int (Int32.ofInt 1)), (2, .int z4), (3, .int z6)]) rfl rfl rfl rfl rfl rfl rfl rfl ?_
    refine u_sheetX1 _ I0  z4 _ hz4 z6 _ hz6 (fun r109 br109 hr109 s110 Is110 Gs110 tr109 pcs110 => h_Kv ?_)
    have Zs110 : ∀ i, s110 0 i = s0 0 i := fun i => (Gs110 0 i rfl).trans rfl
    rcases pcs110 with pcs110 | pcs110 | pcs110
    · refine h_aload_n (pc' := 1286) rfl rfl rfl ?_
      refine h_aload_n (pc' := 1287) rfl rfl rfl ?_
      refine h_iload_n (pc' := 1288) rfl rfl rfl ?_
      refine h_iconst (pc' := 1289) (x := (Int32.ofInt 1)) rfl rfl rfl ?_
      refine h_iadd (pc' := 1290) rfl rfl hy3 ci_1 rfl (by omega) (by omega) (fun z111 hz111 => ?_)
      refine h_iald (pc' := 1291) (v := s0 0 (b3 + 1)) rfl rfl rfl hz111 (by omega) (by omega) (Zs110 _) (fun z112 hz112 => ?_)
      have tz112 := h_rgv hz112
      refine h_aload_n (pc' := 1292) rfl rfl rfl ?_
      refine h_iload_n (pc' := 1293) rfl rfl rfl ?_
      refine h_iconst (pc' := 1294) (x := (Int32.ofInt 2)) rfl rfl rfl ?_
      refine h_iadd (pc' := 1295) rfl rfl hy3 ci_2 rfl (by omega) (by omega) (fun z113 hz113 => ?_)
      refine h_iald (pc' := 1296) (v := s0 0 (b3 + 2)) rfl rfl rfl hz113 (by omega) (by omega) (Zs110 _) (fun z114 hz114 => ?_)
      have tz114 := h_rgv hz114
      refine h_aload_n (pc' := 1297) rfl rfl rfl ?_
      refine h_iload_n (pc' := 1298) rfl rfl rfl ?_
      refine h_iconst (pc' := 1299) (x := (Int32.ofInt 3)) rfl rfl rfl ?_
      refine h_iadd (pc' := 1300) rfl rfl hy3 ci_3 rfl (by omega) (by omega) (fun z115 hz115 => ?_)
      refine h_iald (pc' := 1301) (v := s0 0 (b3 + 3)) rfl rfl rfl hz115 (by omega) (by omega) (Zs110 _) (fun z116 hz116 => ?_)
      have tz116 := h_rgv hz116
      rcases (show ((s0 0 (b3 + 1)) = 0) ∨ ((s0 0 (b3 + 1)) = 1) ∨ ((s0 0 (b3 + 1)) = 2) ∨ ((s0 0 (b3 + 1)) = 3) ∨ ((s0 0 (b3 + 1)) ≤ (-1)) ∨ (4 ≤ (s0 0 (b3 + 1))) by omega) with c117 | c117 | c117 | c117 | c117 | c117
      · have qz112 : z112 = (Int32.ofInt 0) := h_lit (show z112.toInt = 0 by omega) ci_0
        subst qz112
        refine h_call (sp := false) (pc' := 1304) (M := [(0, .ref 98), (1, .int (Int32.ofInt 0)), (2, .int z114), (3, .int z116)]) rfl rfl rfl rfl rfl rfl rfl rfl ?_
        refine u_sheetM0 _ Is110  z114 _ hz114 z116 _ hz116 (fun r118 br118 hr118 s119 Is119 Gs119 tr118 pcs119 => h_Kv ?_)
        have Zs119 : ∀ i, s119 0 i = s0 0 i := fun i => (Gs119 0 i rfl).trans (Zs110 i)
        rcases pcs119 with pcs119 | pcs119 | pcs119
        · refine h_ceq (tg := 1441) (pc' := 1307) rfl rfl rfl hr109 hr118 (fun c120 => ?_) (fun c120 => absurd c120 (by omega))
          exact kk _ Is119 
        · refine h_ceq (tg := 1441) (pc' := 1307) rfl rfl rfl hr109 hr118 (fun c121 => absurd c121 (by omega)) (fun c121 => ?_)
          refine h_iconst (pc' := 1308) (x := (Int32.ofInt 0)) rfl rfl rfl ?_
          exfalso
          omega
        · refine h_ceq (tg := 1441) (pc' := 1307) rfl rfl rfl hr109 hr118 (fun c122 => absurd c122 (by omega)) (fun c122 => ?_)
          refine h_iconst (pc' := 1308) (x := (Int32.ofInt 0)) rfl rfl rfl ?_
          exfalso
          omega
      · have qz112 : z112 = (Int32.ofInt 1) := h_lit (show z112.toInt = 1 by omega) ci_1
        subst qz112
        refine h_call (sp := false) (pc' := 1304) (M := [(0, .ref 98), (1, .int (Int32.ofInt 1)), (2, .int z114), (3, .int z116)]) rfl rfl rfl rfl rfl rfl rfl rfl ?_
        refine u_sheetM1 _ Is110  z114 _ hz114 z116 _ hz116 (fun r123 br123 hr123 s124 Is124 Gs124 tr123 pcs124 => h_Kv ?_)
        have Zs124 : ∀ i, s124 0 i = s0 0 i := fun i => (Gs124 0 i rfl).trans (Zs110 i)
        rcases pcs124 with pcs124 | pcs124 | pcs124
        · refine h_ceq (tg := 1441) (pc' := 1307) rfl rfl rfl hr109 hr123 (fun c125 => ?_) (fun c125 => absurd c125 (by omega))
          exact kk _ Is124 
        · refine h_ceq (tg := 1441) (pc' := 1307) rfl rfl rfl hr109 hr123 (fun c126 => absurd c126 (by omega)) (fun c126 => ?_)
          refine h_iconst (pc' := 1308) (x := (Int32.ofInt 0)) rfl rfl rfl ?_
          exfalso
          omega
        · refine h_ceq (tg := 1441) (pc' := 1307) rfl rfl rfl hr109 hr123 (fun c127 => absurd c127 (by omega)) (fun c127 => ?_)
          refine h_iconst (pc' := 1308) (x := (Int32.ofInt 0)) rfl rfl rfl ?_
          exfalso
          omega
      · have qz112 : z112 = (Int32.ofInt 2) := h_lit (show z112.toInt = 2 by omega) ci_2
        subst qz112
        refine h_call (sp := false) (pc' := 1304) (M := [(0, .ref 98), (1, .int (Int32.ofInt 2)), (2, .int z114), (3, .int z116)]) rfl rfl rfl rfl rfl rfl rfl rfl ?_
        refine u_sheetM2 _ Is110  z114 _ hz114 z116 _ hz116 (fun r128 br128 hr128 s129 Is129 Gs129 tr128 pcs129 => h_Kv ?_)
        have Zs129 : ∀ i, s129 0 i = s0 0 i := fun i => (Gs129 0 i rfl).trans (Zs110 i)
        rcases pcs129 with pcs129 | pcs129 | pcs129
        · refine h_ceq (tg := 1441) (pc' := 1307) rfl rfl rfl hr109 hr128 (fun c130 => ?_) (fun c130 => absurd c130 (by omega))
          exact kk _ Is129 
        · refine h_ceq (tg := 1441) (pc' := 1307) rfl rfl rfl hr109 hr128 (fun c131 => absurd c131 (by omega)) (fun c131 => ?_)
          refine h_iconst (pc' := 1308) (x := (Int32.ofInt 0)) rfl rfl rfl ?_
          exfalso
          omega
        · refine h_ceq (tg := 1441) (pc' := 1307) rfl rfl rfl hr109 hr128 (fun c132 => absurd c132 (by omega)) (fun c132 => ?_)
          refine h_iconst (pc' := 1308) (x := (Int32.ofInt 0)) rfl rfl rfl ?_
          exfalso
          omega
      · have qz112 : z112 = (Int32.ofInt 3) := h_lit (show z112.toInt = 3 by omega) ci_3
        subst qz112
        refine h_call (sp := false) (pc' := 1304) (M := [(0, .ref 98), (1, .int (Int32.ofInt 3)), (2, .int z114), (3, .int z116)]) rfl rfl rfl rfl rfl rfl rfl rfl ?_
        refine u_sheetM3 _ Is110  z114 _ hz114 z116 _ hz116 (fun r133 br133 hr133 s134 Is134 Gs134 tr133 pcs134 => h_Kv ?_)
        have Zs134 : ∀ i, s134 0 i = s0 0 i := fun i => (Gs134 0 i rfl).trans (Zs110 i)
        rcases pcs134 with pcs134 | pcs134 | pcs134
        · refine h_ceq (tg := 1441) (pc' := 1307) rfl rfl rfl hr109 hr133 (fun c135 => ?_) (fun c135 => absurd c135 (by omega))
          exact kk _ Is134 
        · refine h_ceq (tg := 1441) (pc' := 1307) rfl rfl rfl hr109 hr133 (fun c136 => absurd c136 (by omega)) (fun c136 => ?_)
          refine h_iconst (pc' := 1308) (x := (Int32.ofInt 0)) rfl rfl rfl ?_
          exfalso
          omega
        · refine h_ceq (tg := 1441) (pc' := 1307) rfl rfl rfl hr109 hr133 (fun c137 => absurd c137 (by omega)) (fun c137 => ?_)
          refine h_iconst (pc' := 1308) (x := (Int32.ofInt 0)) rfl rfl rfl ?_
          exfalso
          omega
      · refine h_call (sp := false) (pc' := 1304) (M := [(0, .ref 98), (1, .int z112), (2, .int z114), (3, .int z116)]) rfl rfl rfl rfl rfl rfl rfl rfl ?_
        refine u_sheetMn _ Is110 z112 _ hz112 (by omega) z114 _ hz114 z116 _ hz116 (fun r138 br138 hr138 s139 Is139 Gs139 tr138 pcs139 => h_Kv ?_)
        have Zs139 : ∀ i, s139 0 i = s0 0 i := fun i => (Gs139 0 i rfl).trans (Zs110 i)
        rcases pcs139 with pcs139
        · refine h_ceq (tg := 1441) (pc' := 1307) rfl rfl rfl hr109 hr138 (fun c140 => ?_) (fun c140 => absurd c140 (by omega))
          exact kk _ Is139 
      · refine h_call (sp := false) (pc' := 1304) (M := [(0, .ref 98), (1, .int z112), (2, .int z114), (3, .int z116)]) rfl rfl rfl rfl rfl rfl rfl rfl ?_
        refine u_sheetMp _ Is110 z112 _ hz112 (by omega) z114 _ hz114 z116 _ hz116 (fun r141 br141 hr141 s142 Is142 Gs142 tr141 pcs142 => h_Kv ?_)
        have Zs142 : ∀ i, s142 0 i = s0 0 i := fun i => (Gs142 0 i rfl).trans (Zs110 i)
        rcases pcs142 with pcs142
        · refine h_ceq (tg := 1441) (pc' := 1307) rfl rfl rfl hr109 hr141 (fun c143 => ?_) (fun c143 => absurd c143 (by omega))
          exact kk _ Is142 
    · refine h_aload_n (pc' := 1286) rfl rfl rfl ?_
      refine h_aload_n (pc' := 1287) rfl rfl rfl ?_
      refine h_iload_n (pc' := 1288) rfl rfl rfl ?_
      refine h_iconst (pc' := 1289) (x := (Int32.ofInt 1)) rfl rfl rfl ?_
      refine h_iadd (pc' := 1290) rfl rfl hy3 ci_1 rfl (by omega) (by omega) (fun z144 hz144 => ?_)
      refine h_iald (pc' := 1291) (v := s0 0 (b3 + 1)) rfl rfl rfl hz144 (by omega) (by omega) (Zs110 _) (fun z145 hz145 => ?_)
      have tz145 := h_rgv hz145
      refine h_aload_n (pc' := 1292) rfl rfl rfl ?_
      refine h_iload_n (pc' := 1293) rfl rfl rfl ?_
      refine h_iconst (pc' := 1294) (x := (Int32.ofInt 2)) rfl rfl rfl ?_
      refine h_iadd (pc' := 1295) rfl rfl hy3 ci_2 rfl (by omega) (by omega) (fun z146 hz146 => ?_)
      refine h_iald (pc' := 1296) (v := s0 0 (b3 + 2)) rfl rfl rfl hz146 (by omega) (by omega) (Zs110 _) (fun z147 hz147 => ?_)
      have tz147 := h_rgv hz147
      refine h_aload_n (pc' := 1297) rfl rfl rfl ?_
      refine h_iload_n (pc' := 1298) rfl rfl rfl ?_
      refine h_iconst (pc' := 1299) (x := (Int32.ofInt 3)) rfl rfl rfl ?_
      refine h_iadd (pc' := 1300) rfl rfl hy3 ci_3 rfl (by omega) (by omega) (fun z148 hz148 => ?_)
      refine h_iald (pc' := 1301) (v := s0 0 (b3 + 3)) rfl rfl rfl hz148 (by omega) (by omega) (Zs110 _) (fun z149 hz149 => ?_)
      have tz149 := h_rgv hz149
      rcases (show ((s0 0 (b3 + 1)) = 0) ∨ ((s0 0 (b3 + 1)) = 1) ∨ ((s0 0 (b3 + 1)) = 2) ∨ ((s0 0 (b3 + 1)) = 3) ∨ ((s0 0 (b3 + 1)) ≤ (-1)) ∨ (4 ≤ (s0 0 (b3 + 1))) by omega) with c150 | c150 | c150 | c150 | c150 | c150
      · have qz145 : z145 = (Int32.ofInt 0) := h_lit (show z145.toInt = 0 by omega) ci_0
        subst qz145
        refine h_call (sp := false) (pc' := 1304) (M := [(0, .ref 98), (1, .int (Int32.ofInt 0)), (2, .int z147), (3, .int z149)]) rfl rfl rfl rfl rfl rfl rfl rfl ?_
        refine u_sheetM0 _ Is110  z147 _ hz147 z149 _ hz149 (fun r151 br151 hr151 s152 Is152 Gs152 tr151 pcs152 => h_Kv ?_)
        have Zs152 : ∀ i, s152 0 i = s0 0 i := fun i => (Gs152 0 i rfl).trans (Zs110 i)
        rcases pcs152 with pcs152 | pcs152 | pcs152
        · refine h_ceq (tg := 1441) (pc' := 1307) rfl rfl rfl hr109 hr151 (fun c153 => absurd c153 (by omega)) (fun c153 => ?_)
          refine h_iconst (pc' := 1308) (x := (Int32.ofInt 0)) rfl rfl rfl ?_
          exfalso
          omega
        · refine h_ceq (tg := 1441) (pc' := 1307) rfl rfl rfl hr109 hr151 (fun c154 => ?_) (fun c154 => absurd c154 (by omega))
          exact kk _ Is152 
        · refine h_ceq (tg := 1441) (pc' := 1307) rfl rfl rfl hr109 hr151 (fun c155 => absurd c155 (by omega)) (fun c155 => ?_)
          refine h_iconst (pc' := 1308) (x := (Int32.ofInt 0)) rfl rfl rfl ?_
          exfalso
          omega
      · have qz145 : z145 = (Int32.ofInt 1) := h_lit (show z145.toInt = 1 by omega) ci_1
        subst qz145
        refine h_call (sp := false) (pc' := 1304) (M := [(0, .ref 98), (1, .int (Int32.ofInt 1)), (2, .int z147), (3, .int z149)]) rfl rfl rfl rfl rfl rfl rfl rfl ?_
        refine u_sheetM1 _ Is110  z147 _ hz147 z149 _ hz149 (fun r156 br156 hr156 s157 Is157 Gs157 tr156 pcs157 => h_Kv ?_)
        have Zs157 : ∀ i, s157 0 i = s0 0 i := fun i => (Gs157 0 i rfl).trans (Zs110 i)
        rcases pcs157 with pcs157 | pcs157 | pcs157
        · refine h_ceq (tg := 1441) (pc' := 1307) rfl rfl rfl hr109 hr156 (fun c158 => absurd c158 (by omega)) (fun c158 => ?_)
          refine h_iconst (pc' := 1308) (x := (Int32.ofInt 0)) rfl rfl rfl ?_
          exfalso
          omega
        · refine h_ceq (tg := 1441) (pc' := 1307) rfl rfl rfl hr109 hr156 (fun c159 => ?_) (fun c159 => absurd c159 (by omega))
          exact kk _ Is157 
        · refine h_ceq (tg := 1441) (pc' := 1307) rfl rfl rfl hr109 hr156 (fun c160 => absurd c160 (by omega)) (fun c160 => ?_)
          refine h_iconst (pc' := 1308) (x := (Int32.ofInt 0)) rfl rfl rfl ?_
          exfalso
          omega
      · have qz145 : z145 = (Int32.ofInt 2) := h_lit (show z145.toInt = 2 by omega) ci_2
        subst qz145
        refine h_call (sp := false) (pc' := 1304) (M := [(0, .ref 98), (1, .int (Int32.ofInt 2)), (2, .int z147), (3, .int z149)]) rfl rfl rfl rfl rfl rfl rfl rfl ?_
        refine u_sheetM2 _ Is110  z147 _ hz147 z149 _ hz149 (fun r161 br161 hr161 s162 Is162 Gs162 tr161 pcs162 => h_Kv ?_)
        have Zs162 : ∀ i, s162 0 i = s0 0 i := fun i => (Gs162 0 i rfl).trans (Zs110 i)
        rcases pcs162 with pcs162 | pcs162 | pcs162
        · refine h_ceq (tg := 1441) (pc' := 1307) rfl rfl rfl hr109 hr161 (fun c163 => absurd c163 (by omega)) (fun c163 => ?_)
          refine h_iconst (pc' := 1308) (x := (Int32.ofInt 0)) rfl rfl rfl ?_
          exfalso
          omega
        · refine h_ceq (tg := 1441) (pc' := 1307) rfl rfl rfl hr109 hr161 (fun c164 => ?_) (fun c164 => absurd c164 (by omega))
          exact kk _ Is162 
        · refine h_ceq (tg := 1441) (pc' := 1307) rfl rfl rfl hr109 hr161 (fun c165 => absurd c165 (by omega)) (fun c165 => ?_)
          refine h_iconst (pc' := 1308) (x := (Int32.ofInt 0)) rfl rfl rfl ?_
          exfalso
          omega
      · have qz145 : z145 = (Int32.ofInt 3) := h_lit (show z145.toInt = 3 by omega) ci_3
        subst qz145
        refine h_call (sp := false) (pc' := 1304) (M := [(0, .ref 98), (1, .int (Int32.ofInt 3)), (2, .int z147), (3, .int z149)]) rfl rfl rfl rfl rfl rfl rfl rfl ?_
        refine u_sheetM3 _ Is110  z147 _ hz147 z149 _ hz149 (fun r166 br166 hr166 s167 Is167 Gs167 tr166 pcs167 => h_Kv ?_)
        have Zs167 : ∀ i, s167 0 i = s0 0 i := fun i => (Gs167 0 i rfl).trans (Zs110 i)
        rcases pcs167 with pcs167 | pcs167 | pcs167
        · refine h_ceq (tg := 1441) (pc' := 1307) rfl rfl rfl hr109 hr166 (fun c168 => absurd c168 (by omega)) (fun c168 => ?_)
          refine h_iconst (pc' := 1308) (x := (Int32.ofInt 0)) rfl rfl rfl ?_
          exfalso
          omega
        · refine h_ceq (tg := 1441) (pc' := 1307) rfl rfl rfl hr109 hr166 (fun c169 => ?_) (fun c169 => absurd c169 (by omega))
          exact kk _ Is167 
        · refine h_ceq (tg := 1441) (pc' := 1307) rfl rfl rfl hr109 hr166 (fun c170 => absurd c170 (by omega)) (fun c170 => ?_)
          refine h_iconst (pc' := 1308) (x := (Int32.ofInt 0)) rfl rfl rfl ?_
          exfalso
          omega
      · refine h_call (sp := false) (pc' := 1304) (M := [(0, .ref 98), (1, .int z145), (2, .int z147), (3, .int z149)]) rfl rfl rfl rfl rfl rfl rfl rfl ?_
        refine u_sheetMn _ Is110 z145 _ hz145 (by omega) z147 _ hz147 z149 _ hz149 (fun r171 br171 hr171 s172 Is172 Gs172 tr171 pcs172 => h_Kv ?_)
        have Zs172 : ∀ i, s172 0 i = s0 0 i := fun i => (Gs172 0 i rfl).trans (Zs110 i)
        rcases pcs172 with pcs172
        · refine h_ceq (tg := 1441) (pc' := 1307) rfl rfl rfl hr109 hr171 (fun c173 => absurd c173 (by omega)) (fun c173 => ?_)
          refine h_iconst (pc' := 1308) (x := (Int32.ofInt 0)) rfl rfl rfl ?_
          exfalso
          omega
      · refine h_call (sp := false) (pc' := 1304) (M := [(0, .ref 98), (1, .int z145), (2, .int z147), (3, .int z149)]) rfl rfl rfl rfl rfl rfl rfl rfl ?_
        refine u_sheetMp _ Is110 z145 _ hz145 (by omega) z147 _ hz147 z149 _ hz149 (fun r174 br174 hr174 s175 Is175 Gs175 tr174 pcs175 => h_Kv ?_)
        have Zs175 : ∀ i, s175 0 i = s0 0 i := fun i => (Gs175 0 i rfl).trans (Zs110 i)
        rcases pcs175 with pcs175
        · refine h_ceq (tg := 1441) (pc' := 1307) rfl rfl rfl hr109 hr174 (fun c176 => absurd c176 (by omega)) (fun c176 => ?_)
          refine h_iconst (pc' := 1308) (x := (Int32.ofInt 0)) rfl rfl rfl ?_
          exfalso
          omega
    · refine h_aload_n (pc' := 1286) rfl rfl rfl ?_
      refine h_aload_n (pc' := 1287) rfl rfl rfl ?_
      refine h_iload_n (pc' := 1288) rfl rfl rfl ?_
      refine h_iconst (pc' := 1289) (x := (Int32.ofInt 1)) rfl rfl rfl ?_
      refine h_iadd (pc' := 1290) rfl rfl hy3 ci_1 rfl (by omega) (by omega) (fun z177 hz177 => ?_)
      refine h_iald (pc' := 1291) (v := s0 0 (b3 + 1)) rfl rfl rfl hz177 (by omega) (by omega) (Zs110 _) (fun z178 hz178 => ?_)
      have tz178 := h_rgv hz178
      refine h_aload_n (pc' := 1292) rfl rfl rfl ?_
      refine h_iload_n (pc' := 1293) rfl rfl rfl ?_
      refine h_iconst (pc' := 1294) (x := (Int32.ofInt 2)) rfl rfl rfl ?_
      refine h_iadd (pc' := 1295) rfl rfl hy3 ci_2 rfl (by omega) (by omega) (fun z179 hz179 => ?_)
      refine h_iald (pc' := 1296) (v := s0 0 (b3 + 2)) rfl rfl rfl hz179 (by omega) (by omega) (Zs110 _) (fun z180 hz180 => ?_)
      have tz180 := h_rgv hz180
      refine h_aload_n (pc' := 1297) rfl rfl rfl ?_
      refine h_iload_n (pc' := 1298) rfl rfl rfl ?_
      refine h_iconst (pc' := 1299) (x := (Int32.ofInt 3)) rfl rfl rfl ?_
      refine h_iadd (pc' := 1300) rfl rfl hy3 ci_3 rfl (by omega) (by omega) (fun z181 hz181 => ?_)
      refine h_iald (pc' := 1301) (v := s0 0 (b3 + 3)) rfl rfl rfl hz181 (by omega) (by omega) (Zs110 _) (fun z182 hz182 => ?_)
      have tz182 := h_rgv hz182
      rcases (show ((s0 0 (b3 + 1)) = 0) ∨ ((s0 0 (b3 + 1)) = 1) ∨ ((s0 0 (b3 + 1)) = 2) ∨ ((s0 0 (b3 + 1)) = 3) ∨ ((s0 0 (b3 + 1)) ≤ (-1)) ∨ (4 ≤ (s0 0 (b3 + 1))) by omega) with c183 | c183 | c183 | c183 | c183 | c183
      · have qz178 : z178 = (Int32.ofInt 0) := h_lit (show z178.toInt = 0 by omega) ci_0
        subst qz178
        refine h_call (sp := false) (pc' := 1304) (M := [(0, .ref 98), (1, .int (Int32.ofInt 0)), (2, .int z180), (3, .int z182)]) rfl rfl rfl rfl rfl rfl rfl rfl ?_
        refine u_sheetM0 _ Is110  z180 _ hz180 z182 _ hz182 (fun r184 br184 hr184 s185 Is185 Gs185 tr184 pcs185 => h_Kv ?_)
        have Zs185 : ∀ i, s185 0 i = s0 0 i := fun i => (Gs185 0 i rfl).trans (Zs110 i)
        rcases pcs185 with pcs185 | pcs185 | pcs185
        · refine h_ceq (tg := 1441) (pc' := 1307) rfl rfl rfl hr109 hr184 (fun c186 => absurd c186 (by omega)) (fun c186 => ?_)
          refine h_iconst (pc' := 1308) (x := (Int32.ofInt 0)) rfl rfl rfl ?_
          exfalso
          omega
        · refine h_ceq (tg := 1441) (pc' := 1307) rfl rfl rfl hr109 hr184 (fun c187 => absurd c187 (by omega)) (fun c187 => ?_)
          refine h_iconst (pc' := 1308) (x := (Int32.ofInt 0)) rfl rfl rfl ?_
          exfalso
          omega
        · refine h_ceq (tg := 1441) (pc' := 1307) rfl rfl rfl hr109 hr184 (fun c188 => ?_) (fun c188 => absurd c188 (by omega))
          exact kk _ Is185 
      · have qz178 : z178 = (Int32.ofInt 1) := h_lit (show z178.toInt = 1 by omega) ci_1
        subst qz178
        refine h_call (sp := false) (pc' := 1304) (M := [(0, .ref 98), (1, .int (Int32.ofInt 1)), (2, .int z180), (3, .int z182)]) rfl rfl rfl rfl rfl rfl rfl rfl ?_
        refine u_sheetM1 _ Is110  z180 _ hz180 z182 _ hz182 (fun r189 br189 hr189 s190 Is190 Gs190 tr189 pcs190 => h_Kv ?_)
        have Zs190 : ∀ i, s190 0 i = s0 0 i := fun i => (Gs190 0 i rfl).trans (Zs110 i)
        rcases pcs190 with pcs190 | pcs190 | pcs190
        · refine h_ceq (tg := 1441) (pc' := 1307) rfl rfl rfl hr109 hr189 (fun c191 => absurd c191 (by omega)) (fun c191 => ?_)
          refine h_iconst (pc' := 1308) (x := (Int32.ofInt 0)) rfl rfl rfl ?_
          exfalso
          omega
        · refine h_ceq (tg := 1441) (pc' := 1307) rfl rfl rfl hr109 hr189 (fun c192 => absurd c192 (by omega)) (fun c192 => ?_)
          refine h_iconst (pc' := 1308) (x := (Int32.ofInt 0)) rfl rfl rfl ?_
          exfalso
          omega
        · refine h_ceq (tg := 1441) (pc' := 1307) rfl rfl rfl hr109 hr189 (fun c193 => ?_) (fun c193 => absurd c193 (by omega))
          exact kk _ Is190 
      · have qz178 : z178 = (Int32.ofInt 2) := h_lit (show z178.toInt = 2 by omega) ci_2
        subst qz178
        refine h_call (sp := false) (pc' := 1304) (M := [(0, .ref 98), (1, .int (Int32.ofInt 2)), (2, .int z180), (3, .int z182)]) rfl rfl rfl rfl rfl rfl rfl rfl ?_
        refine u_sheetM2 _ Is110  z180 _ hz180 z182 _ hz182 (fun r194 br194 hr194 s195 Is195 Gs195 tr194 pcs195 => h_Kv ?_)
        have Zs195 : ∀ i, s195 0 i = s0 0 i := fun i => (Gs195 0 i rfl).trans (Zs110 i)
        rcases pcs195 with pcs195 | pcs195 | pcs195
        · refine h_ceq (tg := 1441) (pc' := 1307) rfl rfl rfl hr109 hr194 (fun c196 => absurd c196 (by omega)) (fun c196 => ?_)
          refine h_iconst (pc' := 1308) (x := (Int32.ofInt 0)) rfl rfl rfl ?_
          exfalso
          omega
        · refine h_ceq (tg := 1441) (pc' := 1307) rfl rfl rfl hr109 hr194 (fun c197 => absurd c197 (by omega)) (fun c197 => ?_)
          refine h_iconst (pc' := 1308) (x := (Int32.ofInt 0)) rfl rfl rfl ?_
          exfalso
          omega
        · refine h_ceq (tg := 1441) (pc' := 1307) rfl rfl rfl hr109 hr194 (fun c198 => ?_) (fun c198 => absurd c198 (by omega))
          exact kk _ Is195 
      · have qz178 : z178 = (Int32.ofInt 3) := h_lit (show z178.toInt = 3 by omega) ci_3
        subst qz178
        refine h_call (sp := false) (pc' := 1304) (M := [(0, .ref 98), (1, .int (Int32.ofInt 3)), (2, .int z180), (3, .int z182)]) rfl rfl rfl rfl rfl rfl rfl rfl ?_
        refine u_sheetM3 _ Is110  z180 _ hz180 z182 _ hz182 (fun r199 br199 hr199 s200 Is200 Gs200 tr199 pcs200 => h_Kv ?_)
        have Zs200 : ∀ i, s200 0 i = s0 0 i := fun i => (Gs200 0 i rfl).trans (Zs110 i)
        rcases pcs200 with pcs200 | pcs200 | pcs200
        · refine h_ceq (tg := 1441) (pc' := 1307) rfl rfl rfl hr109 hr199 (fun c201 => absurd c201 (by omega)) (fun c201 => ?_)
          refine h_iconst (pc' := 1308) (x := (Int32.ofInt 0)) rfl rfl rfl ?_
          exfalso
          omega
        · refine h_ceq (tg := 1441) (pc' := 1307) rfl rfl rfl hr109 hr199 (fun c202 => absurd c202 (by omega)) (fun c202 => ?_)
          refine h_iconst (pc' := 1308) (x := (Int32.ofInt 0)) rfl rfl rfl ?_
          exfalso
          omega
        · refine h_ceq (tg := 1441) (pc' := 1307) rfl rfl rfl hr109 hr199 (fun c203 => ?_) (fun c203 => absurd c203 (by omega))
          exact kk _ Is200 
      · refine h_call (sp := false) (pc' := 1304) (M := [(0, .ref 98), (1, .int z178), (2, .int z180), (3, .int z182)]) rfl rfl rfl rfl rfl rfl rfl rfl ?_
        refine u_sheetMn _ Is110 z178 _ hz178 (by omega) z180 _ hz180 z182 _ hz182 (fun r204 br204 hr204 s205 Is205 Gs205 tr204 pcs205 => h_Kv ?_)
        have Zs205 : ∀ i, s205 0 i = s0 0 i := fun i => (Gs205 0 i rfl).trans (Zs110 i)
        rcases pcs205 with pcs205
        · refine h_ceq (tg := 1441) (pc' := 1307) rfl rfl rfl hr109 hr204 (fun c206 => absurd c206 (by omega)) (fun c206 => ?_)
          refine h_iconst (pc' := 1308) (x := (Int32.ofInt 0)) rfl rfl rfl ?_
          exfalso
          omega
      · refine h_call (sp := false) (pc' := 1304) (M := [(0, .ref 98), (1, .int z178), (2, .int z180), (3, .int z182)]) rfl rfl rfl rfl rfl rfl rfl rfl ?_
        refine u_sheetMp _ Is110 z178 _ hz178 (by omega) z180 _ hz180 z182 _ hz182 (fun r207 br207 hr207 s208 Is208 Gs208 tr207 pcs208 => h_Kv ?_)
        have Zs208 : ∀ i, s208 0 i = s0 0 i := fun i => (Gs208 0 i rfl).trans (Zs110 i)
        rcases pcs208 with pcs208
        · refine h_ceq (tg := 1441) (pc' := 1307) rfl rfl rfl hr109 hr207 (fun c209 => absurd c209 (by omega)) (fun c209 => ?_)
          refine h_iconst (pc' := 1308) (x := (Int32.ofInt 0)) rfl rfl rfl ?_
          exfalso
          omega
  · have qz2 : z2 = (Int32.ofInt 2) := h_lit (show z2.toInt = 2 by omega) ci_2
    subst qz2
    refine h_call (sp := false) (pc' := 1285) (M := [(0, .ref 9), (1, .int (Int32.ofInt 2)), (2, .int z4), (3, .int z6)]) rfl rfl rfl rfl rfl rfl rfl rfl ?_
    refine u_sheetX2 _ I0  z4 _ hz4 z6 _ hz6 (fun r210 br210 hr210 s211 Is211 Gs211 tr210 pcs211 => h_Kv ?_)
    have Zs211 : ∀ i, s211 0 i = s0 0 i := fun i => (Gs211 0 i rfl).trans rfl
    rcases pcs211 with pcs211 | pcs211 | pcs211
    · refine h_aload_n (pc' := 1286) rfl rfl rfl ?_
      refine h_aload_n (pc' := 1287) rfl rfl rfl ?_
      refine h_iload_n (pc' := 1288) rfl rfl rfl ?_
      refine h_iconst (pc' := 1289) (x := (Int32.ofInt 1)) rfl rfl rfl ?_
      refine h_iadd (pc' := 1290) rfl rfl hy3 ci_1 rfl (by omega) (by omega) (fun z212 hz212 => ?_)
      refine h_iald (pc' := 1291) (v := s0 0 (b3 + 1)) rfl rfl rfl hz212 (by omega) (by omega) (Zs211 _) (fun z213 hz213 => ?_)
      have tz213 := h_rgv hz213
      refine h_aload_n (pc' := 1292) rfl rfl rfl ?_
      refine h_iload_n (pc' := 1293) rfl rfl rfl ?_
      refine h_iconst (pc' := 1294) (x := (Int32.ofInt 2)) rfl rfl rfl ?_
      refine h_iadd (pc' := 1295) rfl rfl hy3 ci_2 rfl (by omega) (by omega) (fun z214 hz214 => ?_)
      refine h_iald (pc' := 1296) (v := s0 0 (b3 + 2)) rfl rfl rfl hz214 (by omega) (by omega) (Zs211 _) (fun z215 hz215 => ?_)
      have tz215 := h_rgv hz215
      refine h_aload_n (pc' := 1297) rfl rfl rfl ?_
      refine h_iload_n (pc' := 1298) rfl rfl rfl ?_
      refine h_iconst (pc' := 1299) (x := (Int32.ofInt 3)) rfl rfl rfl ?_
      refine h_iadd (pc' := 1300) rfl rfl hy3 ci_3 rfl (by omega) (by omega) (fun z216 hz216 => ?_)
      refine h_iald (pc' := 1301) (v := s0 0 (b3 + 3)) rfl rfl rfl hz216 (by omega) (by omega) (Zs211 _) (fun z217 hz217 => ?_)
      have tz217 := h_rgv hz217
      rcases (show ((s0 0 (b3 + 1)) = 0) ∨ ((s0 0 (b3 + 1)) = 1) ∨ ((s0 0 (b3 + 1)) = 2) ∨ ((s0 0 (b3 + 1)) = 3) ∨ ((s0 0 (b3 + 1)) ≤ (-1)) ∨ (4 ≤ (s0 0 (b3 + 1))) by omega) with c218 | c218 | c218 | c218 | c218 | c218
      · have qz213 : z213 = (Int32.ofInt 0) := h_lit (show z213.toInt = 0 by omega) ci_0
        subst qz213
        refine h_call (sp := false) (pc' := 1304) (M := [(0, .ref 98), (1, .int (Int32.ofInt 0)), (2, .int z215), (3, .int z217)]) rfl rfl rfl rfl rfl rfl rfl rfl ?_
        refine u_sheetM0 _ Is211  z215 _ hz215 z217 _ hz217 (fun r219 br219 hr219 s220 Is220 Gs220 tr219 pcs220 => h_Kv ?_)
        have Zs220 : ∀ i, s220 0 i = s0 0 i := fun i => (Gs220 0 i rfl).trans (Zs211 i)
        rcases pcs220 with pcs220 | pcs220 | pcs220
        · refine h_ceq (tg := 1441) (pc' := 1307) rfl rfl rfl hr210 hr219 (fun c221 => ?_) (fun c221 => absurd c221 (by omega))
          exact kk _ Is220 
        · refine h_ceq (tg := 1441) (pc' := 1307) rfl rfl rfl hr210 hr219 (fun c222 => absurd c222 (by omega)) (fun c222 => ?_)
          refine h_iconst (pc' := 1308) (x := (Int32.ofInt 0)) rfl rfl rfl ?_
          exfalso
          omega
        · refine h_ceq (tg := 1441) (pc' := 1307) rfl rfl rfl hr210 hr219 (fun c223 => absurd c223 (by omega)) (fun c223 => ?_)
          refine h_iconst (pc' := 1308) (x := (Int32.ofInt 0)) rfl rfl rfl ?_
          exfalso
          omega
      · have qz213 : z213 = (Int32.ofInt 1) := h_lit (show z213.toInt = 1 by omega) ci_1
        subst qz213
        refine h_call (sp := false) (pc' := 1304) (M := [(0, .ref 98), (1, .int (Int32.ofInt 1)), (2, .int z215), (3, .int z217)]) rfl rfl rfl rfl rfl rfl rfl rfl ?_
        refine u_sheetM1 _ Is211  z215 _ hz215 z217 _ hz217 (fun r224 br224 hr224 s225 Is225 Gs225 tr224 pcs225 => h_Kv ?_)
        have Zs225 : ∀ i, s225 0 i = s0 0 i := fun i => (Gs225 0 i rfl).trans (Zs211 i)
        rcases pcs225 with pcs225 | pcs225 | pcs225
        · refine h_ceq (tg := 1441) (pc' := 1307) rfl rfl rfl hr210 hr224 (fun c226 => ?_) (fun c226 => absurd c226 (by omega))
          exact kk _ Is225 
        · refine h_ceq (tg := 1441) (pc' := 1307) rfl rfl rfl hr210 hr224 (fun c227 => absurd c227 (by omega)) (fun c227 => ?_)
          refine h_iconst (pc' := 1308) (x := (Int32.ofInt 0)) rfl rfl rfl ?_
          exfalso
          omega
        · refine h_ceq (tg := 1441) (pc' := 1307) rfl rfl rfl hr210 hr224 (fun c228 => absurd c228 (by omega)) (fun c228 => ?_)
          refine h_iconst (pc' := 1308) (x := (Int32.ofInt 0)) rfl rfl rfl ?_
          exfalso
          omega
      · have qz213 : z213 = (Int32.ofInt 2) := h_lit (show z213.toInt = 2 by omega) ci_2
        subst qz213
        refine h_call (sp := false) (pc' := 1304) (M := [(0, .ref 98), (1, .int (Int32.ofInt 2)), (2, .int z215), (3, .int z217)]) rfl rfl rfl rfl rfl rfl rfl rfl ?_
        refine u_sheetM2 _ Is211  z215 _ hz215 z217 _ hz217 (fun r229 br229 hr229 s230 Is230 Gs230 tr229 pcs230 => h_Kv ?_)
        have Zs230 : ∀ i, s230 0 i = s0 0 i := fun i => (Gs230 0 i rfl).trans (Zs211 i)
        rcases pcs230 with pcs230 | pcs230 | pcs230
        · refine h_ceq (tg := 1441) (pc' := 1307) rfl rfl rfl hr210 hr229 (fun c231 => ?_) (fun c231 => absurd c231 (by omega))
          exact kk _ Is230 
        · refine h_ceq (tg := 1441) (pc' := 1307) rfl rfl rfl hr210 hr229 (fun c232 => absurd c232 (by omega)) (fun c232 => ?_)
          refine h_iconst (pc' := 1308) (x := (Int32.ofInt 0)) rfl rfl rfl ?_
          exfalso
          omega
        · refine h_ceq (tg := 1441) (pc' := 1307) rfl rfl rfl hr210 hr229 (fun c233 => absurd c233 (by omega)) (fun c233 => ?_)
          refine h_iconst (pc' := 1308) (x := (Int32.ofInt 0)) rfl rfl rfl ?_
          exfalso
          omega
      · have qz213 : z213 = (Int32.ofInt 3) := h_lit (show z213.toInt = 3 by omega) ci_3
        subst qz213
        refine h_call (sp := false) (pc' := 1304) (M := [(0, .ref 98), (1, .int (Int32.ofInt 3)), (2, .int z215), (3, .int z217)]) rfl rfl rfl rfl rfl rfl rfl rfl ?_
        refine u_sheetM3 _ Is211  z215 _ hz215 z217 _ hz217 (fun r234 br234 hr234 s235 Is235 Gs235 tr234 pcs235 => h_Kv ?_)
        have Zs235 : ∀ i, s235 0 i = s0 0 i := fun i => (Gs235 0 i rfl).trans (Zs211 i)
        rcases pcs235 with pcs235 | pcs235 | pcs235
        · refine h_ceq (tg := 1441) (pc' := 1307) rfl rfl rfl hr210 hr234 (fun c236 => ?_) (fun c236 => absurd c236 (by omega))
          exact kk _ Is235 
        · refine h_ceq (tg := 1441) (pc' := 1307) rfl rfl rfl hr210 hr234 (fun c237 => absurd c237 (by omega)) (fun c237 => ?_)
          refine h_iconst (pc' := 1308) (x := (Int32.ofInt 0)) rfl rfl rfl ?_
          exfalso
          omega
        · refine h_ceq (tg := 1441) (pc' := 1307) rfl rfl rfl hr210 hr234 (fun c238 => absurd c238 (by omega)) (fun c238 => ?_)
          refine h_iconst (pc' := 1308) (x := (Int32.ofInt 0)) rfl rfl rfl ?_
          exfalso
          omega
      · refine h_call (sp := false) (pc' := 1304) (M := [(0, .ref 98), (1, .int z213), (2, .int z215), (3, .int z217)]) rfl rfl rfl rfl rfl rfl rfl rfl ?_
        refine u_sheetMn _ Is211 z213 _ hz213 (by omega) z215 _ hz215 z217 _ hz217 (fun r239 br239 hr239 s240 Is240 Gs240 tr239 pcs240 => h_Kv ?_)
        have Zs240 : ∀ i, s240 0 i = s0 0 i := fun i => (Gs240 0 i rfl).trans (Zs211 i)
        rcases pcs240 with pcs240
        · refine h_ceq (tg := 1441) (pc' := 1307) rfl rfl rfl hr210 hr239 (fun c241 => ?_) (fun c241 => absurd c241 (by omega))
          exact kk _ Is240 
      · refine h_call (sp := false) (pc' := 1304) (M := [(0, .ref 98), (1, .int z213), (2, .int z215), (3, .int z217)]) rfl rfl rfl rfl rfl rfl rfl rfl ?_
        refine u_sheetMp _ Is211 z213 _ hz213 (by omega) z215 _ hz215 z217 _ hz217 (fun r242 br242 hr242 s243 Is243 Gs243 tr242 pcs243 => h_Kv ?_)
        have Zs243 : ∀ i, s243 0 i = s0 0 i := fun i => (Gs243 0 i rfl).trans (Zs211 i)
        rcases pcs243 with pcs243
        · refine h_ceq (tg := 1441) (pc' := 1307) rfl rfl rfl hr210 hr242 (fun c244 => ?_) (fun c244 => absurd c244 (by omega))
          exact kk _ Is243 
    · refine h_aload_n (pc' := 1286) rfl rfl rfl ?_
      refine h_aload_n (pc' := 1287) rfl rfl rfl ?_
      refine h_iload_n (pc' := 1288) rfl rfl rfl ?_
      refine h_iconst (pc' := 1289) (x := (Int32.ofInt 1)) rfl rfl rfl ?_
      refine h_iadd (pc' := 1290) rfl rfl hy3 ci_1 rfl (by omega) (by omega) (fun z245 hz245 => ?_)
      refine h_iald (pc' := 1291) (v := s0 0 (b3 + 1)) rfl rfl rfl hz245 (by omega) (by omega) (Zs211 _) (fun z246 hz246 => ?_)
      have tz246 := h_rgv hz246
      refine h_aload_n (pc' := 1292) rfl rfl rfl ?_
      refine h_iload_n (pc' := 1293) rfl rfl rfl ?_
      refine h_iconst (pc' := 1294) (x := (Int32.ofInt 2)) rfl rfl rfl ?_
      refine h_iadd (pc' := 1295) rfl rfl hy3 ci_2 rfl (by omega) (by omega) (fun z247 hz247 => ?_)
      refine h_iald (pc' := 1296) (v := s0 0 (b3 + 2)) rfl rfl rfl hz247 (by omega) (by omega) (Zs211 _) (fun z248 hz248 => ?_)
      have tz248 := h_rgv hz248
      refine h_aload_n (pc' := 1297) rfl rfl rfl ?_
      refine h_iload_n (pc' := 1298) rfl rfl rfl ?_
      refine h_iconst (pc' := 1299) (x := (Int32.ofInt 3)) rfl rfl rfl ?_
      refine h_iadd (pc' := 1300) rfl rfl hy3 ci_3 rfl (by omega) (by omega) (fun z249 hz249 => ?_)
      refine h_iald (pc' := 1301) (v := s0 0 (b3 + 3)) rfl rfl rfl hz249 (by omega) (by omega) (Zs211 _) (fun z250 hz250 => ?_)
      have tz250 := h_rgv hz250
      rcases (show ((s0 0 (b3 + 1)) = 0) ∨ ((s0 0 (b3 + 1)) = 1) ∨ ((s0 0 (b3 + 1)) = 2) ∨ ((s0 0 (b3 + 1)) = 3) ∨ ((s0 0 (b3 + 1)) ≤ (-1)) ∨ (4 ≤ (s0 0 (b3 + 1))) by omega) with c251 | c251 | c251 | c251 | c251 | c251
      · have qz246 : z246 = (Int32.ofInt 0) := h_lit (show z246.toInt = 0 by omega) ci_0
        subst qz246
        refine h_call (sp := false) (pc' := 1304) (M := [(0, .ref 98), (1, .int (Int32.ofInt 0)), (2, .int z248), (3, .int z250)]) rfl rfl rfl rfl rfl rfl rfl rfl ?_
        refine u_sheetM0 _ Is211  z248 _ hz248 z250 _ hz250 (fun r252 br252 hr252 s253 Is253 Gs253 tr252 pcs253 => h_Kv ?_)
        have Zs253 : ∀ i, s253 0 i = s0 0 i := fun i => (Gs253 0 i rfl).trans (Zs211 i)
        rcases pcs253 with pcs253 | pcs253 | pcs253
        · refine h_ceq (tg := 1441) (pc' := 1307) rfl rfl rfl hr210 hr252 (fun c254 => absurd c254 (by omega)) (fun c254 => ?_)
          refine h_iconst (pc' := 1308) (x := (Int32.ofInt 0)) rfl rfl rfl ?_
          exfalso
          omega
        · refine h_ceq (tg := 1441) (pc' := 1307) rfl rfl rfl hr210 hr252 (fun c255 => ?_) (fun c255 => absurd c255 (by omega))
          exact kk _ Is253 
        · refine h_ceq (tg := 1441) (pc' := 1307) rfl rfl rfl hr210 hr252 (fun c256 => absurd c256 (by omega)) (fun c256 => ?_)
          refine h_iconst (pc' := 1308) (x := (Int32.ofInt 0)) rfl rfl rfl ?_
          exfalso
          omega
      · have qz246 : z246 = (Int32.ofInt 1) := h_lit (show z246.toInt = 1 by omega) ci_1
        subst qz246
        refine h_call (sp := false) (pc' := 1304) (M := [(0, .ref 98), (1, .int (Int32.ofInt 1)), (2, .int z248), (3, .int z250)]) rfl rfl rfl rfl rfl rfl rfl rfl ?_
        refine u_sheetM1 _ Is211  z248 _ hz248 z250 _ hz250 (fun r257 br257 hr257 s258 Is258 Gs258 tr257 pcs258 => h_Kv ?_)
        have Zs258 : ∀ i, s258 0 i = s0 0 i := fun i => (Gs258 0 i rfl).trans (Zs211 i)
        rcases pcs258 with pcs258 | pcs258 | pcs258
        · refine h_ceq (tg := 1441) (pc' := 1307) rfl rfl rfl hr210 hr257 (fun c259 => absurd c259 (by omega)) (fun c259 => ?_)
          refine h_iconst (pc' := 1308) (x := (Int32.ofInt 0)) rfl rfl rfl ?_
          exfalso
          omega
        · refine h_ceq (tg := 1441) (pc' := 1307) rfl rfl rfl hr210 hr257 (fun c260 => ?_) (fun c260 => absurd c260 (by omega))
          exact kk _ Is258 
        · refine h_ceq (tg := 1441) (pc' := 1307) rfl rfl rfl hr210 hr257 (fun c261 => absurd c261 (by omega)) (fun c261 => ?_)
          refine h_iconst (pc' := 1308) (x := (Int32.ofInt 0)) rfl rfl rfl ?_
          exfalso
          omega
      · have qz246 : z246 = (Int32.ofInt 2) := h_lit (show z246.toInt = 2 by omega) ci_2
        subst qz246
        refine h_call (sp := false) (pc' := 1304) (M := [(0, .ref 98), (1, .int (Int32.ofInt 2)), (2, .int z248), (3, .int z250)]) rfl rfl rfl rfl rfl rfl rfl rfl ?_
        refine u_sheetM2 _ Is211  z248 _ hz248 z250 _ hz250 (fun r262 br262 hr262 s263 Is263 Gs263 tr262 pcs263 => h_Kv ?_)
        have Zs263 : ∀ i, s263 0 i = s0 0 i := fun i => (Gs263 0 i rfl).trans (Zs211 i)
        rcases pcs263 with pcs263 | pcs263 | pcs263
        · refine h_ceq (tg := 1441) (pc' := 1307) rfl rfl rfl hr210 hr262 (fun c264 => absurd c264 (by omega)) (fun c264 => ?_)
          refine h_iconst (pc' := 1308) (x := (Int32.ofInt 0)) rfl rfl rfl ?_
          exfalso
          omega
        · refine h_ceq (tg := 1441) (pc' := 1307) rfl rfl rfl hr210 hr262 (fun c265 => ?_) (fun c265 => absurd c265 (by omega))
          exact kk _ Is263 
        · refine h_ceq (tg := 1441) (pc' := 1307) rfl rfl rfl hr210 hr262 (fun c266 => absurd c266 (by omega)) (fun c266 => ?_)
          refine h_iconst (pc' := 1308) (x := (Int32.ofInt 0)) rfl rfl rfl ?_
          exfalso
          omega
      · have qz246 : z246 = (Int32.ofInt 3) := h_lit (show z246.toInt = 3 by omega) ci_3
        subst qz246
        refine h_call (sp := false) (pc' := 1304) (M := [(0, .ref 98), (1, .int (Int32.ofInt 3)), (2, .int z248), (3, .int z250)]) rfl rfl rfl rfl rfl rfl rfl rfl ?_
        refine u_sheetM3 _ Is211  z248 _ hz248 z250 _ hz250 (fun r267 br267 hr267 s268 Is268 Gs268 tr267 pcs268 => h_Kv ?_)
        have Zs268 : ∀ i, s268 0 i = s0 0 i := fun i => (Gs268 0 i rfl).trans (Zs211 i)
        rcases pcs268 with pcs268 | pcs268 | pcs268
        · refine h_ceq (tg := 1441) (pc' := 1307) rfl rfl rfl hr210 hr267 (fun c269 => absurd c269 (by omega)) (fun c269 => ?_)
          refine h_iconst (pc' := 1308) (x := (Int32.ofInt 0)) rfl rfl rfl ?_
          exfalso
          omega
        · refine h_ceq (tg := 1441) (pc' := 1307) rfl rfl rfl hr210 hr267 (fun c270 => ?_) (fun c270 => absurd c270 (by omega))
          exact kk _ Is268 
        · refine h_ceq (tg := 1441) (pc' := 1307) rfl rfl rfl hr210 hr267 (fun c271 => absurd c271 (by omega)) (fun c271 => ?_)
          refine h_iconst (pc' := 1308) (x := (Int32.ofInt 0)) rfl rfl rfl ?_
          exfalso
          omega
      · refine h_call (sp := false) (pc' := 1304) (M := [(0, .ref 98), (1, .int z246), (2, .int z248), (3, .int z250)]) rfl rfl rfl rfl rfl rfl rfl rfl ?_
        refine u_sheetMn _ Is211 z246 _ hz246 (by omega) z248 _ hz248 z250 _ hz250 (fun r272 br272 hr272 s273 Is273 Gs273 tr272 pcs273 => h_Kv ?_)
        have Zs273 : ∀ i, s273 0 i = s0 0 i := fun i => (Gs273 0 i rfl).trans (Zs211 i)
        rcases pcs273 with pcs273
        · refine h_ceq (tg := 1441) (pc' := 1307) rfl rfl rfl hr210 hr272 (fun c274 => absurd c274 (by omega)) (fun c274 => ?_)
          refine h_iconst (pc' := 1308) (x := (Int32.ofInt 0)) rfl rfl rfl ?_
          exfalso
          omega
      · refine h_call (sp := false) (pc' := 1304) (M := [(0, .ref 98), (1, .int z246), (2, .int z248), (3, .int z250)]) rfl rfl rfl rfl rfl rfl rfl rfl ?_
        refine u_sheetMp _ Is211 z246 _ hz246 (by omega) z248 _ hz248 z250 _ hz250 (fun r275 br275 hr275 s276 Is276 Gs276 tr275 pcs276 => h_Kv ?_)
        have Zs276 : ∀ i, s276 0 i = s0 0 i := fun i => (Gs276 0 i rfl).trans (Zs211 i)
        rcases pcs276 with pcs276
        · refine h_ceq (tg := 1441) (pc' := 1307) rfl rfl rfl hr210 hr275 (fun c277 => absurd c277 (by omega)) (fun c277 => ?_)
          refine h_iconst (pc' := 1308) (x := (Int32.ofInt 0)) rfl rfl rfl ?_
          exfalso
          omega
    · refine h_aload_n (pc' := 1286) rfl rfl rfl ?_
      refine h_aload_n (pc' := 1287) rfl rfl rfl ?_
      refine h_iload_n (pc' := 1288) rfl rfl rfl ?_
      refine h_iconst (pc' := 1289) (x := (Int32.ofInt 1)) rfl rfl rfl ?_
      refine h_iadd (pc' := 1290) rfl rfl hy3 ci_1 rfl (by omega) (by omega) (fun z278 hz278 => ?_)
      refine h_iald (pc' := 1291) (v := s0 0 (b3 + 1)) rfl rfl rfl hz278 (by omega) (by omega) (Zs211 _) (fun z279 hz279 => ?_)
      have tz279 := h_rgv hz279
      refine h_aload_n (pc' := 1292) rfl rfl rfl ?_
      refine h_iload_n (pc' := 1293) rfl rfl rfl ?_
      refine h_iconst (pc' := 1294) (x := (Int32.ofInt 2)) rfl rfl rfl ?_
      refine h_iadd (pc' := 1295) rfl rfl hy3 ci_2 rfl (by omega) (by omega) (fun z280 hz280 => ?_)
      refine h_iald (pc' := 1296) (v := s0 0 (b3 + 2)) rfl rfl rfl hz280 (by omega) (by omega) (Zs211 _) (fun z281 hz281 => ?_)
      have tz281 := h_rgv hz281
      refine h_aload_n (pc' := 1297) rfl rfl rfl ?_
      refine h_iload_n (pc' := 1298) rfl rfl rfl ?_
      refine h_iconst (pc' := 1299) (x := (Int32.ofInt 3)) rfl rfl rfl ?_
      refine h_iadd (pc' := 1300) rfl rfl hy3 ci_3 rfl (by omega) (by omega) (fun z282 hz282 => ?_)
      refine h_iald (pc' := 1301) (v := s0 0 (b3 + 3)) rfl rfl rfl hz282 (by omega) (by omega) (Zs211 _) (fun z283 hz283 => ?_)
      have tz283 := h_rgv hz283
      rcases (show ((s0 0 (b3 + 1)) = 0) ∨ ((s0 0 (b3 + 1)) = 1) ∨ ((s0 0 (b3 + 1)) = 2) ∨ ((s0 0 (b3 + 1)) = 3) ∨ ((s0 0 (b3 + 1)) ≤ (-1)) ∨ (4 ≤ (s0 0 (b3 + 1))) by omega) with c284 | c284 | c284 | c284 | c284 | c284
      · have qz279 : z279 = (Int32.ofInt 0) := h_lit (show z279.toInt = 0 by omega) ci_0
        subst qz279
        refine h_call (sp := false) (pc' := 1304) (M := [(0, .ref 98), (1, .int (Int32.ofInt 0)), (2, .int z281), (3, .int z283)]) rfl rfl rfl rfl rfl rfl rfl rfl ?_
        refine u_sheetM0 _ Is211  z281 _ hz281 z283 _ hz283 (fun r285 br285 hr285 s286 Is286 Gs286 tr285 pcs286 => h_Kv ?_)
        have Zs286 : ∀ i, s286 0 i = s0 0 i := fun i => (Gs286 0 i rfl).trans (Zs211 i)
        rcases pcs286 with pcs286 | pcs286 | pcs286
        · refine h_ceq (tg := 1441) (pc' := 1307) rfl rfl rfl hr210 hr285 (fun c287 => absurd c287 (by omega)) (fun c287 => ?_)
          refine h_iconst (pc' := 1308) (x := (Int32.ofInt 0)) rfl rfl rfl ?_
          exfalso
          omega
        · refine h_ceq (tg := 1441) (pc' := 1307) rfl rfl rfl hr210 hr285 (fun c288 => absurd c288 (by omega)) (fun c288 => ?_)
          refine h_iconst (pc' := 1308) (x := (Int32.ofInt 0)) rfl rfl rfl ?_
          exfalso
          omega
        · refine h_ceq (tg := 1441) (pc' := 1307) rfl rfl rfl hr210 hr285 (fun c289 => ?_) (fun c289 => absurd c289 (by omega))
          exact kk _ Is286 
      · have qz279 : z279 = (Int32.ofInt 1) := h_lit (show z279.toInt = 1 by omega) ci_1
        subst qz279
        refine h_call (sp := false) (pc' := 1304) (M := [(0, .ref 98), (1, .int (Int32.ofInt 1)), (2, .int z281), (3, .int z283)]) rfl rfl rfl rfl rfl rfl rfl rfl ?_
        refine u_sheetM1 _ Is211  z281 _ hz281 z283 _ hz283 (fun r290 br290 hr290 s291 Is291 Gs291 tr290 pcs291 => h_Kv ?_)
        have Zs291 : ∀ i, s291 0 i = s0 0 i := fun i => (Gs291 0 i rfl).trans (Zs211 i)
        rcases pcs291 with pcs291 | pcs291 | pcs291
        · refine h_ceq (tg := 1441) (pc' := 1307) rfl rfl rfl hr210 hr290 (fun c292 => absurd c292 (by omega)) (fun c292 => ?_)
          refine h_iconst (pc' := 1308) (x := (Int32.ofInt 0)) rfl rfl rfl ?_
          exfalso
          omega
        · refine h_ceq (tg := 1441) (pc' := 1307) rfl rfl rfl hr210 hr290 (fun c293 => absurd c293 (by omega)) (fun c293 => ?_)
          refine h_iconst (pc' := 1308) (x := (Int32.ofInt 0)) rfl rfl rfl ?_
          exfalso
          omega
        · refine h_ceq (tg := 1441) (pc' := 1307) rfl rfl rfl hr210 hr290 (fun c294 => ?_) (fun c294 => absurd c294 (by omega))
          exact kk _ Is291 
      · have qz279 : z279 = (Int32.ofInt 2) := h_lit (show z279.toInt = 2 by omega) ci_2
        subst qz279
        refine h_call (sp := false) (pc' := 1304) (M := [(0, .ref 98), (1, .int (Int32.ofInt 2)), (2, .int z281), (3, .int z283)]) rfl rfl rfl rfl rfl rfl rfl rfl ?_
        refine u_sheetM2 _ Is211  z281 _ hz281 z283 _ hz283 (fun r295 br295 hr295 s296 Is296 Gs296 tr295 pcs296 => h_Kv ?_)
        have Zs296 : ∀ i, s296 0 i = s0 0 i := fun i => (Gs296 0 i rfl).trans (Zs211 i)
        rcases pcs296 with pcs296 | pcs296 | pcs296
        · refine h_ceq (tg := 1441) (pc' := 1307) rfl rfl rfl hr210 hr295 (fun c297 => absurd c297 (by omega)) (fun c297 => ?_)
          refine h_iconst (pc' := 1308) (x := (Int32.ofInt 0)) rfl rfl rfl ?_
          exfalso
          omega
        · refine h_ceq (tg := 1441) (pc' := 1307) rfl rfl rfl hr210 hr295 (fun c298 => absurd c298 (by omega)) (fun c298 => ?_)
          refine h_iconst (pc' := 1308) (x := (Int32.ofInt 0)) rfl rfl rfl ?_
          exfalso
          omega
        · refine h_ceq (tg := 1441) (pc' := 1307) rfl rfl rfl hr210 hr295 (fun c299 => ?_) (fun c299 => absurd c299 (by omega))
          exact kk _ Is296 
      · have qz279 : z279 = (Int32.ofInt 3) := h_lit (show z279.toInt = 3 by omega) ci_3
        subst qz279
        refine h_call (sp := false) (pc' := 1304) (M := [(0, .ref 98), (1, .int (Int32.ofInt 3)), (2, .int z281), (3, .int z283)]) rfl rfl rfl rfl rfl rfl rfl rfl ?_
        refine u_sheetM3 _ Is211  z281 _ hz281 z283 _ hz283 (fun r300 br300 hr300 s301 Is301 Gs301 tr300 pcs301 => h_Kv ?_)
        have Zs301 : ∀ i, s301 0 i = s0 0 i := fun i => (Gs301 0 i rfl).trans (Zs211 i)
        rcases pcs301 with pcs301 | pcs301 | pcs301
        · refine h_ceq (tg := 1441) (pc' := 1307) rfl rfl rfl hr210 hr300 (fun c302 => absurd c302 (by omega)) (fun c302 => ?_)
          refine h_iconst (pc' := 1308) (x := (Int32.ofInt 0)) rfl rfl rfl ?_
          exfalso
          omega
        · refine h_ceq (tg := 1441) (pc' := 1307) rfl rfl rfl hr210 hr300 (fun c303 => absurd c303 (by omega)) (fun c303 => ?_)
          refine h_iconst (pc' := 1308) (x := (Int32.ofInt 0)) rfl rfl rfl ?_
          exfalso
          omega
        · refine h_ceq (tg := 1441) (pc' := 1307) rfl rfl rfl hr210 hr300 (fun c304 => ?_) (fun c304 => absurd c304 (by omega))
          exact kk _ Is301 
      · refine h_call (sp := false) (pc' := 1304) (M := [(0, .ref 98), (1, .int z279), (2, .int z281), (3, .int z283)]) rfl rfl rfl rfl rfl rfl rfl rfl ?_
        refine u_sheetMn _ Is211 z279 _ hz279 (by omega) z281 _ hz281 z283 _ hz283 (fun r305 br305 hr305 s306 Is306 Gs306 tr305 pcs306 => h_Kv ?_)
        have Zs306 : ∀ i, s306 0 i = s0 0 i := fun i => (Gs306 0 i rfl).trans (Zs211 i)
        rcases pcs306 with pcs306
        · refine h_ceq (tg := 1441) (pc' := 1307) rfl rfl rfl hr210 hr305 (fun c307 => absurd c307 (by omega)) (fun c307 => ?_)
          refine h_iconst (pc' := 1308) (x := (Int32.ofInt 0)) rfl rfl rfl ?_
          exfalso
          omega
      · refine h_call (sp := false) (pc' := 1304) (M := [(0, .ref 98), (1, .int z279), (2, .int z281), (3, .int z283)]) rfl rfl rfl rfl rfl rfl rfl rfl ?_
        refine u_sheetMp _ Is211 z279 _ hz279 (by omega) z281 _ hz281 z283 _ hz283 (fun r308 br308 hr308 s309 Is309 Gs309 tr308 pcs309 => h_Kv ?_)
        have Zs309 : ∀ i, s309 0 i = s0 0 i := fun i => (Gs309 0 i rfl).trans (Zs211 i)
        rcases pcs309 with pcs309
        · refine h_ceq (tg := 1441) (pc' := 1307) rfl rfl rfl hr210 hr308 (fun c310 => absurd c310 (by omega)) (fun c310 => ?_)
          refine h_iconst (pc' := 1308) (x := (Int32.ofInt 0)) rfl rfl rfl ?_
          exfalso
          omega
  · have qz2 : z2 = (Int32.ofInt 3) := h_lit (show z2.toInt = 3 by omega) ci_3
    subst qz2
    refine h_call (sp := false) (pc' := 1285) (M := [(0, .ref 9), (1, .int (Int32.ofInt 3)), (2, .int z4), (3, .int z6)]) rfl rfl rfl rfl rfl rfl rfl rfl ?_
    refine u_sheetX3 _ I0  z4 _ hz4 z6 _ hz6 (fun r311 br311 hr311 s312 Is312 Gs312 tr311 pcs312 => h_Kv ?_)
    have Zs312 : ∀ i, s312 0 i = s0 0 i := fun i => (Gs312 0 i rfl).trans rfl
    rcases pcs312 with pcs312 | pcs312 | pcs312
    · refine h_aload_n (pc' := 1286) rfl rfl rfl ?_
      refine h_aload_n (pc' := 1287) rfl rfl rfl ?_
      refine h_iload_n (pc' := 1288) rfl rfl rfl ?_
      refine h_iconst (pc' := 1289) (x := (Int32.ofInt 1)) rfl rfl rfl ?_
      refine h_iadd (pc' := 1290) rfl rfl hy3 ci_1 rfl (by omega) (by omega) (fun z313 hz313 => ?_)
      refine h_iald (pc' := 1291) (v := s0 0 (b3 + 1)) rfl rfl rfl hz313 (by omega) (by omega) (Zs312 _) (fun z314 hz314 => ?_)
      have tz314 := h_rgv hz314
      refine h_aload_n (pc' := 1292) rfl rfl rfl ?_
      refine h_iload_n (pc' := 1293) rfl rfl rfl ?_
      refine h_iconst (pc' := 1294) (x := (Int32.ofInt 2)) rfl rfl rfl ?_
      refine h_iadd (pc' := 1295) rfl rfl hy3 ci_2 rfl (by omega) (by omega) (fun z315 hz315 => ?_)
      refine h_iald (pc' := 1296) (v := s0 0 (b3 + 2)) rfl rfl rfl hz315 (by omega) (by omega) (Zs312 _) (fun z316 hz316 => ?_)
      have tz316 := h_rgv hz316
      refine h_aload_n (pc' := 1297) rfl rfl rfl ?_
      refine h_iload_n (pc' := 1298) rfl rfl rfl ?_
      refine h_iconst (pc' := 1299) (x := (Int32.ofInt 3)) rfl rfl rfl ?_
      refine h_iadd (pc' := 1300) rfl rfl hy3 ci_3 rfl (by omega) (by omega) (fun z317 hz317 => ?_)
      refine h_iald (pc' := 1301) (v := s0 0 (b3 + 3)) rfl rfl rfl hz317 (by omega) (by omega) (Zs312 _) (fun z318 hz318 => ?_)
      have tz318 := h_rgv hz318
      rcases (show ((s0 0 (b3 + 1)) = 0) ∨ ((s0 0 (b3 + 1)) = 1) ∨ ((s0 0 (b3 + 1)) = 2) ∨ ((s0 0 (b3 + 1)) = 3) ∨ ((s0 0 (b3 + 1)) ≤ (-1)) ∨ (4 ≤ (s0 0 (b3 + 1))) by omega) with c319 | c319 | c319 | c319 | c319 | c319
      · have qz314 : z314 = (Int32.ofInt 0) := h_lit (show z314.toInt = 0 by omega) ci_0
        subst qz314
        refine h_call (sp := false) (pc' := 1304) (M := [(0, .ref 98), (1, .int (Int32.ofInt 0)), (2, .int z316), (3, .int z318)]) rfl rfl rfl rfl rfl rfl rfl rfl ?_
        refine u_sheetM0 _ Is312  z316 _ hz316 z318 _ hz318 (fun r320 br320 hr320 s321 Is321 Gs321 tr320 pcs321 => h_Kv ?_)
        have Zs321 : ∀ i, s321 0 i = s0 0 i := fun i => (Gs321 0 i rfl).trans (Zs312 i)
        rcases pcs321 with pcs321 | pcs321 | pcs321
        · refine h_ceq (tg := 1441) (pc' := 1307) rfl rfl rfl hr311 hr320 (fun c322 => ?_) (fun c322 => absurd c322 (by omega))
          exact kk _ Is321 
        · refine h_ceq (tg := 1441) (pc' := 1307) rfl rfl rfl hr311 hr320 (fun c323 => absurd c323 (by omega)) (fun c323 => ?_)
          refine h_iconst (pc' := 1308) (x := (Int32.ofInt 0)) rfl rfl rfl ?_
          exfalso
          omega
        · refine h_ceq (tg := 1441) (pc' := 1307) rfl rfl rfl hr311 hr320 (fun c324 => absurd c324 (by omega)) (fun c324 => ?_)
          refine h_iconst (pc' := 1308) (x := (Int32.ofInt 0)) rfl rfl rfl ?_
          exfalso
          omega
      · have qz314 : z314 = (Int32.ofInt 1) := h_lit (show z314.toInt = 1 by omega) ci_1
        subst qz314
        refine h_call (sp := false) (pc' := 1304) (M := [(0, .ref 98), (1, .int (Int32.ofInt 1)), (2, .int z316), (3, .int z318)]) rfl rfl rfl rfl rfl rfl rfl rfl ?_
        refine u_sheetM1 _ Is312  z316 _ hz316 z318 _ hz318 (fun r325 br325 hr325 s326 Is326 Gs326 tr325 pcs326 => h_Kv ?_)
        have Zs326 : ∀ i, s326 0 i = s0 0 i := fun i => (Gs326 0 i rfl).trans (Zs312 i)
        rcases pcs326 with pcs326 | pcs326 | pcs326
        · refine h_ceq (tg := 1441) (pc' := 1307) rfl rfl rfl hr311 hr325 (fun c327 => ?_) (fun c327 => absurd c327 (by omega))
          exact kk _ Is326 
        · refine h_ceq (tg := 1441) (pc' := 1307) rfl rfl rfl hr311 hr325 (fun c328 => absurd c328 (by omega)) (fun c328 => ?_)
          refine h_iconst (pc' := 1308) (x := (Int32.ofInt 0)) rfl rfl rfl ?_
          exfalso
          omega
        · refine h_ceq (tg := 1441) (pc' := 1307) rfl rfl rfl hr311 hr325 (fun c329 => absurd c329 (by omega)) (fun c329 => ?_)
          refine h_iconst (pc' := 1308) (x := (Int32.ofInt 0)) rfl rfl rfl ?_
          exfalso
          omega
      · have qz314 : z314 = (Int32.ofInt 2) := h_lit (show z314.toInt = 2 by omega) ci_2
        subst qz314
        refine h_call (sp := false) (pc' := 1304) (M := [(0, .ref 98), (1, .int (Int32.ofInt 2)), (2, .int z316), (3, .int z318)]) rfl rfl rfl rfl rfl rfl rfl rfl ?_
        refine u_sheetM2 _ Is312  z316 _ hz316 z318 _ hz318 (fun r330 br330 hr330 s331 Is331 Gs331 tr330 pcs331 => h_Kv ?_)
        have Zs331 : ∀ i, s331 0 i = s0 0 i := fun i => (Gs331 0 i rfl).trans (Zs312 i)
        rcases pcs331 with pcs331 | pcs331 | pcs331
        · refine h_ceq (tg := 1441) (pc' := 1307) rfl rfl rfl hr311 hr330 (fun c332 => ?_) (fun c332 => absurd c332 (by omega))
          exact kk _ Is331 
        · refine h_ceq (tg := 1441) (pc' := 1307) rfl rfl rfl hr311 hr330 (fun c333 => absurd c333 (by omega)) (fun c333 => ?_)
          refine h_iconst (pc' := 1308) (x := (Int32.ofInt 0)) rfl rfl rfl ?_
          exfalso
          omega
        · refine h_ceq (tg := 1441) (pc' := 1307) rfl rfl rfl hr311 hr330 (fun c334 => absurd c334 (by omega)) (fun c334 => ?_)
          refine h_iconst (pc' := 1308) (x := (Int32.ofInt 0)) rfl rfl rfl ?_
          exfalso
          omega
      · have qz314 : z314 = (Int32.ofInt 3) := h_lit (show z314.toInt = 3 by omega) ci_3
        subst qz314
        refine h_call (sp := false) (pc' := 1304) (M := [(0, .ref 98), (1, .int (Int32.ofInt 3)), (2, .int z316), (3, .int z318)]) rfl rfl rfl rfl rfl rfl rfl rfl ?_
        refine u_sheetM3 _ Is312  z316 _ hz316 z318 _ hz318 (fun r335 br335 hr335 s336 Is336 Gs336 tr335 pcs336 => h_Kv ?_)
        have Zs336 : ∀ i, s336 0 i = s0 0 i := fun i => (Gs336 0 i rfl).trans (Zs312 i)
        rcases pcs336 with pcs336 | pcs336 | pcs336
        · refine h_ceq (tg := 1441) (pc' := 1307) rfl rfl rfl hr311 hr335 (fun c337 => ?_) (fun c337 => absurd c337 (by omega))
          exact kk _ Is336 
        · refine h_ceq (tg := 1441) (pc' := 1307) rfl rfl rfl hr311 hr335 (fun c338 => absurd c338 (by omega)) (fun c338 => ?_)
          refine h_iconst (pc' := 1308) (x := (Int32.ofInt 0)) rfl rfl rfl ?_
          exfalso
          omega
        · refine h_ceq (tg := 1441) (pc' := 1307) rfl rfl rfl hr311 hr335 (fun c339 => absurd c339 (by omega)) (fun c339 => ?_)
          refine h_iconst (pc' := 1308) (x := (Int32.ofInt 0)) rfl rfl rfl ?_
          exfalso
          omega
      · refine h_call (sp := false) (pc' := 1304) (M := [(0, .ref 98), (1, .int z314), (2, .int z316), (3, .int z318)]) rfl rfl rfl rfl rfl rfl rfl rfl ?_
        refine u_sheetMn _ Is312 z314 _ hz314 (by omega) z316 _ hz316 z318 _ hz318 (fun r340 br340 hr340 s341 Is341 Gs341 tr340 pcs341 => h_Kv ?_)
        have Zs341 : ∀ i, s341 0 i = s0 0 i := fun i => (Gs341 0 i rfl).trans (Zs312 i)
        rcases pcs341 with pcs341
        · refine h_ceq (tg := 1441) (pc' := 1307) rfl rfl rfl hr311 hr340 (fun c342 => ?_) (fun c342 => absurd c342 (by omega))
          exact kk _ Is341 
      · refine h_call (sp := false) (pc' := 1304) (M := [(0, .ref 98), (1, .int z314), (2, .int z316), (3, .int z318)]) rfl rfl rfl rfl rfl rfl rfl rfl ?_
        refine u_sheetMp _ Is312 z314 _ hz314 (by omega) z316 _ hz316 z318 _ hz318 (fun r343 br343 hr343 s344 Is344 Gs344 tr343 pcs344 => h_Kv ?_)
        have Zs344 : ∀ i, s344 0 i = s0 0 i := fun i => (Gs344 0 i rfl).trans (Zs312 i)
        rcases pcs344 with pcs344
        · refine h_ceq (tg := 1441) (pc' := 1307) rfl rfl rfl hr311 hr343 (fun c345 => ?_) (fun c345 => absurd c345 (by omega))
          exact kk _ Is344 
    · refine h_aload_n (pc' := 1286) rfl rfl rfl ?_
      refine h_aload_n (pc' := 1287) rfl rfl rfl ?_
      refine h_iload_n (pc' := 1288) rfl rfl rfl ?_
      refine h_iconst (pc' := 1289) (x := (Int32.ofInt 1)) rfl rfl rfl ?_
      refine h_iadd (pc' := 1290) rfl rfl hy3 ci_1 rfl (by omega) (by omega) (fun z346 hz346 => ?_)
      refine h_iald (pc' := 1291) (v := s0 0 (b3 + 1)) rfl rfl rfl hz346 (by omega) (by omega) (Zs312 _) (fun z347 hz347 => ?_)
      have tz347 := h_rgv hz347
      refine h_aload_n (pc' := 1292) rfl rfl rfl ?_
      refine h_iload_n (pc' := 1293) rfl rfl rfl ?_
      refine h_iconst (pc' := 1294) (x := (Int32.ofInt 2)) rfl rfl rfl ?_
      refine h_iadd (pc' := 1295) rfl rfl hy3 ci_2 rfl (by omega) (by omega) (fun z348 hz348 => ?_)
      refine h_iald (pc' := 1296) (v := s0 0 (b3 + 2)) rfl rfl rfl hz348 (by omega) (by omega) (Zs312 _) (fun z349 hz349 => ?_)
      have tz349 := h_rgv hz349
      refine h_aload_n (pc' := 1297) rfl rfl rfl ?_
      refine h_iload_n (pc' := 1298) rfl rfl rfl ?_
      refine h_iconst (pc' := 1299) (x := (Int32.ofInt 3)) rfl rfl rfl ?_
      refine h_iadd (pc' := 1300) rfl rfl hy3 ci_3 rfl (by omega) (by omega) (fun z350 hz350 => ?_)
      refine h_iald (pc' := 1301) (v := s0 0 (b3 + 3)) rfl rfl rfl hz350 (by omega) (by omega) (Zs312 _) (fun z351 hz351 => ?_)
      have tz351 := h_rgv hz351
      rcases (show ((s0 0 (b3 + 1)) = 0) ∨ ((s0 0 (b3 + 1)) = 1) ∨ ((s0 0 (b3 + 1)) = 2) ∨ ((s0 0 (b3 + 1)) = 3) ∨ ((s0 0 (b3 + 1)) ≤ (-1)) ∨ (4 ≤ (s0 0 (b3 + 1))) by omega) with c352 | c352 | c352 | c352 | c352 | c352
      · have qz347 : z347 = (Int32.ofInt 0) := h_lit (show z347.toInt = 0 by omega) ci_0
        subst qz347
        refine h_call (sp := false) (pc' := 1304) (M := [(0, .ref 98), (1, .int (Int32.ofInt 0)), (2, .int z349), (3, .int z351)]) rfl rfl rfl rfl rfl rfl rfl rfl ?_
        refine u_sheetM0 _ Is312  z349 _ hz349 z351 _ hz351 (fun r353 br353 hr353 s354 Is354 Gs354 tr353 pcs354 => h_Kv ?_)
        have Zs354 : ∀ i, s354 0 i = s0 0 i := fun i => (Gs354 0 i rfl).trans (Zs312 i)
        rcases pcs354 with pcs354 | pcs354 | pcs354
        · refine h_ceq (tg := 1441) (pc' := 1307) rfl rfl rfl hr311 hr353 (fun c355 => absurd c355 (by omega)) (fun c355 => ?_)
          refine h_iconst (pc' := 1308) (x := (Int32.ofInt 0)) rfl rfl rfl ?_
          exfalso
          omega
        · refine h_ceq (tg := 1441) (pc' := 1307) rfl rfl rfl hr311 hr353 (fun c356 => ?_) (fun c356 => absurd c356 (by omega))
          exact kk _ Is354 
        · refine h_ceq (tg := 1441) (pc' := 1307) rfl rfl rfl hr311 hr353 (fun c357 => absurd c357 (by omega)) (fun c357 => ?_)
          refine h_iconst (pc' := 1308) (x := (Int32.ofInt 0)) rfl rfl rfl ?_
          exfalso
          omega
      · have qz347 : z347 = (Int32.ofInt 1) := h_lit (show z347.toInt = 1 by omega) ci_1
        subst qz347
        refine h_call (sp := false) (pc' := 1304) (M := [(0, .ref 98), (1, .int (Int32.ofInt 1)), (2, .int z349), (3, .int z351)]) rfl rfl rfl rfl rfl rfl rfl rfl ?_
        refine u_sheetM1 _ Is312  z349 _ hz349 z351 _ hz351 (fun r358 br358 hr358 s359 Is359 Gs359 tr358 pcs359 => h_Kv ?_)
        have Zs359 : ∀ i, s359 0 i = s0 0 i := fun i => (Gs359 0 i rfl).trans (Zs312 i)
        rcases pcs359 with pcs359 | pcs359 | pcs359
        · refine h_ceq (tg := 1441) (pc' := 1307) rfl rfl rfl hr311 hr358 (fun c360 => absurd c360 (by omega)) (fun c360 => ?_)
          refine h_iconst (pc' := 1308) (x := (Int32.ofInt 0)) rfl rfl rfl ?_
          exfalso
          omega
        · refine h_ceq (tg := 1441) (pc' := 1307) rfl rfl rfl hr311 hr358 (fun c361 => ?_) (fun c361 => absurd c361 (by omega))
          exact kk _ Is359 
        · refine h_ceq (tg := 1441) (pc' := 1307) rfl rfl rfl hr311 hr358 (fun c362 => absurd c362 (by omega)) (fun c362 => ?_)
          refine h_iconst (pc' := 1308) (x := (Int32.ofInt 0)) rfl rfl rfl ?_
          exfalso
          omega
      · have qz347 : z347 = (Int32.ofInt 2) := h_lit (show z347.toInt = 2 by omega) ci_2
        subst qz347
        refine h_call (sp := false) (pc' := 1304) (M := [(0, .ref 98), (1, .int (Int32.ofInt 2)), (2, .int z349), (3, .int z351)]) rfl rfl rfl rfl rfl rfl rfl rfl ?_
        refine u_sheetM2 _ Is312  z349 _ hz349 z351 _ hz351 (fun r363 br363 hr363 s364 Is364 Gs364 tr363 pcs364 => h_Kv ?_)
        have Zs364 : ∀ i, s364 0 i = s0 0 i := fun i => (Gs364 0 i rfl).trans (Zs312 i)
        rcases pcs364 with pcs364 | pcs364 | pcs364
        · refine h_ceq (tg := 1441) (pc' := 1307) rfl rfl rfl hr311 hr363 (fun c365 => absurd c365 (by omega)) (fun c365 => ?_)
          refine h_iconst (pc' := 1308) (x := (Int32.ofInt 0)) rfl rfl rfl ?_
          exfalso
          omega
        · refine h_ceq (tg := 1441) (pc' := 1307) rfl rfl rfl hr311 hr363 (fun c366 => ?_) (fun c366 => absurd c366 (by omega))
          exact kk _ Is364 
        · refine h_ceq (tg := 1441) (pc' := 1307) rfl rfl rfl hr311 hr363 (fun c367 => absurd c367 (by omega)) (fun c367 => ?_)
          refine h_iconst (pc' := 1308) (x := (Int32.ofInt 0)) rfl rfl rfl ?_
          exfalso
          omega
      · have qz347 : z347 = (Int32.ofInt 3) := h_lit (show z347.toInt = 3 by omega) ci_3
        subst qz347
        refine h_call (sp := false) (pc' := 1304) (M := [(0, .ref 98), (1, .int (Int32.ofInt 3)), (2, .int z349), (3, .int z351)]) rfl rfl rfl rfl rfl rfl rfl rfl ?_
        refine u_sheetM3 _ Is312  z349 _ hz349 z351 _ hz351 (fun r368 br368 hr368 s369 Is369 Gs369 tr368 pcs369 => h_Kv ?_)
        have Zs369 : ∀ i, s369 0 i = s0 0 i := fun i => (Gs369 0 i rfl).trans (Zs312 i)
        rcases pcs369 with pcs369 | pcs369 | pcs369
        · refine h_ceq (tg := 1441) (pc' := 1307) rfl rfl rfl hr311 hr368 (fun c370 => absurd c370 (by omega)) (fun c370 => ?_)
          refine h_iconst (pc' := 1308) (x := (Int32.ofInt 0)) rfl rfl rfl ?_
          exfalso
          omega
        · refine h_ceq (tg := 1441) (pc' := 1307) rfl rfl rfl hr311 hr368 (fun c371 => ?_) (fun c371 => absurd c371 (by omega))
          exact kk _ Is369 
        · refine h_ceq (tg := 1441) (pc' := 1307) rfl rfl rfl hr311 hr368 (fun c372 => absurd c372 (by omega)) (fun c372 => ?_)
          refine h_iconst (pc' := 1308) (x := (Int32.ofInt 0)) rfl rfl rfl ?_
          exfalso
          omega
      · refine h_call (sp := false) (pc' := 1304) (M := [(0, .ref 98), (1, .int z347), (2, .int z349), (3, .int z351)]) rfl rfl rfl rfl rfl rfl rfl rfl ?_
        refine u_sheetMn _ Is312 z347 _ hz347 (by omega) z349 _ hz349 z351 _ hz351 (fun r373 br373 hr373 s374 Is374 Gs374 tr373 pcs374 => h_Kv ?_)
        have Zs374 : ∀ i, s374 0 i = s0 0 i := fun i => (Gs374 0 i rfl).trans (Zs312 i)
        rcases pcs374 with pcs374
        · refine h_ceq (tg := 1441) (pc' := 1307) rfl rfl rfl hr311 hr373 (fun c375 => absurd c375 (by omega)) (fun c375 => ?_)
          refine h_iconst (pc' := 1308) (x := (Int32.ofInt 0)) rfl rfl rfl ?_
          exfalso
          omega
      · refine h_call (sp := false) (pc' := 1304) (M := [(0, .ref 98), (1, .int z347), (2, .int z349), (3, .int z351)]) rfl rfl rfl rfl rfl rfl rfl rfl ?_
        refine u_sheetMp _ Is312 z347 _ hz347 (by omega) z349 _ hz349 z351 _ hz351 (fun r376 br376 hr376 s377 Is377 Gs377 tr376 pcs377 => h_Kv ?_)
        have Zs377 : ∀ i, s377 0 i = s0 0 i := fun i => (Gs377 0 i rfl).trans (Zs312 i)
        rcases pcs377 with pcs377
        · refine h_ceq (tg := 1441) (pc' := 1307) rfl rfl rfl hr311 hr376 (fun c378 => absurd c378 (by omega)) (fun c378 => ?_)
          refine h_iconst (pc' := 1308) (x := (Int32.ofInt 0)) rfl rfl rfl ?_
          exfalso
          omega
    · refine h_aload_n (pc' := 1286) rfl rfl rfl ?_
      refine h_aload_n (pc' := 1287) rfl rfl rfl ?_
      refine h_iload_n (pc' := 1288) rfl rfl rfl ?_
      refine h_iconst (pc' := 1289) (x := (Int32.ofInt 1)) rfl rfl rfl ?_
      refine h_iadd (pc' := 1290) rfl rfl hy3 ci_1 rfl (by omega) (by omega) (fun z379 hz379 => ?_)
      refine h_iald (pc' := 1291) (v := s0 0 (b3 + 1)) rfl rfl rfl hz379 (by omega) (by omega) (Zs312 _) (fun z380 hz380 => ?_)
      have tz380 := h_rgv hz380
      refine h_aload_n (pc' := 1292) rfl rfl rfl ?_
      refine h_iload_n (pc' := 1293) rfl rfl rfl ?_
      refine h_iconst (pc' := 1294) (x := (Int32.ofInt 2)) rfl rfl rfl ?_
      refine h_iadd (pc' := 1295) rfl rfl hy3 ci_2 rfl (by omega) (by omega) (fun z381 hz381 => ?_)
      refine h_iald (pc' := 1296) (v := s0 0 (b3 + 2)) rfl rfl rfl hz381 (by omega) (by omega) (Zs312 _) (fun z382 hz382 => ?_)
      have tz382 := h_rgv hz382
      refine h_aload_n (pc' := 1297) rfl rfl rfl ?_
      refine h_iload_n (pc' := 1298) rfl rfl rfl ?_
      refine h_iconst (pc' := 1299) (x := (Int32.ofInt 3)) rfl rfl rfl ?_
      refine h_iadd (pc' := 1300) rfl rfl hy3 ci_3 rfl (by omega) (by omega) (fun z383 hz383 => ?_)
      refine h_iald (pc' := 1301) (v := s0 0 (b3 + 3)) rfl rfl rfl hz383 (by omega) (by omega) (Zs312 _) (fun z384 hz384 => ?_)
      have tz384 := h_rgv hz384
      rcases (show ((s0 0 (b3 + 1)) = 0) ∨ ((s0 0 (b3 + 1)) = 1) ∨ ((s0 0 (b3 + 1)) = 2) ∨ ((s0 0 (b3 + 1)) = 3) ∨ ((s0 0 (b3 + 1)) ≤ (-1)) ∨ (4 ≤ (s0 0 (b3 + 1))) by omega) with c385 | c385 | c385 | c385 | c385 | c385
      · have qz380 : z380 = (Int32.ofInt 0) := h_lit (show z380.toInt = 0 by omega) ci_0
        subst qz380
        refine h_call (sp := false) (pc' := 1304) (M := [(0, .ref 98), (1, .int (Int32.ofInt 0)), (2, .int z382), (3, .int z384)]) rfl rfl rfl rfl rfl rfl rfl rfl ?_
        refine u_sheetM0 _ Is312  z382 _ hz382 z384 _ hz384 (fun r386 br386 hr386 s387 Is387 Gs387 tr386 pcs387 => h_Kv ?_)
        have Zs387 : ∀ i, s387 0 i = s0 0 i := fun i => (Gs387 0 i rfl).trans (Zs312 i)
        rcases pcs387 with pcs387 | pcs387 | pcs387
        · refine h_ceq (tg := 1441) (pc' := 1307) rfl rfl rfl hr311 hr386 (fun c388 => absurd c388 (by omega)) (fun c388 => ?_)
          refine h_iconst (pc' := 1308) (x := (Int32.ofInt 0)) rfl rfl rfl ?_
          exfalso
          omega
        · refine h_ceq (tg := 1441) (pc' := 1307) rfl rfl rfl hr311 hr386 (fun c389 => absurd c389 (by omega)) (fun c389 => ?_)
          refine h_iconst (pc' := 1308) (x := (Int32.ofInt 0)) rfl rfl rfl ?_
          exfalso
          omega
        · refine h_ceq (tg := 1441) (pc' := 1307) rfl rfl rfl hr311 hr386 (fun c390 => ?_) (fun c390 => absurd c390 (by omega))
          exact kk _ Is387 
      · have qz380 : z380 = (Int32.ofInt 1) := h_lit (show z380.toInt = 1 by omega) ci_1
        subst qz380
        refine h_call (sp := false) (pc' := 1304) (M := [(0, .ref 98), (1, .int (Int32.ofInt 1)), (2, .int z382), (3, .int z384)]) rfl rfl rfl rfl rfl rfl rfl rfl ?_
        refine u_sheetM1 _ Is312  z382 _ hz382 z384 _ hz384 (fun r391 br391 hr391 s392 Is392 Gs392 tr391 pcs392 => h_Kv ?_)
        have Zs392 : ∀ i, s392 0 i = s0 0 i := fun i => (Gs392 0 i rfl).trans (Zs312 i)
        rcases pcs392 with pcs392 | pcs392 | pcs392
        · refine h_ceq (tg := 1441) (pc' := 1307) rfl rfl rfl hr311 hr391 (fun c393 => absurd c393 (by omega)) (fun c393 => ?_)
          refine h_iconst (pc' := 1308) (x := (Int32.ofInt 0)) rfl rfl rfl ?_
          exfalso
          omega
        · refine h_ceq (tg := 1441) (pc' := 1307) rfl rfl rfl hr311 hr391 (fun c394 => absurd c394 (by omega)) (fun c394 => ?_)
          refine h_iconst (pc' := 1308) (x := (Int32.ofInt 0)) rfl rfl rfl ?_
          exfalso
          omega
        · refine h_ceq (tg := 1441) (pc' := 1307) rfl rfl rfl hr311 hr391 (fun c395 => ?_) (fun c395 => absurd c395 (by omega))
          exact kk _ Is392 
      · have qz380 : z380 = (Int32.ofInt 2) := h_lit (show z380.toInt = 2 by omega) ci_2
        subst qz380
        refine h_call (sp := false) (pc' := 1304) (M := [(0, .ref 98), (1, .int (Int32.ofInt 2)), (2, .int z382), (3, .int z384)]) rfl rfl rfl rfl rfl rfl rfl rfl ?_
        refine u_sheetM2 _ Is312  z382 _ hz382 z384 _ hz384 (fun r396 br396 hr396 s397 Is397 Gs397 tr396 pcs397 => h_Kv ?_)
        have Zs397 : ∀ i, s397 0 i = s0 0 i := fun i => (Gs397 0 i rfl).trans (Zs312 i)
        rcases pcs397 with pcs397 | pcs397 | pcs397
        · refine h_ceq (tg := 1441) (pc' := 1307) rfl rfl rfl hr311 hr396 (fun c398 => absurd c398 (by omega)) (fun c398 => ?_)
          refine h_iconst (pc' := 1308) (x := (Int32.ofInt 0)) rfl rfl rfl ?_
          exfalso
          omega
        · refine h_ceq (tg := 1441) (pc' := 1307) rfl rfl rfl hr311 hr396 (fun c399 => absurd c399 (by omega)) (fun c399 => ?_)
          refine h_iconst (pc' := 1308) (x := (Int32.ofInt 0)) rfl rfl rfl ?_
          exfalso
          omega
        · refine h_ceq (tg := 1441) (pc' := 1307) rfl rfl rfl hr311 hr396 (fun c400 => ?_) (fun c400 => absurd c400 (by omega))
          exact kk _ Is397 
      · have qz380 : z380 = (Int32.ofInt 3) := h_lit (show z380.toInt = 3 by omega) ci_3
        subst qz380
        refine h_call (sp := false) (pc' := 1304) (M := [(0, .ref 98), (1, .int (Int32.ofInt 3)), (2, .int z382), (3, .int z384)]) rfl rfl rfl rfl rfl rfl rfl rfl ?_
        refine u_sheetM3 _ Is312  z382 _ hz382 z384 _ hz384 (fun r401 br401 hr401 s402 Is402 Gs402 tr401 pcs402 => h_Kv ?_)
        have Zs402 : ∀ i, s402 0 i = s0 0 i := fun i => (Gs402 0 i rfl).trans (Zs312 i)
        rcases pcs402 with pcs402 | pcs402 | pcs402
        · refine h_ceq (tg := 1441) (pc' := 1307) rfl rfl rfl hr311 hr401 (fun c403 => absurd c403 (by omega)) (fun c403 => ?_)
          refine h_iconst (pc' := 1308) (x := (Int32.ofInt 0)) rfl rfl rfl ?_
          exfalso
          omega
        · refine h_ceq (tg := 1441) (pc' := 1307) rfl rfl rfl hr311 hr401 (fun c404 => absurd c404 (by omega)) (fun c404 => ?_)
          refine h_iconst (pc' := 1308) (x := (Int32.ofInt 0)) rfl rfl rfl ?_
          exfalso
          omega
        · refine h_ceq (tg := 1441) (pc' := 1307) rfl rfl rfl hr311 hr401 (fun c405 => ?_) (fun c405 => absurd c405 (by omega))
          exact kk _ Is402 
      · refine h_call (sp := false) (pc' := 1304) (M := [(0, .ref 98), (1, .int z380), (2, .int z382), (3, .int z384)]) rfl rfl rfl rfl rfl rfl rfl rfl ?_
        refine u_sheetMn _ Is312 z380 _ hz380 (by omega) z382 _ hz382 z384 _ hz384 (fun r406 br406 hr406 s407 Is407 Gs407 tr406 pcs407 => h_Kv ?_)
        have Zs407 : ∀ i, s407 0 i = s0 0 i := fun i => (Gs407 0 i rfl).trans (Zs312 i)
        rcases pcs407 with pcs407
        · refine h_ceq (tg := 1441) (pc' := 1307) rfl rfl rfl hr311 hr406 (fun c408 => absurd c408 (by omega)) (fun c408 => ?_)
          refine h_iconst (pc' := 1308) (x := (Int32.ofInt 0)) rfl rfl rfl ?_
          exfalso
          omega
      · refine h_call (sp := false) (pc' := 1304) (M := [(0, .ref 98), (1, .int z380), (2, .int z382), (3, .int z384)]) rfl rfl rfl rfl rfl rfl rfl rfl ?_
        refine u_sheetMp _ Is312 z380 _ hz380 (by omega) z382 _ hz382 z384 _ hz384 (fun r409 br409 hr409 s410 Is410 Gs410 tr409 pcs410 => h_Kv ?_)
        have Zs410 : ∀ i, s410 0 i = s0 0 i := fun i => (Gs410 0 i rfl).trans (Zs312 i)
        rcases pcs410 with pcs410
        · refine h_ceq (tg := 1441) (pc' := 1307) rfl rfl rfl hr311 hr409 (fun c411 => absurd c411 (by omega)) (fun c411 => ?_)
          refine h_iconst (pc' := 1308) (x := (Int32.ofInt 0)) rfl rfl rfl ?_
          exfalso
          omega
  · refine h_call (sp := false) (pc' := 1285) (M := [(0, .ref 9), (1, .int z2), (2, .int z4), (3, .int z6)]) rfl rfl rfl rfl rfl rfl rfl rfl ?_
    refine u_sheetXn _ I0 z2 _ hz2 (by omega) z4 _ hz4 z6 _ hz6 (fun r412 br412 hr412 s413 Is413 Gs413 tr412 pcs413 => h_Kv ?_)
    have Zs413 : ∀ i, s413 0 i = s0 0 i := fun i => (Gs413 0 i rfl).trans rfl
    rcases pcs413 with pcs413
    · refine h_aload_n (pc' := 1286) rfl rfl rfl ?_
      refine h_aload_n (pc' := 1287) rfl rfl rfl ?_
      refine h_iload_n (pc' := 1288) rfl rfl rfl ?_
      refine h_iconst (pc' := 1289) (x := (Int32.ofInt 1)) rfl rfl rfl ?_
      refine h_iadd (pc' := 1290) rfl rfl hy3 ci_1 rfl (by omega) (by omega) (fun z414 hz414 => ?_)
      refine h_iald (pc' := 1291) (v := s0 0 (b3 + 1)) rfl rfl rfl hz414 (by omega) (by omega) (Zs413 _) (fun z415 hz415 => ?_)
      have tz415 := h_rgv hz415
      refine h_aload_n (pc' := 1292) rfl rfl rfl ?_
      refine h_iload_n (pc' := 1293) rfl rfl rfl ?_
      refine h_iconst (pc' := 1294) (x := (Int32.ofInt 2)) rfl rfl rfl ?_
      refine h_iadd (pc' := 1295) rfl rfl hy3 ci_2 rfl (by omega) (by omega) (fun z416 hz416 => ?_)
      refine h_iald (pc' := 1296) (v := s0 0 (b3 + 2)) rfl rfl rfl hz416 (by omega) (by omega) (Zs413 _) (fun z417 hz417 => ?_)
      have tz417 := h_rgv hz417
      refine h_aload_n (pc' := 1297) rfl rfl rfl ?_
      refine h_iload_n (pc' := 1298) rfl rfl rfl ?_
      refine h_iconst (pc' := 1299) (x := (Int32.ofInt 3)) rfl rfl rfl ?_
      refine h_iadd (pc' := 1300) rfl rfl hy3 ci_3 rfl (by omega) (by omega) (fun z418 hz418 => ?_)
      refine h_iald (pc' := 1301) (v := s0 0 (b3 + 3)) rfl rfl rfl hz418 (by omega) (by omega) (Zs413 _) (fun z419 hz419 => ?_)
      have tz419 := h_rgv hz419
      rcases (show ((s0 0 (b3 + 1)) = 0) ∨ ((s0 0 (b3 + 1)) = 1) ∨ ((s0 0 (b3 + 1)) = 2) ∨ ((s0 0 (b3 + 1)) = 3) ∨ ((s0 0 (b3 + 1)) ≤ (-1)) ∨ (4 ≤ (s0 0 (b3 + 1))) by omega) with c420 | c420 | c420 | c420 | c420 | c420
      · have qz415 : z415 = (Int32.ofInt 0) := h_lit (show z415.toInt = 0 by omega) ci_0
        subst qz415
        refine h_call (sp := false) (pc' := 1304) (M := [(0, .ref 98), (1, .int (Int32.ofInt 0)), (2, .int z417), (3, .int z419)]) rfl rfl rfl rfl rfl rfl rfl rfl ?_
        refine u_sheetM0 _ Is413  z417 _ hz417 z419 _ hz419 (fun r421 br421 hr421 s422 Is422 Gs422 tr421 pcs422 => h_Kv ?_)
        have Zs422 : ∀ i, s422 0 i = s0 0 i := fun i => (Gs422 0 i rfl).trans (Zs413 i)
        rcases pcs422 with pcs422 | pcs422 | pcs422
        · refine h_ceq (tg := 1441) (pc' := 1307) rfl rfl rfl hr412 hr421 (fun c423 => ?_) (fun c423 => absurd c423 (by omega))
          exact kk _ Is422 
        · refine h_ceq (tg := 1441) (pc' := 1307) rfl rfl rfl hr412 hr421 (fun c424 => absurd c424 (by omega)) (fun c424 => ?_)
          refine h_iconst (pc' := 1308) (x := (Int32.ofInt 0)) rfl rfl rfl ?_
          exfalso
          omega
        · refine h_ceq (tg := 1441) (pc' := 1307) rfl rfl rfl hr412 hr421 (fun c425 => absurd c425 (by omega)) (fun c425 => ?_)
          refine h_iconst (pc' := 1308) (x := (Int32.ofInt 0)) rfl rfl rfl ?_
          exfalso
          omega
      · have qz415 : z415 = (Int32.ofInt 1) := h_lit (show z415.toInt = 1 by omega) ci_1
        subst qz415
        refine h_call (sp := false) (pc' := 1304) (M := [(0, .ref 98), (1, .int (Int32.ofInt 1)), (2, .int z417), (3, .int z419)]) rfl rfl rfl rfl rfl rfl rfl rfl ?_
        refine u_sheetM1 _ Is413  z417 _ hz417 z419 _ hz419 (fun r426 br426 hr426 s427 Is427 Gs427 tr426 pcs427 => h_Kv ?_)
        have Zs427 : ∀ i, s427 0 i = s0 0 i := fun i => (Gs427 0 i rfl).trans (Zs413 i)
        rcases pcs427 with pcs427 | pcs427 | pcs427
        · refine h_ceq (tg := 1441) (pc' := 1307) rfl rfl rfl hr412 hr426 (fun c428 => ?_) (fun c428 => absurd c428 (by omega))
          exact kk _ Is427 
        · refine h_ceq (tg := 1441) (pc' := 1307) rfl rfl rfl hr412 hr426 (fun c429 => absurd c429 (by omega)) (fun c429 => ?_)
          refine h_iconst (pc' := 1308) (x := (Int32.ofInt 0)) rfl rfl rfl ?_
          exfalso
          omega
        · refine h_ceq (tg := 1441) (pc' := 1307) rfl rfl rfl hr412 hr426 (fun c430 => absurd c430 (by omega)) (fun c430 => ?_)
          refine h_iconst (pc' := 1308) (x := (Int32.ofInt 0)) rfl rfl rfl ?_
          exfalso
          omega
      · have qz415 : z415 = (Int32.ofInt 2) := h_lit (show z415.toInt = 2 by omega) ci_2
        subst qz415
        refine h_call (sp := false) (pc' := 1304) (M := [(0, .ref 98), (1, .int (Int32.ofInt 2)), (2, .int z417), (3, .int z419)]) rfl rfl rfl rfl rfl rfl rfl rfl ?_
        refine u_sheetM2 _ Is413  z417 _ hz417 z419 _ hz419 (fun r431 br431 hr431 s432 Is432 Gs432 tr431 pcs432 => h_Kv ?_)
        have Zs432 : ∀ i, s432 0 i = s0 0 i := fun i => (Gs432 0 i rfl).trans (Zs413 i)
        rcases pcs432 with pcs432 | pcs432 | pcs432
        · refine h_ceq (tg := 1441) (pc' := 1307) rfl rfl rfl hr412 hr431 (fun c433 => ?_) (fun c433 => absurd c433 (by omega))
          exact kk _ Is432 
        · refine h_ceq (tg := 1441) (pc' := 1307) rfl rfl rfl hr412 hr431 (fun c434 => absurd c434 (by omega)) (fun c434 => ?_)
          refine h_iconst (pc' := 1308) (x := (Int32.ofInt 0)) rfl rfl rfl ?_
          exfalso
          omega
        · refine h_ceq (tg := 1441) (pc' := 1307) rfl rfl rfl hr412 hr431 (fun c435 => absurd c435 (by omega)) (fun c435 => ?_)
          refine h_iconst (pc' := 1308) (x := (Int32.ofInt 0)) rfl rfl rfl ?_
          exfalso
          omega
      · have qz415 : z415 = (Int32.ofInt 3) := h_lit (show z415.toInt = 3 by omega) ci_3
        subst qz415
        refine h_call (sp := false) (pc' := 1304) (M := [(0, .ref 98), (1, .int (Int32.ofInt 3)), (2, .int z417), (3, .int z419)]) rfl rfl rfl rfl rfl rfl rfl rfl ?_
        refine u_sheetM3 _ Is413  z417 _ hz417 z419 _ hz419 (fun r436 br436 hr436 s437 Is437 Gs437 tr436 pcs437 => h_Kv ?_)
        have Zs437 : ∀ i, s437 0 i = s0 0 i := fun i => (Gs437 0 i rfl).trans (Zs413 i)
        rcases pcs437 with pcs437 | pcs437 | pcs437
        · refine h_ceq (tg := 1441) (pc' := 1307) rfl rfl rfl hr412 hr436 (fun c438 => ?_) (fun c438 => absurd c438 (by omega))
          exact kk _ Is437 
        · refine h_ceq (tg := 1441) (pc' := 1307) rfl rfl rfl hr412 hr436 (fun c439 => absurd c439 (by omega)) (fun c439 => ?_)
          refine h_iconst (pc' := 1308) (x := (Int32.ofInt 0)) rfl rfl rfl ?_
          exfalso
          omega
        · refine h_ceq (tg := 1441) (pc' := 1307) rfl rfl rfl hr412 hr436 (fun c440 => absurd c440 (by omega)) (fun c440 => ?_)
          refine h_iconst (pc' := 1308) (x := (Int32.ofInt 0)) rfl rfl rfl ?_
          exfalso
          omega
      · refine h_call (sp := false) (pc' := 1304) (M := [(0, .ref 98), (1, .int z415), (2, .int z417), (3, .int z419)]) rfl rfl rfl rfl rfl rfl rfl rfl ?_
        refine u_sheetMn _ Is413 z415 _ hz415 (by omega) z417 _ hz417 z419 _ hz419 (fun r441 br441 hr441 s442 Is442 Gs442 tr441 pcs442 => h_Kv ?_)
        have Zs442 : ∀ i, s442 0 i = s0 0 i := fun i => (Gs442 0 i rfl).trans (Zs413 i)
        rcases pcs442 with pcs442
        · refine h_ceq (tg := 1441) (pc' := 1307) rfl rfl rfl hr412 hr441 (fun c443 => ?_) (fun c443 => absurd c443 (by omega))
          exact kk _ Is442 
      · refine h_call (sp := false) (pc' := 1304) (M := [(0, .ref 98), (1, .int z415), (2, .int z417), (3, .int z419)]) rfl rfl rfl rfl rfl rfl rfl rfl ?_
        refine u_sheetMp _ Is413 z415 _ hz415 (by omega) z417 _ hz417 z419 _ hz419 (fun r444 br444 hr444 s445 Is445 Gs445 tr444 pcs445 => h_Kv ?_)
        have Zs445 : ∀ i, s445 0 i = s0 0 i := fun i => (Gs445 0 i rfl).trans (Zs413 i)
        rcases pcs445 with pcs445
        · refine h_ceq (tg := 1441) (pc' := 1307) rfl rfl rfl hr412 hr444 (fun c446 => ?_) (fun c446 => absurd c446 (by omega))
          exact kk _ Is445 
  · refine h_call (sp := false) (pc' := 1285) (M := [(0, .ref 9), (1, .int z2), (2, .int z4), (3, .int z6)]) rfl rfl rfl rfl rfl rfl rfl rfl ?_
    refine u_sheetXp _ I0 z2 _ hz2 (by omega) z4 _ hz4 z6 _ hz6 (fun r447 br447 hr447 s448 Is448 Gs448 tr447 pcs448 => h_Kv ?_)
    have Zs448 : ∀ i, s448 0 i = s0 0 i := fun i => (Gs448 0 i rfl).trans rfl
    rcases pcs448 with pcs448
    · refine h_aload_n (pc' := 1286) rfl rfl rfl ?_
      refine h_aload_n (pc' := 1287) rfl rfl rfl ?_
      refine h_iload_n (pc' := 1288) rfl rfl rfl ?_
      refine h_iconst (pc' := 1289) (x := (Int32.ofInt 1)) rfl rfl rfl ?_
      refine h_iadd (pc' := 1290) rfl rfl hy3 ci_1 rfl (by omega) (by omega) (fun z449 hz449 => ?_)
      refine h_iald (pc' := 1291) (v := s0 0 (b3 + 1)) rfl rfl rfl hz449 (by omega) (by omega) (Zs448 _) (fun z450 hz450 => ?_)
      have tz450 := h_rgv hz450
      refine h_aload_n (pc' := 1292) rfl rfl rfl ?_
      refine h_iload_n (pc' := 1293) rfl rfl rfl ?_
      refine h_iconst (pc' := 1294) (x := (Int32.ofInt 2)) rfl rfl rfl ?_
      refine h_iadd (pc' := 1295) rfl rfl hy3 ci_2 rfl (by omega) (by omega) (fun z451 hz451 => ?_)
      refine h_iald (pc' := 1296) (v := s0 0 (b3 + 2)) rfl rfl rfl hz451 (by omega) (by omega) (Zs448 _) (fun z452 hz452 => ?_)
      have tz452 := h_rgv hz452
      refine h_aload_n (pc' := 1297) rfl rfl rfl ?_
      refine h_iload_n (pc' := 1298) rfl rfl rfl ?_
      refine h_iconst (pc' := 1299) (x := (Int32.ofInt 3)) rfl rfl rfl ?_
      refine h_iadd (pc' := 1300) rfl rfl hy3 ci_3 rfl (by omega) (by omega) (fun z453 hz453 => ?_)
      refine h_iald (pc' := 1301) (v := s0 0 (b3 + 3)) rfl rfl rfl hz453 (by omega) (by omega) (Zs448 _) (fun z454 hz454 => ?_)
      have tz454 := h_rgv hz454
      rcases (show ((s0 0 (b3 + 1)) = 0) ∨ ((s0 0 (b3 + 1)) = 1) ∨ ((s0 0 (b3 + 1)) = 2) ∨ ((s0 0 (b3 + 1)) = 3) ∨ ((s0 0 (b3 + 1)) ≤ (-1)) ∨ (4 ≤ (s0 0 (b3 + 1))) by omega) with c455 | c455 | c455 | c455 | c455 | c455
      · have qz450 : z450 = (Int32.ofInt 0) := h_lit (show z450.toInt = 0 by omega) ci_0
        subst qz450
        refine h_call (sp := false) (pc' := 1304) (M := [(0, .ref 98), (1, .int (Int32.ofInt 0)), (2, .int z452), (3, .int z454)]) rfl rfl rfl rfl rfl rfl rfl rfl ?_
        refine u_sheetM0 _ Is448  z452 _ hz452 z454 _ hz454 (fun r456 br456 hr456 s457 Is457 Gs457 tr456 pcs457 => h_Kv ?_)
        have Zs457 : ∀ i, s457 0 i = s0 0 i := fun i => (Gs457 0 i rfl).trans (Zs448 i)
        rcases pcs457 with pcs457 | pcs457 | pcs457
        · refine h_ceq (tg := 1441) (pc' := 1307) rfl rfl rfl hr447 hr456 (fun c458 => ?_) (fun c458 => absurd c458 (by omega))
          exact kk _ Is457 
        · refine h_ceq (tg := 1441) (pc' := 1307) rfl rfl rfl hr447 hr456 (fun c459 => absurd c459 (by omega)) (fun c459 => ?_)
          refine h_iconst (pc' := 1308) (x := (Int32.ofInt 0)) rfl rfl rfl ?_
          exfalso
          omega
        · refine h_ceq (tg := 1441) (pc' := 1307) rfl rfl rfl hr447 hr456 (fun c460 => absurd c460 (by omega)) (fun c460 => ?_)
          refine h_iconst (pc' := 1308) (x := (Int32.ofInt 0)) rfl rfl rfl ?_
          exfalso
          omega
      · have qz450 : z450 = (Int32.ofInt 1) := h_lit (show z450.toInt = 1 by omega) ci_1
        subst qz450
        refine h_call (sp := false) (pc' := 1304) (M := [(0, .ref 98), (1, .int (Int32.ofInt 1)), (2, .int z452), (3, .int z454)]) rfl rfl rfl rfl rfl rfl rfl rfl ?_
        refine u_sheetM1 _ Is448  z452 _ hz452 z454 _ hz454 (fun r461 br461 hr461 s462 Is462 Gs462 tr461 pcs462 => h_Kv ?_)
        have Zs462 : ∀ i, s462 0 i = s0 0 i := fun i => (Gs462 0 i rfl).trans (Zs448 i)
        rcases pcs462 with pcs462 | pcs462 | pcs462
        · refine h_ceq (tg := 1441) (pc' := 1307) rfl rfl rfl hr447 hr461 (fun c463 => ?_) (fun c463 => absurd c463 (by omega))
          exact kk _ Is462 
        · refine h_ceq (tg := 1441) (pc' := 1307) rfl rfl rfl hr447 hr461 (fun c464 => absurd c464 (by omega)) (fun c464 => ?_)
          refine h_iconst (pc' := 1308) (x := (Int32.ofInt 0)) rfl rfl rfl ?_
          exfalso
          omega
        · refine h_ceq (tg := 1441) (pc' := 1307) rfl rfl rfl hr447 hr461 (fun c465 => absurd c465 (by omega)) (fun c465 => ?_)
          refine h_iconst (pc' := 1308) (x := (Int32.ofInt 0)) rfl rfl rfl ?_
          exfalso
          omega
      · have qz450 : z450 = (Int32.ofInt 2) := h_lit (show z450.toInt = 2 by omega) ci_2
        subst qz450
        refine h_call (sp := false) (pc' := 1304) (M := [(0, .ref 98), (1, .int (Int32.ofInt 2)), (2, .int z452), (3, .int z454)]) rfl rfl rfl rfl rfl rfl rfl rfl ?_
        refine u_sheetM2 _ Is448  z452 _ hz452 z454 _ hz454 (fun r466 br466 hr466 s467 Is467 Gs467 tr466 pcs467 => h_Kv ?_)
        have Zs467 : ∀ i, s467 0 i = s0 0 i := fun i => (Gs467 0 i rfl).trans (Zs448 i)
        rcases pcs467 with pcs467 | pcs467 | pcs467
        · refine h_ceq (tg := 1441) (pc' := 1307) rfl rfl rfl hr447 hr466 (fun c468 => ?_) (fun c468 => absurd c468 (by omega))
          exact kk _ Is467 
        · refine h_ceq (tg := 1441) (pc' := 1307) rfl rfl rfl hr447 hr466 (fun c469 => absurd c469 (by omega)) (fun c469 => ?_)
          refine h_iconst (pc' := 1308) (x := (Int32.ofInt 0)) rfl rfl rfl ?_
          exfalso
          omega
        · refine h_ceq (tg := 1441) (pc' := 1307) rfl rfl rfl hr447 hr466 (fun c470 => absurd c470 (by omega)) (fun c470 => ?_)
          refine h_iconst (pc' := 1308) (x := (Int32.ofInt 0)) rfl rfl rfl ?_
          exfalso
          omega
      · have qz450 : z450 = (Int32.ofInt 3) := h_lit (show z450.toInt = 3 by omega) ci_3
        subst qz450
        refine h_call (sp := false) (pc' := 1304) (M := [(0, .ref 98), (1, .int (Int32.ofInt 3)), (2, .int z452), (3, .int z454)]) rfl rfl rfl rfl rfl rfl rfl rfl ?_
        refine u_sheetM3 _ Is448  z452 _ hz452 z454 _ hz454 (fun r471 br471 hr471 s472 Is472 Gs472 tr471 pcs472 => h_Kv ?_)
        have Zs472 : ∀ i, s472 0 i = s0 0 i := fun i => (Gs472 0 i rfl).trans (Zs448 i)
        rcases pcs472 with pcs472 | pcs472 | pcs472
        · refine h_ceq (tg := 1441) (pc' := 1307) rfl rfl rfl hr447 hr471 (fun c473 => ?_) (fun c473 => absurd c473 (by omega))
          exact kk _ Is472 
        · refine h_ceq (tg := 1441) (pc' := 1307) rfl rfl rfl hr447 hr471 (fun c474 => absurd c474 (by omega)) (fun c474 => ?_)
          refine h_iconst (pc' := 1308) (x := (Int32.ofInt 0)) rfl rfl rfl ?_
          exfalso
          omega
        · refine h_ceq (tg := 1441) (pc' := 1307) rfl rfl rfl hr447 hr471 (fun c475 => absurd c475 (by omega)) (fun c475 => ?_)
          refine h_iconst (pc' := 1308) (x := (Int32.ofInt 0)) rfl rfl rfl ?_
          exfalso
          omega
      · refine h_call (sp := false) (pc' := 1304) (M := [(0, .ref 98), (1, .int z450), (2, .int z452), (3, .int z454)]) rfl rfl rfl rfl rfl rfl rfl rfl ?_
        refine u_sheetMn _ Is448 z450 _ hz450 (by omega) z452 _ hz452 z454 _ hz454 (fun r476 br476 hr476 s477 Is477 Gs477 tr476 pcs477 => h_Kv ?_)
        have Zs477 : ∀ i, s477 0 i = s0 0 i := fun i => (Gs477 0 i rfl).trans (Zs448 i)
        rcases pcs477 with pcs477
        · refine h_ceq (tg := 1441) (pc' := 1307) rfl rfl rfl hr447 hr476 (fun c478 => ?_) (fun c478 => absurd c478 (by omega))
          exact kk _ Is477 
      · refine h_call (sp := false) (pc' := 1304) (M := [(0, .ref 98), (1, .int z450), (2, .int z452), (3, .int z454)]) rfl rfl rfl rfl rfl rfl rfl rfl ?_
        refine u_sheetMp _ Is448 z450 _ hz450 (by omega) z452 _ hz452 z454 _ hz454 (fun r479 br479 hr479 s480 Is480 Gs480 tr479 pcs480 => h_Kv ?_)
        have Zs480 : ∀ i, s480 0 i = s0 0 i := fun i => (Gs480 0 i rfl).trans (Zs448 i)
        rcases pcs480 with pcs480
        · refine h_ceq (tg := 1441) (pc' := 1307) rfl rfl rfl hr447 hr479 (fun c481 => ?_) (fun c481 => absurd c481 (by omega))
          exact kk _ Is480 
theorem g_case_1309 {ns : Nat} (hns : ns ≤ 320) (s0 : h_S) (I0 : h_I s0)  (y3 : Int32) (b3 : Int) (hy3 : y3.toInt = b3) (hr : 0 ≤ b3 ∧ b3 + 5 ≤ ns) {Q : Option Value → h_S → Prop} (kk : ∀ τ, h_I τ → h_T g_P (g_Y ns) 225 1441 [(0, .ref 0), (1, .ref 9), (2, .ref 98), (3, .int y3)] [] τ Q) : h_T g_P (g_Y ns) 225 1309 [(0, .ref 0), (1, .ref 9), (2, .ref 98), (3, .int y3)] [] s0 Q := by
  refine h_aload_n (pc' := 1310) rfl rfl rfl ?_
  refine h_aload_n (pc' := 1311) rfl rfl rfl ?_
  refine h_iload_n (pc' := 1312) rfl rfl rfl ?_
  refine h_iconst (pc' := 1313) (x := (Int32.ofInt 1)) rfl rfl rfl ?_
  refine h_iadd (pc' := 1314) rfl rfl hy3 ci_1 rfl (by omega) (by omega) (fun z1 hz1 => ?_)
  refine h_iald (pc' := 1315) (v := s0 0 (b3 + 1)) rfl rfl rfl hz1 (by omega) (by omega) rfl (fun z2 hz2 => ?_)
  have tz2 := h_rgv hz2
  refine h_aload_n (pc' := 1316) rfl rfl rfl ?_
  refine h_iload_n (pc' := 1317) rfl rfl rfl ?_
  refine h_iconst (pc' := 1318) (x := (Int32.ofInt 2)) rfl rfl rfl ?_
  refine h_iadd (pc' := 1319) rfl rfl hy3 ci_2 rfl (by omega) (by omega) (fun z3 hz3 => ?_)
  refine h_iald (pc' := 1320) (v := s0 0 (b3 + 2)) rfl rfl rfl hz3 (by omega) (by omega) rfl (fun z4 hz4 => ?_)
  have tz4 := h_rgv hz4
  refine h_aload_n (pc' := 1321) rfl rfl rfl ?_
  refine h_iload_n (pc' := 1322) rfl rfl rfl ?_
  refine h_iconst (pc' := 1323) (x := (Int32.ofInt 3)) rfl rfl rfl ?_
  refine h_iadd (pc' := 1324) rfl rfl hy3 ci_3 rfl (by omega) (by omega) (fun z5 hz5 => ?_)
  refine h_iald (pc' := 1325) (v := s0 0 (b3 + 3)) rfl rfl rfl hz5 (by omega) (by omega) rfl (fun z6 hz6 => ?_)
  have tz6 := h_rgv hz6
  refine h_call (sp := false) (pc' := 1328) (M := [(0, .ref 9), (1, .int z2), (2, .int z4), (3, .int z6)]) rfl rfl rfl rfl rfl rfl rfl rfl ?_
  refine w_119_9 _ I0 z2 _ hz2 z4 _ hz4 z6 _ hz6 (fun r7 br7 hr7 s8 Is8 Gs8 tr7 => h_Kv ?_)
  have Zs8 : ∀ i, s8 0 i = s0 0 i := fun i => (Gs8 0 i rfl).trans rfl
  refine h_pop (pc' := 1329) rfl rfl rfl ?_
  refine h_aload_n (pc' := 1330) rfl rfl rfl ?_
  refine h_aload_n (pc' := 1331) rfl rfl rfl ?_
  refine h_iload_n (pc' := 1332) rfl rfl rfl ?_
  refine h_iconst (pc' := 1333) (x := (Int32.ofInt 1)) rfl rfl rfl ?_
  refine h_iadd (pc' := 1334) rfl rfl hy3 ci_1 rfl (by omega) (by omega) (fun z9 hz9 => ?_)
  refine h_iald (pc' := 1335) (v := s0 0 (b3 + 1)) rfl rfl rfl hz9 (by omega) (by omega) (Zs8 _) (fun z10 hz10 => ?_)
  have tz10 := h_rgv hz10
  refine h_aload_n (pc' := 1336) rfl rfl rfl ?_
  refine h_iload_n (pc' := 1337) rfl rfl rfl ?_
  refine h_iconst (pc' := 1338) (x := (Int32.ofInt 2)) rfl rfl rfl ?_
  refine h_iadd (pc' := 1339) rfl rfl hy3 ci_2 rfl (by omega) (by omega) (fun z11 hz11 => ?_)
  refine h_iald (pc' := 1340) (v := s0 0 (b3 + 2)) rfl rfl rfl hz11 (by omega) (by omega) (Zs8 _) (fun z12 hz12 => ?_)
  have tz12 := h_rgv hz12
  refine h_aload_n (pc' := 1341) rfl rfl rfl ?_
  refine h_iload_n (pc' := 1342) rfl rfl rfl ?_
  refine h_iconst (pc' := 1343) (x := (Int32.ofInt 3)) rfl rfl rfl ?_
  refine h_iadd (pc' := 1344) rfl rfl hy3 ci_3 rfl (by omega) (by omega) (fun z13 hz13 => ?_)
  refine h_iald (pc' := 1345) (v := s0 0 (b3 + 3)) rfl rfl rfl hz13 (by omega) (by omega) (Zs8 _) (fun z14 hz14 => ?_)
  have tz14 := h_rgv hz14
  refine h_call (sp := false) (pc' := 1348) (M := [(0, .ref 98), (1, .int z10), (2, .int z12), (3, .int z14)]) rfl rfl rfl rfl rfl rfl rfl rfl ?_
  refine w_221_98 _ Is8 z10 _ hz10 z12 _ hz12 z14 _ hz14 (fun r15 br15 hr15 s16 Is16 Gs16 tr15 => h_Kv ?_)
  have Zs16 : ∀ i, s16 0 i = s0 0 i := fun i => (Gs16 0 i rfl).trans (Zs8 i)
  refine h_pop (pc' := 1349) rfl rfl rfl ?_
  refine h_goto (pc' := 1441) rfl rfl ?_
  exact kk _ Is16 
theorem g_case_1352 {ns : Nat} (hns : ns ≤ 320) (s0 : h_S) (I0 : h_I s0)  (y3 : Int32) (b3 : Int) (hy3 : y3.toInt = b3) (hr : 0 ≤ b3 ∧ b3 + 5 ≤ ns) {Q : Option Value → h_S → Prop} (kk : ∀ τ, h_I τ → h_T g_P (g_Y ns) 225 1441 [(0, .ref 0), (1, .ref 9), (2, .ref 98), (3, .int y3)] [] τ Q) : h_T g_P (g_Y ns) 225 1352 [(0, .ref 0), (1, .ref 9), (2, .ref 98), (3, .int y3)] [] s0 Q := by
  refine h_aload_n (pc' := 1353) rfl rfl rfl ?_
  refine h_aload_n (pc' := 1354) rfl rfl rfl ?_
  refine h_iload_n (pc' := 1355) rfl rfl rfl ?_
  refine h_iconst (pc' := 1356) (x := (Int32.ofInt 1)) rfl rfl rfl ?_
  refine h_iadd (pc' := 1357) rfl rfl hy3 ci_1 rfl (by omega) (by omega) (fun z1 hz1 => ?_)
  refine h_iald (pc' := 1358) (v := s0 0 (b3 + 1)) rfl rfl rfl hz1 (by omega) (by omega) rfl (fun z2 hz2 => ?_)
  have tz2 := h_rgv hz2
  refine h_aload_n (pc' := 1359) rfl rfl rfl ?_
  refine h_iload_n (pc' := 1360) rfl rfl rfl ?_
  refine h_iconst (pc' := 1361) (x := (Int32.ofInt 2)) rfl rfl rfl ?_
  refine h_iadd (pc' := 1362) rfl rfl hy3 ci_2 rfl (by omega) (by omega) (fun z3 hz3 => ?_)
  refine h_iald (pc' := 1363) (v := s0 0 (b3 + 2)) rfl rfl rfl hz3 (by omega) (by omega) rfl (fun z4 hz4 => ?_)
  have tz4 := h_rgv hz4
  refine h_aload_n (pc' := 1364) rfl rfl rfl ?_
  refine h_iload_n (pc' := 1365) rfl rfl rfl ?_
  refine h_iconst (pc' := 1366) (x := (Int32.ofInt 3)) rfl rfl rfl ?_
  refine h_iadd (pc' := 1367) rfl rfl hy3 ci_3 rfl (by omega) (by omega) (fun z5 hz5 => ?_)
  refine h_iald (pc' := 1368) (v := s0 0 (b3 + 3)) rfl rfl rfl hz5 (by omega) (by omega) rfl (fun z6 hz6 => ?_)
  have tz6 := h_rgv hz6
  refine h_aload_n (pc' := 1369) rfl rfl rfl ?_
  refine h_iload_n (pc' := 1370) rfl rfl rfl ?_
  refine h_iconst (pc' := 1371) (x := (Int32.ofInt 4)) rfl rfl rfl ?_
  refine h_iadd (pc' := 1372) rfl rfl hy3 ci_4 rfl (by omega) (by omega) (fun z7 hz7 => ?_)
  refine h_iald (pc' := 1373) (v := s0 0 (b3 + 4)) rfl rfl rfl hz7 (by omega) (by omega) rfl (fun z8 hz8 => ?_)
  have tz8 := h_rgv hz8
  refine h_call (sp := false) (pc' := 1376) (M := [(0, .ref 9), (1, .int z2), (2, .int z4), (3, .int z6), (4, .int z8)]) rfl rfl rfl rfl rfl rfl rfl rfl ?_
  refine w_120_9 _ I0 z2 _ hz2 z4 _ hz4 z6 _ hz6 z8 _ hz8 (fun r9 br9 hr9 s10 Is10 Gs10 tr9 => h_Kv ?_)
  have Zs10 : ∀ i, s10 0 i = s0 0 i := fun i => (Gs10 0 i rfl).trans rfl
  refine h_pop (pc' := 1377) rfl rfl rfl ?_
  refine h_aload_n (pc' := 1378) rfl rfl rfl ?_
  refine h_aload_n (pc' := 1379) rfl rfl rfl ?_
  refine h_iload_n (pc' := 1380) rfl rfl rfl ?_
  refine h_iconst (pc' := 1381) (x := (Int32.ofInt 1)) rfl rfl rfl ?_
  refine h_iadd (pc' := 1382) rfl rfl hy3 ci_1 rfl (by omega) (by omega) (fun z11 hz11 => ?_)
  refine h_iald (pc' := 1383) (v := s0 0 (b3 + 1)) rfl rfl rfl hz11 (by omega) (by omega) (Zs10 _) (fun z12 hz12 => ?_)
  have tz12 := h_rgv hz12
  refine h_aload_n (pc' := 1384) rfl rfl rfl ?_
  refine h_iload_n (pc' := 1385) rfl rfl rfl ?_
  refine h_iconst (pc' := 1386) (x := (Int32.ofInt 2)) rfl rfl rfl ?_
  refine h_iadd (pc' := 1387) rfl rfl hy3 ci_2 rfl (by omega) (by omega) (fun z13 hz13 => ?_)
  refine h_iald (pc' := 1388) (v := s0 0 (b3 + 2)) rfl rfl rfl hz13 (by omega) (by omega) (Zs10 _) (fun z14 hz14 => ?_)
  have tz14 := h_rgv hz14
  refine h_aload_n (pc' := 1389) rfl rfl rfl ?_
  refine h_iload_n (pc' := 1390) rfl rfl rfl ?_
  refine h_iconst (pc' := 1391) (x := (Int32.ofInt 3)) rfl rfl rfl ?_
  refine h_iadd (pc' := 1392) rfl rfl hy3 ci_3 rfl (by omega) (by omega) (fun z15 hz15 => ?_)
  refine h_iald (pc' := 1393) (v := s0 0 (b3 + 3)) rfl rfl rfl hz15 (by omega) (by omega) (Zs10 _) (fun z16 hz16 => ?_)
  have tz16 := h_rgv hz16
  refine h_aload_n (pc' := 1394) rfl rfl rfl ?_
  refine h_iload_n (pc' := 1395) rfl rfl rfl ?_
  refine h_iconst (pc' := 1396) (x := (Int32.ofInt 4)) rfl rfl rfl ?_
  refine h_iadd (pc' := 1397) rfl rfl hy3 ci_4 rfl (by omega) (by omega) (fun z17 hz17 => ?_)
  refine h_iald (pc' := 1398) (v := s0 0 (b3 + 4)) rfl rfl rfl hz17 (by omega) (by omega) (Zs10 _) (fun z18 hz18 => ?_)
  have tz18 := h_rgv hz18
  refine h_call (sp := false) (pc' := 1401) (M := [(0, .ref 98), (1, .int z12), (2, .int z14), (3, .int z16), (4, .int z18)]) rfl rfl rfl rfl rfl rfl rfl rfl ?_
  refine w_222_98 _ Is10 z12 _ hz12 z14 _ hz14 z16 _ hz16 z18 _ hz18 (fun r19 br19 hr19 s20 Is20 Gs20 tr19 => h_Kv ?_)
  have Zs20 : ∀ i, s20 0 i = s0 0 i := fun i => (Gs20 0 i rfl).trans (Zs10 i)
  refine h_pop (pc' := 1402) rfl rfl rfl ?_
  refine h_goto (pc' := 1441) rfl rfl ?_
  exact kk _ Is20 
theorem g_case_1405 {ns : Nat} (hns : ns ≤ 320) (s0 : h_S) (I0 : h_I s0)  (y3 : Int32) (b3 : Int) (hy3 : y3.toInt = b3) (hr : 0 ≤ b3 ∧ b3 + 5 ≤ ns) {Q : Option Value → h_S → Prop} (kk : ∀ τ, h_I τ → h_T g_P (g_Y ns) 225 1441 [(0, .ref 0), (1, .ref 9), (2, .ref 98), (3, .int y3)] [] τ Q) : h_T g_P (g_Y ns) 225 1405 [(0, .ref 0), (1, .ref 9), (2, .ref 98), (3, .int y3)] [] s0 Q := by
  refine h_aload_n (pc' := 1406) rfl rfl rfl ?_
  refine h_call (sp := false) (pc' := 1409) (M := [(0, .ref 9)]) rfl rfl rfl rfl rfl rfl rfl rfl ?_
  refine w_121_9 _ I0  (fun r1 br1 hr1 s2 Is2 Gs2 => h_Kv ?_)
  have Zs2 : ∀ i, s2 0 i = s0 0 i := fun i => (Gs2 0 i rfl).trans rfl
  refine h_pop (pc' := 1410) rfl rfl rfl ?_
  refine h_aload_n (pc' := 1411) rfl rfl rfl ?_
  refine h_call (sp := false) (pc' := 1414) (M := [(0, .ref 98)]) rfl rfl rfl rfl rfl rfl rfl rfl ?_
  refine w_223_98 _ Is2  (fun r3 br3 hr3 s4 Is4 Gs4 => h_Kv ?_)
  have Zs4 : ∀ i, s4 0 i = s0 0 i := fun i => (Gs4 0 i rfl).trans (Zs2 i)
  refine h_pop (pc' := 1415) rfl rfl rfl ?_
  refine h_goto (pc' := 1441) rfl rfl ?_
  exact kk _ Is4 
theorem g_case_1418 {ns : Nat} (hns : ns ≤ 320) (s0 : h_S) (I0 : h_I s0)  (y3 : Int32) (b3 : Int) (hy3 : y3.toInt = b3) (hr : 0 ≤ b3 ∧ b3 + 5 ≤ ns) {Q : Option Value → h_S → Prop} (kk : ∀ τ, h_I τ → h_T g_P (g_Y ns) 225 1441 [(0, .ref 0), (1, .ref 9), (2, .ref 98), (3, .int y3)] [] τ Q) : h_T g_P (g_Y ns) 225 1418 [(0, .ref 0), (1, .ref 9), (2, .ref 98), (3, .int y3)] [] s0 Q := by
  refine h_aload_n (pc' := 1419) rfl rfl rfl ?_
  refine h_aload_n (pc' := 1420) rfl rfl rfl ?_
  refine h_iload_n (pc' := 1421) rfl rfl rfl ?_
  refine h_iconst (pc' := 1422) (x := (Int32.ofInt 1)) rfl rfl rfl ?_
  refine h_iadd (pc' := 1423) rfl rfl hy3 ci_1 rfl (by omega) (by omega) (fun z1 hz1 => ?_)
  refine h_iald (pc' := 1424) (v := s0 0 (b3 + 1)) rfl rfl rfl hz1 (by omega) (by omega) rfl (fun z2 hz2 => ?_)
  have tz2 := h_rgv hz2
  refine h_call (sp := false) (pc' := 1427) (M := [(0, .ref 9), (1, .int z2)]) rfl rfl rfl rfl rfl rfl rfl rfl ?_
  refine w_122_9 _ I0 z2 _ hz2 (fun r3 br3 hr3 s4 Is4 Gs4 => h_Kv ?_)
  have Zs4 : ∀ i, s4 0 i = s0 0 i := fun i => (Gs4 0 i rfl).trans rfl
  refine h_pop (pc' := 1428) rfl rfl rfl ?_
  refine h_aload_n (pc' := 1429) rfl rfl rfl ?_
  refine h_aload_n (pc' := 1430) rfl rfl rfl ?_
  refine h_iload_n (pc' := 1431) rfl rfl rfl ?_
  refine h_iconst (pc' := 1432) (x := (Int32.ofInt 1)) rfl rfl rfl ?_
  refine h_iadd (pc' := 1433) rfl rfl hy3 ci_1 rfl (by omega) (by omega) (fun z5 hz5 => ?_)
  refine h_iald (pc' := 1434) (v := s0 0 (b3 + 1)) rfl rfl rfl hz5 (by omega) (by omega) (Zs4 _) (fun z6 hz6 => ?_)
  have tz6 := h_rgv hz6
  refine h_call (sp := false) (pc' := 1437) (M := [(0, .ref 98), (1, .int z6)]) rfl rfl rfl rfl rfl rfl rfl rfl ?_
  refine w_224_98 _ Is4 z6 _ hz6 (fun r7 br7 hr7 s8 Is8 Gs8 => h_Kv ?_)
  have Zs8 : ∀ i, s8 0 i = s0 0 i := fun i => (Gs8 0 i rfl).trans (Zs4 i)
  refine h_pop (pc' := 1438) rfl rfl rfl ?_
  refine h_goto (pc' := 1441) rfl rfl ?_
  exact kk _ Is8 
theorem g_loop {ns : Nat} (hns : ns ≤ 320) : ∀ (n : Nat) (s0 : h_S), h_I s0 → ∀ (y3 : Int32) (b3 : Int), y3.toInt = b3 → (0 ≤ b3 ∧ b3 ≤ 320) → 321 - b3 ≤ (n : Int) → h_T g_P (g_Y ns) 225 18 [(0, .ref 0), (1, .ref 9), (2, .ref 98), (3, .int y3)] [] s0 (fun r _ => r = some (.int 1)) := by
  have hnn : (Int32.ofNat ns).toInt = (ns : Int) := nI_toInt (by omega)
  intro n
  induction n with
  | zero => intro s0 I0  y3 b3 hy3 hr hm; exfalso; omega
  | succ n ih =>
    intro s0 I0  y3 b3 hy3 hr hm
    have nx : ∀ τ, h_I τ → b3 + 5 ≤ 320 → h_T g_P (g_Y ns) 225 1441 [(0, .ref 0), (1, .ref 9), (2, .ref 98), (3, .int y3)] [] τ (fun r _ => r = some (.int 1)) := by
      intro τ I1  h5
      refine h_iinc (pc' := 1444) (M := fun z => [(3, .int z), (0, .ref 0), (1, .ref 9), (2, .ref 98)]) rfl rfl rfl rfl hy3 ci_5 rfl (by omega) (by omega) (fun _ => rfl) (fun z hz => ?_)
      refine h_goto (pc' := 18) rfl rfl ?_
      exact h_wk [(0, .ref 0), (1, .ref 9), (2, .ref 98), (3, .int z)] ⟨rfl, rfl, rfl, rfl, trivial⟩ (ih _ I1  z _ hz (by omega) (by omega))
    refine h_iload_n (pc' := 19) rfl rfl rfl ?_
    refine h_aload_n (pc' := 20) rfl rfl rfl ?_
    refine h_alen (pc' := 21) (n := (ns : Int)) rfl rfl rfl hnn (fun z1 hz1 => ?_)
    refine h_iconst (pc' := 22) (x := (Int32.ofInt 5)) rfl rfl rfl ?_
    refine h_isub (pc' := 23) rfl rfl hz1 ci_5 rfl (by omega) (by omega) (fun z2 hz2 => ?_)
    refine h_cgt (tg := 1447) (pc' := 26) rfl rfl rfl hy3 hz2 (fun c3 => ?_) (fun c3 => ?_)
    · refine h_iconst (pc' := 1448) (x := (Int32.ofInt 1)) rfl rfl rfl ?_
      exact h_zret rfl rfl ci_1 (by omega) rfl
    · refine h_aload_n (pc' := 27) rfl rfl rfl ?_
      refine h_iload_n (pc' := 28) rfl rfl rfl ?_
      refine h_iald (pc' := 29) (v := s0 0 b3) rfl rfl rfl hy3 (by omega) (by omega) rfl (fun z4 hz4 => ?_)
      have tz4 := h_rgv hz4
      refine h_bipush (pc' := 31) (x := (Int32.ofInt 63)) rfl rfl cb_63 ?_
      refine h_iand (pc' := 32) rfl rfl (fun z5 hz5 uz5 vz5 => ?_)
      clear uz5
      rw [ci_63] at vz5
      have yz5 := vz5 (by omega)
      refine h_tsw (dt := 1441) (ts := [212, 235, 258, 271, 284, 307, 340, 373, 406, 429, 462, 495, 538, 571, 604, 637, 680, 703, 726, 759, 782, 805, 838, 881, 914, 927, 950, 983, 1026, 1075, 1098, 1121, 1144, 1177, 1220, 1243, 1266, 1309, 1352, 1405, 1418]) rfl rfl rfl rfl rfl (fun c6 => ?_) ⟨fun c6 => ?_, fun c6 => ?_, fun c6 => ?_, fun c6 => ?_, fun c6 => ?_, fun c6 => ?_, fun c6 => ?_, fun c6 => ?_, fun c6 => ?_, fun c6 => ?_, fun c6 => ?_, fun c6 => ?_, fun c6 => ?_, fun c6 => ?_, fun c6 => ?_, fun c6 => ?_, fun c6 => ?_, fun c6 => ?_, fun c6 => ?_, fun c6 => ?_, fun c6 => ?_, fun c6 => ?_, fun c6 => ?_, fun c6 => ?_, fun c6 => ?_, fun c6 => ?_, fun c6 => ?_, fun c6 => ?_, fun c6 => ?_, fun c6 => ?_, fun c6 => ?_, fun c6 => ?_, fun c6 => ?_, fun c6 => ?_, fun c6 => ?_, fun c6 => ?_, fun c6 => ?_, fun c6 => ?_, fun c6 => ?_, fun c6 => ?_, fun c6 => ?_, trivial⟩
      · exact nx _ I0  (by omega)
      · exact g_case_212 hns _ I0  y3 b3 hy3 (by omega) (fun τ I1  => nx τ I1  (by omega))
      · exact g_case_235 hns _ I0  y3 b3 hy3 (by omega) (fun τ I1  => nx τ I1  (by omega))
      · exact g_case_258 hns _ I0  y3 b3 hy3 (by omega) (fun τ I1  => nx τ I1  (by omega))
      · exact g_case_271 hns _ I0  y3 b3 hy3 (by omega) (fun τ I1  => nx τ I1  (by omega))
      · exact g_case_284 hns _ I0  y3 b3 hy3 (by omega) (fun τ I1  => nx τ I1  (by omega))
      · exact g_case_307 hns _ I0  y3 b3 hy3 (by omega) (fun τ I1  => nx τ I1  (by omega))
      · exact g_case_340 hns _ I0  y3 b3 hy3 (by omega) (fun τ I1  => nx τ I1  (by omega))
      · exact g_case_373 hns _ I0  y3 b3 hy3 (by omega) (fun τ I1  => nx τ I1  (by omega))
      · exact g_case_406 hns _ I0  y3 b3 hy3 (by omega) (fun τ I1  => nx τ I1  (by omega))
      · exact g_case_429 hns _ I0  y3 b3 hy3 (by omega) (fun τ I1  => nx τ I1  (by omega))
      · exact g_case_462 hns _ I0  y3 b3 hy3 (by omega) (fun τ I1  => nx τ I1  (by omega))
      · exact g_case_495 hns _ I0  y3 b3 hy3 (by omega) (fun τ I1  => nx τ I1  (by omega))
      · exact g_case_538 hns _ I0  y3 b3 hy3 (by omega) (fun τ I1  => nx τ I1  (by omega))
      · exact g_case_571 hns _ I0  y3 b3 hy3 (by omega) (fun τ I1  => nx τ I1  (by omega))
      · exact g_case_604 hns _ I0  y3 b3 hy3 (by omega) (fun τ I1  => nx τ I1  (by omega))
      · exact g_case_637 hns _ I0  y3 b3 hy3 (by omega) (fun τ I1  => nx τ I1  (by omega))
      · exact g_case_680 hns _ I0  y3 b3 hy3 (by omega) (fun τ I1  => nx τ I1  (by omega))
      · exact g_case_703 hns _ I0  y3 b3 hy3 (by omega) (fun τ I1  => nx τ I1  (by omega))
      · exact g_case_726 hns _ I0  y3 b3 hy3 (by omega) (fun τ I1  => nx τ I1  (by omega))
      · exact g_case_759 hns _ I0  y3 b3 hy3 (by omega) (fun τ I1  => nx τ I1  (by omega))
      · exact g_case_782 hns _ I0  y3 b3 hy3 (by omega) (fun τ I1  => nx τ I1  (by omega))
      · exact g_case_805 hns _ I0  y3 b3 hy3 (by omega) (fun τ I1  => nx τ I1  (by omega))
      · exact g_case_838 hns _ I0  y3 b3 hy3 (by omega) (fun τ I1  => nx τ I1  (by omega))
      · exact g_case_881 hns _ I0  y3 b3 hy3 (by omega) (fun τ I1  => nx τ I1  (by omega))
      · exact g_case_914 hns _ I0  y3 b3 hy3 (by omega) (fun τ I1  => nx τ I1  (by omega))
      · exact g_case_927 hns _ I0  y3 b3 hy3 (by omega) (fun τ I1  => nx τ I1  (by omega))
      · exact g_case_950 hns _ I0  y3 b3 hy3 (by omega) (fun τ I1  => nx τ I1  (by omega))
      · exact g_case_983 hns _ I0  y3 b3 hy3 (by omega) (fun τ I1  => nx τ I1  (by omega))
      · exact g_case_1026 hns _ I0  y3 b3 hy3 (by omega) (fun τ I1  => nx τ I1  (by omega))
      · exact g_case_1075 hns _ I0  y3 b3 hy3 (by omega) (fun τ I1  => nx τ I1  (by omega))
      · exact g_case_1098 hns _ I0  y3 b3 hy3 (by omega) (fun τ I1  => nx τ I1  (by omega))
      · exact g_case_1121 hns _ I0  y3 b3 hy3 (by omega) (fun τ I1  => nx τ I1  (by omega))
      · exact g_case_1144 hns _ I0  y3 b3 hy3 (by omega) (fun τ I1  => nx τ I1  (by omega))
      · exact g_case_1177 hns _ I0  y3 b3 hy3 (by omega) (fun τ I1  => nx τ I1  (by omega))
      · exact g_case_1220 hns _ I0  y3 b3 hy3 (by omega) (fun τ I1  => nx τ I1  (by omega))
      · exact g_case_1243 hns _ I0  y3 b3 hy3 (by omega) (fun τ I1  => nx τ I1  (by omega))
      · exact g_case_1266 hns _ I0  y3 b3 hy3 (by omega) (fun τ I1  => nx τ I1  (by omega))
      · exact g_case_1309 hns _ I0  y3 b3 hy3 (by omega) (fun τ I1  => nx τ I1  (by omega))
      · exact g_case_1352 hns _ I0  y3 b3 hy3 (by omega) (fun τ I1  => nx τ I1  (by omega))
      · exact g_case_1405 hns _ I0  y3 b3 hy3 (by omega) (fun τ I1  => nx τ I1  (by omega))
      · exact g_case_1418 hns _ I0  y3 b3 hy3 (by omega) (fun τ I1  => nx τ I1  (by omega))
theorem x_lv_ok : h_loc [(0, .ref 0), (1, .ref 9), (2, .ref 98), (3, .int 0)] x_lv := by
  intro p hp
  simp only [List.mem_cons, List.not_mem_nil, or_false] at hp
  rcases hp with rfl | rfl | rfl | rfl <;> rfl
theorem f_at {l : List Int32} {q : Nat} {j : Int} (h : (q == 0) = false) : f_σ l q j = (f_v q).getD j.toNat 0 := by
  unfold f_σ
  rw [h]
  rfl
set_option maxRecDepth 1000000 in
theorem g_law_run (l : List Int32) (hl : l.length ≤ 320) : ∃ (n : Nat) (mem' : List e_C), e_run g_P n g_law 0 [(0, .ref 0)] [] (.inl (false, l) :: x_t8) = some (some (.int 1), mem') ∧ mem'.length = 114 ∧ e_sl mem' = 2414 + l.length := by
  obtain ⟨y, τ, h1, h2, h3⟩ := g_loop hl 400 (f_σ l) (f_I0 l)  0 0 rfl (by omega) (by omega) x_lv (.inl (false, l) :: x_full) x_lv_ok (f_R0 l)
  obtain ⟨n, hn⟩ := f_law _ h1
  obtain ⟨r, mem'⟩ := y
  have h3 : r = some (.int 1) := h3
  subst h3
  exact ⟨n, mem', hn, h2.1, h2.2.1⟩
