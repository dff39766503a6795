theorem v_undo {ns : Nat} (σ : h_S) (hI : h_I σ) (x0 : Int32) (a0 : Int) (hx0 : x0.toInt = a0) (x1 : Int32) (a1 : Int) (hx1 : x1.toInt = a1) {Q : Option Value → h_S → Prop} (kk : ∀ (r : Int32) (b : Int) (hb : r.toInt = b) (τ : h_S), h_I τ → h_F k_nt τ σ → Q (some (.int r)) τ) : h_T g_P (g_Y ns) 183 0 [(0, .ref 98), (1, .int x0), (2, .int x1)] [] σ Q := by
  have hg := h_rgv hx0
  rcases (show a0 < 0 ∨ a0 = 0 ∨ a0 = 1 ∨ 2 ≤ a0 by omega) with h | h | h | h
  · exact w_undo_n σ hI x0 a0 hx0 (by omega) x1 a1 hx1 (fun r b hb τ I G _ => kk r b hb τ I G.g1)
  · subst h
    have q := h_lit hx0 ci_0
    subst q
    exact w_183_98_e0 σ hI x1 a1 hx1 (fun r b hb τ I G _ => kk r b hb τ I G)
  · subst h
    have q := h_lit hx0 ci_1
    subst q
    exact w_183_98_e1 σ hI x1 a1 hx1 (fun r b hb τ I G _ => kk r b hb τ I G)
  · exact w_undo_p σ hI x0 a0 hx0 (by omega) x1 a1 hx1 (fun r b hb τ I G _ => kk r b hb τ I G.g1)
def h_js (a b c : Int) : Prop := (a = -4 ∧ b = -4) ∨ (a = c ∧ 0 ≤ a ∧ ¬ b = -4)
theorem h_jf {a b c a' b' c' : Int} (h : h_js a b c) (h1 : a' = a) (h2 : b' = b) (h3 : c' = c) : h_js a' b' c' := by subst h1; subst h2; subst h3; exact h
/-! THE LAW -/
theorem g_case_212 {ns : Nat} (hns : ns ≤ 320) (s0 : h_S) (I0 : h_I s0) (j0 : h_js (s0 96 0) (s0 111 0) (s0 112 0)) (j1 : h_js (s0 96 1) (s0 111 1) (s0 112 1)) (j2 : h_js (s0 96 2) (s0 111 2) (s0 112 2)) (j3 : h_js (s0 96 3) (s0 111 3) (s0 112 3)) (y3 : Int32) (b3 : Int) (hy3 : y3.toInt = b3) (hr : 0 ≤ b3 ∧ b3 + 5 ≤ ns) {Q : Option Value → h_S → Prop} (kk : ∀ τ, h_I τ → h_js (τ 96 0) (τ 111 0) (τ 112 0) → h_js (τ 96 1) (τ 111 1) (τ 112 1) → h_js (τ 96 2) (τ 111 2) (τ 112 2) → h_js (τ 96 3) (τ 111 3) (τ 112 3) → h_T g_P (g_Y ns) 225 1441 [(0, .ref 0), (1, .ref 9), (2, .ref 98), (3, .int y3)] [] τ Q) : h_T g_P (g_Y ns) 225 212 [(0, .ref 0), (1, .ref 9), (2, .ref 98), (3, .int y3)] [] s0 Q := by
  refine h_aload_n (pc' := 213) rfl rfl rfl ?_
  refine h_aload_n (pc' := 214) rfl rfl rfl ?_
  refine h_iload_n (pc' := 215) rfl rfl rfl ?_
  refine h_iconst (pc' := 216) (x := (Int32.ofInt 1)) rfl rfl rfl ?_
  refine h_iadd (pc' := 217) rfl rfl hy3 ci_1 rfl (by omega) (by omega) (fun z1 hz1 => ?_)
  refine h_iald (pc' := 218) (v := s0 0 (b3 + 1)) rfl rfl rfl hz1 (by omega) (by omega) rfl (fun z2 hz2 => ?_)
  have tz2 := h_rgv hz2
  refine h_call (sp := false) (pc' := 221) (M := [(0, .ref 9), (1, .int z2)]) rfl rfl rfl rfl rfl rfl rfl rfl ?_
  refine v_feedX _ I0 z2 _ hz2 (fun r3 br3 hr3 s4 Is4 Gs4 tr3 ps4_0 ps4_1 => h_Kv ?_)
  have Zs4 : ∀ i, s4 0 i = s0 0 i := fun i => (Gs4 0 i rfl).trans rfl
  have es4_0 : s4 95 0 = s0 95 0 := (Gs4 95 0 rfl).trans rfl
  have es4_1 : s4 95 1 = s0 95 1 := (Gs4 95 1 rfl).trans rfl
  have es4_2 : s4 95 2 = s0 95 2 := (Gs4 95 2 rfl).trans rfl
  have es4_3 : s4 95 3 = s0 95 3 := (Gs4 95 3 rfl).trans rfl
  have es4_4 : s4 96 0 = s0 96 0 := (Gs4 96 0 rfl).trans rfl
  have es4_5 : s4 96 1 = s0 96 1 := (Gs4 96 1 rfl).trans rfl
  have es4_6 : s4 96 2 = s0 96 2 := (Gs4 96 2 rfl).trans rfl
  have es4_7 : s4 96 3 = s0 96 3 := (Gs4 96 3 rfl).trans rfl
  have es4_8 : s4 111 0 = s0 111 0 := (Gs4 111 0 rfl).trans rfl
  have es4_9 : s4 111 1 = s0 111 1 := (Gs4 111 1 rfl).trans rfl
  have es4_10 : s4 111 2 = s0 111 2 := (Gs4 111 2 rfl).trans rfl
  have es4_11 : s4 111 3 = s0 111 3 := (Gs4 111 3 rfl).trans rfl
  have es4_12 : s4 112 0 = s0 112 0 := (Gs4 112 0 rfl).trans rfl
  have es4_13 : s4 112 1 = s0 112 1 := (Gs4 112 1 rfl).trans rfl
  have es4_14 : s4 112 2 = s0 112 2 := (Gs4 112 2 rfl).trans rfl
  have es4_15 : s4 112 3 = s0 112 3 := (Gs4 112 3 rfl).trans rfl
  refine h_pop (pc' := 222) rfl rfl rfl ?_
  refine h_aload_n (pc' := 223) rfl rfl rfl ?_
  refine h_aload_n (pc' := 224) rfl rfl rfl ?_
  refine h_iload_n (pc' := 225) rfl rfl rfl ?_
  refine h_iconst (pc' := 226) (x := (Int32.ofInt 1)) rfl rfl rfl ?_
  refine h_iadd (pc' := 227) rfl rfl hy3 ci_1 rfl (by omega) (by omega) (fun z5 hz5 => ?_)
  refine h_iald (pc' := 228) (v := s0 0 (b3 + 1)) rfl rfl rfl hz5 (by omega) (by omega) (Zs4 _) (fun z6 hz6 => ?_)
  have tz6 := h_rgv hz6
  refine h_call (sp := false) (pc' := 231) (M := [(0, .ref 98), (1, .int z6)]) rfl rfl rfl rfl rfl rfl rfl rfl ?_
  refine v_feedM _ Is4 z6 _ hz6 (fun r7 br7 hr7 s8 Is8 Gs8 tr7 ps8_0 ps8_1 => h_Kv ?_)
  have Zs8 : ∀ i, s8 0 i = s0 0 i := fun i => (Gs8 0 i rfl).trans (Zs4 i)
  have es8_0 : s8 95 0 = s0 95 0 := (Gs8 95 0 rfl).trans es4_0
  have es8_1 : s8 95 1 = s0 95 1 := (Gs8 95 1 rfl).trans es4_1
  have es8_2 : s8 95 2 = s0 95 2 := (Gs8 95 2 rfl).trans es4_2
  have es8_3 : s8 95 3 = s0 95 3 := (Gs8 95 3 rfl).trans es4_3
  have es8_4 : s8 96 0 = s0 96 0 := (Gs8 96 0 rfl).trans es4_4
  have es8_5 : s8 96 1 = s0 96 1 := (Gs8 96 1 rfl).trans es4_5
  have es8_6 : s8 96 2 = s0 96 2 := (Gs8 96 2 rfl).trans es4_6
  have es8_7 : s8 96 3 = s0 96 3 := (Gs8 96 3 rfl).trans es4_7
  have es8_8 : s8 111 0 = s0 111 0 := (Gs8 111 0 rfl).trans es4_8
  have es8_9 : s8 111 1 = s0 111 1 := (Gs8 111 1 rfl).trans es4_9
  have es8_10 : s8 111 2 = s0 111 2 := (Gs8 111 2 rfl).trans es4_10
  have es8_11 : s8 111 3 = s0 111 3 := (Gs8 111 3 rfl).trans es4_11
  have es8_12 : s8 112 0 = s0 112 0 := (Gs8 112 0 rfl).trans es4_12
  have es8_13 : s8 112 1 = s0 112 1 := (Gs8 112 1 rfl).trans es4_13
  have es8_14 : s8 112 2 = s0 112 2 := (Gs8 112 2 rfl).trans es4_14
  have es8_15 : s8 112 3 = s0 112 3 := (Gs8 112 3 rfl).trans es4_15
  refine h_pop (pc' := 232) rfl rfl rfl ?_
  refine h_goto (pc' := 1441) rfl rfl ?_
  exact kk _ Is8 (by first | exact h_jf j0 (by omega) (by omega) (by omega) | exact Or.inr ⟨by omega, by omega, by omega⟩) (by first | exact h_jf j1 (by omega) (by omega) (by omega) | exact Or.inr ⟨by omega, by omega, by omega⟩) (by first | exact h_jf j2 (by omega) (by omega) (by omega) | exact Or.inr ⟨by omega, by omega, by omega⟩) (by first | exact h_jf j3 (by omega) (by omega) (by omega) | exact Or.inr ⟨by omega, by omega, by omega⟩)
theorem g_case_235 {ns : Nat} (hns : ns ≤ 320) (s0 : h_S) (I0 : h_I s0) (j0 : h_js (s0 96 0) (s0 111 0) (s0 112 0)) (j1 : h_js (s0 96 1) (s0 111 1) (s0 112 1)) (j2 : h_js (s0 96 2) (s0 111 2) (s0 112 2)) (j3 : h_js (s0 96 3) (s0 111 3) (s0 112 3)) (y3 : Int32) (b3 : Int) (hy3 : y3.toInt = b3) (hr : 0 ≤ b3 ∧ b3 + 5 ≤ ns) {Q : Option Value → h_S → Prop} (kk : ∀ τ, h_I τ → h_js (τ 96 0) (τ 111 0) (τ 112 0) → h_js (τ 96 1) (τ 111 1) (τ 112 1) → h_js (τ 96 2) (τ 111 2) (τ 112 2) → h_js (τ 96 3) (τ 111 3) (τ 112 3) → h_T g_P (g_Y ns) 225 1441 [(0, .ref 0), (1, .ref 9), (2, .ref 98), (3, .int y3)] [] τ Q) : h_T g_P (g_Y ns) 225 235 [(0, .ref 0), (1, .ref 9), (2, .ref 98), (3, .int y3)] [] s0 Q := by
  refine h_aload_n (pc' := 236) rfl rfl rfl ?_
  refine h_aload_n (pc' := 237) rfl rfl rfl ?_
  refine h_iload_n (pc' := 238) rfl rfl rfl ?_
  refine h_iconst (pc' := 239) (x := (Int32.ofInt 1)) rfl rfl rfl ?_
  refine h_iadd (pc' := 240) rfl rfl hy3 ci_1 rfl (by omega) (by omega) (fun z1 hz1 => ?_)
  refine h_iald (pc' := 241) (v := s0 0 (b3 + 1)) rfl rfl rfl hz1 (by omega) (by omega) rfl (fun z2 hz2 => ?_)
  have tz2 := h_rgv hz2
  refine h_call (sp := false) (pc' := 244) (M := [(0, .ref 9), (1, .int z2)]) rfl rfl rfl rfl rfl rfl rfl rfl ?_
  refine v_endX _ I0 z2 _ hz2 (fun r3 br3 hr3 s4 Is4 Gs4 tr3 ps4_0 ps4_1 => h_Kv ?_)
  have Zs4 : ∀ i, s4 0 i = s0 0 i := fun i => (Gs4 0 i rfl).trans rfl
  have es4_0 : s4 95 0 = s0 95 0 := (Gs4 95 0 rfl).trans rfl
  have es4_1 : s4 95 1 = s0 95 1 := (Gs4 95 1 rfl).trans rfl
  have es4_2 : s4 95 2 = s0 95 2 := (Gs4 95 2 rfl).trans rfl
  have es4_3 : s4 95 3 = s0 95 3 := (Gs4 95 3 rfl).trans rfl
  have es4_4 : s4 96 0 = s0 96 0 := (Gs4 96 0 rfl).trans rfl
  have es4_5 : s4 96 1 = s0 96 1 := (Gs4 96 1 rfl).trans rfl
  have es4_6 : s4 96 2 = s0 96 2 := (Gs4 96 2 rfl).trans rfl
  have es4_7 : s4 96 3 = s0 96 3 := (Gs4 96 3 rfl).trans rfl
  have es4_8 : s4 111 0 = s0 111 0 := (Gs4 111 0 rfl).trans rfl
  have es4_9 : s4 111 1 = s0 111 1 := (Gs4 111 1 rfl).trans rfl
  have es4_10 : s4 111 2 = s0 111 2 := (Gs4 111 2 rfl).trans rfl
  have es4_11 : s4 111 3 = s0 111 3 := (Gs4 111 3 rfl).trans rfl
  have es4_12 : s4 112 0 = s0 112 0 := (Gs4 112 0 rfl).trans rfl
  have es4_13 : s4 112 1 = s0 112 1 := (Gs4 112 1 rfl).trans rfl
  have es4_14 : s4 112 2 = s0 112 2 := (Gs4 112 2 rfl).trans rfl
  have es4_15 : s4 112 3 = s0 112 3 := (Gs4 112 3 rfl).trans rfl
  refine h_pop (pc' := 245) rfl rfl rfl ?_
  refine h_aload_n (pc' := 246) rfl rfl rfl ?_
  refine h_aload_n (pc' := 247) rfl rfl rfl ?_
  refine h_iload_n (pc' := 248) rfl rfl rfl ?_
  refine h_iconst (pc' := 249) (x := (Int32.ofInt 1)) rfl rfl rfl ?_
  refine h_iadd (pc' := 250) rfl rfl hy3 ci_1 rfl (by omega) (by omega) (fun z5 hz5 => ?_)
  refine h_iald (pc' := 251) (v := s0 0 (b3 + 1)) rfl rfl rfl hz5 (by omega) (by omega) (Zs4 _) (fun z6 hz6 => ?_)
  have tz6 := h_rgv hz6
  refine h_call (sp := false) (pc' := 254) (M := [(0, .ref 98), (1, .int z6)]) rfl rfl rfl rfl rfl rfl rfl rfl ?_
  refine v_endM _ Is4 z6 _ hz6 (fun r7 br7 hr7 s8 Is8 Gs8 tr7 ps8_0 ps8_1 => h_Kv ?_)
  have Zs8 : ∀ i, s8 0 i = s0 0 i := fun i => (Gs8 0 i rfl).trans (Zs4 i)
  have es8_0 : s8 95 0 = s0 95 0 := (Gs8 95 0 rfl).trans es4_0
  have es8_1 : s8 95 1 = s0 95 1 := (Gs8 95 1 rfl).trans es4_1
  have es8_2 : s8 95 2 = s0 95 2 := (Gs8 95 2 rfl).trans es4_2
  have es8_3 : s8 95 3 = s0 95 3 := (Gs8 95 3 rfl).trans es4_3
  have es8_4 : s8 96 0 = s0 96 0 := (Gs8 96 0 rfl).trans es4_4
  have es8_5 : s8 96 1 = s0 96 1 := (Gs8 96 1 rfl).trans es4_5
  have es8_6 : s8 96 2 = s0 96 2 := (Gs8 96 2 rfl).trans es4_6
  have es8_7 : s8 96 3 = s0 96 3 := (Gs8 96 3 rfl).trans es4_7
  have es8_8 : s8 111 0 = s0 111 0 := (Gs8 111 0 rfl).trans es4_8
  have es8_9 : s8 111 1 = s0 111 1 := (Gs8 111 1 rfl).trans es4_9
  have es8_10 : s8 111 2 = s0 111 2 := (Gs8 111 2 rfl).trans es4_10
  have es8_11 : s8 111 3 = s0 111 3 := (Gs8 111 3 rfl).trans es4_11
  have es8_12 : s8 112 0 = s0 112 0 := (Gs8 112 0 rfl).trans es4_12
  have es8_13 : s8 112 1 = s0 112 1 := (Gs8 112 1 rfl).trans es4_13
  have es8_14 : s8 112 2 = s0 112 2 := (Gs8 112 2 rfl).trans es4_14
  have es8_15 : s8 112 3 = s0 112 3 := (Gs8 112 3 rfl).trans es4_15
  refine h_pop (pc' := 255) rfl rfl rfl ?_
  refine h_goto (pc' := 1441) rfl rfl ?_
  exact kk _ Is8 (by first | exact h_jf j0 (by omega) (by omega) (by omega) | exact Or.inr ⟨by omega, by omega, by omega⟩) (by first | exact h_jf j1 (by omega) (by omega) (by omega) | exact Or.inr ⟨by omega, by omega, by omega⟩) (by first | exact h_jf j2 (by omega) (by omega) (by omega) | exact Or.inr ⟨by omega, by omega, by omega⟩) (by first | exact h_jf j3 (by omega) (by omega) (by omega) | exact Or.inr ⟨by omega, by omega, by omega⟩)
theorem g_case_258 {ns : Nat} (hns : ns ≤ 320) (s0 : h_S) (I0 : h_I s0) (j0 : h_js (s0 96 0) (s0 111 0) (s0 112 0)) (j1 : h_js (s0 96 1) (s0 111 1) (s0 112 1)) (j2 : h_js (s0 96 2) (s0 111 2) (s0 112 2)) (j3 : h_js (s0 96 3) (s0 111 3) (s0 112 3)) (y3 : Int32) (b3 : Int) (hy3 : y3.toInt = b3) (hr : 0 ≤ b3 ∧ b3 + 5 ≤ ns) {Q : Option Value → h_S → Prop} (kk : ∀ τ, h_I τ → h_js (τ 96 0) (τ 111 0) (τ 112 0) → h_js (τ 96 1) (τ 111 1) (τ 112 1) → h_js (τ 96 2) (τ 111 2) (τ 112 2) → h_js (τ 96 3) (τ 111 3) (τ 112 3) → h_T g_P (g_Y ns) 225 1441 [(0, .ref 0), (1, .ref 9), (2, .ref 98), (3, .int y3)] [] τ Q) : h_T g_P (g_Y ns) 225 258 [(0, .ref 0), (1, .ref 9), (2, .ref 98), (3, .int y3)] [] s0 Q := by
  refine h_aload_n (pc' := 259) rfl rfl rfl ?_
  refine h_call (sp := false) (pc' := 262) (M := [(0, .ref 9)]) rfl rfl rfl rfl rfl rfl rfl rfl ?_
  refine v_textX _ I0  (fun r1 br1 hr1 s2 Is2 Gs2 ps2_0 ps2_1 => h_Kv ?_)
  have Zs2 : ∀ i, s2 0 i = s0 0 i := fun i => (Gs2 0 i rfl).trans rfl
  have es2_0 : s2 95 0 = s0 95 0 := (Gs2 95 0 rfl).trans rfl
  have es2_1 : s2 95 1 = s0 95 1 := (Gs2 95 1 rfl).trans rfl
  have es2_2 : s2 95 2 = s0 95 2 := (Gs2 95 2 rfl).trans rfl
  have es2_3 : s2 95 3 = s0 95 3 := (Gs2 95 3 rfl).trans rfl
  have es2_4 : s2 96 0 = s0 96 0 := (Gs2 96 0 rfl).trans rfl
  have es2_5 : s2 96 1 = s0 96 1 := (Gs2 96 1 rfl).trans rfl
  have es2_6 : s2 96 2 = s0 96 2 := (Gs2 96 2 rfl).trans rfl
  have es2_7 : s2 96 3 = s0 96 3 := (Gs2 96 3 rfl).trans rfl
  have es2_8 : s2 111 0 = s0 111 0 := (Gs2 111 0 rfl).trans rfl
  have es2_9 : s2 111 1 = s0 111 1 := (Gs2 111 1 rfl).trans rfl
  have es2_10 : s2 111 2 = s0 111 2 := (Gs2 111 2 rfl).trans rfl
  have es2_11 : s2 111 3 = s0 111 3 := (Gs2 111 3 rfl).trans rfl
  have es2_12 : s2 112 0 = s0 112 0 := (Gs2 112 0 rfl).trans rfl
  have es2_13 : s2 112 1 = s0 112 1 := (Gs2 112 1 rfl).trans rfl
  have es2_14 : s2 112 2 = s0 112 2 := (Gs2 112 2 rfl).trans rfl
  have es2_15 : s2 112 3 = s0 112 3 := (Gs2 112 3 rfl).trans rfl
  refine h_pop (pc' := 263) rfl rfl rfl ?_
  refine h_aload_n (pc' := 264) rfl rfl rfl ?_
  refine h_call (sp := false) (pc' := 267) (M := [(0, .ref 98)]) rfl rfl rfl rfl rfl rfl rfl rfl ?_
  refine v_textM _ Is2  (fun r3 br3 hr3 s4 Is4 Gs4 ps4_0 ps4_1 => h_Kv ?_)
  have Zs4 : ∀ i, s4 0 i = s0 0 i := fun i => (Gs4 0 i rfl).trans (Zs2 i)
  have es4_0 : s4 95 0 = s0 95 0 := (Gs4 95 0 rfl).trans es2_0
  have es4_1 : s4 95 1 = s0 95 1 := (Gs4 95 1 rfl).trans es2_1
  have es4_2 : s4 95 2 = s0 95 2 := (Gs4 95 2 rfl).trans es2_2
  have es4_3 : s4 95 3 = s0 95 3 := (Gs4 95 3 rfl).trans es2_3
  have es4_4 : s4 96 0 = s0 96 0 := (Gs4 96 0 rfl).trans es2_4
  have es4_5 : s4 96 1 = s0 96 1 := (Gs4 96 1 rfl).trans es2_5
  have es4_6 : s4 96 2 = s0 96 2 := (Gs4 96 2 rfl).trans es2_6
  have es4_7 : s4 96 3 = s0 96 3 := (Gs4 96 3 rfl).trans es2_7
  have es4_8 : s4 111 0 = s0 111 0 := (Gs4 111 0 rfl).trans es2_8
  have es4_9 : s4 111 1 = s0 111 1 := (Gs4 111 1 rfl).trans es2_9
  have es4_10 : s4 111 2 = s0 111 2 := (Gs4 111 2 rfl).trans es2_10
  have es4_11 : s4 111 3 = s0 111 3 := (Gs4 111 3 rfl).trans es2_11
  have es4_12 : s4 112 0 = s0 112 0 := (Gs4 112 0 rfl).trans es2_12
  have es4_13 : s4 112 1 = s0 112 1 := (Gs4 112 1 rfl).trans es2_13
  have es4_14 : s4 112 2 = s0 112 2 := (Gs4 112 2 rfl).trans es2_14
  have es4_15 : s4 112 3 = s0 112 3 := (Gs4 112 3 rfl).trans es2_15
  refine h_pop (pc' := 268) rfl rfl rfl ?_
  refine h_goto (pc' := 1441) rfl rfl ?_
  exact kk _ Is4 (by first | exact h_jf j0 (by omega) (by omega) (by omega) | exact Or.inr ⟨by omega, by omega, by omega⟩) (by first | exact h_jf j1 (by omega) (by omega) (by omega) | exact Or.inr ⟨by omega, by omega, by omega⟩) (by first | exact h_jf j2 (by omega) (by omega) (by omega) | exact Or.inr ⟨by omega, by omega, by omega⟩) (by first | exact h_jf j3 (by omega) (by omega) (by omega) | exact Or.inr ⟨by omega, by omega, by omega⟩)
theorem g_case_271 {ns : Nat} (hns : ns ≤ 320) (s0 : h_S) (I0 : h_I s0) (j0 : h_js (s0 96 0) (s0 111 0) (s0 112 0)) (j1 : h_js (s0 96 1) (s0 111 1) (s0 112 1)) (j2 : h_js (s0 96 2) (s0 111 2) (s0 112 2)) (j3 : h_js (s0 96 3) (s0 111 3) (s0 112 3)) (y3 : Int32) (b3 : Int) (hy3 : y3.toInt = b3) (hr : 0 ≤ b3 ∧ b3 + 5 ≤ ns) {Q : Option Value → h_S → Prop} (kk : ∀ τ, h_I τ → h_js (τ 96 0) (τ 111 0) (τ 112 0) → h_js (τ 96 1) (τ 111 1) (τ 112 1) → h_js (τ 96 2) (τ 111 2) (τ 112 2) → h_js (τ 96 3) (τ 111 3) (τ 112 3) → h_T g_P (g_Y ns) 225 1441 [(0, .ref 0), (1, .ref 9), (2, .ref 98), (3, .int y3)] [] τ Q) : h_T g_P (g_Y ns) 225 271 [(0, .ref 0), (1, .ref 9), (2, .ref 98), (3, .int y3)] [] s0 Q := by
  refine h_aload_n (pc' := 272) rfl rfl rfl ?_
  refine h_call (sp := false) (pc' := 275) (M := [(0, .ref 9)]) rfl rfl rfl rfl rfl rfl rfl rfl ?_
  refine w_85_9 _ I0  (fun r1 br1 hr1 s2 Is2 Gs2 tr1 => h_Kv ?_)
  have Zs2 : ∀ i, s2 0 i = s0 0 i := fun i => (Gs2 0 i rfl).trans rfl
  have es2_0 : s2 95 0 = s0 95 0 := (Gs2 95 0 rfl).trans rfl
  have es2_1 : s2 95 1 = s0 95 1 := (Gs2 95 1 rfl).trans rfl
  have es2_2 : s2 95 2 = s0 95 2 := (Gs2 95 2 rfl).trans rfl
  have es2_3 : s2 95 3 = s0 95 3 := (Gs2 95 3 rfl).trans rfl
  have es2_4 : s2 96 0 = s0 96 0 := (Gs2 96 0 rfl).trans rfl
  have es2_5 : s2 96 1 = s0 96 1 := (Gs2 96 1 rfl).trans rfl
  have es2_6 : s2 96 2 = s0 96 2 := (Gs2 96 2 rfl).trans rfl
  have es2_7 : s2 96 3 = s0 96 3 := (Gs2 96 3 rfl).trans rfl
  have es2_8 : s2 111 0 = s0 111 0 := (Gs2 111 0 rfl).trans rfl
  have es2_9 : s2 111 1 = s0 111 1 := (Gs2 111 1 rfl).trans rfl
  have es2_10 : s2 111 2 = s0 111 2 := (Gs2 111 2 rfl).trans rfl
  have es2_11 : s2 111 3 = s0 111 3 := (Gs2 111 3 rfl).trans rfl
  have es2_12 : s2 112 0 = s0 112 0 := (Gs2 112 0 rfl).trans rfl
  have es2_13 : s2 112 1 = s0 112 1 := (Gs2 112 1 rfl).trans rfl
  have es2_14 : s2 112 2 = s0 112 2 := (Gs2 112 2 rfl).trans rfl
  have es2_15 : s2 112 3 = s0 112 3 := (Gs2 112 3 rfl).trans rfl
  refine h_pop (pc' := 276) rfl rfl rfl ?_
  refine h_aload_n (pc' := 277) rfl rfl rfl ?_
  refine h_call (sp := false) (pc' := 280) (M := [(0, .ref 98)]) rfl rfl rfl rfl rfl rfl rfl rfl ?_
  refine w_156_98 _ Is2  (fun r3 br3 hr3 s4 Is4 Gs4 => h_Kv ?_)
  have Zs4 : ∀ i, s4 0 i = s0 0 i := fun i => (Gs4 0 i rfl).trans (Zs2 i)
  have es4_0 : s4 95 0 = s0 95 0 := (Gs4 95 0 rfl).trans es2_0
  have es4_1 : s4 95 1 = s0 95 1 := (Gs4 95 1 rfl).trans es2_1
  have es4_2 : s4 95 2 = s0 95 2 := (Gs4 95 2 rfl).trans es2_2
  have es4_3 : s4 95 3 = s0 95 3 := (Gs4 95 3 rfl).trans es2_3
  have es4_4 : s4 96 0 = s0 96 0 := (Gs4 96 0 rfl).trans es2_4
  have es4_5 : s4 96 1 = s0 96 1 := (Gs4 96 1 rfl).trans es2_5
  have es4_6 : s4 96 2 = s0 96 2 := (Gs4 96 2 rfl).trans es2_6
  have es4_7 : s4 96 3 = s0 96 3 := (Gs4 96 3 rfl).trans es2_7
  have es4_8 : s4 111 0 = s0 111 0 := (Gs4 111 0 rfl).trans es2_8
  have es4_9 : s4 111 1 = s0 111 1 := (Gs4 111 1 rfl).trans es2_9
  have es4_10 : s4 111 2 = s0 111 2 := (Gs4 111 2 rfl).trans es2_10
  have es4_11 : s4 111 3 = s0 111 3 := (Gs4 111 3 rfl).trans es2_11
  have es4_12 : s4 112 0 = s0 112 0 := (Gs4 112 0 rfl).trans es2_12
  have es4_13 : s4 112 1 = s0 112 1 := (Gs4 112 1 rfl).trans es2_13
  have es4_14 : s4 112 2 = s0 112 2 := (Gs4 112 2 rfl).trans es2_14
  have es4_15 : s4 112 3 = s0 112 3 := (Gs4 112 3 rfl).trans es2_15
  clear es2_0 es2_1 es2_10 es2_11 es2_12 es2_13 es2_14 es2_15 es2_2 es2_3 es2_4 es2_5 es2_6 es2_7 es2_8 es2_9
  refine h_pop (pc' := 281) rfl rfl rfl ?_
  refine h_goto (pc' := 1441) rfl rfl ?_
  exact kk _ Is4 (by first | exact h_jf j0 (by omega) (by omega) (by omega) | exact Or.inr ⟨by omega, by omega, by omega⟩) (by first | exact h_jf j1 (by omega) (by omega) (by omega) | exact Or.inr ⟨by omega, by omega, by omega⟩) (by first | exact h_jf j2 (by omega) (by omega) (by omega) | exact Or.inr ⟨by omega, by omega, by omega⟩) (by first | exact h_jf j3 (by omega) (by omega) (by omega) | exact Or.inr ⟨by omega, by omega, by omega⟩)
theorem g_case_284 {ns : Nat} (hns : ns ≤ 320) (s0 : h_S) (I0 : h_I s0) (j0 : h_js (s0 96 0) (s0 111 0) (s0 112 0)) (j1 : h_js (s0 96 1) (s0 111 1) (s0 112 1)) (j2 : h_js (s0 96 2) (s0 111 2) (s0 112 2)) (j3 : h_js (s0 96 3) (s0 111 3) (s0 112 3)) (y3 : Int32) (b3 : Int) (hy3 : y3.toInt = b3) (hr : 0 ≤ b3 ∧ b3 + 5 ≤ ns) {Q : Option Value → h_S → Prop} (kk : ∀ τ, h_I τ → h_js (τ 96 0) (τ 111 0) (τ 112 0) → h_js (τ 96 1) (τ 111 1) (τ 112 1) → h_js (τ 96 2) (τ 111 2) (τ 112 2) → h_js (τ 96 3) (τ 111 3) (τ 112 3) → h_T g_P (g_Y ns) 225 1441 [(0, .ref 0), (1, .ref 9), (2, .ref 98), (3, .int y3)] [] τ Q) : h_T g_P (g_Y ns) 225 284 [(0, .ref 0), (1, .ref 9), (2, .ref 98), (3, .int y3)] [] s0 Q := by
  refine h_aload_n (pc' := 285) rfl rfl rfl ?_
  refine h_aload_n (pc' := 286) rfl rfl rfl ?_
  refine h_iload_n (pc' := 287) rfl rfl rfl ?_
  refine h_iconst (pc' := 288) (x := (Int32.ofInt 1)) rfl rfl rfl ?_
  refine h_iadd (pc' := 289) rfl rfl hy3 ci_1 rfl (by omega) (by omega) (fun z1 hz1 => ?_)
  refine h_iald (pc' := 290) (v := s0 0 (b3 + 1)) rfl rfl rfl hz1 (by omega) (by omega) rfl (fun z2 hz2 => ?_)
  have tz2 := h_rgv hz2
  refine h_call (sp := false) (pc' := 293) (M := [(0, .ref 9), (1, .int z2)]) rfl rfl rfl rfl rfl rfl rfl rfl ?_
  refine w_86_9 _ I0 z2 _ hz2 (fun r3 br3 hr3 s4 Is4 Gs4 => h_Kv ?_)
  have Zs4 : ∀ i, s4 0 i = s0 0 i := fun i => (Gs4 0 i rfl).trans rfl
  have es4_0 : s4 95 0 = s0 95 0 := (Gs4 95 0 rfl).trans rfl
  have es4_1 : s4 95 1 = s0 95 1 := (Gs4 95 1 rfl).trans rfl
  have es4_2 : s4 95 2 = s0 95 2 := (Gs4 95 2 rfl).trans rfl
  have es4_3 : s4 95 3 = s0 95 3 := (Gs4 95 3 rfl).trans rfl
  have es4_4 : s4 96 0 = s0 96 0 := (Gs4 96 0 rfl).trans rfl
  have es4_5 : s4 96 1 = s0 96 1 := (Gs4 96 1 rfl).trans rfl
  have es4_6 : s4 96 2 = s0 96 2 := (Gs4 96 2 rfl).trans rfl
  have es4_7 : s4 96 3 = s0 96 3 := (Gs4 96 3 rfl).trans rfl
  have es4_8 : s4 111 0 = s0 111 0 := (Gs4 111 0 rfl).trans rfl
  have es4_9 : s4 111 1 = s0 111 1 := (Gs4 111 1 rfl).trans rfl
  have es4_10 : s4 111 2 = s0 111 2 := (Gs4 111 2 rfl).trans rfl
  have es4_11 : s4 111 3 = s0 111 3 := (Gs4 111 3 rfl).trans rfl
  have es4_12 : s4 112 0 = s0 112 0 := (Gs4 112 0 rfl).trans rfl
  have es4_13 : s4 112 1 = s0 112 1 := (Gs4 112 1 rfl).trans rfl
  have es4_14 : s4 112 2 = s0 112 2 := (Gs4 112 2 rfl).trans rfl
  have es4_15 : s4 112 3 = s0 112 3 := (Gs4 112 3 rfl).trans rfl
  refine h_pop (pc' := 294) rfl rfl rfl ?_
  refine h_aload_n (pc' := 295) rfl rfl rfl ?_
  refine h_aload_n (pc' := 296) rfl rfl rfl ?_
  refine h_iload_n (pc' := 297) rfl rfl rfl ?_
  refine h_iconst (pc' := 298) (x := (Int32.ofInt 1)) rfl rfl rfl ?_
  refine h_iadd (pc' := 299) rfl rfl hy3 ci_1 rfl (by omega) (by omega) (fun z5 hz5 => ?_)
  refine h_iald (pc' := 300) (v := s0 0 (b3 + 1)) rfl rfl rfl hz5 (by omega) (by omega) (Zs4 _) (fun z6 hz6 => ?_)
  have tz6 := h_rgv hz6
  refine h_call (sp := false) (pc' := 303) (M := [(0, .ref 98), (1, .int z6)]) rfl rfl rfl rfl rfl rfl rfl rfl ?_
  refine w_160_98 _ Is4 z6 _ hz6 (fun r7 br7 hr7 s8 Is8 Gs8 => h_Kv ?_)
  have Zs8 : ∀ i, s8 0 i = s0 0 i := fun i => (Gs8 0 i rfl).trans (Zs4 i)
  have es8_0 : s8 95 0 = s0 95 0 := (Gs8 95 0 rfl).trans es4_0
  have es8_1 : s8 95 1 = s0 95 1 := (Gs8 95 1 rfl).trans es4_1
  have es8_2 : s8 95 2 = s0 95 2 := (Gs8 95 2 rfl).trans es4_2
  have es8_3 : s8 95 3 = s0 95 3 := (Gs8 95 3 rfl).trans es4_3
  have es8_4 : s8 96 0 = s0 96 0 := (Gs8 96 0 rfl).trans es4_4
  have es8_5 : s8 96 1 = s0 96 1 := (Gs8 96 1 rfl).trans es4_5
  have es8_6 : s8 96 2 = s0 96 2 := (Gs8 96 2 rfl).trans es4_6
  have es8_7 : s8 96 3 = s0 96 3 := (Gs8 96 3 rfl).trans es4_7
  have es8_8 : s8 111 0 = s0 111 0 := (Gs8 111 0 rfl).trans es4_8
  have es8_9 : s8 111 1 = s0 111 1 := (Gs8 111 1 rfl).trans es4_9
  have es8_10 : s8 111 2 = s0 111 2 := (Gs8 111 2 rfl).trans es4_10
  have es8_11 : s8 111 3 = s0 111 3 := (Gs8 111 3 rfl).trans es4_11
  have es8_12 : s8 112 0 = s0 112 0 := (Gs8 112 0 rfl).trans es4_12
  have es8_13 : s8 112 1 = s0 112 1 := (Gs8 112 1 rfl).trans es4_13
  have es8_14 : s8 112 2 = s0 112 2 := (Gs8 112 2 rfl).trans es4_14
  have es8_15 : s8 112 3 = s0 112 3 := (Gs8 112 3 rfl).trans es4_15
  clear es4_0 es4_1 es4_10 es4_11 es4_12 es4_13 es4_14 es4_15 es4_2 es4_3 es4_4 es4_5 es4_6 es4_7 es4_8 es4_9
  refine h_pop (pc' := 304) rfl rfl rfl ?_
  refine h_goto (pc' := 1441) rfl rfl ?_
  exact kk _ Is8 (by first | exact h_jf j0 (by omega) (by omega) (by omega) | exact Or.inr ⟨by omega, by omega, by omega⟩) (by first | exact h_jf j1 (by omega) (by omega) (by omega) | exact Or.inr ⟨by omega, by omega, by omega⟩) (by first | exact h_jf j2 (by omega) (by omega) (by omega) | exact Or.inr ⟨by omega, by omega, by omega⟩) (by first | exact h_jf j3 (by omega) (by omega) (by omega) | exact Or.inr ⟨by omega, by omega, by omega⟩)
theorem g_case_307 {ns : Nat} (hns : ns ≤ 320) (s0 : h_S) (I0 : h_I s0) (j0 : h_js (s0 96 0) (s0 111 0) (s0 112 0)) (j1 : h_js (s0 96 1) (s0 111 1) (s0 112 1)) (j2 : h_js (s0 96 2) (s0 111 2) (s0 112 2)) (j3 : h_js (s0 96 3) (s0 111 3) (s0 112 3)) (y3 : Int32) (b3 : Int) (hy3 : y3.toInt = b3) (hr : 0 ≤ b3 ∧ b3 + 5 ≤ ns) {Q : Option Value → h_S → Prop} (kk : ∀ τ, h_I τ → h_js (τ 96 0) (τ 111 0) (τ 112 0) → h_js (τ 96 1) (τ 111 1) (τ 112 1) → h_js (τ 96 2) (τ 111 2) (τ 112 2) → h_js (τ 96 3) (τ 111 3) (τ 112 3) → h_T g_P (g_Y ns) 225 1441 [(0, .ref 0), (1, .ref 9), (2, .ref 98), (3, .int y3)] [] τ Q) : h_T g_P (g_Y ns) 225 307 [(0, .ref 0), (1, .ref 9), (2, .ref 98), (3, .int y3)] [] s0 Q := by
  refine h_aload_n (pc' := 308) rfl rfl rfl ?_
  refine h_aload_n (pc' := 309) rfl rfl rfl ?_
  refine h_iload_n (pc' := 310) rfl rfl rfl ?_
  refine h_iconst (pc' := 311) (x := (Int32.ofInt 1)) rfl rfl rfl ?_
  refine h_iadd (pc' := 312) rfl rfl hy3 ci_1 rfl (by omega) (by omega) (fun z1 hz1 => ?_)
  refine h_iald (pc' := 313) (v := s0 0 (b3 + 1)) rfl rfl rfl hz1 (by omega) (by omega) rfl (fun z2 hz2 => ?_)
  have tz2 := h_rgv hz2
  refine h_aload_n (pc' := 314) rfl rfl rfl ?_
  refine h_iload_n (pc' := 315) rfl rfl rfl ?_
  refine h_iconst (pc' := 316) (x := (Int32.ofInt 2)) rfl rfl rfl ?_
  refine h_iadd (pc' := 317) rfl rfl hy3 ci_2 rfl (by omega) (by omega) (fun z3 hz3 => ?_)
  refine h_iald (pc' := 318) (v := s0 0 (b3 + 2)) rfl rfl rfl hz3 (by omega) (by omega) rfl (fun z4 hz4 => ?_)
  have tz4 := h_rgv hz4
  refine h_call (sp := false) (pc' := 321) (M := [(0, .ref 9), (1, .int z2), (2, .int z4)]) rfl rfl rfl rfl rfl rfl rfl rfl ?_
  refine w_87_9 _ I0 z2 _ hz2 z4 _ hz4 (fun r5 br5 hr5 s6 Is6 Gs6 => h_Kv ?_)
  have Zs6 : ∀ i, s6 0 i = s0 0 i := fun i => (Gs6 0 i rfl).trans rfl
  have es6_0 : s6 95 0 = s0 95 0 := (Gs6 95 0 rfl).trans rfl
  have es6_1 : s6 95 1 = s0 95 1 := (Gs6 95 1 rfl).trans rfl
  have es6_2 : s6 95 2 = s0 95 2 := (Gs6 95 2 rfl).trans rfl
  have es6_3 : s6 95 3 = s0 95 3 := (Gs6 95 3 rfl).trans rfl
  have es6_4 : s6 96 0 = s0 96 0 := (Gs6 96 0 rfl).trans rfl
  have es6_5 : s6 96 1 = s0 96 1 := (Gs6 96 1 rfl).trans rfl
  have es6_6 : s6 96 2 = s0 96 2 := (Gs6 96 2 rfl).trans rfl
  have es6_7 : s6 96 3 = s0 96 3 := (Gs6 96 3 rfl).trans rfl
  have es6_8 : s6 111 0 = s0 111 0 := (Gs6 111 0 rfl).trans rfl
  have es6_9 : s6 111 1 = s0 111 1 := (Gs6 111 1 rfl).trans rfl
  have es6_10 : s6 111 2 = s0 111 2 := (Gs6 111 2 rfl).trans rfl
  have es6_11 : s6 111 3 = s0 111 3 := (Gs6 111 3 rfl).trans rfl
  have es6_12 : s6 112 0 = s0 112 0 := (Gs6 112 0 rfl).trans rfl
  have es6_13 : s6 112 1 = s0 112 1 := (Gs6 112 1 rfl).trans rfl
  have es6_14 : s6 112 2 = s0 112 2 := (Gs6 112 2 rfl).trans rfl
  have es6_15 : s6 112 3 = s0 112 3 := (Gs6 112 3 rfl).trans rfl
  refine h_pop (pc' := 322) rfl rfl rfl ?_
  refine h_aload_n (pc' := 323) rfl rfl rfl ?_
  refine h_aload_n (pc' := 324) rfl rfl rfl ?_
  refine h_iload_n (pc' := 325) rfl rfl rfl ?_
  refine h_iconst (pc' := 326) (x := (Int32.ofInt 1)) rfl rfl rfl ?_
  refine h_iadd (pc' := 327) rfl rfl hy3 ci_1 rfl (by omega) (by omega) (fun z7 hz7 => ?_)
  refine h_iald (pc' := 328) (v := s0 0 (b3 + 1)) rfl rfl rfl hz7 (by omega) (by omega) (Zs6 _) (fun z8 hz8 => ?_)
  have tz8 := h_rgv hz8
  refine h_aload_n (pc' := 329) rfl rfl rfl ?_
  refine h_iload_n (pc' := 330) rfl rfl rfl ?_
  refine h_iconst (pc' := 331) (x := (Int32.ofInt 2)) rfl rfl rfl ?_
  refine h_iadd (pc' := 332) rfl rfl hy3 ci_2 rfl (by omega) (by omega) (fun z9 hz9 => ?_)
  refine h_iald (pc' := 333) (v := s0 0 (b3 + 2)) rfl rfl rfl hz9 (by omega) (by omega) (Zs6 _) (fun z10 hz10 => ?_)
  have tz10 := h_rgv hz10
  refine h_call (sp := false) (pc' := 336) (M := [(0, .ref 98), (1, .int z8), (2, .int z10)]) rfl rfl rfl rfl rfl rfl rfl rfl ?_
  refine w_168_98 _ Is6 z8 _ hz8 z10 _ hz10 (fun r11 br11 hr11 s12 Is12 Gs12 => h_Kv ?_)
  have Zs12 : ∀ i, s12 0 i = s0 0 i := fun i => (Gs12 0 i rfl).trans (Zs6 i)
  have es12_0 : s12 95 0 = s0 95 0 := (Gs12 95 0 rfl).trans es6_0
  have es12_1 : s12 95 1 = s0 95 1 := (Gs12 95 1 rfl).trans es6_1
  have es12_2 : s12 95 2 = s0 95 2 := (Gs12 95 2 rfl).trans es6_2
  have es12_3 : s12 95 3 = s0 95 3 := (Gs12 95 3 rfl).trans es6_3
  have es12_4 : s12 96 0 = s0 96 0 := (Gs12 96 0 rfl).trans es6_4
  have es12_5 : s12 96 1 = s0 96 1 := (Gs12 96 1 rfl).trans es6_5
  have es12_6 : s12 96 2 = s0 96 2 := (Gs12 96 2 rfl).trans es6_6
  have es12_7 : s12 96 3 = s0 96 3 := (Gs12 96 3 rfl).trans es6_7
  have es12_8 : s12 111 0 = s0 111 0 := (Gs12 111 0 rfl).trans es6_8
  have es12_9 : s12 111 1 = s0 111 1 := (Gs12 111 1 rfl).trans es6_9
  have es12_10 : s12 111 2 = s0 111 2 := (Gs12 111 2 rfl).trans es6_10
  have es12_11 : s12 111 3 = s0 111 3 := (Gs12 111 3 rfl).trans es6_11
  have es12_12 : s12 112 0 = s0 112 0 := (Gs12 112 0 rfl).trans es6_12
  have es12_13 : s12 112 1 = s0 112 1 := (Gs12 112 1 rfl).trans es6_13
  have es12_14 : s12 112 2 = s0 112 2 := (Gs12 112 2 rfl).trans es6_14
  have es12_15 : s12 112 3 = s0 112 3 := (Gs12 112 3 rfl).trans es6_15
  clear es6_0 es6_1 es6_10 es6_11 es6_12 es6_13 es6_14 es6_15 es6_2 es6_3 es6_4 es6_5 es6_6 es6_7 es6_8 es6_9
  refine h_pop (pc' := 337) rfl rfl rfl ?_
  refine h_goto (pc' := 1441) rfl rfl ?_
  exact kk _ Is12 (by first | exact h_jf j0 (by omega) (by omega) (by omega) | exact Or.inr ⟨by omega, by omega, by omega⟩) (by first | exact h_jf j1 (by omega) (by omega) (by omega) | exact Or.inr ⟨by omega, by omega, by omega⟩) (by first | exact h_jf j2 (by omega) (by omega) (by omega) | exact Or.inr ⟨by omega, by omega, by omega⟩) (by first | exact h_jf j3 (by omega) (by omega) (by omega) | exact Or.inr ⟨by omega, by omega, by omega⟩)
theorem g_case_340 {ns : Nat} (hns : ns ≤ 320) (s0 : h_S) (I0 : h_I s0) (j0 : h_js (s0 96 0) (s0 111 0) (s0 112 0)) (j1 : h_js (s0 96 1) (s0 111 1) (s0 112 1)) (j2 : h_js (s0 96 2) (s0 111 2) (s0 112 2)) (j3 : h_js (s0 96 3) (s0 111 3) (s0 112 3)) (y3 : Int32) (b3 : Int) (hy3 : y3.toInt = b3) (hr : 0 ≤ b3 ∧ b3 + 5 ≤ ns) {Q : Option Value → h_S → Prop} (kk : ∀ τ, h_I τ → h_js (τ 96 0) (τ 111 0) (τ 112 0) → h_js (τ 96 1) (τ 111 1) (τ 112 1) → h_js (τ 96 2) (τ 111 2) (τ 112 2) → h_js (τ 96 3) (τ 111 3) (τ 112 3) → h_T g_P (g_Y ns) 225 1441 [(0, .ref 0), (1, .ref 9), (2, .ref 98), (3, .int y3)] [] τ Q) : h_T g_P (g_Y ns) 225 340 [(0, .ref 0), (1, .ref 9), (2, .ref 98), (3, .int y3)] [] s0 Q := by
  refine h_aload_n (pc' := 341) rfl rfl rfl ?_
  refine h_aload_n (pc' := 342) rfl rfl rfl ?_
  refine h_iload_n (pc' := 343) rfl rfl rfl ?_
  refine h_iconst (pc' := 344) (x := (Int32.ofInt 1)) rfl rfl rfl ?_
  refine h_iadd (pc' := 345) rfl rfl hy3 ci_1 rfl (by omega) (by omega) (fun z1 hz1 => ?_)
  refine h_iald (pc' := 346) (v := s0 0 (b3 + 1)) rfl rfl rfl hz1 (by omega) (by omega) rfl (fun z2 hz2 => ?_)
  have tz2 := h_rgv hz2
  refine h_aload_n (pc' := 347) rfl rfl rfl ?_
  refine h_iload_n (pc' := 348) rfl rfl rfl ?_
  refine h_iconst (pc' := 349) (x := (Int32.ofInt 2)) rfl rfl rfl ?_
  refine h_iadd (pc' := 350) rfl rfl hy3 ci_2 rfl (by omega) (by omega) (fun z3 hz3 => ?_)
  refine h_iald (pc' := 351) (v := s0 0 (b3 + 2)) rfl rfl rfl hz3 (by omega) (by omega) rfl (fun z4 hz4 => ?_)
  have tz4 := h_rgv hz4
  refine h_call (sp := false) (pc' := 354) (M := [(0, .ref 9), (1, .int z2), (2, .int z4)]) rfl rfl rfl rfl rfl rfl rfl rfl ?_
  refine w_88_9 _ I0 z2 _ hz2 z4 _ hz4 (fun r5 br5 hr5 s6 Is6 Gs6 => h_Kv ?_)
  have Zs6 : ∀ i, s6 0 i = s0 0 i := fun i => (Gs6 0 i rfl).trans rfl
  have es6_0 : s6 95 0 = s0 95 0 := (Gs6 95 0 rfl).trans rfl
  have es6_1 : s6 95 1 = s0 95 1 := (Gs6 95 1 rfl).trans rfl
  have es6_2 : s6 95 2 = s0 95 2 := (Gs6 95 2 rfl).trans rfl
  have es6_3 : s6 95 3 = s0 95 3 := (Gs6 95 3 rfl).trans rfl
  have es6_4 : s6 96 0 = s0 96 0 := (Gs6 96 0 rfl).trans rfl
  have es6_5 : s6 96 1 = s0 96 1 := (Gs6 96 1 rfl).trans rfl
  have es6_6 : s6 96 2 = s0 96 2 := (Gs6 96 2 rfl).trans rfl
  have es6_7 : s6 96 3 = s0 96 3 := (Gs6 96 3 rfl).trans rfl
  have es6_8 : s6 111 0 = s0 111 0 := (Gs6 111 0 rfl).trans rfl
  have es6_9 : s6 111 1 = s0 111 1 := (Gs6 111 1 rfl).trans rfl
  have es6_10 : s6 111 2 = s0 111 2 := (Gs6 111 2 rfl).trans rfl
  have es6_11 : s6 111 3 = s0 111 3 := (Gs6 111 3 rfl).trans rfl
  have es6_12 : s6 112 0 = s0 112 0 := (Gs6 112 0 rfl).trans rfl
  have es6_13 : s6 112 1 = s0 112 1 := (Gs6 112 1 rfl).trans rfl
  have es6_14 : s6 112 2 = s0 112 2 := (Gs6 112 2 rfl).trans rfl
  have es6_15 : s6 112 3 = s0 112 3 := (Gs6 112 3 rfl).trans rfl
  refine h_pop (pc' := 355) rfl rfl rfl ?_
  refine h_aload_n (pc' := 356) rfl rfl rfl ?_
  refine h_aload_n (pc' := 357) rfl rfl rfl ?_
  refine h_iload_n (pc' := 358) rfl rfl rfl ?_
  refine h_iconst (pc' := 359) (x := (Int32.ofInt 1)) rfl rfl rfl ?_
  refine h_iadd (pc' := 360) rfl rfl hy3 ci_1 rfl (by omega) (by omega) (fun z7 hz7 => ?_)
  refine h_iald (pc' := 361) (v := s0 0 (b3 + 1)) rfl rfl rfl hz7 (by omega) (by omega) (Zs6 _) (fun z8 hz8 => ?_)
  have tz8 := h_rgv hz8
  refine h_aload_n (pc' := 362) rfl rfl rfl ?_
  refine h_iload_n (pc' := 363) rfl rfl rfl ?_
  refine h_iconst (pc' := 364) (x := (Int32.ofInt 2)) rfl rfl rfl ?_
  refine h_iadd (pc' := 365) rfl rfl hy3 ci_2 rfl (by omega) (by omega) (fun z9 hz9 => ?_)
  refine h_iald (pc' := 366) (v := s0 0 (b3 + 2)) rfl rfl rfl hz9 (by omega) (by omega) (Zs6 _) (fun z10 hz10 => ?_)
  have tz10 := h_rgv hz10
  refine h_call (sp := false) (pc' := 369) (M := [(0, .ref 98), (1, .int z8), (2, .int z10)]) rfl rfl rfl rfl rfl rfl rfl rfl ?_
  refine w_170_98 _ Is6 z8 _ hz8 z10 _ hz10 (fun r11 br11 hr11 s12 Is12 Gs12 => h_Kv ?_)
  have Zs12 : ∀ i, s12 0 i = s0 0 i := fun i => (Gs12 0 i rfl).trans (Zs6 i)
  have es12_0 : s12 95 0 = s0 95 0 := (Gs12 95 0 rfl).trans es6_0
  have es12_1 : s12 95 1 = s0 95 1 := (Gs12 95 1 rfl).trans es6_1
  have es12_2 : s12 95 2 = s0 95 2 := (Gs12 95 2 rfl).trans es6_2
  have es12_3 : s12 95 3 = s0 95 3 := (Gs12 95 3 rfl).trans es6_3
  have es12_4 : s12 96 0 = s0 96 0 := (Gs12 96 0 rfl).trans es6_4
  have es12_5 : s12 96 1 = s0 96 1 := (Gs12 96 1 rfl).trans es6_5
  have es12_6 : s12 96 2 = s0 96 2 := (Gs12 96 2 rfl).trans es6_6
  have es12_7 : s12 96 3 = s0 96 3 := (Gs12 96 3 rfl).trans es6_7
  have es12_8 : s12 111 0 = s0 111 0 := (Gs12 111 0 rfl).trans es6_8
  have es12_9 : s12 111 1 = s0 111 1 := (Gs12 111 1 rfl).trans es6_9
  have es12_10 : s12 111 2 = s0 111 2 := (Gs12 111 2 rfl).trans es6_10
  have es12_11 : s12 111 3 = s0 111 3 := (Gs12 111 3 rfl).trans es6_11
  have es12_12 : s12 112 0 = s0 112 0 := (Gs12 112 0 rfl).trans es6_12
  have es12_13 : s12 112 1 = s0 112 1 := (Gs12 112 1 rfl).trans es6_13
  have es12_14 : s12 112 2 = s0 112 2 := (Gs12 112 2 rfl).trans es6_14
  have es12_15 : s12 112 3 = s0 112 3 := (Gs12 112 3 rfl).trans es6_15
  clear es6_0 es6_1 es6_10 es6_11 es6_12 es6_13 es6_14 es6_15 es6_2 es6_3 es6_4 es6_5 es6_6 es6_7 es6_8 es6_9
  refine h_pop (pc' := 370) rfl rfl rfl ?_
  refine h_goto (pc' := 1441) rfl rfl ?_
  exact kk _ Is12 (by first | exact h_jf j0 (by omega) (by omega) (by omega) | exact Or.inr ⟨by omega, by omega, by omega⟩) (by first | exact h_jf j1 (by omega) (by omega) (by omega) | exact Or.inr ⟨by omega, by omega, by omega⟩) (by first | exact h_jf j2 (by omega) (by omega) (by omega) | exact Or.inr ⟨by omega, by omega, by omega⟩) (by first | exact h_jf j3 (by omega) (by omega) (by omega) | exact Or.inr ⟨by omega, by omega, by omega⟩)
theorem g_case_373 {ns : Nat} (hns : ns ≤ 320) (s0 : h_S) (I0 : h_I s0) (j0 : h_js (s0 96 0) (s0 111 0) (s0 112 0)) (j1 : h_js (s0 96 1) (s0 111 1) (s0 112 1)) (j2 : h_js (s0 96 2) (s0 111 2) (s0 112 2)) (j3 : h_js (s0 96 3) (s0 111 3) (s0 112 3)) (y3 : Int32) (b3 : Int) (hy3 : y3.toInt = b3) (hr : 0 ≤ b3 ∧ b3 + 5 ≤ ns) {Q : Option Value → h_S → Prop} (kk : ∀ τ, h_I τ → h_js (τ 96 0) (τ 111 0) (τ 112 0) → h_js (τ 96 1) (τ 111 1) (τ 112 1) → h_js (τ 96 2) (τ 111 2) (τ 112 2) → h_js (τ 96 3) (τ 111 3) (τ 112 3) → h_T g_P (g_Y ns) 225 1441 [(0, .ref 0), (1, .ref 9), (2, .ref 98), (3, .int y3)] [] τ Q) : h_T g_P (g_Y ns) 225 373 [(0, .ref 0), (1, .ref 9), (2, .ref 98), (3, .int y3)] [] s0 Q := by
  refine h_aload_n (pc' := 374) rfl rfl rfl ?_
  refine h_aload_n (pc' := 375) rfl rfl rfl ?_
  refine h_iload_n (pc' := 376) rfl rfl rfl ?_
  refine h_iconst (pc' := 377) (x := (Int32.ofInt 1)) rfl rfl rfl ?_
  refine h_iadd (pc' := 378) rfl rfl hy3 ci_1 rfl (by omega) (by omega) (fun z1 hz1 => ?_)
  refine h_iald (pc' := 379) (v := s0 0 (b3 + 1)) rfl rfl rfl hz1 (by omega) (by omega) rfl (fun z2 hz2 => ?_)
  have tz2 := h_rgv hz2
  refine h_aload_n (pc' := 380) rfl rfl rfl ?_
  refine h_iload_n (pc' := 381) rfl rfl rfl ?_
  refine h_iconst (pc' := 382) (x := (Int32.ofInt 2)) rfl rfl rfl ?_
  refine h_iadd (pc' := 383) rfl rfl hy3 ci_2 rfl (by omega) (by omega) (fun z3 hz3 => ?_)
  refine h_iald (pc' := 384) (v := s0 0 (b3 + 2)) rfl rfl rfl hz3 (by omega) (by omega) rfl (fun z4 hz4 => ?_)
  have tz4 := h_rgv hz4
  refine h_call (sp := false) (pc' := 387) (M := [(0, .ref 9), (1, .int z2), (2, .int z4)]) rfl rfl rfl rfl rfl rfl rfl rfl ?_
  refine w_89_9 _ I0 z2 _ hz2 z4 _ hz4 (fun r5 br5 hr5 s6 Is6 Gs6 tr5 => h_Kv ?_)
  have Zs6 : ∀ i, s6 0 i = s0 0 i := fun i => (Gs6 0 i rfl).trans rfl
  have es6_0 : s6 95 0 = s0 95 0 := (Gs6 95 0 rfl).trans rfl
  have es6_1 : s6 95 1 = s0 95 1 := (Gs6 95 1 rfl).trans rfl
  have es6_2 : s6 95 2 = s0 95 2 := (Gs6 95 2 rfl).trans rfl
  have es6_3 : s6 95 3 = s0 95 3 := (Gs6 95 3 rfl).trans rfl
  have es6_4 : s6 96 0 = s0 96 0 := (Gs6 96 0 rfl).trans rfl
  have es6_5 : s6 96 1 = s0 96 1 := (Gs6 96 1 rfl).trans rfl
  have es6_6 : s6 96 2 = s0 96 2 := (Gs6 96 2 rfl).trans rfl
  have es6_7 : s6 96 3 = s0 96 3 := (Gs6 96 3 rfl).trans rfl
  have es6_8 : s6 111 0 = s0 111 0 := (Gs6 111 0 rfl).trans rfl
  have es6_9 : s6 111 1 = s0 111 1 := (Gs6 111 1 rfl).trans rfl
  have es6_10 : s6 111 2 = s0 111 2 := (Gs6 111 2 rfl).trans rfl
  have es6_11 : s6 111 3 = s0 111 3 := (Gs6 111 3 rfl).trans rfl
  have es6_12 : s6 112 0 = s0 112 0 := (Gs6 112 0 rfl).trans rfl
  have es6_13 : s6 112 1 = s0 112 1 := (Gs6 112 1 rfl).trans rfl
  have es6_14 : s6 112 2 = s0 112 2 := (Gs6 112 2 rfl).trans rfl
  have es6_15 : s6 112 3 = s0 112 3 := (Gs6 112 3 rfl).trans rfl
  refine h_pop (pc' := 388) rfl rfl rfl ?_
  refine h_aload_n (pc' := 389) rfl rfl rfl ?_
  refine h_aload_n (pc' := 390) rfl rfl rfl ?_
  refine h_iload_n (pc' := 391) rfl rfl rfl ?_
  refine h_iconst (pc' := 392) (x := (Int32.ofInt 1)) rfl rfl rfl ?_
  refine h_iadd (pc' := 393) rfl rfl hy3 ci_1 rfl (by omega) (by omega) (fun z7 hz7 => ?_)
  refine h_iald (pc' := 394) (v := s0 0 (b3 + 1)) rfl rfl rfl hz7 (by omega) (by omega) (Zs6 _) (fun z8 hz8 => ?_)
  have tz8 := h_rgv hz8
  refine h_aload_n (pc' := 395) rfl rfl rfl ?_
  refine h_iload_n (pc' := 396) rfl rfl rfl ?_
  refine h_iconst (pc' := 397) (x := (Int32.ofInt 2)) rfl rfl rfl ?_
  refine h_iadd (pc' := 398) rfl rfl hy3 ci_2 rfl (by omega) (by omega) (fun z9 hz9 => ?_)
  refine h_iald (pc' := 399) (v := s0 0 (b3 + 2)) rfl rfl rfl hz9 (by omega) (by omega) (Zs6 _) (fun z10 hz10 => ?_)
  have tz10 := h_rgv hz10
  refine h_call (sp := false) (pc' := 402) (M := [(0, .ref 98), (1, .int z8), (2, .int z10)]) rfl rfl rfl rfl rfl rfl rfl rfl ?_
  refine w_173_98 _ Is6 z8 _ hz8 z10 _ hz10 (fun r11 br11 hr11 s12 Is12 Gs12 tr11 => h_Kv ?_)
  have Zs12 : ∀ i, s12 0 i = s0 0 i := fun i => (Gs12 0 i rfl).trans (Zs6 i)
  have es12_0 : s12 95 0 = s0 95 0 := (Gs12 95 0 rfl).trans es6_0
  have es12_1 : s12 95 1 = s0 95 1 := (Gs12 95 1 rfl).trans es6_1
  have es12_2 : s12 95 2 = s0 95 2 := (Gs12 95 2 rfl).trans es6_2
  have es12_3 : s12 95 3 = s0 95 3 := (Gs12 95 3 rfl).trans es6_3
  have es12_4 : s12 96 0 = s0 96 0 := (Gs12 96 0 rfl).trans es6_4
  have es12_5 : s12 96 1 = s0 96 1 := (Gs12 96 1 rfl).trans es6_5
  have es12_6 : s12 96 2 = s0 96 2 := (Gs12 96 2 rfl).trans es6_6
  have es12_7 : s12 96 3 = s0 96 3 := (Gs12 96 3 rfl).trans es6_7
  have es12_8 : s12 111 0 = s0 111 0 := (Gs12 111 0 rfl).trans es6_8
  have es12_9 : s12 111 1 = s0 111 1 := (Gs12 111 1 rfl).trans es6_9
  have es12_10 : s12 111 2 = s0 111 2 := (Gs12 111 2 rfl).trans es6_10
  have es12_11 : s12 111 3 = s0 111 3 := (Gs12 111 3 rfl).trans es6_11
  have es12_12 : s12 112 0 = s0 112 0 := (Gs12 112 0 rfl).trans es6_12
  have es12_13 : s12 112 1 = s0 112 1 := (Gs12 112 1 rfl).trans es6_13
  have es12_14 : s12 112 2 = s0 112 2 := (Gs12 112 2 rfl).trans es6_14
  have es12_15 : s12 112 3 = s0 112 3 := (Gs12 112 3 rfl).trans es6_15
  clear es6_0 es6_1 es6_10 es6_11 es6_12 es6_13 es6_14 es6_15 es6_2 es6_3 es6_4 es6_5 es6_6 es6_7 es6_8 es6_9
  refine h_pop (pc' := 403) rfl rfl rfl ?_
  refine h_goto (pc' := 1441) rfl rfl ?_
  exact kk _ Is12 (by first | exact h_jf j0 (by omega) (by omega) (by omega) | exact Or.inr ⟨by omega, by omega, by omega⟩) (by first | exact h_jf j1 (by omega) (by omega) (by omega) | exact Or.inr ⟨by omega, by omega, by omega⟩) (by first | exact h_jf j2 (by omega) (by omega) (by omega) | exact Or.inr ⟨by omega, by omega, by omega⟩) (by first | exact h_jf j3 (by omega) (by omega) (by omega) | exact Or.inr ⟨by omega, by omega, by omega⟩)
theorem g_case_406 {ns : Nat} (hns : ns ≤ 320) (s0 : h_S) (I0 : h_I s0) (j0 : h_js (s0 96 0) (s0 111 0) (s0 112 0)) (j1 : h_js (s0 96 1) (s0 111 1) (s0 112 1)) (j2 : h_js (s0 96 2) (s0 111 2) (s0 112 2)) (j3 : h_js (s0 96 3) (s0 111 3) (s0 112 3)) (y3 : Int32) (b3 : Int) (hy3 : y3.toInt = b3) (hr : 0 ≤ b3 ∧ b3 + 5 ≤ ns) {Q : Option Value → h_S → Prop} (kk : ∀ τ, h_I τ → h_js (τ 96 0) (τ 111 0) (τ 112 0) → h_js (τ 96 1) (τ 111 1) (τ 112 1) → h_js (τ 96 2) (τ 111 2) (τ 112 2) → h_js (τ 96 3) (τ 111 3) (τ 112 3) → h_T g_P (g_Y ns) 225 1441 [(0, .ref 0), (1, .ref 9), (2, .ref 98), (3, .int y3)] [] τ Q) : h_T g_P (g_Y ns) 225 406 [(0, .ref 0), (1, .ref 9), (2, .ref 98), (3, .int y3)] [] s0 Q := by
  refine h_aload_n (pc' := 407) rfl rfl rfl ?_
  refine h_aload_n (pc' := 408) rfl rfl rfl ?_
  refine h_iload_n (pc' := 409) rfl rfl rfl ?_
  refine h_iconst (pc' := 410) (x := (Int32.ofInt 1)) rfl rfl rfl ?_
  refine h_iadd (pc' := 411) rfl rfl hy3 ci_1 rfl (by omega) (by omega) (fun z1 hz1 => ?_)
  refine h_iald (pc' := 412) (v := s0 0 (b3 + 1)) rfl rfl rfl hz1 (by omega) (by omega) rfl (fun z2 hz2 => ?_)
  have tz2 := h_rgv hz2
  refine h_call (sp := false) (pc' := 415) (M := [(0, .ref 9), (1, .int z2)]) rfl rfl rfl rfl rfl rfl rfl rfl ?_
  refine w_90_9 _ I0 z2 _ hz2 (fun r3 br3 hr3 s4 Is4 Gs4 tr3 => h_Kv ?_)
  have Zs4 : ∀ i, s4 0 i = s0 0 i := fun i => (Gs4 0 i rfl).trans rfl
  have es4_0 : s4 95 0 = s0 95 0 := (Gs4 95 0 rfl).trans rfl
  have es4_1 : s4 95 1 = s0 95 1 := (Gs4 95 1 rfl).trans rfl
  have es4_2 : s4 95 2 = s0 95 2 := (Gs4 95 2 rfl).trans rfl
  have es4_3 : s4 95 3 = s0 95 3 := (Gs4 95 3 rfl).trans rfl
  have es4_4 : s4 96 0 = s0 96 0 := (Gs4 96 0 rfl).trans rfl
  have es4_5 : s4 96 1 = s0 96 1 := (Gs4 96 1 rfl).trans rfl
  have es4_6 : s4 96 2 = s0 96 2 := (Gs4 96 2 rfl).trans rfl
  have es4_7 : s4 96 3 = s0 96 3 := (Gs4 96 3 rfl).trans rfl
  have es4_8 : s4 111 0 = s0 111 0 := (Gs4 111 0 rfl).trans rfl
  have es4_9 : s4 111 1 = s0 111 1 := (Gs4 111 1 rfl).trans rfl
  have es4_10 : s4 111 2 = s0 111 2 := (Gs4 111 2 rfl).trans rfl
  have es4_11 : s4 111 3 = s0 111 3 := (Gs4 111 3 rfl).trans rfl
  have es4_12 : s4 112 0 = s0 112 0 := (Gs4 112 0 rfl).trans rfl
  have es4_13 : s4 112 1 = s0 112 1 := (Gs4 112 1 rfl).trans rfl
  have es4_14 : s4 112 2 = s0 112 2 := (Gs4 112 2 rfl).trans rfl
  have es4_15 : s4 112 3 = s0 112 3 := (Gs4 112 3 rfl).trans rfl
  refine h_pop (pc' := 416) rfl rfl rfl ?_
  refine h_aload_n (pc' := 417) rfl rfl rfl ?_
  refine h_aload_n (pc' := 418) rfl rfl rfl ?_
  refine h_iload_n (pc' := 419) rfl rfl rfl ?_
  refine h_iconst (pc' := 420) (x := (Int32.ofInt 1)) rfl rfl rfl ?_
  refine h_iadd (pc' := 421) rfl rfl hy3 ci_1 rfl (by omega) (by omega) (fun z5 hz5 => ?_)
  refine h_iald (pc' := 422) (v := s0 0 (b3 + 1)) rfl rfl rfl hz5 (by omega) (by omega) (Zs4 _) (fun z6 hz6 => ?_)
  have tz6 := h_rgv hz6
  refine h_call (sp := false) (pc' := 425) (M := [(0, .ref 98), (1, .int z6)]) rfl rfl rfl rfl rfl rfl rfl rfl ?_
  refine w_174_98 _ Is4 z6 _ hz6 (fun r7 br7 hr7 s8 Is8 Gs8 tr7 => h_Kv ?_)
  have Zs8 : ∀ i, s8 0 i = s0 0 i := fun i => (Gs8 0 i rfl).trans (Zs4 i)
  have es8_0 : s8 95 0 = s0 95 0 := (Gs8 95 0 rfl).trans es4_0
  have es8_1 : s8 95 1 = s0 95 1 := (Gs8 95 1 rfl).trans es4_1
  have es8_2 : s8 95 2 = s0 95 2 := (Gs8 95 2 rfl).trans es4_2
  have es8_3 : s8 95 3 = s0 95 3 := (Gs8 95 3 rfl).trans es4_3
  have es8_4 : s8 96 0 = s0 96 0 := (Gs8 96 0 rfl).trans es4_4
  have es8_5 : s8 96 1 = s0 96 1 := (Gs8 96 1 rfl).trans es4_5
  have es8_6 : s8 96 2 = s0 96 2 := (Gs8 96 2 rfl).trans es4_6
  have es8_7 : s8 96 3 = s0 96 3 := (Gs8 96 3 rfl).trans es4_7
  have es8_8 : s8 111 0 = s0 111 0 := (Gs8 111 0 rfl).trans es4_8
  have es8_9 : s8 111 1 = s0 111 1 := (Gs8 111 1 rfl).trans es4_9
  have es8_10 : s8 111 2 = s0 111 2 := (Gs8 111 2 rfl).trans es4_10
  have es8_11 : s8 111 3 = s0 111 3 := (Gs8 111 3 rfl).trans es4_11
  have es8_12 : s8 112 0 = s0 112 0 := (Gs8 112 0 rfl).trans es4_12
  have es8_13 : s8 112 1 = s0 112 1 := (Gs8 112 1 rfl).trans es4_13
  have es8_14 : s8 112 2 = s0 112 2 := (Gs8 112 2 rfl).trans es4_14
  have es8_15 : s8 112 3 = s0 112 3 := (Gs8 112 3 rfl).trans es4_15
  clear es4_0 es4_1 es4_10 es4_11 es4_12 es4_13 es4_14 es4_15 es4_2 es4_3 es4_4 es4_5 es4_6 es4_7 es4_8 es4_9
  refine h_pop (pc' := 426) rfl rfl rfl ?_
  refine h_goto (pc' := 1441) rfl rfl ?_
  exact kk _ Is8 (by first | exact h_jf j0 (by omega) (by omega) (by omega) | exact Or.inr ⟨by omega, by omega, by omega⟩) (by first | exact h_jf j1 (by omega) (by omega) (by omega) | exact Or.inr ⟨by omega, by omega, by omega⟩) (by first | exact h_jf j2 (by omega) (by omega) (by omega) | exact Or.inr ⟨by omega, by omega, by omega⟩) (by first | exact h_jf j3 (by omega) (by omega) (by omega) | exact Or.inr ⟨by omega, by omega, by omega⟩)
theorem g_case_429 {ns : Nat} (hns : ns ≤ 320) (s0 : h_S) (I0 : h_I s0) (j0 : h_js (s0 96 0) (s0 111 0) (s0 112 0)) (j1 : h_js (s0 96 1) (s0 111 1) (s0 112 1)) (j2 : h_js (s0 96 2) (s0 111 2) (s0 112 2)) (j3 : h_js (s0 96 3) (s0 111 3) (s0 112 3)) (y3 : Int32) (b3 : Int) (hy3 : y3.toInt = b3) (hr : 0 ≤ b3 ∧ b3 + 5 ≤ ns) {Q : Option Value → h_S → Prop} (kk : ∀ τ, h_I τ → h_js (τ 96 0) (τ 111 0) (τ 112 0) → h_js (τ 96 1) (τ 111 1) (τ 112 1) → h_js (τ 96 2) (τ 111 2) (τ 112 2) → h_js (τ 96 3) (τ 111 3) (τ 112 3) → h_T g_P (g_Y ns) 225 1441 [(0, .ref 0), (1, .ref 9), (2, .ref 98), (3, .int y3)] [] τ Q) : h_T g_P (g_Y ns) 225 429 [(0, .ref 0), (1, .ref 9), (2, .ref 98), (3, .int y3)] [] s0 Q := by
  refine h_aload_n (pc' := 430) rfl rfl rfl ?_
  refine h_aload_n (pc' := 431) rfl rfl rfl ?_
  refine h_iload_n (pc' := 432) rfl rfl rfl ?_
  refine h_iconst (pc' := 433) (x := (Int32.ofInt 1)) rfl rfl rfl ?_
  refine h_iadd (pc' := 434) rfl rfl hy3 ci_1 rfl (by omega) (by omega) (fun z1 hz1 => ?_)
  refine h_iald (pc' := 435) (v := s0 0 (b3 + 1)) rfl rfl rfl hz1 (by omega) (by omega) rfl (fun z2 hz2 => ?_)
  have tz2 := h_rgv hz2
  refine h_aload_n (pc' := 436) rfl rfl rfl ?_
  refine h_iload_n (pc' := 437) rfl rfl rfl ?_
  refine h_iconst (pc' := 438) (x := (Int32.ofInt 2)) rfl rfl rfl ?_
  refine h_iadd (pc' := 439) rfl rfl hy3 ci_2 rfl (by omega) (by omega) (fun z3 hz3 => ?_)
  refine h_iald (pc' := 440) (v := s0 0 (b3 + 2)) rfl rfl rfl hz3 (by omega) (by omega) rfl (fun z4 hz4 => ?_)
  have tz4 := h_rgv hz4
  refine h_call (sp := false) (pc' := 443) (M := [(0, .ref 9), (1, .int z2), (2, .int z4)]) rfl rfl rfl rfl rfl rfl rfl rfl ?_
  refine w_91_9 _ I0 z2 _ hz2 z4 _ hz4 (fun r5 br5 hr5 s6 Is6 Gs6 tr5 => h_Kv ?_)
  have Zs6 : ∀ i, s6 0 i = s0 0 i := fun i => (Gs6 0 i rfl).trans rfl
  have es6_0 : s6 95 0 = s0 95 0 := (Gs6 95 0 rfl).trans rfl
  have es6_1 : s6 95 1 = s0 95 1 := (Gs6 95 1 rfl).trans rfl
  have es6_2 : s6 95 2 = s0 95 2 := (Gs6 95 2 rfl).trans rfl
  have es6_3 : s6 95 3 = s0 95 3 := (Gs6 95 3 rfl).trans rfl
  have es6_4 : s6 96 0 = s0 96 0 := (Gs6 96 0 rfl).trans rfl
  have es6_5 : s6 96 1 = s0 96 1 := (Gs6 96 1 rfl).trans rfl
  have es6_6 : s6 96 2 = s0 96 2 := (Gs6 96 2 rfl).trans rfl
  have es6_7 : s6 96 3 = s0 96 3 := (Gs6 96 3 rfl).trans rfl
  have es6_8 : s6 111 0 = s0 111 0 := (Gs6 111 0 rfl).trans rfl
  have es6_9 : s6 111 1 = s0 111 1 := (Gs6 111 1 rfl).trans rfl
  have es6_10 : s6 111 2 = s0 111 2 := (Gs6 111 2 rfl).trans rfl
  have es6_11 : s6 111 3 = s0 111 3 := (Gs6 111 3 rfl).trans rfl
  have es6_12 : s6 112 0 = s0 112 0 := (Gs6 112 0 rfl).trans rfl
  have es6_13 : s6 112 1 = s0 112 1 := (Gs6 112 1 rfl).trans rfl
  have es6_14 : s6 112 2 = s0 112 2 := (Gs6 112 2 rfl).trans rfl
  have es6_15 : s6 112 3 = s0 112 3 := (Gs6 112 3 rfl).trans rfl
  refine h_pop (pc' := 444) rfl rfl rfl ?_
  refine h_aload_n (pc' := 445) rfl rfl rfl ?_
  refine h_aload_n (pc' := 446) rfl rfl rfl ?_
  refine h_iload_n (pc' := 447) rfl rfl rfl ?_
  refine h_iconst (pc' := 448) (x := (Int32.ofInt 1)) rfl rfl rfl ?_
  refine h_iadd (pc' := 449) rfl rfl hy3 ci_1 rfl (by omega) (by omega) (fun z7 hz7 => ?_)
  refine h_iald (pc' := 450) (v := s0 0 (b3 + 1)) rfl rfl rfl hz7 (by omega) (by omega) (Zs6 _) (fun z8 hz8 => ?_)
  have tz8 := h_rgv hz8
  refine h_aload_n (pc' := 451) rfl rfl rfl ?_
  refine h_iload_n (pc' := 452) rfl rfl rfl ?_
  refine h_iconst (pc' := 453) (x := (Int32.ofInt 2)) rfl rfl rfl ?_
  refine h_iadd (pc' := 454) rfl rfl hy3 ci_2 rfl (by omega) (by omega) (fun z9 hz9 => ?_)
  refine h_iald (pc' := 455) (v := s0 0 (b3 + 2)) rfl rfl rfl hz9 (by omega) (by omega) (Zs6 _) (fun z10 hz10 => ?_)
  have tz10 := h_rgv hz10
  refine h_call (sp := false) (pc' := 458) (M := [(0, .ref 98), (1, .int z8), (2, .int z10)]) rfl rfl rfl rfl rfl rfl rfl rfl ?_
  refine w_175_98 _ Is6 z8 _ hz8 z10 _ hz10 (fun r11 br11 hr11 s12 Is12 Gs12 tr11 => h_Kv ?_)
  have Zs12 : ∀ i, s12 0 i = s0 0 i := fun i => (Gs12 0 i rfl).trans (Zs6 i)
  have es12_0 : s12 95 0 = s0 95 0 := (Gs12 95 0 rfl).trans es6_0
  have es12_1 : s12 95 1 = s0 95 1 := (Gs12 95 1 rfl).trans es6_1
  have es12_2 : s12 95 2 = s0 95 2 := (Gs12 95 2 rfl).trans es6_2
  have es12_3 : s12 95 3 = s0 95 3 := (Gs12 95 3 rfl).trans es6_3
  have es12_4 : s12 96 0 = s0 96 0 := (Gs12 96 0 rfl).trans es6_4
  have es12_5 : s12 96 1 = s0 96 1 := (Gs12 96 1 rfl).trans es6_5
  have es12_6 : s12 96 2 = s0 96 2 := (Gs12 96 2 rfl).trans es6_6
  have es12_7 : s12 96 3 = s0 96 3 := (Gs12 96 3 rfl).trans es6_7
  have es12_8 : s12 111 0 = s0 111 0 := (Gs12 111 0 rfl).trans es6_8
  have es12_9 : s12 111 1 = s0 111 1 := (Gs12 111 1 rfl).trans es6_9
  have es12_10 : s12 111 2 = s0 111 2 := (Gs12 111 2 rfl).trans es6_10
  have es12_11 : s12 111 3 = s0 111 3 := (Gs12 111 3 rfl).trans es6_11
  have es12_12 : s12 112 0 = s0 112 0 := (Gs12 112 0 rfl).trans es6_12
  have es12_13 : s12 112 1 = s0 112 1 := (Gs12 112 1 rfl).trans es6_13
  have es12_14 : s12 112 2 = s0 112 2 := (Gs12 112 2 rfl).trans es6_14
  have es12_15 : s12 112 3 = s0 112 3 := (Gs12 112 3 rfl).trans es6_15
  clear es6_0 es6_1 es6_10 es6_11 es6_12 es6_13 es6_14 es6_15 es6_2 es6_3 es6_4 es6_5 es6_6 es6_7 es6_8 es6_9
  refine h_pop (pc' := 459) rfl rfl rfl ?_
  refine h_goto (pc' := 1441) rfl rfl ?_
  exact kk _ Is12 (by first | exact h_jf j0 (by omega) (by omega) (by omega) | exact Or.inr ⟨by omega, by omega, by omega⟩) (by first | exact h_jf j1 (by omega) (by omega) (by omega) | exact Or.inr ⟨by omega, by omega, by omega⟩) (by first | exact h_jf j2 (by omega) (by omega) (by omega) | exact Or.inr ⟨by omega, by omega, by omega⟩) (by first | exact h_jf j3 (by omega) (by omega) (by omega) | exact Or.inr ⟨by omega, by omega, by omega⟩)
theorem g_case_462 {ns : Nat} (hns : ns ≤ 320) (s0 : h_S) (I0 : h_I s0) (j0 : h_js (s0 96 0) (s0 111 0) (s0 112 0)) (j1 : h_js (s0 96 1) (s0 111 1) (s0 112 1)) (j2 : h_js (s0 96 2) (s0 111 2) (s0 112 2)) (j3 : h_js (s0 96 3) (s0 111 3) (s0 112 3)) (y3 : Int32) (b3 : Int) (hy3 : y3.toInt = b3) (hr : 0 ≤ b3 ∧ b3 + 5 ≤ ns) {Q : Option Value → h_S → Prop} (kk : ∀ τ, h_I τ → h_js (τ 96 0) (τ 111 0) (τ 112 0) → h_js (τ 96 1) (τ 111 1) (τ 112 1) → h_js (τ 96 2) (τ 111 2) (τ 112 2) → h_js (τ 96 3) (τ 111 3) (τ 112 3) → h_T g_P (g_Y ns) 225 1441 [(0, .ref 0), (1, .ref 9), (2, .ref 98), (3, .int y3)] [] τ Q) : h_T g_P (g_Y ns) 225 462 [(0, .ref 0), (1, .ref 9), (2, .ref 98), (3, .int y3)] [] s0 Q := by
  refine h_aload_n (pc' := 463) rfl rfl rfl ?_
  refine h_aload_n (pc' := 464) rfl rfl rfl ?_
  refine h_iload_n (pc' := 465) rfl rfl rfl ?_
  refine h_iconst (pc' := 466) (x := (Int32.ofInt 1)) rfl rfl rfl ?_
  refine h_iadd (pc' := 467) rfl rfl hy3 ci_1 rfl (by omega) (by omega) (fun z1 hz1 => ?_)
  refine h_iald (pc' := 468) (v := s0 0 (b3 + 1)) rfl rfl rfl hz1 (by omega) (by omega) rfl (fun z2 hz2 => ?_)
  have tz2 := h_rgv hz2
  refine h_aload_n (pc' := 469) rfl rfl rfl ?_
  refine h_iload_n (pc' := 470) rfl rfl rfl ?_
  refine h_iconst (pc' := 471) (x := (Int32.ofInt 2)) rfl rfl rfl ?_
  refine h_iadd (pc' := 472) rfl rfl hy3 ci_2 rfl (by omega) (by omega) (fun z3 hz3 => ?_)
  refine h_iald (pc' := 473) (v := s0 0 (b3 + 2)) rfl rfl rfl hz3 (by omega) (by omega) rfl (fun z4 hz4 => ?_)
  have tz4 := h_rgv hz4
  refine h_call (sp := false) (pc' := 476) (M := [(0, .ref 9), (1, .int z2), (2, .int z4)]) rfl rfl rfl rfl rfl rfl rfl rfl ?_
  refine w_92_9 _ I0 z2 _ hz2 z4 _ hz4 (fun r5 br5 hr5 s6 Is6 Gs6 tr5 => h_Kv ?_)
  have Zs6 : ∀ i, s6 0 i = s0 0 i := fun i => (Gs6 0 i rfl).trans rfl
  have es6_0 : s6 95 0 = s0 95 0 := (Gs6 95 0 rfl).trans rfl
  have es6_1 : s6 95 1 = s0 95 1 := (Gs6 95 1 rfl).trans rfl
  have es6_2 : s6 95 2 = s0 95 2 := (Gs6 95 2 rfl).trans rfl
  have es6_3 : s6 95 3 = s0 95 3 := (Gs6 95 3 rfl).trans rfl
  have es6_4 : s6 96 0 = s0 96 0 := (Gs6 96 0 rfl).trans rfl
  have es6_5 : s6 96 1 = s0 96 1 := (Gs6 96 1 rfl).trans rfl
  have es6_6 : s6 96 2 = s0 96 2 := (Gs6 96 2 rfl).trans rfl
  have es6_7 : s6 96 3 = s0 96 3 := (Gs6 96 3 rfl).trans rfl
  have es6_8 : s6 111 0 = s0 111 0 := (Gs6 111 0 rfl).trans rfl
  have es6_9 : s6 111 1 = s0 111 1 := (Gs6 111 1 rfl).trans rfl
  have es6_10 : s6 111 2 = s0 111 2 := (Gs6 111 2 rfl).trans rfl
  have es6_11 : s6 111 3 = s0 111 3 := (Gs6 111 3 rfl).trans rfl
  have es6_12 : s6 112 0 = s0 112 0 := (Gs6 112 0 rfl).trans rfl
  have es6_13 : s6 112 1 = s0 112 1 := (Gs6 112 1 rfl).trans rfl
  have es6_14 : s6 112 2 = s0 112 2 := (Gs6 112 2 rfl).trans rfl
  have es6_15 : s6 112 3 = s0 112 3 := (Gs6 112 3 rfl).trans rfl
  refine h_pop (pc' := 477) rfl rfl rfl ?_
  refine h_aload_n (pc' := 478) rfl rfl rfl ?_
  refine h_aload_n (pc' := 479) rfl rfl rfl ?_
  refine h_iload_n (pc' := 480) rfl rfl rfl ?_
  refine h_iconst (pc' := 481) (x := (Int32.ofInt 1)) rfl rfl rfl ?_
  refine h_iadd (pc' := 482) rfl rfl hy3 ci_1 rfl (by omega) (by omega) (fun z7 hz7 => ?_)
  refine h_iald (pc' := 483) (v := s0 0 (b3 + 1)) rfl rfl rfl hz7 (by omega) (by omega) (Zs6 _) (fun z8 hz8 => ?_)
  have tz8 := h_rgv hz8
  refine h_aload_n (pc' := 484) rfl rfl rfl ?_
  refine h_iload_n (pc' := 485) rfl rfl rfl ?_
  refine h_iconst (pc' := 486) (x := (Int32.ofInt 2)) rfl rfl rfl ?_
  refine h_iadd (pc' := 487) rfl rfl hy3 ci_2 rfl (by omega) (by omega) (fun z9 hz9 => ?_)
  refine h_iald (pc' := 488) (v := s0 0 (b3 + 2)) rfl rfl rfl hz9 (by omega) (by omega) (Zs6 _) (fun z10 hz10 => ?_)
  have tz10 := h_rgv hz10
  refine h_call (sp := false) (pc' := 491) (M := [(0, .ref 98), (1, .int z8), (2, .int z10)]) rfl rfl rfl rfl rfl rfl rfl rfl ?_
  refine w_177_98 _ Is6 z8 _ hz8 z10 _ hz10 (fun r11 br11 hr11 s12 Is12 Gs12 tr11 => h_Kv ?_)
  have Zs12 : ∀ i, s12 0 i = s0 0 i := fun i => (Gs12 0 i rfl).trans (Zs6 i)
  have es12_0 : s12 95 0 = s0 95 0 := (Gs12 95 0 rfl).trans es6_0
  have es12_1 : s12 95 1 = s0 95 1 := (Gs12 95 1 rfl).trans es6_1
  have es12_2 : s12 95 2 = s0 95 2 := (Gs12 95 2 rfl).trans es6_2
  have es12_3 : s12 95 3 = s0 95 3 := (Gs12 95 3 rfl).trans es6_3
  have es12_4 : s12 96 0 = s0 96 0 := (Gs12 96 0 rfl).trans es6_4
  have es12_5 : s12 96 1 = s0 96 1 := (Gs12 96 1 rfl).trans es6_5
  have es12_6 : s12 96 2 = s0 96 2 := (Gs12 96 2 rfl).trans es6_6
  have es12_7 : s12 96 3 = s0 96 3 := (Gs12 96 3 rfl).trans es6_7
  have es12_8 : s12 111 0 = s0 111 0 := (Gs12 111 0 rfl).trans es6_8
  have es12_9 : s12 111 1 = s0 111 1 := (Gs12 111 1 rfl).trans es6_9
  have es12_10 : s12 111 2 = s0 111 2 := (Gs12 111 2 rfl).trans es6_10
  have es12_11 : s12 111 3 = s0 111 3 := (Gs12 111 3 rfl).trans es6_11
  have es12_12 : s12 112 0 = s0 112 0 := (Gs12 112 0 rfl).trans es6_12
  have es12_13 : s12 112 1 = s0 112 1 := (Gs12 112 1 rfl).trans es6_13
  have es12_14 : s12 112 2 = s0 112 2 := (Gs12 112 2 rfl).trans es6_14
  have es12_15 : s12 112 3 = s0 112 3 := (Gs12 112 3 rfl).trans es6_15
  clear es6_0 es6_1 es6_10 es6_11 es6_12 es6_13 es6_14 es6_15 es6_2 es6_3 es6_4 es6_5 es6_6 es6_7 es6_8 es6_9
  refine h_pop (pc' := 492) rfl rfl rfl ?_
  refine h_goto (pc' := 1441) rfl rfl ?_
  exact kk _ Is12 (by first | exact h_jf j0 (by omega) (by omega) (by omega) | exact Or.inr ⟨by omega, by omega, by omega⟩) (by first | exact h_jf j1 (by omega) (by omega) (by omega) | exact Or.inr ⟨by omega, by omega, by omega⟩) (by first | exact h_jf j2 (by omega) (by omega) (by omega) | exact Or.inr ⟨by omega, by omega, by omega⟩) (by first | exact h_jf j3 (by omega) (by omega) (by omega) | exact Or.inr ⟨by omega, by omega, by omega⟩)
theorem g_case_495 {ns : Nat} (hns : ns ≤ 320) (s0 : h_S) (I0 : h_I s0) (j0 : h_js (s0 96 0) (s0 111 0) (s0 112 0)) (j1 : h_js (s0 96 1) (s0 111 1) (s0 112 1)) (j2 : h_js (s0 96 2) (s0 111 2) (s0 112 2)) (j3 : h_js (s0 96 3) (s0 111 3) (s0 112 3)) (y3 : Int32) (b3 : Int) (hy3 : y3.toInt = b3) (hr : 0 ≤ b3 ∧ b3 + 5 ≤ ns) {Q : Option Value → h_S → Prop} (kk : ∀ τ, h_I τ → h_js (τ 96 0) (τ 111 0) (τ 112 0) → h_js (τ 96 1) (τ 111 1) (τ 112 1) → h_js (τ 96 2) (τ 111 2) (τ 112 2) → h_js (τ 96 3) (τ 111 3) (τ 112 3) → h_T g_P (g_Y ns) 225 1441 [(0, .ref 0), (1, .ref 9), (2, .ref 98), (3, .int y3)] [] τ Q) : h_T g_P (g_Y ns) 225 495 [(0, .ref 0), (1, .ref 9), (2, .ref 98), (3, .int y3)] [] s0 Q := by
  refine h_aload_n (pc' := 496) rfl rfl rfl ?_
  refine h_aload_n (pc' := 497) rfl rfl rfl ?_
  refine h_iload_n (pc' := 498) rfl rfl rfl ?_
  refine h_iconst (pc' := 499) (x := (Int32.ofInt 1)) rfl rfl rfl ?_
  refine h_iadd (pc' := 500) rfl rfl hy3 ci_1 rfl (by omega) (by omega) (fun z1 hz1 => ?_)
  refine h_iald (pc' := 501) (v := s0 0 (b3 + 1)) rfl rfl rfl hz1 (by omega) (by omega) rfl (fun z2 hz2 => ?_)
  have tz2 := h_rgv hz2
  refine h_aload_n (pc' := 502) rfl rfl rfl ?_
  refine h_iload_n (pc' := 503) rfl rfl rfl ?_
  refine h_iconst (pc' := 504) (x := (Int32.ofInt 2)) rfl rfl rfl ?_
  refine h_iadd (pc' := 505) rfl rfl hy3 ci_2 rfl (by omega) (by omega) (fun z3 hz3 => ?_)
  refine h_iald (pc' := 506) (v := s0 0 (b3 + 2)) rfl rfl rfl hz3 (by omega) (by omega) rfl (fun z4 hz4 => ?_)
  have tz4 := h_rgv hz4
  refine h_aload_n (pc' := 507) rfl rfl rfl ?_
  refine h_iload_n (pc' := 508) rfl rfl rfl ?_
  refine h_iconst (pc' := 509) (x := (Int32.ofInt 3)) rfl rfl rfl ?_
  refine h_iadd (pc' := 510) rfl rfl hy3 ci_3 rfl (by omega) (by omega) (fun z5 hz5 => ?_)
  refine h_iald (pc' := 511) (v := s0 0 (b3 + 3)) rfl rfl rfl hz5 (by omega) (by omega) rfl (fun z6 hz6 => ?_)
  have tz6 := h_rgv hz6
  refine h_call (sp := false) (pc' := 514) (M := [(0, .ref 9), (1, .int z2), (2, .int z4), (3, .int z6)]) rfl rfl rfl rfl rfl rfl rfl rfl ?_
  refine w_93_9 _ I0 z2 _ hz2 z4 _ hz4 z6 _ hz6 (fun r7 br7 hr7 s8 Is8 Gs8 tr7 => h_Kv ?_)
  have Zs8 : ∀ i, s8 0 i = s0 0 i := fun i => (Gs8 0 i rfl).trans rfl
  have es8_0 : s8 95 0 = s0 95 0 := (Gs8 95 0 rfl).trans rfl
  have es8_1 : s8 95 1 = s0 95 1 := (Gs8 95 1 rfl).trans rfl
  have es8_2 : s8 95 2 = s0 95 2 := (Gs8 95 2 rfl).trans rfl
  have es8_3 : s8 95 3 = s0 95 3 := (Gs8 95 3 rfl).trans rfl
  have es8_4 : s8 96 0 = s0 96 0 := (Gs8 96 0 rfl).trans rfl
  have es8_5 : s8 96 1 = s0 96 1 := (Gs8 96 1 rfl).trans rfl
  have es8_6 : s8 96 2 = s0 96 2 := (Gs8 96 2 rfl).trans rfl
  have es8_7 : s8 96 3 = s0 96 3 := (Gs8 96 3 rfl).trans rfl
  have es8_8 : s8 111 0 = s0 111 0 := (Gs8 111 0 rfl).trans rfl
  have es8_9 : s8 111 1 = s0 111 1 := (Gs8 111 1 rfl).trans rfl
  have es8_10 : s8 111 2 = s0 111 2 := (Gs8 111 2 rfl).trans rfl
  have es8_11 : s8 111 3 = s0 111 3 := (Gs8 111 3 rfl).trans rfl
  have es8_12 : s8 112 0 = s0 112 0 := (Gs8 112 0 rfl).trans rfl
  have es8_13 : s8 112 1 = s0 112 1 := (Gs8 112 1 rfl).trans rfl
  have es8_14 : s8 112 2 = s0 112 2 := (Gs8 112 2 rfl).trans rfl
  have es8_15 : s8 112 3 = s0 112 3 := (Gs8 112 3 rfl).trans rfl
  refine h_pop (pc' := 515) rfl rfl rfl ?_
  refine h_aload_n (pc' := 516) rfl rfl rfl ?_
  refine h_aload_n (pc' := 517) rfl rfl rfl ?_
  refine h_iload_n (pc' := 518) rfl rfl rfl ?_
  refine h_iconst (pc' := 519) (x := (Int32.ofInt 1)) rfl rfl rfl ?_
  refine h_iadd (pc' := 520) rfl rfl hy3 ci_1 rfl (by omega) (by omega) (fun z9 hz9 => ?_)
  refine h_iald (pc' := 521) (v := s0 0 (b3 + 1)) rfl rfl rfl hz9 (by omega) (by omega) (Zs8 _) (fun z10 hz10 => ?_)
  have tz10 := h_rgv hz10
  refine h_aload_n (pc' := 522) rfl rfl rfl ?_
  refine h_iload_n (pc' := 523) rfl rfl rfl ?_
  refine h_iconst (pc' := 524) (x := (Int32.ofInt 2)) rfl rfl rfl ?_
  refine h_iadd (pc' := 525) rfl rfl hy3 ci_2 rfl (by omega) (by omega) (fun z11 hz11 => ?_)
  refine h_iald (pc' := 526) (v := s0 0 (b3 + 2)) rfl rfl rfl hz11 (by omega) (by omega) (Zs8 _) (fun z12 hz12 => ?_)
  have tz12 := h_rgv hz12
  refine h_aload_n (pc' := 527) rfl rfl rfl ?_
  refine h_iload_n (pc' := 528) rfl rfl rfl ?_
  refine h_iconst (pc' := 529) (x := (Int32.ofInt 3)) rfl rfl rfl ?_
  refine h_iadd (pc' := 530) rfl rfl hy3 ci_3 rfl (by omega) (by omega) (fun z13 hz13 => ?_)
  refine h_iald (pc' := 531) (v := s0 0 (b3 + 3)) rfl rfl rfl hz13 (by omega) (by omega) (Zs8 _) (fun z14 hz14 => ?_)
  have tz14 := h_rgv hz14
  refine h_call (sp := false) (pc' := 534) (M := [(0, .ref 98), (1, .int z10), (2, .int z12), (3, .int z14)]) rfl rfl rfl rfl rfl rfl rfl rfl ?_
  refine w_179_98 _ Is8 z10 _ hz10 z12 _ hz12 z14 _ hz14 (fun r15 br15 hr15 s16 Is16 Gs16 tr15 => h_Kv ?_)
  have Zs16 : ∀ i, s16 0 i = s0 0 i := fun i => (Gs16 0 i rfl).trans (Zs8 i)
  have es16_0 : s16 95 0 = s0 95 0 := (Gs16 95 0 rfl).trans es8_0
  have es16_1 : s16 95 1 = s0 95 1 := (Gs16 95 1 rfl).trans es8_1
  have es16_2 : s16 95 2 = s0 95 2 := (Gs16 95 2 rfl).trans es8_2
  have es16_3 : s16 95 3 = s0 95 3 := (Gs16 95 3 rfl).trans es8_3
  have es16_4 : s16 96 0 = s0 96 0 := (Gs16 96 0 rfl).trans es8_4
  have es16_5 : s16 96 1 = s0 96 1 := (Gs16 96 1 rfl).trans es8_5
  have es16_6 : s16 96 2 = s0 96 2 := (Gs16 96 2 rfl).trans es8_6
  have es16_7 : s16 96 3 = s0 96 3 := (Gs16 96 3 rfl).trans es8_7
  have es16_8 : s16 111 0 = s0 111 0 := (Gs16 111 0 rfl).trans es8_8
  have es16_9 : s16 111 1 = s0 111 1 := (Gs16 111 1 rfl).trans es8_9
  have es16_10 : s16 111 2 = s0 111 2 := (Gs16 111 2 rfl).trans es8_10
  have es16_11 : s16 111 3 = s0 111 3 := (Gs16 111 3 rfl).trans es8_11
  have es16_12 : s16 112 0 = s0 112 0 := (Gs16 112 0 rfl).trans es8_12
  have es16_13 : s16 112 1 = s0 112 1 := (Gs16 112 1 rfl).trans es8_13
  have es16_14 : s16 112 2 = s0 112 2 := (Gs16 112 2 rfl).trans es8_14
  have es16_15 : s16 112 3 = s0 112 3 := (Gs16 112 3 rfl).trans es8_15
  clear es8_0 es8_1 es8_10 es8_11 es8_12 es8_13 es8_14 es8_15 es8_2 es8_3 es8_4 es8_5 es8_6 es8_7 es8_8 es8_9
  refine h_pop (pc' := 535) rfl rfl rfl ?_
  refine h_goto (pc' := 1441) rfl rfl ?_
  exact kk _ Is16 (by first | exact h_jf j0 (by omega) (by omega) (by omega) | exact Or.inr ⟨by omega, by omega, by omega⟩) (by first | exact h_jf j1 (by omega) (by omega) (by omega) | exact Or.inr ⟨by omega, by omega, by omega⟩) (by first | exact h_jf j2 (by omega) (by omega) (by omega) | exact Or.inr ⟨by omega, by omega, by omega⟩) (by first | exact h_jf j3 (by omega) (by omega) (by omega) | exact Or.inr ⟨by omega, by omega, by omega⟩)
theorem g_case_538 {ns : Nat} (hns : ns ≤ 320) (s0 : h_S) (I0 : h_I s0) (j0 : h_js (s0 96 0) (s0 111 0) (s0 112 0)) (j1 : h_js (s0 96 1) (s0 111 1) (s0 112 1)) (j2 : h_js (s0 96 2) (s0 111 2) (s0 112 2)) (j3 : h_js (s0 96 3) (s0 111 3) (s0 112 3)) (y3 : Int32) (b3 : Int) (hy3 : y3.toInt = b3) (hr : 0 ≤ b3 ∧ b3 + 5 ≤ ns) {Q : Option Value → h_S → Prop} (kk : ∀ τ, h_I τ → h_js (τ 96 0) (τ 111 0) (τ 112 0) → h_js (τ 96 1) (τ 111 1) (τ 112 1) → h_js (τ 96 2) (τ 111 2) (τ 112 2) → h_js (τ 96 3) (τ 111 3) (τ 112 3) → h_T g_P (g_Y ns) 225 1441 [(0, .ref 0), (1, .ref 9), (2, .ref 98), (3, .int y3)] [] τ Q) : h_T g_P (g_Y ns) 225 538 [(0, .ref 0), (1, .ref 9), (2, .ref 98), (3, .int y3)] [] s0 Q := by
  refine h_aload_n (pc' := 539) rfl rfl rfl ?_
  refine h_aload_n (pc' := 540) rfl rfl rfl ?_
  refine h_iload_n (pc' := 541) rfl rfl rfl ?_
  refine h_iconst (pc' := 542) (x := (Int32.ofInt 1)) rfl rfl rfl ?_
  refine h_iadd (pc' := 543) rfl rfl hy3 ci_1 rfl (by omega) (by omega) (fun z1 hz1 => ?_)
  refine h_iald (pc' := 544) (v := s0 0 (b3 + 1)) rfl rfl rfl hz1 (by omega) (by omega) rfl (fun z2 hz2 => ?_)
  have tz2 := h_rgv hz2
  refine h_aload_n (pc' := 545) rfl rfl rfl ?_
  refine h_iload_n (pc' := 546) rfl rfl rfl ?_
  refine h_iconst (pc' := 547) (x := (Int32.ofInt 2)) rfl rfl rfl ?_
  refine h_iadd (pc' := 548) rfl rfl hy3 ci_2 rfl (by omega) (by omega) (fun z3 hz3 => ?_)
  refine h_iald (pc' := 549) (v := s0 0 (b3 + 2)) rfl rfl rfl hz3 (by omega) (by omega) rfl (fun z4 hz4 => ?_)
  have tz4 := h_rgv hz4
  refine h_call (sp := false) (pc' := 552) (M := [(0, .ref 9), (1, .int z2), (2, .int z4)]) rfl rfl rfl rfl rfl rfl rfl rfl ?_
  refine w_94_9 _ I0 z2 _ hz2 z4 _ hz4 (fun r5 br5 hr5 s6 Is6 Gs6 tr5 => h_Kv ?_)
  have Zs6 : ∀ i, s6 0 i = s0 0 i := fun i => (Gs6 0 i rfl).trans rfl
  have es6_0 : s6 95 0 = s0 95 0 := (Gs6 95 0 rfl).trans rfl
  have es6_1 : s6 95 1 = s0 95 1 := (Gs6 95 1 rfl).trans rfl
  have es6_2 : s6 95 2 = s0 95 2 := (Gs6 95 2 rfl).trans rfl
  have es6_3 : s6 95 3 = s0 95 3 := (Gs6 95 3 rfl).trans rfl
  have es6_4 : s6 96 0 = s0 96 0 := (Gs6 96 0 rfl).trans rfl
  have es6_5 : s6 96 1 = s0 96 1 := (Gs6 96 1 rfl).trans rfl
  have es6_6 : s6 96 2 = s0 96 2 := (Gs6 96 2 rfl).trans rfl
  have es6_7 : s6 96 3 = s0 96 3 := (Gs6 96 3 rfl).trans rfl
  have es6_8 : s6 111 0 = s0 111 0 := (Gs6 111 0 rfl).trans rfl
  have es6_9 : s6 111 1 = s0 111 1 := (Gs6 111 1 rfl).trans rfl
  have es6_10 : s6 111 2 = s0 111 2 := (Gs6 111 2 rfl).trans rfl
  have es6_11 : s6 111 3 = s0 111 3 := (Gs6 111 3 rfl).trans rfl
  have es6_12 : s6 112 0 = s0 112 0 := (Gs6 112 0 rfl).trans rfl
  have es6_13 : s6 112 1 = s0 112 1 := (Gs6 112 1 rfl).trans rfl
  have es6_14 : s6 112 2 = s0 112 2 := (Gs6 112 2 rfl).trans rfl
  have es6_15 : s6 112 3 = s0 112 3 := (Gs6 112 3 rfl).trans rfl
  refine h_pop (pc' := 553) rfl rfl rfl ?_
  refine h_aload_n (pc' := 554) rfl rfl rfl ?_
  refine h_aload_n (pc' := 555) rfl rfl rfl ?_
  refine h_iload_n (pc' := 556) rfl rfl rfl ?_
  refine h_iconst (pc' := 557) (x := (Int32.ofInt 1)) rfl rfl rfl ?_
  refine h_iadd (pc' := 558) rfl rfl hy3 ci_1 rfl (by omega) (by omega) (fun z7 hz7 => ?_)
  refine h_iald (pc' := 559) (v := s0 0 (b3 + 1)) rfl rfl rfl hz7 (by omega) (by omega) (Zs6 _) (fun z8 hz8 => ?_)
  have tz8 := h_rgv hz8
  refine h_aload_n (pc' := 560) rfl rfl rfl ?_
  refine h_iload_n (pc' := 561) rfl rfl rfl ?_
  refine h_iconst (pc' := 562) (x := (Int32.ofInt 2)) rfl rfl rfl ?_
  refine h_iadd (pc' := 563) rfl rfl hy3 ci_2 rfl (by omega) (by omega) (fun z9 hz9 => ?_)
  refine h_iald (pc' := 564) (v := s0 0 (b3 + 2)) rfl rfl rfl hz9 (by omega) (by omega) (Zs6 _) (fun z10 hz10 => ?_)
  have tz10 := h_rgv hz10
  refine h_call (sp := false) (pc' := 567) (M := [(0, .ref 98), (1, .int z8), (2, .int z10)]) rfl rfl rfl rfl rfl rfl rfl rfl ?_
  refine w_181_98 _ Is6 z8 _ hz8 z10 _ hz10 (fun r11 br11 hr11 s12 Is12 Gs12 tr11 => h_Kv ?_)
  have Zs12 : ∀ i, s12 0 i = s0 0 i := fun i => (Gs12 0 i rfl).trans (Zs6 i)
  have es12_0 : s12 95 0 = s0 95 0 := (Gs12 95 0 rfl).trans es6_0
  have es12_1 : s12 95 1 = s0 95 1 := (Gs12 95 1 rfl).trans es6_1
  have es12_2 : s12 95 2 = s0 95 2 := (Gs12 95 2 rfl).trans es6_2
  have es12_3 : s12 95 3 = s0 95 3 := (Gs12 95 3 rfl).trans es6_3
  have es12_4 : s12 96 0 = s0 96 0 := (Gs12 96 0 rfl).trans es6_4
  have es12_5 : s12 96 1 = s0 96 1 := (Gs12 96 1 rfl).trans es6_5
  have es12_6 : s12 96 2 = s0 96 2 := (Gs12 96 2 rfl).trans es6_6
  have es12_7 : s12 96 3 = s0 96 3 := (Gs12 96 3 rfl).trans es6_7
  have es12_8 : s12 111 0 = s0 111 0 := (Gs12 111 0 rfl).trans es6_8
  have es12_9 : s12 111 1 = s0 111 1 := (Gs12 111 1 rfl).trans es6_9
  have es12_10 : s12 111 2 = s0 111 2 := (Gs12 111 2 rfl).trans es6_10
  have es12_11 : s12 111 3 = s0 111 3 := (Gs12 111 3 rfl).trans es6_11
  have es12_12 : s12 112 0 = s0 112 0 := (Gs12 112 0 rfl).trans es6_12
  have es12_13 : s12 112 1 = s0 112 1 := (Gs12 112 1 rfl).trans es6_13
  have es12_14 : s12 112 2 = s0 112 2 := (Gs12 112 2 rfl).trans es6_14
  have es12_15 : s12 112 3 = s0 112 3 := (Gs12 112 3 rfl).trans es6_15
  clear es6_0 es6_1 es6_10 es6_11 es6_12 es6_13 es6_14 es6_15 es6_2 es6_3 es6_4 es6_5 es6_6 es6_7 es6_8 es6_9
  refine h_pop (pc' := 568) rfl rfl rfl ?_
  refine h_goto (pc' := 1441) rfl rfl ?_
  exact kk _ Is12 (by first | exact h_jf j0 (by omega) (by omega) (by omega) | exact Or.inr ⟨by omega, by omega, by omega⟩) (by first | exact h_jf j1 (by omega) (by omega) (by omega) | exact Or.inr ⟨by omega, by omega, by omega⟩) (by first | exact h_jf j2 (by omega) (by omega) (by omega) | exact Or.inr ⟨by omega, by omega, by omega⟩) (by first | exact h_jf j3 (by omega) (by omega) (by omega) | exact Or.inr ⟨by omega, by omega, by omega⟩)
theorem g_case_571 {ns : Nat} (hns : ns ≤ 320) (s0 : h_S) (I0 : h_I s0) (j0 : h_js (s0 96 0) (s0 111 0) (s0 112 0)) (j1 : h_js (s0 96 1) (s0 111 1) (s0 112 1)) (j2 : h_js (s0 96 2) (s0 111 2) (s0 112 2)) (j3 : h_js (s0 96 3) (s0 111 3) (s0 112 3)) (y3 : Int32) (b3 : Int) (hy3 : y3.toInt = b3) (hr : 0 ≤ b3 ∧ b3 + 5 ≤ ns) {Q : Option Value → h_S → Prop} (kk : ∀ τ, h_I τ → h_js (τ 96 0) (τ 111 0) (τ 112 0) → h_js (τ 96 1) (τ 111 1) (τ 112 1) → h_js (τ 96 2) (τ 111 2) (τ 112 2) → h_js (τ 96 3) (τ 111 3) (τ 112 3) → h_T g_P (g_Y ns) 225 1441 [(0, .ref 0), (1, .ref 9), (2, .ref 98), (3, .int y3)] [] τ Q) : h_T g_P (g_Y ns) 225 571 [(0, .ref 0), (1, .ref 9), (2, .ref 98), (3, .int y3)] [] s0 Q := by
  refine h_aload_n (pc' := 572) rfl rfl rfl ?_
  refine h_aload_n (pc' := 573) rfl rfl rfl ?_
  refine h_iload_n (pc' := 574) rfl rfl rfl ?_
  refine h_iconst (pc' := 575) (x := (Int32.ofInt 1)) rfl rfl rfl ?_
  refine h_iadd (pc' := 576) rfl rfl hy3 ci_1 rfl (by omega) (by omega) (fun z1 hz1 => ?_)
  refine h_iald (pc' := 577) (v := s0 0 (b3 + 1)) rfl rfl rfl hz1 (by omega) (by omega) rfl (fun z2 hz2 => ?_)
  have tz2 := h_rgv hz2
  refine h_aload_n (pc' := 578) rfl rfl rfl ?_
  refine h_iload_n (pc' := 579) rfl rfl rfl ?_
  refine h_iconst (pc' := 580) (x := (Int32.ofInt 2)) rfl rfl rfl ?_
  refine h_iadd (pc' := 581) rfl rfl hy3 ci_2 rfl (by omega) (by omega) (fun z3 hz3 => ?_)
  refine h_iald (pc' := 582) (v := s0 0 (b3 + 2)) rfl rfl rfl hz3 (by omega) (by omega) rfl (fun z4 hz4 => ?_)
  have tz4 := h_rgv hz4
  refine h_call (sp := false) (pc' := 585) (M := [(0, .ref 9), (1, .int z2), (2, .int z4)]) rfl rfl rfl rfl rfl rfl rfl rfl ?_
  refine w_95_9 _ I0 z2 _ hz2 z4 _ hz4 (fun r5 br5 hr5 s6 Is6 Gs6 tr5 => h_Kv ?_)
  have Zs6 : ∀ i, s6 0 i = s0 0 i := fun i => (Gs6 0 i rfl).trans rfl
  have es6_0 : s6 95 0 = s0 95 0 := (Gs6 95 0 rfl).trans rfl
  have es6_1 : s6 95 1 = s0 95 1 := (Gs6 95 1 rfl).trans rfl
  have es6_2 : s6 95 2 = s0 95 2 := (Gs6 95 2 rfl).trans rfl
  have es6_3 : s6 95 3 = s0 95 3 := (Gs6 95 3 rfl).trans rfl
  have es6_4 : s6 96 0 = s0 96 0 := (Gs6 96 0 rfl).trans rfl
  have es6_5 : s6 96 1 = s0 96 1 := (Gs6 96 1 rfl).trans rfl
  have es6_6 : s6 96 2 = s0 96 2 := (Gs6 96 2 rfl).trans rfl
  have es6_7 : s6 96 3 = s0 96 3 := (Gs6 96 3 rfl).trans rfl
  have es6_8 : s6 111 0 = s0 111 0 := (Gs6 111 0 rfl).trans rfl
  have es6_9 : s6 111 1 = s0 111 1 := (Gs6 111 1 rfl).trans rfl
  have es6_10 : s6 111 2 = s0 111 2 := (Gs6 111 2 rfl).trans rfl
  have es6_11 : s6 111 3 = s0 111 3 := (Gs6 111 3 rfl).trans rfl
  have es6_12 : s6 112 0 = s0 112 0 := (Gs6 112 0 rfl).trans rfl
  have es6_13 : s6 112 1 = s0 112 1 := (Gs6 112 1 rfl).trans rfl
  have es6_14 : s6 112 2 = s0 112 2 := (Gs6 112 2 rfl).trans rfl
  have es6_15 : s6 112 3 = s0 112 3 := (Gs6 112 3 rfl).trans rfl
  refine h_pop (pc' := 586) rfl rfl rfl ?_
  refine h_aload_n (pc' := 587) rfl rfl rfl ?_
  refine h_aload_n (pc' := 588) rfl rfl rfl ?_
  refine h_iload_n (pc' := 589) rfl rfl rfl ?_
  refine h_iconst (pc' := 590) (x := (Int32.ofInt 1)) rfl rfl rfl ?_
  refine h_iadd (pc' := 591) rfl rfl hy3 ci_1 rfl (by omega) (by omega) (fun z7 hz7 => ?_)
  refine h_iald (pc' := 592) (v := s0 0 (b3 + 1)) rfl rfl rfl hz7 (by omega) (by omega) (Zs6 _) (fun z8 hz8 => ?_)
  have tz8 := h_rgv hz8
  refine h_aload_n (pc' := 593) rfl rfl rfl ?_
  refine h_iload_n (pc' := 594) rfl rfl rfl ?_
  refine h_iconst (pc' := 595) (x := (Int32.ofInt 2)) rfl rfl rfl ?_
  refine h_iadd (pc' := 596) rfl rfl hy3 ci_2 rfl (by omega) (by omega) (fun z9 hz9 => ?_)
  refine h_iald (pc' := 597) (v := s0 0 (b3 + 2)) rfl rfl rfl hz9 (by omega) (by omega) (Zs6 _) (fun z10 hz10 => ?_)
  have tz10 := h_rgv hz10
  refine h_call (sp := false) (pc' := 600) (M := [(0, .ref 98), (1, .int z8), (2, .int z10)]) rfl rfl rfl rfl rfl rfl rfl rfl ?_
  refine w_182_98 _ Is6 z8 _ hz8 z10 _ hz10 (fun r11 br11 hr11 s12 Is12 Gs12 tr11 => h_Kv ?_)
  have Zs12 : ∀ i, s12 0 i = s0 0 i := fun i => (Gs12 0 i rfl).trans (Zs6 i)
  have es12_0 : s12 95 0 = s0 95 0 := (Gs12 95 0 rfl).trans es6_0
  have es12_1 : s12 95 1 = s0 95 1 := (Gs12 95 1 rfl).trans es6_1
  have es12_2 : s12 95 2 = s0 95 2 := (Gs12 95 2 rfl).trans es6_2
  have es12_3 : s12 95 3 = s0 95 3 := (Gs12 95 3 rfl).trans es6_3
  have es12_4 : s12 96 0 = s0 96 0 := (Gs12 96 0 rfl).trans es6_4
  have es12_5 : s12 96 1 = s0 96 1 := (Gs12 96 1 rfl).trans es6_5
  have es12_6 : s12 96 2 = s0 96 2 := (Gs12 96 2 rfl).trans es6_6
  have es12_7 : s12 96 3 = s0 96 3 := (Gs12 96 3 rfl).trans es6_7
  have es12_8 : s12 111 0 = s0 111 0 := (Gs12 111 0 rfl).trans es6_8
  have es12_9 : s12 111 1 = s0 111 1 := (Gs12 111 1 rfl).trans es6_9
  have es12_10 : s12 111 2 = s0 111 2 := (Gs12 111 2 rfl).trans es6_10
  have es12_11 : s12 111 3 = s0 111 3 := (Gs12 111 3 rfl).trans es6_11
  have es12_12 : s12 112 0 = s0 112 0 := (Gs12 112 0 rfl).trans es6_12
  have es12_13 : s12 112 1 = s0 112 1 := (Gs12 112 1 rfl).trans es6_13
  have es12_14 : s12 112 2 = s0 112 2 := (Gs12 112 2 rfl).trans es6_14
  have es12_15 : s12 112 3 = s0 112 3 := (Gs12 112 3 rfl).trans es6_15
  clear es6_0 es6_1 es6_10 es6_11 es6_12 es6_13 es6_14 es6_15 es6_2 es6_3 es6_4 es6_5 es6_6 es6_7 es6_8 es6_9
  refine h_pop (pc' := 601) rfl rfl rfl ?_
  refine h_goto (pc' := 1441) rfl rfl ?_
  exact kk _ Is12 (by first | exact h_jf j0 (by omega) (by omega) (by omega) | exact Or.inr ⟨by omega, by omega, by omega⟩) (by first | exact h_jf j1 (by omega) (by omega) (by omega) | exact Or.inr ⟨by omega, by omega, by omega⟩) (by first | exact h_jf j2 (by omega) (by omega) (by omega) | exact Or.inr ⟨by omega, by omega, by omega⟩) (by first | exact h_jf j3 (by omega) (by omega) (by omega) | exact Or.inr ⟨by omega, by omega, by omega⟩)
theorem g_case_604 {ns : Nat} (hns : ns ≤ 320) (s0 : h_S) (I0 : h_I s0) (j0 : h_js (s0 96 0) (s0 111 0) (s0 112 0)) (j1 : h_js (s0 96 1) (s0 111 1) (s0 112 1)) (j2 : h_js (s0 96 2) (s0 111 2) (s0 112 2)) (j3 : h_js (s0 96 3) (s0 111 3) (s0 112 3)) (y3 : Int32) (b3 : Int) (hy3 : y3.toInt = b3) (hr : 0 ≤ b3 ∧ b3 + 5 ≤ ns) {Q : Option Value → h_S → Prop} (kk : ∀ τ, h_I τ → h_js (τ 96 0) (τ 111 0) (τ 112 0) → h_js (τ 96 1) (τ 111 1) (τ 112 1) → h_js (τ 96 2) (τ 111 2) (τ 112 2) → h_js (τ 96 3) (τ 111 3) (τ 112 3) → h_T g_P (g_Y ns) 225 1441 [(0, .ref 0), (1, .ref 9), (2, .ref 98), (3, .int y3)] [] τ Q) : h_T g_P (g_Y ns) 225 604 [(0, .ref 0), (1, .ref 9), (2, .ref 98), (3, .int y3)] [] s0 Q := by
  refine h_aload_n (pc' := 605) rfl rfl rfl ?_
  refine h_aload_n (pc' := 606) rfl rfl rfl ?_
  refine h_iload_n (pc' := 607) rfl rfl rfl ?_
  refine h_iconst (pc' := 608) (x := (Int32.ofInt 1)) rfl rfl rfl ?_
  refine h_iadd (pc' := 609) rfl rfl hy3 ci_1 rfl (by omega) (by omega) (fun z1 hz1 => ?_)
  refine h_iald (pc' := 610) (v := s0 0 (b3 + 1)) rfl rfl rfl hz1 (by omega) (by omega) rfl (fun z2 hz2 => ?_)
  have tz2 := h_rgv hz2
  refine h_aload_n (pc' := 611) rfl rfl rfl ?_
  refine h_iload_n (pc' := 612) rfl rfl rfl ?_
  refine h_iconst (pc' := 613) (x := (Int32.ofInt 2)) rfl rfl rfl ?_
  refine h_iadd (pc' := 614) rfl rfl hy3 ci_2 rfl (by omega) (by omega) (fun z3 hz3 => ?_)
  refine h_iald (pc' := 615) (v := s0 0 (b3 + 2)) rfl rfl rfl hz3 (by omega) (by omega) rfl (fun z4 hz4 => ?_)
  have tz4 := h_rgv hz4
  refine h_call (sp := false) (pc' := 618) (M := [(0, .ref 9), (1, .int z2), (2, .int z4)]) rfl rfl rfl rfl rfl rfl rfl rfl ?_
  refine w_96_9 _ I0 z2 _ hz2 z4 _ hz4 (fun r5 br5 hr5 s6 Is6 Gs6 tr5 => h_Kv ?_)
  have Zs6 : ∀ i, s6 0 i = s0 0 i := fun i => (Gs6 0 i rfl).trans rfl
  have es6_0 : s6 95 0 = s0 95 0 := (Gs6 95 0 rfl).trans rfl
  have es6_1 : s6 95 1 = s0 95 1 := (Gs6 95 1 rfl).trans rfl
  have es6_2 : s6 95 2 = s0 95 2 := (Gs6 95 2 rfl).trans rfl
  have es6_3 : s6 95 3 = s0 95 3 := (Gs6 95 3 rfl).trans rfl
  have es6_4 : s6 96 0 = s0 96 0 := (Gs6 96 0 rfl).trans rfl
  have es6_5 : s6 96 1 = s0 96 1 := (Gs6 96 1 rfl).trans rfl
  have es6_6 : s6 96 2 = s0 96 2 := (Gs6 96 2 rfl).trans rfl
  have es6_7 : s6 96 3 = s0 96 3 := (Gs6 96 3 rfl).trans rfl
  have es6_8 : s6 111 0 = s0 111 0 := (Gs6 111 0 rfl).trans rfl
  have es6_9 : s6 111 1 = s0 111 1 := (Gs6 111 1 rfl).trans rfl
  have es6_10 : s6 111 2 = s0 111 2 := (Gs6 111 2 rfl).trans rfl
  have es6_11 : s6 111 3 = s0 111 3 := (Gs6 111 3 rfl).trans rfl
  have es6_12 : s6 112 0 = s0 112 0 := (Gs6 112 0 rfl).trans rfl
  have es6_13 : s6 112 1 = s0 112 1 := (Gs6 112 1 rfl).trans rfl
  have es6_14 : s6 112 2 = s0 112 2 := (Gs6 112 2 rfl).trans rfl
  have es6_15 : s6 112 3 = s0 112 3 := (Gs6 112 3 rfl).trans rfl
  refine h_pop (pc' := 619) rfl rfl rfl ?_
  refine h_aload_n (pc' := 620) rfl rfl rfl ?_
  refine h_aload_n (pc' := 621) rfl rfl rfl ?_
  refine h_iload_n (pc' := 622) rfl rfl rfl ?_
  refine h_iconst (pc' := 623) (x := (Int32.ofInt 1)) rfl rfl rfl ?_
  refine h_iadd (pc' := 624) rfl rfl hy3 ci_1 rfl (by omega) (by omega) (fun z7 hz7 => ?_)
  refine h_iald (pc' := 625) (v := s0 0 (b3 + 1)) rfl rfl rfl hz7 (by omega) (by omega) (Zs6 _) (fun z8 hz8 => ?_)
  have tz8 := h_rgv hz8
  refine h_aload_n (pc' := 626) rfl rfl rfl ?_
  refine h_iload_n (pc' := 627) rfl rfl rfl ?_
  refine h_iconst (pc' := 628) (x := (Int32.ofInt 2)) rfl rfl rfl ?_
  refine h_iadd (pc' := 629) rfl rfl hy3 ci_2 rfl (by omega) (by omega) (fun z9 hz9 => ?_)
  refine h_iald (pc' := 630) (v := s0 0 (b3 + 2)) rfl rfl rfl hz9 (by omega) (by omega) (Zs6 _) (fun z10 hz10 => ?_)
  have tz10 := h_rgv hz10
  refine h_call (sp := false) (pc' := 633) (M := [(0, .ref 98), (1, .int z8), (2, .int z10)]) rfl rfl rfl rfl rfl rfl rfl rfl ?_
  refine v_undo _ Is6 z8 _ hz8 z10 _ hz10 (fun r11 br11 hr11 s12 Is12 Gs12 => h_Kv ?_)
  have Zs12 : ∀ i, s12 0 i = s0 0 i := fun i => (Gs12 0 i rfl).trans (Zs6 i)
  have es12_0 : s12 95 0 = s0 95 0 := (Gs12 95 0 rfl).trans es6_0
  have es12_1 : s12 95 1 = s0 95 1 := (Gs12 95 1 rfl).trans es6_1
  have es12_2 : s12 95 2 = s0 95 2 := (Gs12 95 2 rfl).trans es6_2
  have es12_3 : s12 95 3 = s0 95 3 := (Gs12 95 3 rfl).trans es6_3
  have es12_4 : s12 96 0 = s0 96 0 := (Gs12 96 0 rfl).trans es6_4
  have es12_5 : s12 96 1 = s0 96 1 := (Gs12 96 1 rfl).trans es6_5
  have es12_6 : s12 96 2 = s0 96 2 := (Gs12 96 2 rfl).trans es6_6
  have es12_7 : s12 96 3 = s0 96 3 := (Gs12 96 3 rfl).trans es6_7
  have es12_8 : s12 111 0 = s0 111 0 := (Gs12 111 0 rfl).trans es6_8
  have es12_9 : s12 111 1 = s0 111 1 := (Gs12 111 1 rfl).trans es6_9
  have es12_10 : s12 111 2 = s0 111 2 := (Gs12 111 2 rfl).trans es6_10
  have es12_11 : s12 111 3 = s0 111 3 := (Gs12 111 3 rfl).trans es6_11
  have es12_12 : s12 112 0 = s0 112 0 := (Gs12 112 0 rfl).trans es6_12
  have es12_13 : s12 112 1 = s0 112 1 := (Gs12 112 1 rfl).trans es6_13
  have es12_14 : s12 112 2 = s0 112 2 := (Gs12 112 2 rfl).trans es6_14
  have es12_15 : s12 112 3 = s0 112 3 := (Gs12 112 3 rfl).trans es6_15
  clear es6_0 es6_1 es6_10 es6_11 es6_12 es6_13 es6_14 es6_15 es6_2 es6_3 es6_4 es6_5 es6_6 es6_7 es6_8 es6_9
  refine h_pop (pc' := 634) rfl rfl rfl ?_
  refine h_goto (pc' := 1441) rfl rfl ?_
  exact kk _ Is12 (by first | exact h_jf j0 (by omega) (by omega) (by omega) | exact Or.inr ⟨by omega, by omega, by omega⟩) (by first | exact h_jf j1 (by omega) (by omega) (by omega) | exact Or.inr ⟨by omega, by omega, by omega⟩) (by first | exact h_jf j2 (by omega) (by omega) (by omega) | exact Or.inr ⟨by omega, by omega, by omega⟩) (by first | exact h_jf j3 (by omega) (by omega) (by omega) | exact Or.inr ⟨by omega, by omega, by omega⟩)
theorem g_case_637 {ns : Nat} (hns : ns ≤ 320) (s0 : h_S) (I0 : h_I s0) (j0 : h_js (s0 96 0) (s0 111 0) (s0 112 0)) (j1 : h_js (s0 96 1) (s0 111 1) (s0 112 1)) (j2 : h_js (s0 96 2) (s0 111 2) (s0 112 2)) (j3 : h_js (s0 96 3) (s0 111 3) (s0 112 3)) (y3 : Int32) (b3 : Int) (hy3 : y3.toInt = b3) (hr : 0 ≤ b3 ∧ b3 + 5 ≤ ns) {Q : Option Value → h_S → Prop} (kk : ∀ τ, h_I τ → h_js (τ 96 0) (τ 111 0) (τ 112 0) → h_js (τ 96 1) (τ 111 1) (τ 112 1) → h_js (τ 96 2) (τ 111 2) (τ 112 2) → h_js (τ 96 3) (τ 111 3) (τ 112 3) → h_T g_P (g_Y ns) 225 1441 [(0, .ref 0), (1, .ref 9), (2, .ref 98), (3, .int y3)] [] τ Q) : h_T g_P (g_Y ns) 225 637 [(0, .ref 0), (1, .ref 9), (2, .ref 98), (3, .int y3)] [] s0 Q := by
  refine h_aload_n (pc' := 638) rfl rfl rfl ?_
  refine h_aload_n (pc' := 639) rfl rfl rfl ?_
  refine h_iload_n (pc' := 640) rfl rfl rfl ?_
  refine h_iconst (pc' := 641) (x := (Int32.ofInt 1)) rfl rfl rfl ?_
  refine h_iadd (pc' := 642) rfl rfl hy3 ci_1 rfl (by omega) (by omega) (fun z1 hz1 => ?_)
  refine h_iald (pc' := 643) (v := s0 0 (b3 + 1)) rfl rfl rfl hz1 (by omega) (by omega) rfl (fun z2 hz2 => ?_)
  have tz2 := h_rgv hz2
  refine h_aload_n (pc' := 644) rfl rfl rfl ?_
  refine h_iload_n (pc' := 645) rfl rfl rfl ?_
  refine h_iconst (pc' := 646) (x := (Int32.ofInt 2)) rfl rfl rfl ?_
  refine h_iadd (pc' := 647) rfl rfl hy3 ci_2 rfl (by omega) (by omega) (fun z3 hz3 => ?_)
  refine h_iald (pc' := 648) (v := s0 0 (b3 + 2)) rfl rfl rfl hz3 (by omega) (by omega) rfl (fun z4 hz4 => ?_)
  have tz4 := h_rgv hz4
  refine h_aload_n (pc' := 649) rfl rfl rfl ?_
  refine h_iload_n (pc' := 650) rfl rfl rfl ?_
  refine h_iconst (pc' := 651) (x := (Int32.ofInt 3)) rfl rfl rfl ?_
  refine h_iadd (pc' := 652) rfl rfl hy3 ci_3 rfl (by omega) (by omega) (fun z5 hz5 => ?_)
  refine h_iald (pc' := 653) (v := s0 0 (b3 + 3)) rfl rfl rfl hz5 (by omega) (by omega) rfl (fun z6 hz6 => ?_)
  have tz6 := h_rgv hz6
  refine h_call (sp := false) (pc' := 656) (M := [(0, .ref 9), (1, .int z2), (2, .int z4), (3, .int z6)]) rfl rfl rfl rfl rfl rfl rfl rfl ?_
  refine w_97_9 _ I0 z2 _ hz2 z4 _ hz4 z6 _ hz6 (fun r7 br7 hr7 s8 Is8 Gs8 tr7 => h_Kv ?_)
  have Zs8 : ∀ i, s8 0 i = s0 0 i := fun i => (Gs8 0 i rfl).trans rfl
  have es8_0 : s8 95 0 = s0 95 0 := (Gs8 95 0 rfl).trans rfl
  have es8_1 : s8 95 1 = s0 95 1 := (Gs8 95 1 rfl).trans rfl
  have es8_2 : s8 95 2 = s0 95 2 := (Gs8 95 2 rfl).trans rfl
  have es8_3 : s8 95 3 = s0 95 3 := (Gs8 95 3 rfl).trans rfl
  have es8_4 : s8 96 0 = s0 96 0 := (Gs8 96 0 rfl).trans rfl
  have es8_5 : s8 96 1 = s0 96 1 := (Gs8 96 1 rfl).trans rfl
  have es8_6 : s8 96 2 = s0 96 2 := (Gs8 96 2 rfl).trans rfl
  have es8_7 : s8 96 3 = s0 96 3 := (Gs8 96 3 rfl).trans rfl
  have es8_8 : s8 111 0 = s0 111 0 := (Gs8 111 0 rfl).trans rfl
  have es8_9 : s8 111 1 = s0 111 1 := (Gs8 111 1 rfl).trans rfl
  have es8_10 : s8 111 2 = s0 111 2 := (Gs8 111 2 rfl).trans rfl
  have es8_11 : s8 111 3 = s0 111 3 := (Gs8 111 3 rfl).trans rfl
  have es8_12 : s8 112 0 = s0 112 0 := (Gs8 112 0 rfl).trans rfl
  have es8_13 : s8 112 1 = s0 112 1 := (Gs8 112 1 rfl).trans rfl
  have es8_14 : s8 112 2 = s0 112 2 := (Gs8 112 2 rfl).trans rfl
  have es8_15 : s8 112 3 = s0 112 3 := (Gs8 112 3 rfl).trans rfl
  refine h_pop (pc' := 657) rfl rfl rfl ?_
  refine h_aload_n (pc' := 658) rfl rfl rfl ?_
  refine h_aload_n (pc' := 659) rfl rfl rfl ?_
  refine h_iload_n (pc' := 660) rfl rfl rfl ?_
  refine h_iconst (pc' := 661) (x := (Int32.ofInt 1)) rfl rfl rfl ?_
  refine h_iadd (pc' := 662) rfl rfl hy3 ci_1 rfl (by omega) (by omega) (fun z9 hz9 => ?_)
  refine h_iald (pc' := 663) (v := s0 0 (b3 + 1)) rfl rfl rfl hz9 (by omega) (by omega) (Zs8 _) (fun z10 hz10 => ?_)
  have tz10 := h_rgv hz10
  refine h_aload_n (pc' := 664) rfl rfl rfl ?_
  refine h_iload_n (pc' := 665) rfl rfl rfl ?_
  refine h_iconst (pc' := 666) (x := (Int32.ofInt 2)) rfl rfl rfl ?_
  refine h_iadd (pc' := 667) rfl rfl hy3 ci_2 rfl (by omega) (by omega) (fun z11 hz11 => ?_)
  refine h_iald (pc' := 668) (v := s0 0 (b3 + 2)) rfl rfl rfl hz11 (by omega) (by omega) (Zs8 _) (fun z12 hz12 => ?_)
  have tz12 := h_rgv hz12
  refine h_aload_n (pc' := 669) rfl rfl rfl ?_
  refine h_iload_n (pc' := 670) rfl rfl rfl ?_
  refine h_iconst (pc' := 671) (x := (Int32.ofInt 3)) rfl rfl rfl ?_
  refine h_iadd (pc' := 672) rfl rfl hy3 ci_3 rfl (by omega) (by omega) (fun z13 hz13 => ?_)
  refine h_iald (pc' := 673) (v := s0 0 (b3 + 3)) rfl rfl rfl hz13 (by omega) (by omega) (Zs8 _) (fun z14 hz14 => ?_)
  have tz14 := h_rgv hz14
  refine h_call (sp := false) (pc' := 676) (M := [(0, .ref 98), (1, .int z10), (2, .int z12), (3, .int z14)]) rfl rfl rfl rfl rfl rfl rfl rfl ?_
  refine w_184_98 _ Is8 z10 _ hz10 z12 _ hz12 z14 _ hz14 (fun r15 br15 hr15 s16 Is16 Gs16 tr15 => h_Kv ?_)
  have Zs16 : ∀ i, s16 0 i = s0 0 i := fun i => (Gs16 0 i rfl).trans (Zs8 i)
  have es16_0 : s16 95 0 = s0 95 0 := (Gs16 95 0 rfl).trans es8_0
  have es16_1 : s16 95 1 = s0 95 1 := (Gs16 95 1 rfl).trans es8_1
  have es16_2 : s16 95 2 = s0 95 2 := (Gs16 95 2 rfl).trans es8_2
  have es16_3 : s16 95 3 = s0 95 3 := (Gs16 95 3 rfl).trans es8_3
  have es16_4 : s16 96 0 = s0 96 0 := (Gs16 96 0 rfl).trans es8_4
  have es16_5 : s16 96 1 = s0 96 1 := (Gs16 96 1 rfl).trans es8_5
  have es16_6 : s16 96 2 = s0 96 2 := (Gs16 96 2 rfl).trans es8_6
  have es16_7 : s16 96 3 = s0 96 3 := (Gs16 96 3 rfl).trans es8_7
  have es16_8 : s16 111 0 = s0 111 0 := (Gs16 111 0 rfl).trans es8_8
  have es16_9 : s16 111 1 = s0 111 1 := (Gs16 111 1 rfl).trans es8_9
  have es16_10 : s16 111 2 = s0 111 2 := (Gs16 111 2 rfl).trans es8_10
  have es16_11 : s16 111 3 = s0 111 3 := (Gs16 111 3 rfl).trans es8_11
  have es16_12 : s16 112 0 = s0 112 0 := (Gs16 112 0 rfl).trans es8_12
  have es16_13 : s16 112 1 = s0 112 1 := (Gs16 112 1 rfl).trans es8_13
  have es16_14 : s16 112 2 = s0 112 2 := (Gs16 112 2 rfl).trans es8_14
  have es16_15 : s16 112 3 = s0 112 3 := (Gs16 112 3 rfl).trans es8_15
  clear es8_0 es8_1 es8_10 es8_11 es8_12 es8_13 es8_14 es8_15 es8_2 es8_3 es8_4 es8_5 es8_6 es8_7 es8_8 es8_9
  refine h_pop (pc' := 677) rfl rfl rfl ?_
  refine h_goto (pc' := 1441) rfl rfl ?_
  exact kk _ Is16 (by first | exact h_jf j0 (by omega) (by omega) (by omega) | exact Or.inr ⟨by omega, by omega, by omega⟩) (by first | exact h_jf j1 (by omega) (by omega) (by omega) | exact Or.inr ⟨by omega, by omega, by omega⟩) (by first | exact h_jf j2 (by omega) (by omega) (by omega) | exact Or.inr ⟨by omega, by omega, by omega⟩) (by first | exact h_jf j3 (by omega) (by omega) (by omega) | exact Or.inr ⟨by omega, by omega, by omega⟩)
theorem g_case_680 {ns : Nat} (hns : ns ≤ 320) (s0 : h_S) (I0 : h_I s0) (j0 : h_js (s0 96 0) (s0 111 0) (s0 112 0)) (j1 : h_js (s0 96 1) (s0 111 1) (s0 112 1)) (j2 : h_js (s0 96 2) (s0 111 2) (s0 112 2)) (j3 : h_js (s0 96 3) (s0 111 3) (s0 112 3)) (y3 : Int32) (b3 : Int) (hy3 : y3.toInt = b3) (hr : 0 ≤ b3 ∧ b3 + 5 ≤ ns) {Q : Option Value → h_S → Prop} (kk : ∀ τ, h_I τ → h_js (τ 96 0) (τ 111 0) (τ 112 0) → h_js (τ 96 1) (τ 111 1) (τ 112 1) → h_js (τ 96 2) (τ 111 2) (τ 112 2) → h_js (τ 96 3) (τ 111 3) (τ 112 3) → h_T g_P (g_Y ns) 225 1441 [(0, .ref 0), (1, .ref 9), (2, .ref 98), (3, .int y3)] [] τ Q) : h_T g_P (g_Y ns) 225 680 [(0, .ref 0), (1, .ref 9), (2, .ref 98), (3, .int y3)] [] s0 Q := by
  refine h_aload_n (pc' := 681) rfl rfl rfl ?_
  refine h_aload_n (pc' := 682) rfl rfl rfl ?_
  refine h_iload_n (pc' := 683) rfl rfl rfl ?_
  refine h_iconst (pc' := 684) (x := (Int32.ofInt 1)) rfl rfl rfl ?_
  refine h_iadd (pc' := 685) rfl rfl hy3 ci_1 rfl (by omega) (by omega) (fun z1 hz1 => ?_)
  refine h_iald (pc' := 686) (v := s0 0 (b3 + 1)) rfl rfl rfl hz1 (by omega) (by omega) rfl (fun z2 hz2 => ?_)
  have tz2 := h_rgv hz2
  refine h_call (sp := false) (pc' := 689) (M := [(0, .ref 9), (1, .int z2)]) rfl rfl rfl rfl rfl rfl rfl rfl ?_
  refine w_98_9 _ I0 z2 _ hz2 (fun r3 br3 hr3 s4 Is4 Gs4 tr3 => h_Kv ?_)
  have Zs4 : ∀ i, s4 0 i = s0 0 i := fun i => (Gs4 0 i rfl).trans rfl
  have es4_0 : s4 95 0 = s0 95 0 := (Gs4 95 0 rfl).trans rfl
  have es4_1 : s4 95 1 = s0 95 1 := (Gs4 95 1 rfl).trans rfl
  have es4_2 : s4 95 2 = s0 95 2 := (Gs4 95 2 rfl).trans rfl
  have es4_3 : s4 95 3 = s0 95 3 := (Gs4 95 3 rfl).trans rfl
  have es4_4 : s4 96 0 = s0 96 0 := (Gs4 96 0 rfl).trans rfl
  have es4_5 : s4 96 1 = s0 96 1 := (Gs4 96 1 rfl).trans rfl
  have es4_6 : s4 96 2 = s0 96 2 := (Gs4 96 2 rfl).trans rfl
  have es4_7 : s4 96 3 = s0 96 3 := (Gs4 96 3 rfl).trans rfl
  have es4_8 : s4 111 0 = s0 111 0 := (Gs4 111 0 rfl).trans rfl
  have es4_9 : s4 111 1 = s0 111 1 := (Gs4 111 1 rfl).trans rfl
  have es4_10 : s4 111 2 = s0 111 2 := (Gs4 111 2 rfl).trans rfl
  have es4_11 : s4 111 3 = s0 111 3 := (Gs4 111 3 rfl).trans rfl
  have es4_12 : s4 112 0 = s0 112 0 := (Gs4 112 0 rfl).trans rfl
  have es4_13 : s4 112 1 = s0 112 1 := (Gs4 112 1 rfl).trans rfl
  have es4_14 : s4 112 2 = s0 112 2 := (Gs4 112 2 rfl).trans rfl
  have es4_15 : s4 112 3 = s0 112 3 := (Gs4 112 3 rfl).trans rfl
  refine h_pop (pc' := 690) rfl rfl rfl ?_
  refine h_aload_n (pc' := 691) rfl rfl rfl ?_
  refine h_aload_n (pc' := 692) rfl rfl rfl ?_
  refine h_iload_n (pc' := 693) rfl rfl rfl ?_
  refine h_iconst (pc' := 694) (x := (Int32.ofInt 1)) rfl rfl rfl ?_
  refine h_iadd (pc' := 695) rfl rfl hy3 ci_1 rfl (by omega) (by omega) (fun z5 hz5 => ?_)
  refine h_iald (pc' := 696) (v := s0 0 (b3 + 1)) rfl rfl rfl hz5 (by omega) (by omega) (Zs4 _) (fun z6 hz6 => ?_)
  have tz6 := h_rgv hz6
  refine h_call (sp := false) (pc' := 699) (M := [(0, .ref 98), (1, .int z6)]) rfl rfl rfl rfl rfl rfl rfl rfl ?_
  refine w_185_98 _ Is4 z6 _ hz6 (fun r7 br7 hr7 s8 Is8 Gs8 tr7 => h_Kv ?_)
  have Zs8 : ∀ i, s8 0 i = s0 0 i := fun i => (Gs8 0 i rfl).trans (Zs4 i)
  have es8_0 : s8 95 0 = s0 95 0 := (Gs8 95 0 rfl).trans es4_0
  have es8_1 : s8 95 1 = s0 95 1 := (Gs8 95 1 rfl).trans es4_1
  have es8_2 : s8 95 2 = s0 95 2 := (Gs8 95 2 rfl).trans es4_2
  have es8_3 : s8 95 3 = s0 95 3 := (Gs8 95 3 rfl).trans es4_3
  have es8_4 : s8 96 0 = s0 96 0 := (Gs8 96 0 rfl).trans es4_4
  have es8_5 : s8 96 1 = s0 96 1 := (Gs8 96 1 rfl).trans es4_5
  have es8_6 : s8 96 2 = s0 96 2 := (Gs8 96 2 rfl).trans es4_6
  have es8_7 : s8 96 3 = s0 96 3 := (Gs8 96 3 rfl).trans es4_7
  have es8_8 : s8 111 0 = s0 111 0 := (Gs8 111 0 rfl).trans es4_8
  have es8_9 : s8 111 1 = s0 111 1 := (Gs8 111 1 rfl).trans es4_9
  have es8_10 : s8 111 2 = s0 111 2 := (Gs8 111 2 rfl).trans es4_10
  have es8_11 : s8 111 3 = s0 111 3 := (Gs8 111 3 rfl).trans es4_11
  have es8_12 : s8 112 0 = s0 112 0 := (Gs8 112 0 rfl).trans es4_12
  have es8_13 : s8 112 1 = s0 112 1 := (Gs8 112 1 rfl).trans es4_13
  have es8_14 : s8 112 2 = s0 112 2 := (Gs8 112 2 rfl).trans es4_14
  have es8_15 : s8 112 3 = s0 112 3 := (Gs8 112 3 rfl).trans es4_15
  clear es4_0 es4_1 es4_10 es4_11 es4_12 es4_13 es4_14 es4_15 es4_2 es4_3 es4_4 es4_5 es4_6 es4_7 es4_8 es4_9
  refine h_pop (pc' := 700) rfl rfl rfl ?_
  refine h_goto (pc' := 1441) rfl rfl ?_
  exact kk _ Is8 (by first | exact h_jf j0 (by omega) (by omega) (by omega) | exact Or.inr ⟨by omega, by omega, by omega⟩) (by first | exact h_jf j1 (by omega) (by omega) (by omega) | exact Or.inr ⟨by omega, by omega, by omega⟩) (by first | exact h_jf j2 (by omega) (by omega) (by omega) | exact Or.inr ⟨by omega, by omega, by omega⟩) (by first | exact h_jf j3 (by omega) (by omega) (by omega) | exact Or.inr ⟨by omega, by omega, by omega⟩)
theorem g_case_703 {ns : Nat} (hns : ns ≤ 320) (s0 : h_S) (I0 : h_I s0) (j0 : h_js (s0 96 0) (s0 111 0) (s0 112 0)) (j1 : h_js (s0 96 1) (s0 111 1) (s0 112 1)) (j2 : h_js (s0 96 2) (s0 111 2) (s0 112 2)) (j3 : h_js (s0 96 3) (s0 111 3) (s0 112 3)) (y3 : Int32) (b3 : Int) (hy3 : y3.toInt = b3) (hr : 0 ≤ b3 ∧ b3 + 5 ≤ ns) {Q : Option Value → h_S → Prop} (kk : ∀ τ, h_I τ → h_js (τ 96 0) (τ 111 0) (τ 112 0) → h_js (τ 96 1) (τ 111 1) (τ 112 1) → h_js (τ 96 2) (τ 111 2) (τ 112 2) → h_js (τ 96 3) (τ 111 3) (τ 112 3) → h_T g_P (g_Y ns) 225 1441 [(0, .ref 0), (1, .ref 9), (2, .ref 98), (3, .int y3)] [] τ Q) : h_T g_P (g_Y ns) 225 703 [(0, .ref 0), (1, .ref 9), (2, .ref 98), (3, .int y3)] [] s0 Q := by
  refine h_aload_n (pc' := 704) rfl rfl rfl ?_
  refine h_aload_n (pc' := 705) rfl rfl rfl ?_
  refine h_iload_n (pc' := 706) rfl rfl rfl ?_
  refine h_iconst (pc' := 707) (x := (Int32.ofInt 1)) rfl rfl rfl ?_
  refine h_iadd (pc' := 708) rfl rfl hy3 ci_1 rfl (by omega) (by omega) (fun z1 hz1 => ?_)
  refine h_iald (pc' := 709) (v := s0 0 (b3 + 1)) rfl rfl rfl hz1 (by omega) (by omega) rfl (fun z2 hz2 => ?_)
  have tz2 := h_rgv hz2
  refine h_call (sp := false) (pc' := 712) (M := [(0, .ref 9), (1, .int z2)]) rfl rfl rfl rfl rfl rfl rfl rfl ?_
  refine w_99_9 _ I0 z2 _ hz2 (fun r3 br3 hr3 s4 Is4 Gs4 tr3 => h_Kv ?_)
  have Zs4 : ∀ i, s4 0 i = s0 0 i := fun i => (Gs4 0 i rfl).trans rfl
  have es4_0 : s4 95 0 = s0 95 0 := (Gs4 95 0 rfl).trans rfl
  have es4_1 : s4 95 1 = s0 95 1 := (Gs4 95 1 rfl).trans rfl
  have es4_2 : s4 95 2 = s0 95 2 := (Gs4 95 2 rfl).trans rfl
  have es4_3 : s4 95 3 = s0 95 3 := (Gs4 95 3 rfl).trans rfl
  have es4_4 : s4 96 0 = s0 96 0 := (Gs4 96 0 rfl).trans rfl
  have es4_5 : s4 96 1 = s0 96 1 := (Gs4 96 1 rfl).trans rfl
  have es4_6 : s4 96 2 = s0 96 2 := (Gs4 96 2 rfl).trans rfl
  have es4_7 : s4 96 3 = s0 96 3 := (Gs4 96 3 rfl).trans rfl
  have es4_8 : s4 111 0 = s0 111 0 := (Gs4 111 0 rfl).trans rfl
  have es4_9 : s4 111 1 = s0 111 1 := (Gs4 111 1 rfl).trans rfl
  have es4_10 : s4 111 2 = s0 111 2 := (Gs4 111 2 rfl).trans rfl
  have es4_11 : s4 111 3 = s0 111 3 := (Gs4 111 3 rfl).trans rfl
  have es4_12 : s4 112 0 = s0 112 0 := (Gs4 112 0 rfl).trans rfl
  have es4_13 : s4 112 1 = s0 112 1 := (Gs4 112 1 rfl).trans rfl
  have es4_14 : s4 112 2 = s0 112 2 := (Gs4 112 2 rfl).trans rfl
  have es4_15 : s4 112 3 = s0 112 3 := (Gs4 112 3 rfl).trans rfl
  refine h_pop (pc' := 713) rfl rfl rfl ?_
  refine h_aload_n (pc' := 714) rfl rfl rfl ?_
  refine h_aload_n (pc' := 715) rfl rfl rfl ?_
  refine h_iload_n (pc' := 716) rfl rfl rfl ?_
  refine h_iconst (pc' := 717) (x := (Int32.ofInt 1)) rfl rfl rfl ?_
  refine h_iadd (pc' := 718) rfl rfl hy3 ci_1 rfl (by omega) (by omega) (fun z5 hz5 => ?_)
  refine h_iald (pc' := 719) (v := s0 0 (b3 + 1)) rfl rfl rfl hz5 (by omega) (by omega) (Zs4 _) (fun z6 hz6 => ?_)
  have tz6 := h_rgv hz6
  refine h_call (sp := false) (pc' := 722) (M := [(0, .ref 98), (1, .int z6)]) rfl rfl rfl rfl rfl rfl rfl rfl ?_
  refine w_186_98 _ Is4 z6 _ hz6 (fun r7 br7 hr7 s8 Is8 Gs8 tr7 => h_Kv ?_)
  have Zs8 : ∀ i, s8 0 i = s0 0 i := fun i => (Gs8 0 i rfl).trans (Zs4 i)
  have es8_0 : s8 95 0 = s0 95 0 := (Gs8 95 0 rfl).trans es4_0
  have es8_1 : s8 95 1 = s0 95 1 := (Gs8 95 1 rfl).trans es4_1
  have es8_2 : s8 95 2 = s0 95 2 := (Gs8 95 2 rfl).trans es4_2
  have es8_3 : s8 95 3 = s0 95 3 := (Gs8 95 3 rfl).trans es4_3
  have es8_4 : s8 96 0 = s0 96 0 := (Gs8 96 0 rfl).trans es4_4
  have es8_5 : s8 96 1 = s0 96 1 := (Gs8 96 1 rfl).trans es4_5
  have es8_6 : s8 96 2 = s0 96 2 := (Gs8 96 2 rfl).trans es4_6
  have es8_7 : s8 96 3 = s0 96 3 := (Gs8 96 3 rfl).trans es4_7
  have es8_8 : s8 111 0 = s0 111 0 := (Gs8 111 0 rfl).trans es4_8
  have es8_9 : s8 111 1 = s0 111 1 := (Gs8 111 1 rfl).trans es4_9
  have es8_10 : s8 111 2 = s0 111 2 := (Gs8 111 2 rfl).trans es4_10
  have es8_11 : s8 111 3 = s0 111 3 := (Gs8 111 3 rfl).trans es4_11
  have es8_12 : s8 112 0 = s0 112 0 := (Gs8 112 0 rfl).trans es4_12
  have es8_13 : s8 112 1 = s0 112 1 := (Gs8 112 1 rfl).trans es4_13
  have es8_14 : s8 112 2 = s0 112 2 := (Gs8 112 2 rfl).trans es4_14
  have es8_15 : s8 112 3 = s0 112 3 := (Gs8 112 3 rfl).trans es4_15
  clear es4_0 es4_1 es4_10 es4_11 es4_12 es4_13 es4_14 es4_15 es4_2 es4_3 es4_4 es4_5 es4_6 es4_7 es4_8 es4_9
  refine h_pop (pc' := 723) rfl rfl rfl ?_
  refine h_goto (pc' := 1441) rfl rfl ?_
  exact kk _ Is8 (by first | exact h_jf j0 (by omega) (by omega) (by omega) | exact Or.inr ⟨by omega, by omega, by omega⟩) (by first | exact h_jf j1 (by omega) (by omega) (by omega) | exact Or.inr ⟨by omega, by omega, by omega⟩) (by first | exact h_jf j2 (by omega) (by omega) (by omega) | exact Or.inr ⟨by omega, by omega, by omega⟩) (by first | exact h_jf j3 (by omega) (by omega) (by omega) | exact Or.inr ⟨by omega, by omega, by omega⟩)
theorem g_case_726 {ns : Nat} (hns : ns ≤ 320) (s0 : h_S) (I0 : h_I s0) (j0 : h_js (s0 96 0) (s0 111 0) (s0 112 0)) (j1 : h_js (s0 96 1) (s0 111 1) (s0 112 1)) (j2 : h_js (s0 96 2) (s0 111 2) (s0 112 2)) (j3 : h_js (s0 96 3) (s0 111 3) (s0 112 3)) (y3 : Int32) (b3 : Int) (hy3 : y3.toInt = b3) (hr : 0 ≤ b3 ∧ b3 + 5 ≤ ns) {Q : Option Value → h_S → Prop} (kk : ∀ τ, h_I τ → h_js (τ 96 0) (τ 111 0) (τ 112 0) → h_js (τ 96 1) (τ 111 1) (τ 112 1) → h_js (τ 96 2) (τ 111 2) (τ 112 2) → h_js (τ 96 3) (τ 111 3) (τ 112 3) → h_T g_P (g_Y ns) 225 1441 [(0, .ref 0), (1, .ref 9), (2, .ref 98), (3, .int y3)] [] τ Q) : h_T g_P (g_Y ns) 225 726 [(0, .ref 0), (1, .ref 9), (2, .ref 98), (3, .int y3)] [] s0 Q := by
  refine h_aload_n (pc' := 727) rfl rfl rfl ?_
  refine h_aload_n (pc' := 728) rfl rfl rfl ?_
  refine h_iload_n (pc' := 729) rfl rfl rfl ?_
  refine h_iconst (pc' := 730) (x := (Int32.ofInt 1)) rfl rfl rfl ?_
  refine h_iadd (pc' := 731) rfl rfl hy3 ci_1 rfl (by omega) (by omega) (fun z1 hz1 => ?_)
  refine h_iald (pc' := 732) (v := s0 0 (b3 + 1)) rfl rfl rfl hz1 (by omega) (by omega) rfl (fun z2 hz2 => ?_)
  have tz2 := h_rgv hz2
  refine h_aload_n (pc' := 733) rfl rfl rfl ?_
  refine h_iload_n (pc' := 734) rfl rfl rfl ?_
  refine h_iconst (pc' := 735) (x := (Int32.ofInt 2)) rfl rfl rfl ?_
  refine h_iadd (pc' := 736) rfl rfl hy3 ci_2 rfl (by omega) (by omega) (fun z3 hz3 => ?_)
  refine h_iald (pc' := 737) (v := s0 0 (b3 + 2)) rfl rfl rfl hz3 (by omega) (by omega) rfl (fun z4 hz4 => ?_)
  have tz4 := h_rgv hz4
  refine h_call (sp := false) (pc' := 740) (M := [(0, .ref 9), (1, .int z2), (2, .int z4)]) rfl rfl rfl rfl rfl rfl rfl rfl ?_
  refine w_100_9 _ I0 z2 _ hz2 z4 _ hz4 (fun r5 br5 hr5 s6 Is6 Gs6 tr5 => h_Kv ?_)
  have Zs6 : ∀ i, s6 0 i = s0 0 i := fun i => (Gs6 0 i rfl).trans rfl
  have es6_0 : s6 95 0 = s0 95 0 := (Gs6 95 0 rfl).trans rfl
  have es6_1 : s6 95 1 = s0 95 1 := (Gs6 95 1 rfl).trans rfl
  have es6_2 : s6 95 2 = s0 95 2 := (Gs6 95 2 rfl).trans rfl
  have es6_3 : s6 95 3 = s0 95 3 := (Gs6 95 3 rfl).trans rfl
  have es6_4 : s6 96 0 = s0 96 0 := (Gs6 96 0 rfl).trans rfl
  have es6_5 : s6 96 1 = s0 96 1 := (Gs6 96 1 rfl).trans rfl
  have es6_6 : s6 96 2 = s0 96 2 := (Gs6 96 2 rfl).trans rfl
  have es6_7 : s6 96 3 = s0 96 3 := (Gs6 96 3 rfl).trans rfl
  have es6_8 : s6 111 0 = s0 111 0 := (Gs6 111 0 rfl).trans rfl
  have es6_9 : s6 111 1 = s0 111 1 := (Gs6 111 1 rfl).trans rfl
  have es6_10 : s6 111 2 = s0 111 2 := (Gs6 111 2 rfl).trans rfl
  have es6_11 : s6 111 3 = s0 111 3 := (Gs6 111 3 rfl).trans rfl
  have es6_12 : s6 112 0 = s0 112 0 := (Gs6 112 0 rfl).trans rfl
  have es6_13 : s6 112 1 = s0 112 1 := (Gs6 112 1 rfl).trans rfl
  have es6_14 : s6 112 2 = s0 112 2 := (Gs6 112 2 rfl).trans rfl
  have es6_15 : s6 112 3 = s0 112 3 := (Gs6 112 3 rfl).trans rfl
  refine h_pop (pc' := 741) rfl rfl rfl ?_
  refine h_aload_n (pc' := 742) rfl rfl rfl ?_
  refine h_aload_n (pc' := 743) rfl rfl rfl ?_
  refine h_iload_n (pc' := 744) rfl rfl rfl ?_
  refine h_iconst (pc' := 745) (x := (Int32.ofInt 1)) rfl rfl rfl ?_
  refine h_iadd (pc' := 746) rfl rfl hy3 ci_1 rfl (by omega) (by omega) (fun z7 hz7 => ?_)
  refine h_iald (pc' := 747) (v := s0 0 (b3 + 1)) rfl rfl rfl hz7 (by omega) (by omega) (Zs6 _) (fun z8 hz8 => ?_)
  have tz8 := h_rgv hz8
  refine h_aload_n (pc' := 748) rfl rfl rfl ?_
  refine h_iload_n (pc' := 749) rfl rfl rfl ?_
  refine h_iconst (pc' := 750) (x := (Int32.ofInt 2)) rfl rfl rfl ?_
  refine h_iadd (pc' := 751) rfl rfl hy3 ci_2 rfl (by omega) (by omega) (fun z9 hz9 => ?_)
  refine h_iald (pc' := 752) (v := s0 0 (b3 + 2)) rfl rfl rfl hz9 (by omega) (by omega) (Zs6 _) (fun z10 hz10 => ?_)
  have tz10 := h_rgv hz10
  refine h_call (sp := false) (pc' := 755) (M := [(0, .ref 98), (1, .int z8), (2, .int z10)]) rfl rfl rfl rfl rfl rfl rfl rfl ?_
  refine w_189_98 _ Is6 z8 _ hz8 z10 _ hz10 (fun r11 br11 hr11 s12 Is12 Gs12 tr11 => h_Kv ?_)
  have Zs12 : ∀ i, s12 0 i = s0 0 i := fun i => (Gs12 0 i rfl).trans (Zs6 i)
  have es12_0 : s12 95 0 = s0 95 0 := (Gs12 95 0 rfl).trans es6_0
  have es12_1 : s12 95 1 = s0 95 1 := (Gs12 95 1 rfl).trans es6_1
  have es12_2 : s12 95 2 = s0 95 2 := (Gs12 95 2 rfl).trans es6_2
  have es12_3 : s12 95 3 = s0 95 3 := (Gs12 95 3 rfl).trans es6_3
  have es12_4 : s12 96 0 = s0 96 0 := (Gs12 96 0 rfl).trans es6_4
  have es12_5 : s12 96 1 = s0 96 1 := (Gs12 96 1 rfl).trans es6_5
  have es12_6 : s12 96 2 = s0 96 2 := (Gs12 96 2 rfl).trans es6_6
  have es12_7 : s12 96 3 = s0 96 3 := (Gs12 96 3 rfl).trans es6_7
  have es12_8 : s12 111 0 = s0 111 0 := (Gs12 111 0 rfl).trans es6_8
  have es12_9 : s12 111 1 = s0 111 1 := (Gs12 111 1 rfl).trans es6_9
  have es12_10 : s12 111 2 = s0 111 2 := (Gs12 111 2 rfl).trans es6_10
  have es12_11 : s12 111 3 = s0 111 3 := (Gs12 111 3 rfl).trans es6_11
  have es12_12 : s12 112 0 = s0 112 0 := (Gs12 112 0 rfl).trans es6_12
  have es12_13 : s12 112 1 = s0 112 1 := (Gs12 112 1 rfl).trans es6_13
  have es12_14 : s12 112 2 = s0 112 2 := (Gs12 112 2 rfl).trans es6_14
  have es12_15 : s12 112 3 = s0 112 3 := (Gs12 112 3 rfl).trans es6_15
  clear es6_0 es6_1 es6_10 es6_11 es6_12 es6_13 es6_14 es6_15 es6_2 es6_3 es6_4 es6_5 es6_6 es6_7 es6_8 es6_9
  refine h_pop (pc' := 756) rfl rfl rfl ?_
  refine h_goto (pc' := 1441) rfl rfl ?_
  exact kk _ Is12 (by first | exact h_jf j0 (by omega) (by omega) (by omega) | exact Or.inr ⟨by omega, by omega, by omega⟩) (by first | exact h_jf j1 (by omega) (by omega) (by omega) | exact Or.inr ⟨by omega, by omega, by omega⟩) (by first | exact h_jf j2 (by omega) (by omega) (by omega) | exact Or.inr ⟨by omega, by omega, by omega⟩) (by first | exact h_jf j3 (by omega) (by omega) (by omega) | exact Or.inr ⟨by omega, by omega, by omega⟩)
theorem g_case_759 {ns : Nat} (hns : ns ≤ 320) (s0 : h_S) (I0 : h_I s0) (j0 : h_js (s0 96 0) (s0 111 0) (s0 112 0)) (j1 : h_js (s0 96 1) (s0 111 1) (s0 112 1)) (j2 : h_js (s0 96 2) (s0 111 2) (s0 112 2)) (j3 : h_js (s0 96 3) (s0 111 3) (s0 112 3)) (y3 : Int32) (b3 : Int) (hy3 : y3.toInt = b3) (hr : 0 ≤ b3 ∧ b3 + 5 ≤ ns) {Q : Option Value → h_S → Prop} (kk : ∀ τ, h_I τ → h_js (τ 96 0) (τ 111 0) (τ 112 0) → h_js (τ 96 1) (τ 111 1) (τ 112 1) → h_js (τ 96 2) (τ 111 2) (τ 112 2) → h_js (τ 96 3) (τ 111 3) (τ 112 3) → h_T g_P (g_Y ns) 225 1441 [(0, .ref 0), (1, .ref 9), (2, .ref 98), (3, .int y3)] [] τ Q) : h_T g_P (g_Y ns) 225 759 [(0, .ref 0), (1, .ref 9), (2, .ref 98), (3, .int y3)] [] s0 Q := by
  refine h_aload_n (pc' := 760) rfl rfl rfl ?_
  refine h_aload_n (pc' := 761) rfl rfl rfl ?_
  refine h_iload_n (pc' := 762) rfl rfl rfl ?_
  refine h_iconst (pc' := 763) (x := (Int32.ofInt 1)) rfl rfl rfl ?_
  refine h_iadd (pc' := 764) rfl rfl hy3 ci_1 rfl (by omega) (by omega) (fun z1 hz1 => ?_)
  refine h_iald (pc' := 765) (v := s0 0 (b3 + 1)) rfl rfl rfl hz1 (by omega) (by omega) rfl (fun z2 hz2 => ?_)
  have tz2 := h_rgv hz2
  refine h_call (sp := false) (pc' := 768) (M := [(0, .ref 9), (1, .int z2)]) rfl rfl rfl rfl rfl rfl rfl rfl ?_
  refine w_101_9 _ I0 z2 _ hz2 (fun r3 br3 hr3 s4 Is4 Gs4 => h_Kv ?_)
  have Zs4 : ∀ i, s4 0 i = s0 0 i := fun i => (Gs4 0 i rfl).trans rfl
  have es4_0 : s4 95 0 = s0 95 0 := (Gs4 95 0 rfl).trans rfl
  have es4_1 : s4 95 1 = s0 95 1 := (Gs4 95 1 rfl).trans rfl
  have es4_2 : s4 95 2 = s0 95 2 := (Gs4 95 2 rfl).trans rfl
  have es4_3 : s4 95 3 = s0 95 3 := (Gs4 95 3 rfl).trans rfl
  have es4_4 : s4 96 0 = s0 96 0 := (Gs4 96 0 rfl).trans rfl
  have es4_5 : s4 96 1 = s0 96 1 := (Gs4 96 1 rfl).trans rfl
  have es4_6 : s4 96 2 = s0 96 2 := (Gs4 96 2 rfl).trans rfl
  have es4_7 : s4 96 3 = s0 96 3 := (Gs4 96 3 rfl).trans rfl
  have es4_8 : s4 111 0 = s0 111 0 := (Gs4 111 0 rfl).trans rfl
  have es4_9 : s4 111 1 = s0 111 1 := (Gs4 111 1 rfl).trans rfl
  have es4_10 : s4 111 2 = s0 111 2 := (Gs4 111 2 rfl).trans rfl
  have es4_11 : s4 111 3 = s0 111 3 := (Gs4 111 3 rfl).trans rfl
  have es4_12 : s4 112 0 = s0 112 0 := (Gs4 112 0 rfl).trans rfl
  have es4_13 : s4 112 1 = s0 112 1 := (Gs4 112 1 rfl).trans rfl
  have es4_14 : s4 112 2 = s0 112 2 := (Gs4 112 2 rfl).trans rfl
  have es4_15 : s4 112 3 = s0 112 3 := (Gs4 112 3 rfl).trans rfl
  refine h_pop (pc' := 769) rfl rfl rfl ?_
  refine h_aload_n (pc' := 770) rfl rfl rfl ?_
  refine h_aload_n (pc' := 771) rfl rfl rfl ?_
  refine h_iload_n (pc' := 772) rfl rfl rfl ?_
  refine h_iconst (pc' := 773) (x := (Int32.ofInt 1)) rfl rfl rfl ?_
  refine h_iadd (pc' := 774) rfl rfl hy3 ci_1 rfl (by omega) (by omega) (fun z5 hz5 => ?_)
  refine h_iald (pc' := 775) (v := s0 0 (b3 + 1)) rfl rfl rfl hz5 (by omega) (by omega) (Zs4 _) (fun z6 hz6 => ?_)
  have tz6 := h_rgv hz6
  refine h_call (sp := false) (pc' := 778) (M := [(0, .ref 98), (1, .int z6)]) rfl rfl rfl rfl rfl rfl rfl rfl ?_
  refine w_194_98 _ Is4 z6 _ hz6 (fun r7 br7 hr7 s8 Is8 Gs8 => h_Kv ?_)
  have Zs8 : ∀ i, s8 0 i = s0 0 i := fun i => (Gs8 0 i rfl).trans (Zs4 i)
  have es8_0 : s8 95 0 = s0 95 0 := (Gs8 95 0 rfl).trans es4_0
  have es8_1 : s8 95 1 = s0 95 1 := (Gs8 95 1 rfl).trans es4_1
  have es8_2 : s8 95 2 = s0 95 2 := (Gs8 95 2 rfl).trans es4_2
  have es8_3 : s8 95 3 = s0 95 3 := (Gs8 95 3 rfl).trans es4_3
  have es8_4 : s8 96 0 = s0 96 0 := (Gs8 96 0 rfl).trans es4_4
  have es8_5 : s8 96 1 = s0 96 1 := (Gs8 96 1 rfl).trans es4_5
  have es8_6 : s8 96 2 = s0 96 2 := (Gs8 96 2 rfl).trans es4_6
  have es8_7 : s8 96 3 = s0 96 3 := (Gs8 96 3 rfl).trans es4_7
  have es8_8 : s8 111 0 = s0 111 0 := (Gs8 111 0 rfl).trans es4_8
  have es8_9 : s8 111 1 = s0 111 1 := (Gs8 111 1 rfl).trans es4_9
  have es8_10 : s8 111 2 = s0 111 2 := (Gs8 111 2 rfl).trans es4_10
  have es8_11 : s8 111 3 = s0 111 3 := (Gs8 111 3 rfl).trans es4_11
  have es8_12 : s8 112 0 = s0 112 0 := (Gs8 112 0 rfl).trans es4_12
  have es8_13 : s8 112 1 = s0 112 1 := (Gs8 112 1 rfl).trans es4_13
  have es8_14 : s8 112 2 = s0 112 2 := (Gs8 112 2 rfl).trans es4_14
  have es8_15 : s8 112 3 = s0 112 3 := (Gs8 112 3 rfl).trans es4_15
  clear es4_0 es4_1 es4_10 es4_11 es4_12 es4_13 es4_14 es4_15 es4_2 es4_3 es4_4 es4_5 es4_6 es4_7 es4_8 es4_9
  refine h_pop (pc' := 779) rfl rfl rfl ?_
  refine h_goto (pc' := 1441) rfl rfl ?_
  exact kk _ Is8 (by first | exact h_jf j0 (by omega) (by omega) (by omega) | exact Or.inr ⟨by omega, by omega, by omega⟩) (by first | exact h_jf j1 (by omega) (by omega) (by omega) | exact Or.inr ⟨by omega, by omega, by omega⟩) (by first | exact h_jf j2 (by omega) (by omega) (by omega) | exact Or.inr ⟨by omega, by omega, by omega⟩) (by first | exact h_jf j3 (by omega) (by omega) (by omega) | exact Or.inr ⟨by omega, by omega, by omega⟩)
theorem g_case_782 {ns : Nat} (hns : ns ≤ 320) (s0 : h_S) (I0 : h_I s0) (j0 : h_js (s0 96 0) (s0 111 0) (s0 112 0)) (j1 : h_js (s0 96 1) (s0 111 1) (s0 112 1)) (j2 : h_js (s0 96 2) (s0 111 2) (s0 112 2)) (j3 : h_js (s0 96 3) (s0 111 3) (s0 112 3)) (y3 : Int32) (b3 : Int) (hy3 : y3.toInt = b3) (hr : 0 ≤ b3 ∧ b3 + 5 ≤ ns) {Q : Option Value → h_S → Prop} (kk : ∀ τ, h_I τ → h_js (τ 96 0) (τ 111 0) (τ 112 0) → h_js (τ 96 1) (τ 111 1) (τ 112 1) → h_js (τ 96 2) (τ 111 2) (τ 112 2) → h_js (τ 96 3) (τ 111 3) (τ 112 3) → h_T g_P (g_Y ns) 225 1441 [(0, .ref 0), (1, .ref 9), (2, .ref 98), (3, .int y3)] [] τ Q) : h_T g_P (g_Y ns) 225 782 [(0, .ref 0), (1, .ref 9), (2, .ref 98), (3, .int y3)] [] s0 Q := by
  refine h_aload_n (pc' := 783) rfl rfl rfl ?_
  refine h_aload_n (pc' := 784) rfl rfl rfl ?_
  refine h_iload_n (pc' := 785) rfl rfl rfl ?_
  refine h_iconst (pc' := 786) (x := (Int32.ofInt 1)) rfl rfl rfl ?_
  refine h_iadd (pc' := 787) rfl rfl hy3 ci_1 rfl (by omega) (by omega) (fun z1 hz1 => ?_)
  refine h_iald (pc' := 788) (v := s0 0 (b3 + 1)) rfl rfl rfl hz1 (by omega) (by omega) rfl (fun z2 hz2 => ?_)
  have tz2 := h_rgv hz2
  refine h_call (sp := false) (pc' := 791) (M := [(0, .ref 9), (1, .int z2)]) rfl rfl rfl rfl rfl rfl rfl rfl ?_
  refine w_102_9 _ I0 z2 _ hz2 (fun r3 br3 hr3 s4 Is4 Gs4 tr3 => h_Kv ?_)
  have Zs4 : ∀ i, s4 0 i = s0 0 i := fun i => (Gs4 0 i rfl).trans rfl
  have es4_0 : s4 95 0 = s0 95 0 := (Gs4 95 0 rfl).trans rfl
  have es4_1 : s4 95 1 = s0 95 1 := (Gs4 95 1 rfl).trans rfl
  have es4_2 : s4 95 2 = s0 95 2 := (Gs4 95 2 rfl).trans rfl
  have es4_3 : s4 95 3 = s0 95 3 := (Gs4 95 3 rfl).trans rfl
  have es4_4 : s4 96 0 = s0 96 0 := (Gs4 96 0 rfl).trans rfl
  have es4_5 : s4 96 1 = s0 96 1 := (Gs4 96 1 rfl).trans rfl
  have es4_6 : s4 96 2 = s0 96 2 := (Gs4 96 2 rfl).trans rfl
  have es4_7 : s4 96 3 = s0 96 3 := (Gs4 96 3 rfl).trans rfl
  have es4_8 : s4 111 0 = s0 111 0 := (Gs4 111 0 rfl).trans rfl
  have es4_9 : s4 111 1 = s0 111 1 := (Gs4 111 1 rfl).trans rfl
  have es4_10 : s4 111 2 = s0 111 2 := (Gs4 111 2 rfl).trans rfl
  have es4_11 : s4 111 3 = s0 111 3 := (Gs4 111 3 rfl).trans rfl
  have es4_12 : s4 112 0 = s0 112 0 := (Gs4 112 0 rfl).trans rfl
  have es4_13 : s4 112 1 = s0 112 1 := (Gs4 112 1 rfl).trans rfl
  have es4_14 : s4 112 2 = s0 112 2 := (Gs4 112 2 rfl).trans rfl
  have es4_15 : s4 112 3 = s0 112 3 := (Gs4 112 3 rfl).trans rfl
  refine h_pop (pc' := 792) rfl rfl rfl ?_
  refine h_aload_n (pc' := 793) rfl rfl rfl ?_
  refine h_aload_n (pc' := 794) rfl rfl rfl ?_
  refine h_iload_n (pc' := 795) rfl rfl rfl ?_
  refine h_iconst (pc' := 796) (x := (Int32.ofInt 1)) rfl rfl rfl ?_
  refine h_iadd (pc' := 797) rfl rfl hy3 ci_1 rfl (by omega) (by omega) (fun z5 hz5 => ?_)
  refine h_iald (pc' := 798) (v := s0 0 (b3 + 1)) rfl rfl rfl hz5 (by omega) (by omega) (Zs4 _) (fun z6 hz6 => ?_)
  have tz6 := h_rgv hz6
  refine h_call (sp := false) (pc' := 801) (M := [(0, .ref 98), (1, .int z6)]) rfl rfl rfl rfl rfl rfl rfl rfl ?_
  refine w_195_98 _ Is4 z6 _ hz6 (fun r7 br7 hr7 s8 Is8 Gs8 tr7 => h_Kv ?_)
  have Zs8 : ∀ i, s8 0 i = s0 0 i := fun i => (Gs8 0 i rfl).trans (Zs4 i)
  have es8_0 : s8 95 0 = s0 95 0 := (Gs8 95 0 rfl).trans es4_0
  have es8_1 : s8 95 1 = s0 95 1 := (Gs8 95 1 rfl).trans es4_1
  have es8_2 : s8 95 2 = s0 95 2 := (Gs8 95 2 rfl).trans es4_2
  have es8_3 : s8 95 3 = s0 95 3 := (Gs8 95 3 rfl).trans es4_3
  have es8_4 : s8 96 0 = s0 96 0 := (Gs8 96 0 rfl).trans es4_4
  have es8_5 : s8 96 1 = s0 96 1 := (Gs8 96 1 rfl).trans es4_5
  have es8_6 : s8 96 2 = s0 96 2 := (Gs8 96 2 rfl).trans es4_6
  have es8_7 : s8 96 3 = s0 96 3 := (Gs8 96 3 rfl).trans es4_7
  have es8_8 : s8 111 0 = s0 111 0 := (Gs8 111 0 rfl).trans es4_8
  have es8_9 : s8 111 1 = s0 111 1 := (Gs8 111 1 rfl).trans es4_9
  have es8_10 : s8 111 2 = s0 111 2 := (Gs8 111 2 rfl).trans es4_10
  have es8_11 : s8 111 3 = s0 111 3 := (Gs8 111 3 rfl).trans es4_11
  have es8_12 : s8 112 0 = s0 112 0 := (Gs8 112 0 rfl).trans es4_12
  have es8_13 : s8 112 1 = s0 112 1 := (Gs8 112 1 rfl).trans es4_13
  have es8_14 : s8 112 2 = s0 112 2 := (Gs8 112 2 rfl).trans es4_14
  have es8_15 : s8 112 3 = s0 112 3 := (Gs8 112 3 rfl).trans es4_15
  clear es4_0 es4_1 es4_10 es4_11 es4_12 es4_13 es4_14 es4_15 es4_2 es4_3 es4_4 es4_5 es4_6 es4_7 es4_8 es4_9
  refine h_pop (pc' := 802) rfl rfl rfl ?_
  refine h_goto (pc' := 1441) rfl rfl ?_
  exact kk _ Is8 (by first | exact h_jf j0 (by omega) (by omega) (by omega) | exact Or.inr ⟨by omega, by omega, by omega⟩) (by first | exact h_jf j1 (by omega) (by omega) (by omega) | exact Or.inr ⟨by omega, by omega, by omega⟩) (by first | exact h_jf j2 (by omega) (by omega) (by omega) | exact Or.inr ⟨by omega, by omega, by omega⟩) (by first | exact h_jf j3 (by omega) (by omega) (by omega) | exact Or.inr ⟨by omega, by omega, by omega⟩)
theorem g_case_805 {ns : Nat} (hns : ns ≤ 320) (s0 : h_S) (I0 : h_I s0) (j0 : h_js (s0 96 0) (s0 111 0) (s0 112 0)) (j1 : h_js (s0 96 1) (s0 111 1) (s0 112 1)) (j2 : h_js (s0 96 2) (s0 111 2) (s0 112 2)) (j3 : h_js (s0 96 3) (s0 111 3) (s0 112 3)) (y3 : Int32) (b3 : Int) (hy3 : y3.toInt = b3) (hr : 0 ≤ b3 ∧ b3 + 5 ≤ ns) {Q : Option Value → h_S → Prop} (kk : ∀ τ, h_I τ → h_js (τ 96 0) (τ 111 0) (τ 112 0) → h_js (τ 96 1) (τ 111 1) (τ 112 1) → h_js (τ 96 2) (τ 111 2) (τ 112 2) → h_js (τ 96 3) (τ 111 3) (τ 112 3) → h_T g_P (g_Y ns) 225 1441 [(0, .ref 0), (1, .ref 9), (2, .ref 98), (3, .int y3)] [] τ Q) : h_T g_P (g_Y ns) 225 805 [(0, .ref 0), (1, .ref 9), (2, .ref 98), (3, .int y3)] [] s0 Q := by
  refine h_aload_n (pc' := 806) rfl rfl rfl ?_
  refine h_aload_n (pc' := 807) rfl rfl rfl ?_
  refine h_iload_n (pc' := 808) rfl rfl rfl ?_
  refine h_iconst (pc' := 809) (x := (Int32.ofInt 1)) rfl rfl rfl ?_
  refine h_iadd (pc' := 810) rfl rfl hy3 ci_1 rfl (by omega) (by omega) (fun z1 hz1 => ?_)
  refine h_iald (pc' := 811) (v := s0 0 (b3 + 1)) rfl rfl rfl hz1 (by omega) (by omega) rfl (fun z2 hz2 => ?_)
  have tz2 := h_rgv hz2
  refine h_aload_n (pc' := 812) rfl rfl rfl ?_
  refine h_iload_n (pc' := 813) rfl rfl rfl ?_
  refine h_iconst (pc' := 814) (x := (Int32.ofInt 2)) rfl rfl rfl ?_
  refine h_iadd (pc' := 815) rfl rfl hy3 ci_2 rfl (by omega) (by omega) (fun z3 hz3 => ?_)
  refine h_iald (pc' := 816) (v := s0 0 (b3 + 2)) rfl rfl rfl hz3 (by omega) (by omega) rfl (fun z4 hz4 => ?_)
  have tz4 := h_rgv hz4
  refine h_call (sp := false) (pc' := 819) (M := [(0, .ref 9), (1, .int z2), (2, .int z4)]) rfl rfl rfl rfl rfl rfl rfl rfl ?_
  refine w_103_9 _ I0 z2 _ hz2 z4 _ hz4 (fun r5 br5 hr5 s6 Is6 Gs6 => h_Kv ?_)
  have Zs6 : ∀ i, s6 0 i = s0 0 i := fun i => (Gs6 0 i rfl).trans rfl
  have es6_0 : s6 95 0 = s0 95 0 := (Gs6 95 0 rfl).trans rfl
  have es6_1 : s6 95 1 = s0 95 1 := (Gs6 95 1 rfl).trans rfl
  have es6_2 : s6 95 2 = s0 95 2 := (Gs6 95 2 rfl).trans rfl
  have es6_3 : s6 95 3 = s0 95 3 := (Gs6 95 3 rfl).trans rfl
  have es6_4 : s6 96 0 = s0 96 0 := (Gs6 96 0 rfl).trans rfl
  have es6_5 : s6 96 1 = s0 96 1 := (Gs6 96 1 rfl).trans rfl
  have es6_6 : s6 96 2 = s0 96 2 := (Gs6 96 2 rfl).trans rfl
  have es6_7 : s6 96 3 = s0 96 3 := (Gs6 96 3 rfl).trans rfl
  have es6_8 : s6 111 0 = s0 111 0 := (Gs6 111 0 rfl).trans rfl
  have es6_9 : s6 111 1 = s0 111 1 := (Gs6 111 1 rfl).trans rfl
  have es6_10 : s6 111 2 = s0 111 2 := (Gs6 111 2 rfl).trans rfl
  have es6_11 : s6 111 3 = s0 111 3 := (Gs6 111 3 rfl).trans rfl
  have es6_12 : s6 112 0 = s0 112 0 := (Gs6 112 0 rfl).trans rfl
  have es6_13 : s6 112 1 = s0 112 1 := (Gs6 112 1 rfl).trans rfl
  have es6_14 : s6 112 2 = s0 112 2 := (Gs6 112 2 rfl).trans rfl
  have es6_15 : s6 112 3 = s0 112 3 := (Gs6 112 3 rfl).trans rfl
  refine h_pop (pc' := 820) rfl rfl rfl ?_
  refine h_aload_n (pc' := 821) rfl rfl rfl ?_
  refine h_aload_n (pc' := 822) rfl rfl rfl ?_
  refine h_iload_n (pc' := 823) rfl rfl rfl ?_
  refine h_iconst (pc' := 824) (x := (Int32.ofInt 1)) rfl rfl rfl ?_
  refine h_iadd (pc' := 825) rfl rfl hy3 ci_1 rfl (by omega) (by omega) (fun z7 hz7 => ?_)
  refine h_iald (pc' := 826) (v := s0 0 (b3 + 1)) rfl rfl rfl hz7 (by omega) (by omega) (Zs6 _) (fun z8 hz8 => ?_)
  have tz8 := h_rgv hz8
  refine h_aload_n (pc' := 827) rfl rfl rfl ?_
  refine h_iload_n (pc' := 828) rfl rfl rfl ?_
  refine h_iconst (pc' := 829) (x := (Int32.ofInt 2)) rfl rfl rfl ?_
  refine h_iadd (pc' := 830) rfl rfl hy3 ci_2 rfl (by omega) (by omega) (fun z9 hz9 => ?_)
  refine h_iald (pc' := 831) (v := s0 0 (b3 + 2)) rfl rfl rfl hz9 (by omega) (by omega) (Zs6 _) (fun z10 hz10 => ?_)
  have tz10 := h_rgv hz10
  refine h_call (sp := false) (pc' := 834) (M := [(0, .ref 98), (1, .int z8), (2, .int z10)]) rfl rfl rfl rfl rfl rfl rfl rfl ?_
  refine w_199_98 _ Is6 z8 _ hz8 z10 _ hz10 (fun r11 br11 hr11 s12 Is12 Gs12 => h_Kv ?_)
  have Zs12 : ∀ i, s12 0 i = s0 0 i := fun i => (Gs12 0 i rfl).trans (Zs6 i)
  have es12_0 : s12 95 0 = s0 95 0 := (Gs12 95 0 rfl).trans es6_0
  have es12_1 : s12 95 1 = s0 95 1 := (Gs12 95 1 rfl).trans es6_1
  have es12_2 : s12 95 2 = s0 95 2 := (Gs12 95 2 rfl).trans es6_2
  have es12_3 : s12 95 3 = s0 95 3 := (Gs12 95 3 rfl).trans es6_3
  have es12_4 : s12 96 0 = s0 96 0 := (Gs12 96 0 rfl).trans es6_4
  have es12_5 : s12 96 1 = s0 96 1 := (Gs12 96 1 rfl).trans es6_5
  have es12_6 : s12 96 2 = s0 96 2 := (Gs12 96 2 rfl).trans es6_6
  have es12_7 : s12 96 3 = s0 96 3 := (Gs12 96 3 rfl).trans es6_7
  have es12_8 : s12 111 0 = s0 111 0 := (Gs12 111 0 rfl).trans es6_8
  have es12_9 : s12 111 1 = s0 111 1 := (Gs12 111 1 rfl).trans es6_9
  have es12_10 : s12 111 2 = s0 111 2 := (Gs12 111 2 rfl).trans es6_10
  have es12_11 : s12 111 3 = s0 111 3 := (Gs12 111 3 rfl).trans es6_11
  have es12_12 : s12 112 0 = s0 112 0 := (Gs12 112 0 rfl).trans es6_12
  have es12_13 : s12 112 1 = s0 112 1 := (Gs12 112 1 rfl).trans es6_13
  have es12_14 : s12 112 2 = s0 112 2 := (Gs12 112 2 rfl).trans es6_14
  have es12_15 : s12 112 3 = s0 112 3 := (Gs12 112 3 rfl).trans es6_15
  clear es6_0 es6_1 es6_10 es6_11 es6_12 es6_13 es6_14 es6_15 es6_2 es6_3 es6_4 es6_5 es6_6 es6_7 es6_8 es6_9
  refine h_pop (pc' := 835) rfl rfl rfl ?_
  refine h_goto (pc' := 1441) rfl rfl ?_
  exact kk _ Is12 (by first | exact h_jf j0 (by omega) (by omega) (by omega) | exact Or.inr ⟨by omega, by omega, by omega⟩) (by first | exact h_jf j1 (by omega) (by omega) (by omega) | exact Or.inr ⟨by omega, by omega, by omega⟩) (by first | exact h_jf j2 (by omega) (by omega) (by omega) | exact Or.inr ⟨by omega, by omega, by omega⟩) (by first | exact h_jf j3 (by omega) (by omega) (by omega) | exact Or.inr ⟨by omega, by omega, by omega⟩)
theorem g_case_838 {ns : Nat} (hns : ns ≤ 320) (s0 : h_S) (I0 : h_I s0) (j0 : h_js (s0 96 0) (s0 111 0) (s0 112 0)) (j1 : h_js (s0 96 1) (s0 111 1) (s0 112 1)) (j2 : h_js (s0 96 2) (s0 111 2) (s0 112 2)) (j3 : h_js (s0 96 3) (s0 111 3) (s0 112 3)) (y3 : Int32) (b3 : Int) (hy3 : y3.toInt = b3) (hr : 0 ≤ b3 ∧ b3 + 5 ≤ ns) {Q : Option Value → h_S → Prop} (kk : ∀ τ, h_I τ → h_js (τ 96 0) (τ 111 0) (τ 112 0) → h_js (τ 96 1) (τ 111 1) (τ 112 1) → h_js (τ 96 2) (τ 111 2) (τ 112 2) → h_js (τ 96 3) (τ 111 3) (τ 112 3) → h_T g_P (g_Y ns) 225 1441 [(0, .ref 0), (1, .ref 9), (2, .ref 98), (3, .int y3)] [] τ Q) : h_T g_P (g_Y ns) 225 838 [(0, .ref 0), (1, .ref 9), (2, .ref 98), (3, .int y3)] [] s0 Q := by
  refine h_aload_n (pc' := 839) rfl rfl rfl ?_
  refine h_aload_n (pc' := 840) rfl rfl rfl ?_
  refine h_iload_n (pc' := 841) rfl rfl rfl ?_
  refine h_iconst (pc' := 842) (x := (Int32.ofInt 1)) rfl rfl rfl ?_
  refine h_iadd (pc' := 843) rfl rfl hy3 ci_1 rfl (by omega) (by omega) (fun z1 hz1 => ?_)
  refine h_iald (pc' := 844) (v := s0 0 (b3 + 1)) rfl rfl rfl hz1 (by omega) (by omega) rfl (fun z2 hz2 => ?_)
  have tz2 := h_rgv hz2
  refine h_aload_n (pc' := 845) rfl rfl rfl ?_
  refine h_iload_n (pc' := 846) rfl rfl rfl ?_
  refine h_iconst (pc' := 847) (x := (Int32.ofInt 2)) rfl rfl rfl ?_
  refine h_iadd (pc' := 848) rfl rfl hy3 ci_2 rfl (by omega) (by omega) (fun z3 hz3 => ?_)
  refine h_iald (pc' := 849) (v := s0 0 (b3 + 2)) rfl rfl rfl hz3 (by omega) (by omega) rfl (fun z4 hz4 => ?_)
  have tz4 := h_rgv hz4
  refine h_aload_n (pc' := 850) rfl rfl rfl ?_
  refine h_iload_n (pc' := 851) rfl rfl rfl ?_
  refine h_iconst (pc' := 852) (x := (Int32.ofInt 3)) rfl rfl rfl ?_
  refine h_iadd (pc' := 853) rfl rfl hy3 ci_3 rfl (by omega) (by omega) (fun z5 hz5 => ?_)
  refine h_iald (pc' := 854) (v := s0 0 (b3 + 3)) rfl rfl rfl hz5 (by omega) (by omega) rfl (fun z6 hz6 => ?_)
  have tz6 := h_rgv hz6
  refine h_call (sp := false) (pc' := 857) (M := [(0, .ref 9), (1, .int z2), (2, .int z4), (3, .int z6)]) rfl rfl rfl rfl rfl rfl rfl rfl ?_
  refine w_104_9 _ I0 z2 _ hz2 z4 _ hz4 z6 _ hz6 (fun r7 br7 hr7 s8 Is8 Gs8 tr7 => h_Kv ?_)
  have Zs8 : ∀ i, s8 0 i = s0 0 i := fun i => (Gs8 0 i rfl).trans rfl
  have es8_0 : s8 95 0 = s0 95 0 := (Gs8 95 0 rfl).trans rfl
  have es8_1 : s8 95 1 = s0 95 1 := (Gs8 95 1 rfl).trans rfl
  have es8_2 : s8 95 2 = s0 95 2 := (Gs8 95 2 rfl).trans rfl
  have es8_3 : s8 95 3 = s0 95 3 := (Gs8 95 3 rfl).trans rfl
  have es8_4 : s8 96 0 = s0 96 0 := (Gs8 96 0 rfl).trans rfl
  have es8_5 : s8 96 1 = s0 96 1 := (Gs8 96 1 rfl).trans rfl
  have es8_6 : s8 96 2 = s0 96 2 := (Gs8 96 2 rfl).trans rfl
  have es8_7 : s8 96 3 = s0 96 3 := (Gs8 96 3 rfl).trans rfl
  have es8_8 : s8 111 0 = s0 111 0 := (Gs8 111 0 rfl).trans rfl
  have es8_9 : s8 111 1 = s0 111 1 := (Gs8 111 1 rfl).trans rfl
  have es8_10 : s8 111 2 = s0 111 2 := (Gs8 111 2 rfl).trans rfl
  have es8_11 : s8 111 3 = s0 111 3 := (Gs8 111 3 rfl).trans rfl
  have es8_12 : s8 112 0 = s0 112 0 := (Gs8 112 0 rfl).trans rfl
  have es8_13 : s8 112 1 = s0 112 1 := (Gs8 112 1 rfl).trans rfl
  have es8_14 : s8 112 2 = s0 112 2 := (Gs8 112 2 rfl).trans rfl
  have es8_15 : s8 112 3 = s0 112 3 := (Gs8 112 3 rfl).trans rfl
  refine h_pop (pc' := 858) rfl rfl rfl ?_
  refine h_aload_n (pc' := 859) rfl rfl rfl ?_
  refine h_aload_n (pc' := 860) rfl rfl rfl ?_
  refine h_iload_n (pc' := 861) rfl rfl rfl ?_
  refine h_iconst (pc' := 862) (x := (Int32.ofInt 1)) rfl rfl rfl ?_
  refine h_iadd (pc' := 863) rfl rfl hy3 ci_1 rfl (by omega) (by omega) (fun z9 hz9 => ?_)
  refine h_iald (pc' := 864) (v := s0 0 (b3 + 1)) rfl rfl rfl hz9 (by omega) (by omega) (Zs8 _) (fun z10 hz10 => ?_)
  have tz10 := h_rgv hz10
  refine h_aload_n (pc' := 865) rfl rfl rfl ?_
  refine h_iload_n (pc' := 866) rfl rfl rfl ?_
  refine h_iconst (pc' := 867) (x := (Int32.ofInt 2)) rfl rfl rfl ?_
  refine h_iadd (pc' := 868) rfl rfl hy3 ci_2 rfl (by omega) (by omega) (fun z11 hz11 => ?_)
  refine h_iald (pc' := 869) (v := s0 0 (b3 + 2)) rfl rfl rfl hz11 (by omega) (by omega) (Zs8 _) (fun z12 hz12 => ?_)
  have tz12 := h_rgv hz12
  refine h_aload_n (pc' := 870) rfl rfl rfl ?_
  refine h_iload_n (pc' := 871) rfl rfl rfl ?_
  refine h_iconst (pc' := 872) (x := (Int32.ofInt 3)) rfl rfl rfl ?_
  refine h_iadd (pc' := 873) rfl rfl hy3 ci_3 rfl (by omega) (by omega) (fun z13 hz13 => ?_)
  refine h_iald (pc' := 874) (v := s0 0 (b3 + 3)) rfl rfl rfl hz13 (by omega) (by omega) (Zs8 _) (fun z14 hz14 => ?_)
  have tz14 := h_rgv hz14
  refine h_call (sp := false) (pc' := 877) (M := [(0, .ref 98), (1, .int z10), (2, .int z12), (3, .int z14)]) rfl rfl rfl rfl rfl rfl rfl rfl ?_
  refine w_201_98 _ Is8 z10 _ hz10 z12 _ hz12 z14 _ hz14 (fun r15 br15 hr15 s16 Is16 Gs16 tr15 => h_Kv ?_)
  have Zs16 : ∀ i, s16 0 i = s0 0 i := fun i => (Gs16 0 i rfl).trans (Zs8 i)
  have es16_0 : s16 95 0 = s0 95 0 := (Gs16 95 0 rfl).trans es8_0
  have es16_1 : s16 95 1 = s0 95 1 := (Gs16 95 1 rfl).trans es8_1
  have es16_2 : s16 95 2 = s0 95 2 := (Gs16 95 2 rfl).trans es8_2
  have es16_3 : s16 95 3 = s0 95 3 := (Gs16 95 3 rfl).trans es8_3
  have es16_4 : s16 96 0 = s0 96 0 := (Gs16 96 0 rfl).trans es8_4
  have es16_5 : s16 96 1 = s0 96 1 := (Gs16 96 1 rfl).trans es8_5
  have es16_6 : s16 96 2 = s0 96 2 := (Gs16 96 2 rfl).trans es8_6
  have es16_7 : s16 96 3 = s0 96 3 := (Gs16 96 3 rfl).trans es8_7
  have es16_8 : s16 111 0 = s0 111 0 := (Gs16 111 0 rfl).trans es8_8
  have es16_9 : s16 111 1 = s0 111 1 := (Gs16 111 1 rfl).trans es8_9
  have es16_10 : s16 111 2 = s0 111 2 := (Gs16 111 2 rfl).trans es8_10
  have es16_11 : s16 111 3 = s0 111 3 := (Gs16 111 3 rfl).trans es8_11
  have es16_12 : s16 112 0 = s0 112 0 := (Gs16 112 0 rfl).trans es8_12
  have es16_13 : s16 112 1 = s0 112 1 := (Gs16 112 1 rfl).trans es8_13
  have es16_14 : s16 112 2 = s0 112 2 := (Gs16 112 2 rfl).trans es8_14
  have es16_15 : s16 112 3 = s0 112 3 := (Gs16 112 3 rfl).trans es8_15
  clear es8_0 es8_1 es8_10 es8_11 es8_12 es8_13 es8_14 es8_15 es8_2 es8_3 es8_4 es8_5 es8_6 es8_7 es8_8 es8_9
  refine h_pop (pc' := 878) rfl rfl rfl ?_
  refine h_goto (pc' := 1441) rfl rfl ?_
  exact kk _ Is16 (by first | exact h_jf j0 (by omega) (by omega) (by omega) | exact Or.inr ⟨by omega, by omega, by omega⟩) (by first | exact h_jf j1 (by omega) (by omega) (by omega) | exact Or.inr ⟨by omega, by omega, by omega⟩) (by first | exact h_jf j2 (by omega) (by omega) (by omega) | exact Or.inr ⟨by omega, by omega, by omega⟩) (by first | exact h_jf j3 (by omega) (by omega) (by omega) | exact Or.inr ⟨by omega, by omega, by omega⟩)
theorem g_case_881 {ns : Nat} (hns : ns ≤ 320) (s0 : h_S) (I0 : h_I s0) (j0 : h_js (s0 96 0) (s0 111 0) (s0 112 0)) (j1 : h_js (s0 96 1) (s0 111 1) (s0 112 1)) (j2 : h_js (s0 96 2) (s0 111 2) (s0 112 2)) (j3 : h_js (s0 96 3) (s0 111 3) (s0 112 3)) (y3 : Int32) (b3 : Int) (hy3 : y3.toInt = b3) (hr : 0 ≤ b3 ∧ b3 + 5 ≤ ns) {Q : Option Value → h_S → Prop} (kk : ∀ τ, h_I τ → h_js (τ 96 0) (τ 111 0) (τ 112 0) → h_js (τ 96 1) (τ 111 1) (τ 112 1) → h_js (τ 96 2) (τ 111 2) (τ 112 2) → h_js (τ 96 3) (τ 111 3) (τ 112 3) → h_T g_P (g_Y ns) 225 1441 [(0, .ref 0), (1, .ref 9), (2, .ref 98), (3, .int y3)] [] τ Q) : h_T g_P (g_Y ns) 225 881 [(0, .ref 0), (1, .ref 9), (2, .ref 98), (3, .int y3)] [] s0 Q := by
  refine h_aload_n (pc' := 882) rfl rfl rfl ?_
  refine h_aload_n (pc' := 883) rfl rfl rfl ?_
  refine h_iload_n (pc' := 884) rfl rfl rfl ?_
  refine h_iconst (pc' := 885) (x := (Int32.ofInt 1)) rfl rfl rfl ?_
  refine h_iadd (pc' := 886) rfl rfl hy3 ci_1 rfl (by omega) (by omega) (fun z1 hz1 => ?_)
  refine h_iald (pc' := 887) (v := s0 0 (b3 + 1)) rfl rfl rfl hz1 (by omega) (by omega) rfl (fun z2 hz2 => ?_)
  have tz2 := h_rgv hz2
  refine h_aload_n (pc' := 888) rfl rfl rfl ?_
  refine h_iload_n (pc' := 889) rfl rfl rfl ?_
  refine h_iconst (pc' := 890) (x := (Int32.ofInt 2)) rfl rfl rfl ?_
  refine h_iadd (pc' := 891) rfl rfl hy3 ci_2 rfl (by omega) (by omega) (fun z3 hz3 => ?_)
  refine h_iald (pc' := 892) (v := s0 0 (b3 + 2)) rfl rfl rfl hz3 (by omega) (by omega) rfl (fun z4 hz4 => ?_)
  have tz4 := h_rgv hz4
  refine h_call (sp := false) (pc' := 895) (M := [(0, .ref 9), (1, .int z2), (2, .int z4)]) rfl rfl rfl rfl rfl rfl rfl rfl ?_
  refine w_105_9 _ I0 z2 _ hz2 z4 _ hz4 (fun r5 br5 hr5 s6 Is6 Gs6 => h_Kv ?_)
  have Zs6 : ∀ i, s6 0 i = s0 0 i := fun i => (Gs6 0 i rfl).trans rfl
  have es6_0 : s6 95 0 = s0 95 0 := (Gs6 95 0 rfl).trans rfl
  have es6_1 : s6 95 1 = s0 95 1 := (Gs6 95 1 rfl).trans rfl
  have es6_2 : s6 95 2 = s0 95 2 := (Gs6 95 2 rfl).trans rfl
  have es6_3 : s6 95 3 = s0 95 3 := (Gs6 95 3 rfl).trans rfl
  have es6_4 : s6 96 0 = s0 96 0 := (Gs6 96 0 rfl).trans rfl
  have es6_5 : s6 96 1 = s0 96 1 := (Gs6 96 1 rfl).trans rfl
  have es6_6 : s6 96 2 = s0 96 2 := (Gs6 96 2 rfl).trans rfl
  have es6_7 : s6 96 3 = s0 96 3 := (Gs6 96 3 rfl).trans rfl
  have es6_8 : s6 111 0 = s0 111 0 := (Gs6 111 0 rfl).trans rfl
  have es6_9 : s6 111 1 = s0 111 1 := (Gs6 111 1 rfl).trans rfl
  have es6_10 : s6 111 2 = s0 111 2 := (Gs6 111 2 rfl).trans rfl
  have es6_11 : s6 111 3 = s0 111 3 := (Gs6 111 3 rfl).trans rfl
  have es6_12 : s6 112 0 = s0 112 0 := (Gs6 112 0 rfl).trans rfl
  have es6_13 : s6 112 1 = s0 112 1 := (Gs6 112 1 rfl).trans rfl
  have es6_14 : s6 112 2 = s0 112 2 := (Gs6 112 2 rfl).trans rfl
  have es6_15 : s6 112 3 = s0 112 3 := (Gs6 112 3 rfl).trans rfl
  refine h_pop (pc' := 896) rfl rfl rfl ?_
  refine h_aload_n (pc' := 897) rfl rfl rfl ?_
  refine h_aload_n (pc' := 898) rfl rfl rfl ?_
  refine h_iload_n (pc' := 899) rfl rfl rfl ?_
  refine h_iconst (pc' := 900) (x := (Int32.ofInt 1)) rfl rfl rfl ?_
  refine h_iadd (pc' := 901) rfl rfl hy3 ci_1 rfl (by omega) (by omega) (fun z7 hz7 => ?_)
  refine h_iald (pc' := 902) (v := s0 0 (b3 + 1)) rfl rfl rfl hz7 (by omega) (by omega) (Zs6 _) (fun z8 hz8 => ?_)
  have tz8 := h_rgv hz8
  refine h_aload_n (pc' := 903) rfl rfl rfl ?_
  refine h_iload_n (pc' := 904) rfl rfl rfl ?_
  refine h_iconst (pc' := 905) (x := (Int32.ofInt 2)) rfl rfl rfl ?_
  refine h_iadd (pc' := 906) rfl rfl hy3 ci_2 rfl (by omega) (by omega) (fun z9 hz9 => ?_)
  refine h_iald (pc' := 907) (v := s0 0 (b3 + 2)) rfl rfl rfl hz9 (by omega) (by omega) (Zs6 _) (fun z10 hz10 => ?_)
  have tz10 := h_rgv hz10
  refine h_call (sp := false) (pc' := 910) (M := [(0, .ref 98), (1, .int z8), (2, .int z10)]) rfl rfl rfl rfl rfl rfl rfl rfl ?_
  refine w_202_98 _ Is6 z8 _ hz8 z10 _ hz10 (fun r11 br11 hr11 s12 Is12 Gs12 tr11 => h_Kv ?_)
  have Zs12 : ∀ i, s12 0 i = s0 0 i := fun i => (Gs12 0 i rfl).trans (Zs6 i)
  have es12_0 : s12 95 0 = s0 95 0 := (Gs12 95 0 rfl).trans es6_0
  have es12_1 : s12 95 1 = s0 95 1 := (Gs12 95 1 rfl).trans es6_1
  have es12_2 : s12 95 2 = s0 95 2 := (Gs12 95 2 rfl).trans es6_2
  have es12_3 : s12 95 3 = s0 95 3 := (Gs12 95 3 rfl).trans es6_3
  have es12_4 : s12 96 0 = s0 96 0 := (Gs12 96 0 rfl).trans es6_4
  have es12_5 : s12 96 1 = s0 96 1 := (Gs12 96 1 rfl).trans es6_5
  have es12_6 : s12 96 2 = s0 96 2 := (Gs12 96 2 rfl).trans es6_6
  have es12_7 : s12 96 3 = s0 96 3 := (Gs12 96 3 rfl).trans es6_7
  have es12_8 : s12 111 0 = s0 111 0 := (Gs12 111 0 rfl).trans es6_8
  have es12_9 : s12 111 1 = s0 111 1 := (Gs12 111 1 rfl).trans es6_9
  have es12_10 : s12 111 2 = s0 111 2 := (Gs12 111 2 rfl).trans es6_10
  have es12_11 : s12 111 3 = s0 111 3 := (Gs12 111 3 rfl).trans es6_11
  have es12_12 : s12 112 0 = s0 112 0 := (Gs12 112 0 rfl).trans es6_12
  have es12_13 : s12 112 1 = s0 112 1 := (Gs12 112 1 rfl).trans es6_13
  have es12_14 : s12 112 2 = s0 112 2 := (Gs12 112 2 rfl).trans es6_14
  have es12_15 : s12 112 3 = s0 112 3 := (Gs12 112 3 rfl).trans es6_15
  clear es6_0 es6_1 es6_10 es6_11 es6_12 es6_13 es6_14 es6_15 es6_2 es6_3 es6_4 es6_5 es6_6 es6_7 es6_8 es6_9
  refine h_pop (pc' := 911) rfl rfl rfl ?_
  refine h_goto (pc' := 1441) rfl rfl ?_
  exact kk _ Is12 (by first | exact h_jf j0 (by omega) (by omega) (by omega) | exact Or.inr ⟨by omega, by omega, by omega⟩) (by first | exact h_jf j1 (by omega) (by omega) (by omega) | exact Or.inr ⟨by omega, by omega, by omega⟩) (by first | exact h_jf j2 (by omega) (by omega) (by omega) | exact Or.inr ⟨by omega, by omega, by omega⟩) (by first | exact h_jf j3 (by omega) (by omega) (by omega) | exact Or.inr ⟨by omega, by omega, by omega⟩)
theorem g_case_914 {ns : Nat} (hns : ns ≤ 320) (s0 : h_S) (I0 : h_I s0) (j0 : h_js (s0 96 0) (s0 111 0) (s0 112 0)) (j1 : h_js (s0 96 1) (s0 111 1) (s0 112 1)) (j2 : h_js (s0 96 2) (s0 111 2) (s0 112 2)) (j3 : h_js (s0 96 3) (s0 111 3) (s0 112 3)) (y3 : Int32) (b3 : Int) (hy3 : y3.toInt = b3) (hr : 0 ≤ b3 ∧ b3 + 5 ≤ ns) {Q : Option Value → h_S → Prop} (kk : ∀ τ, h_I τ → h_js (τ 96 0) (τ 111 0) (τ 112 0) → h_js (τ 96 1) (τ 111 1) (τ 112 1) → h_js (τ 96 2) (τ 111 2) (τ 112 2) → h_js (τ 96 3) (τ 111 3) (τ 112 3) → h_T g_P (g_Y ns) 225 1441 [(0, .ref 0), (1, .ref 9), (2, .ref 98), (3, .int y3)] [] τ Q) : h_T g_P (g_Y ns) 225 914 [(0, .ref 0), (1, .ref 9), (2, .ref 98), (3, .int y3)] [] s0 Q := by
  refine h_aload_n (pc' := 915) rfl rfl rfl ?_
  refine h_call (sp := false) (pc' := 918) (M := [(0, .ref 9)]) rfl rfl rfl rfl rfl rfl rfl rfl ?_
  refine w_106_9 _ I0  (fun r1 br1 hr1 s2 Is2 Gs2 => h_Kv ?_)
  have Zs2 : ∀ i, s2 0 i = s0 0 i := fun i => (Gs2 0 i rfl).trans rfl
  have es2_0 : s2 95 0 = s0 95 0 := (Gs2 95 0 rfl).trans rfl
  have es2_1 : s2 95 1 = s0 95 1 := (Gs2 95 1 rfl).trans rfl
  have es2_2 : s2 95 2 = s0 95 2 := (Gs2 95 2 rfl).trans rfl
  have es2_3 : s2 95 3 = s0 95 3 := (Gs2 95 3 rfl).trans rfl
  have es2_4 : s2 96 0 = s0 96 0 := (Gs2 96 0 rfl).trans rfl
  have es2_5 : s2 96 1 = s0 96 1 := (Gs2 96 1 rfl).trans rfl
  have es2_6 : s2 96 2 = s0 96 2 := (Gs2 96 2 rfl).trans rfl
  have es2_7 : s2 96 3 = s0 96 3 := (Gs2 96 3 rfl).trans rfl
  have es2_8 : s2 111 0 = s0 111 0 := (Gs2 111 0 rfl).trans rfl
  have es2_9 : s2 111 1 = s0 111 1 := (Gs2 111 1 rfl).trans rfl
  have es2_10 : s2 111 2 = s0 111 2 := (Gs2 111 2 rfl).trans rfl
  have es2_11 : s2 111 3 = s0 111 3 := (Gs2 111 3 rfl).trans rfl
  have es2_12 : s2 112 0 = s0 112 0 := (Gs2 112 0 rfl).trans rfl
  have es2_13 : s2 112 1 = s0 112 1 := (Gs2 112 1 rfl).trans rfl
  have es2_14 : s2 112 2 = s0 112 2 := (Gs2 112 2 rfl).trans rfl
  have es2_15 : s2 112 3 = s0 112 3 := (Gs2 112 3 rfl).trans rfl
  refine h_pop (pc' := 919) rfl rfl rfl ?_
  refine h_aload_n (pc' := 920) rfl rfl rfl ?_
  refine h_call (sp := false) (pc' := 923) (M := [(0, .ref 98)]) rfl rfl rfl rfl rfl rfl rfl rfl ?_
  refine w_203_98 _ Is2  (fun r3 br3 hr3 s4 Is4 Gs4 => h_Kv ?_)
  have Zs4 : ∀ i, s4 0 i = s0 0 i := fun i => (Gs4 0 i rfl).trans (Zs2 i)
  have es4_0 : s4 95 0 = s0 95 0 := (Gs4 95 0 rfl).trans es2_0
  have es4_1 : s4 95 1 = s0 95 1 := (Gs4 95 1 rfl).trans es2_1
  have es4_2 : s4 95 2 = s0 95 2 := (Gs4 95 2 rfl).trans es2_2
  have es4_3 : s4 95 3 = s0 95 3 := (Gs4 95 3 rfl).trans es2_3
  have es4_4 : s4 96 0 = s0 96 0 := (Gs4 96 0 rfl).trans es2_4
  have es4_5 : s4 96 1 = s0 96 1 := (Gs4 96 1 rfl).trans es2_5
  have es4_6 : s4 96 2 = s0 96 2 := (Gs4 96 2 rfl).trans es2_6
  have es4_7 : s4 96 3 = s0 96 3 := (Gs4 96 3 rfl).trans es2_7
  have es4_8 : s4 111 0 = s0 111 0 := (Gs4 111 0 rfl).trans es2_8
  have es4_9 : s4 111 1 = s0 111 1 := (Gs4 111 1 rfl).trans es2_9
  have es4_10 : s4 111 2 = s0 111 2 := (Gs4 111 2 rfl).trans es2_10
  have es4_11 : s4 111 3 = s0 111 3 := (Gs4 111 3 rfl).trans es2_11
  have es4_12 : s4 112 0 = s0 112 0 := (Gs4 112 0 rfl).trans es2_12
  have es4_13 : s4 112 1 = s0 112 1 := (Gs4 112 1 rfl).trans es2_13
  have es4_14 : s4 112 2 = s0 112 2 := (Gs4 112 2 rfl).trans es2_14
  have es4_15 : s4 112 3 = s0 112 3 := (Gs4 112 3 rfl).trans es2_15
  clear es2_0 es2_1 es2_10 es2_11 es2_12 es2_13 es2_14 es2_15 es2_2 es2_3 es2_4 es2_5 es2_6 es2_7 es2_8 es2_9
  refine h_pop (pc' := 924) rfl rfl rfl ?_
  refine h_goto (pc' := 1441) rfl rfl ?_
  exact kk _ Is4 (by first | exact h_jf j0 (by omega) (by omega) (by omega) | exact Or.inr ⟨by omega, by omega, by omega⟩) (by first | exact h_jf j1 (by omega) (by omega) (by omega) | exact Or.inr ⟨by omega, by omega, by omega⟩) (by first | exact h_jf j2 (by omega) (by omega) (by omega) | exact Or.inr ⟨by omega, by omega, by omega⟩) (by first | exact h_jf j3 (by omega) (by omega) (by omega) | exact Or.inr ⟨by omega, by omega, by omega⟩)
theorem g_case_927 {ns : Nat} (hns : ns ≤ 320) (s0 : h_S) (I0 : h_I s0) (j0 : h_js (s0 96 0) (s0 111 0) (s0 112 0)) (j1 : h_js (s0 96 1) (s0 111 1) (s0 112 1)) (j2 : h_js (s0 96 2) (s0 111 2) (s0 112 2)) (j3 : h_js (s0 96 3) (s0 111 3) (s0 112 3)) (y3 : Int32) (b3 : Int) (hy3 : y3.toInt = b3) (hr : 0 ≤ b3 ∧ b3 + 5 ≤ ns) {Q : Option Value → h_S → Prop} (kk : ∀ τ, h_I τ → h_js (τ 96 0) (τ 111 0) (τ 112 0) → h_js (τ 96 1) (τ 111 1) (τ 112 1) → h_js (τ 96 2) (τ 111 2) (τ 112 2) → h_js (τ 96 3) (τ 111 3) (τ 112 3) → h_T g_P (g_Y ns) 225 1441 [(0, .ref 0), (1, .ref 9), (2, .ref 98), (3, .int y3)] [] τ Q) : h_T g_P (g_Y ns) 225 927 [(0, .ref 0), (1, .ref 9), (2, .ref 98), (3, .int y3)] [] s0 Q := by
  refine h_aload_n (pc' := 928) rfl rfl rfl ?_
  refine h_aload_n (pc' := 929) rfl rfl rfl ?_
  refine h_iload_n (pc' := 930) rfl rfl rfl ?_
  refine h_iconst (pc' := 931) (x := (Int32.ofInt 1)) rfl rfl rfl ?_
  refine h_iadd (pc' := 932) rfl rfl hy3 ci_1 rfl (by omega) (by omega) (fun z1 hz1 => ?_)
  refine h_iald (pc' := 933) (v := s0 0 (b3 + 1)) rfl rfl rfl hz1 (by omega) (by omega) rfl (fun z2 hz2 => ?_)
  have tz2 := h_rgv hz2
  refine h_call (sp := false) (pc' := 936) (M := [(0, .ref 9), (1, .int z2)]) rfl rfl rfl rfl rfl rfl rfl rfl ?_
  refine w_107_9 _ I0 z2 _ hz2 (fun r3 br3 hr3 s4 Is4 Gs4 tr3 => h_Kv ?_)
  have Zs4 : ∀ i, s4 0 i = s0 0 i := fun i => (Gs4 0 i rfl).trans rfl
  have es4_0 : s4 95 0 = s0 95 0 := (Gs4 95 0 rfl).trans rfl
  have es4_1 : s4 95 1 = s0 95 1 := (Gs4 95 1 rfl).trans rfl
  have es4_2 : s4 95 2 = s0 95 2 := (Gs4 95 2 rfl).trans rfl
  have es4_3 : s4 95 3 = s0 95 3 := (Gs4 95 3 rfl).trans rfl
  have es4_4 : s4 96 0 = s0 96 0 := (Gs4 96 0 rfl).trans rfl
  have es4_5 : s4 96 1 = s0 96 1 := (Gs4 96 1 rfl).trans rfl
  have es4_6 : s4 96 2 = s0 96 2 := (Gs4 96 2 rfl).trans rfl
  have es4_7 : s4 96 3 = s0 96 3 := (Gs4 96 3 rfl).trans rfl
  have es4_8 : s4 111 0 = s0 111 0 := (Gs4 111 0 rfl).trans rfl
  have es4_9 : s4 111 1 = s0 111 1 := (Gs4 111 1 rfl).trans rfl
  have es4_10 : s4 111 2 = s0 111 2 := (Gs4 111 2 rfl).trans rfl
  have es4_11 : s4 111 3 = s0 111 3 := (Gs4 111 3 rfl).trans rfl
  have es4_12 : s4 112 0 = s0 112 0 := (Gs4 112 0 rfl).trans rfl
  have es4_13 : s4 112 1 = s0 112 1 := (Gs4 112 1 rfl).trans rfl
  have es4_14 : s4 112 2 = s0 112 2 := (Gs4 112 2 rfl).trans rfl
  have es4_15 : s4 112 3 = s0 112 3 := (Gs4 112 3 rfl).trans rfl
  refine h_pop (pc' := 937) rfl rfl rfl ?_
  refine h_aload_n (pc' := 938) rfl rfl rfl ?_
  refine h_aload_n (pc' := 939) rfl rfl rfl ?_
  refine h_iload_n (pc' := 940) rfl rfl rfl ?_
  refine h_iconst (pc' := 941) (x := (Int32.ofInt 1)) rfl rfl rfl ?_
  refine h_iadd (pc' := 942) rfl rfl hy3 ci_1 rfl (by omega) (by omega) (fun z5 hz5 => ?_)
  refine h_iald (pc' := 943) (v := s0 0 (b3 + 1)) rfl rfl rfl hz5 (by omega) (by omega) (Zs4 _) (fun z6 hz6 => ?_)
  have tz6 := h_rgv hz6
  refine h_call (sp := false) (pc' := 946) (M := [(0, .ref 98), (1, .int z6)]) rfl rfl rfl rfl rfl rfl rfl rfl ?_
  refine w_204_98 _ Is4 z6 _ hz6 (fun r7 br7 hr7 s8 Is8 Gs8 tr7 => h_Kv ?_)
  have Zs8 : ∀ i, s8 0 i = s0 0 i := fun i => (Gs8 0 i rfl).trans (Zs4 i)
  have es8_0 : s8 95 0 = s0 95 0 := (Gs8 95 0 rfl).trans es4_0
  have es8_1 : s8 95 1 = s0 95 1 := (Gs8 95 1 rfl).trans es4_1
  have es8_2 : s8 95 2 = s0 95 2 := (Gs8 95 2 rfl).trans es4_2
  have es8_3 : s8 95 3 = s0 95 3 := (Gs8 95 3 rfl).trans es4_3
  have es8_4 : s8 96 0 = s0 96 0 := (Gs8 96 0 rfl).trans es4_4
  have es8_5 : s8 96 1 = s0 96 1 := (Gs8 96 1 rfl).trans es4_5
  have es8_6 : s8 96 2 = s0 96 2 := (Gs8 96 2 rfl).trans es4_6
  have es8_7 : s8 96 3 = s0 96 3 := (Gs8 96 3 rfl).trans es4_7
  have es8_8 : s8 111 0 = s0 111 0 := (Gs8 111 0 rfl).trans es4_8
  have es8_9 : s8 111 1 = s0 111 1 := (Gs8 111 1 rfl).trans es4_9
  have es8_10 : s8 111 2 = s0 111 2 := (Gs8 111 2 rfl).trans es4_10
  have es8_11 : s8 111 3 = s0 111 3 := (Gs8 111 3 rfl).trans es4_11
  have es8_12 : s8 112 0 = s0 112 0 := (Gs8 112 0 rfl).trans es4_12
  have es8_13 : s8 112 1 = s0 112 1 := (Gs8 112 1 rfl).trans es4_13
  have es8_14 : s8 112 2 = s0 112 2 := (Gs8 112 2 rfl).trans es4_14
  have es8_15 : s8 112 3 = s0 112 3 := (Gs8 112 3 rfl).trans es4_15
  clear es4_0 es4_1 es4_10 es4_11 es4_12 es4_13 es4_14 es4_15 es4_2 es4_3 es4_4 es4_5 es4_6 es4_7 es4_8 es4_9
  refine h_pop (pc' := 947) rfl rfl rfl ?_
  refine h_goto (pc' := 1441) rfl rfl ?_
  exact kk _ Is8 (by first | exact h_jf j0 (by omega) (by omega) (by omega) | exact Or.inr ⟨by omega, by omega, by omega⟩) (by first | exact h_jf j1 (by omega) (by omega) (by omega) | exact Or.inr ⟨by omega, by omega, by omega⟩) (by first | exact h_jf j2 (by omega) (by omega) (by omega) | exact Or.inr ⟨by omega, by omega, by omega⟩) (by first | exact h_jf j3 (by omega) (by omega) (by omega) | exact Or.inr ⟨by omega, by omega, by omega⟩)
theorem g_case_950 {ns : Nat} (hns : ns ≤ 320) (s0 : h_S) (I0 : h_I s0) (j0 : h_js (s0 96 0) (s0 111 0) (s0 112 0)) (j1 : h_js (s0 96 1) (s0 111 1) (s0 112 1)) (j2 : h_js (s0 96 2) (s0 111 2) (s0 112 2)) (j3 : h_js (s0 96 3) (s0 111 3) (s0 112 3)) (y3 : Int32) (b3 : Int) (hy3 : y3.toInt = b3) (hr : 0 ≤ b3 ∧ b3 + 5 ≤ ns) {Q : Option Value → h_S → Prop} (kk : ∀ τ, h_I τ → h_js (τ 96 0) (τ 111 0) (τ 112 0) → h_js (τ 96 1) (τ 111 1) (τ 112 1) → h_js (τ 96 2) (τ 111 2) (τ 112 2) → h_js (τ 96 3) (τ 111 3) (τ 112 3) → h_T g_P (g_Y ns) 225 1441 [(0, .ref 0), (1, .ref 9), (2, .ref 98), (3, .int y3)] [] τ Q) : h_T g_P (g_Y ns) 225 950 [(0, .ref 0), (1, .ref 9), (2, .ref 98), (3, .int y3)] [] s0 Q := by
  refine h_aload_n (pc' := 951) rfl rfl rfl ?_
  refine h_aload_n (pc' := 952) rfl rfl rfl ?_
  refine h_iload_n (pc' := 953) rfl rfl rfl ?_
  refine h_iconst (pc' := 954) (x := (Int32.ofInt 1)) rfl rfl rfl ?_
  refine h_iadd (pc' := 955) rfl rfl hy3 ci_1 rfl (by omega) (by omega) (fun z1 hz1 => ?_)
  refine h_iald (pc' := 956) (v := s0 0 (b3 + 1)) rfl rfl rfl hz1 (by omega) (by omega) rfl (fun z2 hz2 => ?_)
  have tz2 := h_rgv hz2
  refine h_aload_n (pc' := 957) rfl rfl rfl ?_
  refine h_iload_n (pc' := 958) rfl rfl rfl ?_
  refine h_iconst (pc' := 959) (x := (Int32.ofInt 2)) rfl rfl rfl ?_
  refine h_iadd (pc' := 960) rfl rfl hy3 ci_2 rfl (by omega) (by omega) (fun z3 hz3 => ?_)
  refine h_iald (pc' := 961) (v := s0 0 (b3 + 2)) rfl rfl rfl hz3 (by omega) (by omega) rfl (fun z4 hz4 => ?_)
  have tz4 := h_rgv hz4
  refine h_call (sp := false) (pc' := 964) (M := [(0, .ref 9), (1, .int z2), (2, .int z4)]) rfl rfl rfl rfl rfl rfl rfl rfl ?_
  refine w_108_9 _ I0 z2 _ hz2 z4 _ hz4 (fun r5 s6 Is6 Gs6 => h_Kv ?_)
  have Zs6 : ∀ i, s6 0 i = s0 0 i := fun i => (Gs6 0 i rfl).trans rfl
  have es6_0 : s6 95 0 = s0 95 0 := (Gs6 95 0 rfl).trans rfl
  have es6_1 : s6 95 1 = s0 95 1 := (Gs6 95 1 rfl).trans rfl
  have es6_2 : s6 95 2 = s0 95 2 := (Gs6 95 2 rfl).trans rfl
  have es6_3 : s6 95 3 = s0 95 3 := (Gs6 95 3 rfl).trans rfl
  have es6_4 : s6 96 0 = s0 96 0 := (Gs6 96 0 rfl).trans rfl
  have es6_5 : s6 96 1 = s0 96 1 := (Gs6 96 1 rfl).trans rfl
  have es6_6 : s6 96 2 = s0 96 2 := (Gs6 96 2 rfl).trans rfl
  have es6_7 : s6 96 3 = s0 96 3 := (Gs6 96 3 rfl).trans rfl
  have es6_8 : s6 111 0 = s0 111 0 := (Gs6 111 0 rfl).trans rfl
  have es6_9 : s6 111 1 = s0 111 1 := (Gs6 111 1 rfl).trans rfl
  have es6_10 : s6 111 2 = s0 111 2 := (Gs6 111 2 rfl).trans rfl
  have es6_11 : s6 111 3 = s0 111 3 := (Gs6 111 3 rfl).trans rfl
  have es6_12 : s6 112 0 = s0 112 0 := (Gs6 112 0 rfl).trans rfl
  have es6_13 : s6 112 1 = s0 112 1 := (Gs6 112 1 rfl).trans rfl
  have es6_14 : s6 112 2 = s0 112 2 := (Gs6 112 2 rfl).trans rfl
  have es6_15 : s6 112 3 = s0 112 3 := (Gs6 112 3 rfl).trans rfl
  refine h_pop2 (pc' := 965) rfl rfl rfl ?_
  refine h_aload_n (pc' := 966) rfl rfl rfl ?_
  refine h_aload_n (pc' := 967) rfl rfl rfl ?_
  refine h_iload_n (pc' := 968) rfl rfl rfl ?_
  refine h_iconst (pc' := 969) (x := (Int32.ofInt 1)) rfl rfl rfl ?_
  refine h_iadd (pc' := 970) rfl rfl hy3 ci_1 rfl (by omega) (by omega) (fun z7 hz7 => ?_)
  refine h_iald (pc' := 971) (v := s0 0 (b3 + 1)) rfl rfl rfl hz7 (by omega) (by omega) (Zs6 _) (fun z8 hz8 => ?_)
  have tz8 := h_rgv hz8
  refine h_aload_n (pc' := 972) rfl rfl rfl ?_
  refine h_iload_n (pc' := 973) rfl rfl rfl ?_
  refine h_iconst (pc' := 974) (x := (Int32.ofInt 2)) rfl rfl rfl ?_
  refine h_iadd (pc' := 975) rfl rfl hy3 ci_2 rfl (by omega) (by omega) (fun z9 hz9 => ?_)
  refine h_iald (pc' := 976) (v := s0 0 (b3 + 2)) rfl rfl rfl hz9 (by omega) (by omega) (Zs6 _) (fun z10 hz10 => ?_)
  have tz10 := h_rgv hz10
  refine h_call (sp := false) (pc' := 979) (M := [(0, .ref 98), (1, .int z8), (2, .int z10)]) rfl rfl rfl rfl rfl rfl rfl rfl ?_
  refine w_207_98 _ Is6 z8 _ hz8 z10 _ hz10 (fun r11 s12 Is12 Gs12 => h_Kv ?_)
  have Zs12 : ∀ i, s12 0 i = s0 0 i := fun i => (Gs12 0 i rfl).trans (Zs6 i)
  have es12_0 : s12 95 0 = s0 95 0 := (Gs12 95 0 rfl).trans es6_0
  have es12_1 : s12 95 1 = s0 95 1 := (Gs12 95 1 rfl).trans es6_1
  have es12_2 : s12 95 2 = s0 95 2 := (Gs12 95 2 rfl).trans es6_2
  have es12_3 : s12 95 3 = s0 95 3 := (Gs12 95 3 rfl).trans es6_3
  have es12_4 : s12 96 0 = s0 96 0 := (Gs12 96 0 rfl).trans es6_4
  have es12_5 : s12 96 1 = s0 96 1 := (Gs12 96 1 rfl).trans es6_5
  have es12_6 : s12 96 2 = s0 96 2 := (Gs12 96 2 rfl).trans es6_6
  have es12_7 : s12 96 3 = s0 96 3 := (Gs12 96 3 rfl).trans es6_7
  have es12_8 : s12 111 0 = s0 111 0 := (Gs12 111 0 rfl).trans es6_8
  have es12_9 : s12 111 1 = s0 111 1 := (Gs12 111 1 rfl).trans es6_9
  have es12_10 : s12 111 2 = s0 111 2 := (Gs12 111 2 rfl).trans es6_10
  have es12_11 : s12 111 3 = s0 111 3 := (Gs12 111 3 rfl).trans es6_11
  have es12_12 : s12 112 0 = s0 112 0 := (Gs12 112 0 rfl).trans es6_12
  have es12_13 : s12 112 1 = s0 112 1 := (Gs12 112 1 rfl).trans es6_13
  have es12_14 : s12 112 2 = s0 112 2 := (Gs12 112 2 rfl).trans es6_14
  have es12_15 : s12 112 3 = s0 112 3 := (Gs12 112 3 rfl).trans es6_15
  clear es6_0 es6_1 es6_10 es6_11 es6_12 es6_13 es6_14 es6_15 es6_2 es6_3 es6_4 es6_5 es6_6 es6_7 es6_8 es6_9
  refine h_pop2 (pc' := 980) rfl rfl rfl ?_
  refine h_goto (pc' := 1441) rfl rfl ?_
  exact kk _ Is12 (by first | exact h_jf j0 (by omega) (by omega) (by omega) | exact Or.inr ⟨by omega, by omega, by omega⟩) (by first | exact h_jf j1 (by omega) (by omega) (by omega) | exact Or.inr ⟨by omega, by omega, by omega⟩) (by first | exact h_jf j2 (by omega) (by omega) (by omega) | exact Or.inr ⟨by omega, by omega, by omega⟩) (by first | exact h_jf j3 (by omega) (by omega) (by omega) | exact Or.inr ⟨by omega, by omega, by omega⟩)
theorem g_case_983 {ns : Nat} (hns : ns ≤ 320) (s0 : h_S) (I0 : h_I s0) (j0 : h_js (s0 96 0) (s0 111 0) (s0 112 0)) (j1 : h_js (s0 96 1) (s0 111 1) (s0 112 1)) (j2 : h_js (s0 96 2) (s0 111 2) (s0 112 2)) (j3 : h_js (s0 96 3) (s0 111 3) (s0 112 3)) (y3 : Int32) (b3 : Int) (hy3 : y3.toInt = b3) (hr : 0 ≤ b3 ∧ b3 + 5 ≤ ns) {Q : Option Value → h_S → Prop} (kk : ∀ τ, h_I τ → h_js (τ 96 0) (τ 111 0) (τ 112 0) → h_js (τ 96 1) (τ 111 1) (τ 112 1) → h_js (τ 96 2) (τ 111 2) (τ 112 2) → h_js (τ 96 3) (τ 111 3) (τ 112 3) → h_T g_P (g_Y ns) 225 1441 [(0, .ref 0), (1, .ref 9), (2, .ref 98), (3, .int y3)] [] τ Q) : h_T g_P (g_Y ns) 225 983 [(0, .ref 0), (1, .ref 9), (2, .ref 98), (3, .int y3)] [] s0 Q := by
  refine h_aload_n (pc' := 984) rfl rfl rfl ?_
  refine h_aload_n (pc' := 985) rfl rfl rfl ?_
  refine h_iload_n (pc' := 986) rfl rfl rfl ?_
  refine h_iconst (pc' := 987) (x := (Int32.ofInt 1)) rfl rfl rfl ?_
  refine h_iadd (pc' := 988) rfl rfl hy3 ci_1 rfl (by omega) (by omega) (fun z1 hz1 => ?_)
  refine h_iald (pc' := 989) (v := s0 0 (b3 + 1)) rfl rfl rfl hz1 (by omega) (by omega) rfl (fun z2 hz2 => ?_)
  have tz2 := h_rgv hz2
  refine h_aload_n (pc' := 990) rfl rfl rfl ?_
  refine h_iload_n (pc' := 991) rfl rfl rfl ?_
  refine h_iconst (pc' := 992) (x := (Int32.ofInt 2)) rfl rfl rfl ?_
  refine h_iadd (pc' := 993) rfl rfl hy3 ci_2 rfl (by omega) (by omega) (fun z3 hz3 => ?_)
  refine h_iald (pc' := 994) (v := s0 0 (b3 + 2)) rfl rfl rfl hz3 (by omega) (by omega) rfl (fun z4 hz4 => ?_)
  have tz4 := h_rgv hz4
  refine h_aload_n (pc' := 995) rfl rfl rfl ?_
  refine h_iload_n (pc' := 996) rfl rfl rfl ?_
  refine h_iconst (pc' := 997) (x := (Int32.ofInt 3)) rfl rfl rfl ?_
  refine h_iadd (pc' := 998) rfl rfl hy3 ci_3 rfl (by omega) (by omega) (fun z5 hz5 => ?_)
  refine h_iald (pc' := 999) (v := s0 0 (b3 + 3)) rfl rfl rfl hz5 (by omega) (by omega) rfl (fun z6 hz6 => ?_)
  have tz6 := h_rgv hz6
  refine h_call (sp := false) (pc' := 1002) (M := [(0, .ref 9), (1, .int z2), (2, .int z4), (3, .int z6)]) rfl rfl rfl rfl rfl rfl rfl rfl ?_
  refine w_109_9 _ I0 z2 _ hz2 z4 _ hz4 z6 _ hz6 (fun r7 s8 Is8 Gs8 => h_Kv ?_)
  have Zs8 : ∀ i, s8 0 i = s0 0 i := fun i => (Gs8 0 i rfl).trans rfl
  have es8_0 : s8 95 0 = s0 95 0 := (Gs8 95 0 rfl).trans rfl
  have es8_1 : s8 95 1 = s0 95 1 := (Gs8 95 1 rfl).trans rfl
  have es8_2 : s8 95 2 = s0 95 2 := (Gs8 95 2 rfl).trans rfl
  have es8_3 : s8 95 3 = s0 95 3 := (Gs8 95 3 rfl).trans rfl
  have es8_4 : s8 96 0 = s0 96 0 := (Gs8 96 0 rfl).trans rfl
  have es8_5 : s8 96 1 = s0 96 1 := (Gs8 96 1 rfl).trans rfl
  have es8_6 : s8 96 2 = s0 96 2 := (Gs8 96 2 rfl).trans rfl
  have es8_7 : s8 96 3 = s0 96 3 := (Gs8 96 3 rfl).trans rfl
  have es8_8 : s8 111 0 = s0 111 0 := (Gs8 111 0 rfl).trans rfl
  have es8_9 : s8 111 1 = s0 111 1 := (Gs8 111 1 rfl).trans rfl
  have es8_10 : s8 111 2 = s0 111 2 := (Gs8 111 2 rfl).trans rfl
  have es8_11 : s8 111 3 = s0 111 3 := (Gs8 111 3 rfl).trans rfl
  have es8_12 : s8 112 0 = s0 112 0 := (Gs8 112 0 rfl).trans rfl
  have es8_13 : s8 112 1 = s0 112 1 := (Gs8 112 1 rfl).trans rfl
  have es8_14 : s8 112 2 = s0 112 2 := (Gs8 112 2 rfl).trans rfl
  have es8_15 : s8 112 3 = s0 112 3 := (Gs8 112 3 rfl).trans rfl
  refine h_pop2 (pc' := 1003) rfl rfl rfl ?_
  refine h_aload_n (pc' := 1004) rfl rfl rfl ?_
  refine h_aload_n (pc' := 1005) rfl rfl rfl ?_
  refine h_iload_n (pc' := 1006) rfl rfl rfl ?_
  refine h_iconst (pc' := 1007) (x := (Int32.ofInt 1)) rfl rfl rfl ?_
  refine h_iadd (pc' := 1008) rfl rfl hy3 ci_1 rfl (by omega) (by omega) (fun z9 hz9 => ?_)
  refine h_iald (pc' := 1009) (v := s0 0 (b3 + 1)) rfl rfl rfl hz9 (by omega) (by omega) (Zs8 _) (fun z10 hz10 => ?_)
  have tz10 := h_rgv hz10
  refine h_aload_n (pc' := 1010) rfl rfl rfl ?_
  refine h_iload_n (pc' := 1011) rfl rfl rfl ?_
  refine h_iconst (pc' := 1012) (x := (Int32.ofInt 2)) rfl rfl rfl ?_
  refine h_iadd (pc' := 1013) rfl rfl hy3 ci_2 rfl (by omega) (by omega) (fun z11 hz11 => ?_)
  refine h_iald (pc' := 1014) (v := s0 0 (b3 + 2)) rfl rfl rfl hz11 (by omega) (by omega) (Zs8 _) (fun z12 hz12 => ?_)
  have tz12 := h_rgv hz12
  refine h_aload_n (pc' := 1015) rfl rfl rfl ?_
  refine h_iload_n (pc' := 1016) rfl rfl rfl ?_
  refine h_iconst (pc' := 1017) (x := (Int32.ofInt 3)) rfl rfl rfl ?_
  refine h_iadd (pc' := 1018) rfl rfl hy3 ci_3 rfl (by omega) (by omega) (fun z13 hz13 => ?_)
  refine h_iald (pc' := 1019) (v := s0 0 (b3 + 3)) rfl rfl rfl hz13 (by omega) (by omega) (Zs8 _) (fun z14 hz14 => ?_)
  have tz14 := h_rgv hz14
  refine h_call (sp := false) (pc' := 1022) (M := [(0, .ref 98), (1, .int z10), (2, .int z12), (3, .int z14)]) rfl rfl rfl rfl rfl rfl rfl rfl ?_
  refine w_208_98 _ Is8 z10 _ hz10 z12 _ hz12 z14 _ hz14 (fun r15 s16 Is16 Gs16 => h_Kv ?_)
  have Zs16 : ∀ i, s16 0 i = s0 0 i := fun i => (Gs16 0 i rfl).trans (Zs8 i)
  have es16_0 : s16 95 0 = s0 95 0 := (Gs16 95 0 rfl).trans es8_0
  have es16_1 : s16 95 1 = s0 95 1 := (Gs16 95 1 rfl).trans es8_1
  have es16_2 : s16 95 2 = s0 95 2 := (Gs16 95 2 rfl).trans es8_2
  have es16_3 : s16 95 3 = s0 95 3 := (Gs16 95 3 rfl).trans es8_3
  have es16_4 : s16 96 0 = s0 96 0 := (Gs16 96 0 rfl).trans es8_4
  have es16_5 : s16 96 1 = s0 96 1 := (Gs16 96 1 rfl).trans es8_5
  have es16_6 : s16 96 2 = s0 96 2 := (Gs16 96 2 rfl).trans es8_6
  have es16_7 : s16 96 3 = s0 96 3 := (Gs16 96 3 rfl).trans es8_7
  have es16_8 : s16 111 0 = s0 111 0 := (Gs16 111 0 rfl).trans es8_8
  have es16_9 : s16 111 1 = s0 111 1 := (Gs16 111 1 rfl).trans es8_9
  have es16_10 : s16 111 2 = s0 111 2 := (Gs16 111 2 rfl).trans es8_10
  have es16_11 : s16 111 3 = s0 111 3 := (Gs16 111 3 rfl).trans es8_11
  have es16_12 : s16 112 0 = s0 112 0 := (Gs16 112 0 rfl).trans es8_12
  have es16_13 : s16 112 1 = s0 112 1 := (Gs16 112 1 rfl).trans es8_13
  have es16_14 : s16 112 2 = s0 112 2 := (Gs16 112 2 rfl).trans es8_14
  have es16_15 : s16 112 3 = s0 112 3 := (Gs16 112 3 rfl).trans es8_15
  clear es8_0 es8_1 es8_10 es8_11 es8_12 es8_13 es8_14 es8_15 es8_2 es8_3 es8_4 es8_5 es8_6 es8_7 es8_8 es8_9
  refine h_pop2 (pc' := 1023) rfl rfl rfl ?_
  refine h_goto (pc' := 1441) rfl rfl ?_
  exact kk _ Is16 (by first | exact h_jf j0 (by omega) (by omega) (by omega) | exact Or.inr ⟨by omega, by omega, by omega⟩) (by first | exact h_jf j1 (by omega) (by omega) (by omega) | exact Or.inr ⟨by omega, by omega, by omega⟩) (by first | exact h_jf j2 (by omega) (by omega) (by omega) | exact Or.inr ⟨by omega, by omega, by omega⟩) (by first | exact h_jf j3 (by omega) (by omega) (by omega) | exact Or.inr ⟨by omega, by omega, by omega⟩)
theorem g_case_1026 {ns : Nat} (hns : ns ≤ 320) (s0 : h_S) (I0 : h_I s0) (j0 : h_js (s0 96 0) (s0 111 0) (s0 112 0)) (j1 : h_js (s0 96 1) (s0 111 1) (s0 112 1)) (j2 : h_js (s0 96 2) (s0 111 2) (s0 112 2)) (j3 : h_js (s0 96 3) (s0 111 3) (s0 112 3)) (y3 : Int32) (b3 : Int) (hy3 : y3.toInt = b3) (hr : 0 ≤ b3 ∧ b3 + 5 ≤ ns) {Q : Option Value → h_S → Prop} (kk : ∀ τ, h_I τ → h_js (τ 96 0) (τ 111 0) (τ 112 0) → h_js (τ 96 1) (τ 111 1) (τ 112 1) → h_js (τ 96 2) (τ 111 2) (τ 112 2) → h_js (τ 96 3) (τ 111 3) (τ 112 3) → h_T g_P (g_Y ns) 225 1441 [(0, .ref 0), (1, .ref 9), (2, .ref 98), (3, .int y3)] [] τ Q) : h_T g_P (g_Y ns) 225 1026 [(0, .ref 0), (1, .ref 9), (2, .ref 98), (3, .int y3)] [] s0 Q := by
  refine h_aload_n (pc' := 1027) rfl rfl rfl ?_
  refine h_aload_n (pc' := 1028) rfl rfl rfl ?_
  refine h_iload_n (pc' := 1029) rfl rfl rfl ?_
  refine h_iconst (pc' := 1030) (x := (Int32.ofInt 1)) rfl rfl rfl ?_
  refine h_iadd (pc' := 1031) rfl rfl hy3 ci_1 rfl (by omega) (by omega) (fun z1 hz1 => ?_)
  refine h_iald (pc' := 1032) (v := s0 0 (b3 + 1)) rfl rfl rfl hz1 (by omega) (by omega) rfl (fun z2 hz2 => ?_)
  have tz2 := h_rgv hz2
  refine h_aload_n (pc' := 1033) rfl rfl rfl ?_
  refine h_iload_n (pc' := 1034) rfl rfl rfl ?_
  refine h_iconst (pc' := 1035) (x := (Int32.ofInt 2)) rfl rfl rfl ?_
  refine h_iadd (pc' := 1036) rfl rfl hy3 ci_2 rfl (by omega) (by omega) (fun z3 hz3 => ?_)
  refine h_iald (pc' := 1037) (v := s0 0 (b3 + 2)) rfl rfl rfl hz3 (by omega) (by omega) rfl (fun z4 hz4 => ?_)
  have tz4 := h_rgv hz4
  refine h_zeq (tg := 1044) (pc' := 1040) rfl rfl rfl hz4 (fun c5 => ?_) (fun c5 => ?_)
  · refine h_iconst (pc' := 1045) (x := (Int32.ofInt 0)) rfl rfl rfl ?_
    refine h_call (sp := false) (pc' := 1048) (M := [(0, .ref 9), (1, .int z2), (2, .int (Int32.ofInt 0))]) rfl rfl rfl rfl rfl rfl rfl rfl ?_
    refine w_110_9 _ I0 z2 _ hz2 (Int32.ofInt 0) _ ci_0 (by omega) (fun r6 br6 hr6 s7 Is7 Gs7 tr6 => h_Kv ?_)
    have Zs7 : ∀ i, s7 0 i = s0 0 i := fun i => (Gs7 0 i rfl).trans rfl
    have es7_0 : s7 95 0 = s0 95 0 := (Gs7 95 0 rfl).trans rfl
    have es7_1 : s7 95 1 = s0 95 1 := (Gs7 95 1 rfl).trans rfl
    have es7_2 : s7 95 2 = s0 95 2 := (Gs7 95 2 rfl).trans rfl
    have es7_3 : s7 95 3 = s0 95 3 := (Gs7 95 3 rfl).trans rfl
    have es7_4 : s7 96 0 = s0 96 0 := (Gs7 96 0 rfl).trans rfl
    have es7_5 : s7 96 1 = s0 96 1 := (Gs7 96 1 rfl).trans rfl
    have es7_6 : s7 96 2 = s0 96 2 := (Gs7 96 2 rfl).trans rfl
    have es7_7 : s7 96 3 = s0 96 3 := (Gs7 96 3 rfl).trans rfl
    have es7_8 : s7 111 0 = s0 111 0 := (Gs7 111 0 rfl).trans rfl
    have es7_9 : s7 111 1 = s0 111 1 := (Gs7 111 1 rfl).trans rfl
    have es7_10 : s7 111 2 = s0 111 2 := (Gs7 111 2 rfl).trans rfl
    have es7_11 : s7 111 3 = s0 111 3 := (Gs7 111 3 rfl).trans rfl
    have es7_12 : s7 112 0 = s0 112 0 := (Gs7 112 0 rfl).trans rfl
    have es7_13 : s7 112 1 = s0 112 1 := (Gs7 112 1 rfl).trans rfl
    have es7_14 : s7 112 2 = s0 112 2 := (Gs7 112 2 rfl).trans rfl
    have es7_15 : s7 112 3 = s0 112 3 := (Gs7 112 3 rfl).trans rfl
    refine h_pop (pc' := 1049) rfl rfl rfl ?_
    refine h_aload_n (pc' := 1050) rfl rfl rfl ?_
    refine h_aload_n (pc' := 1051) rfl rfl rfl ?_
    refine h_iload_n (pc' := 1052) rfl rfl rfl ?_
    refine h_iconst (pc' := 1053) (x := (Int32.ofInt 1)) rfl rfl rfl ?_
    refine h_iadd (pc' := 1054) rfl rfl hy3 ci_1 rfl (by omega) (by omega) (fun z8 hz8 => ?_)
    refine h_iald (pc' := 1055) (v := s0 0 (b3 + 1)) rfl rfl rfl hz8 (by omega) (by omega) (Zs7 _) (fun z9 hz9 => ?_)
    have tz9 := h_rgv hz9
    refine h_aload_n (pc' := 1056) rfl rfl rfl ?_
    refine h_iload_n (pc' := 1057) rfl rfl rfl ?_
    refine h_iconst (pc' := 1058) (x := (Int32.ofInt 2)) rfl rfl rfl ?_
    refine h_iadd (pc' := 1059) rfl rfl hy3 ci_2 rfl (by omega) (by omega) (fun z10 hz10 => ?_)
    refine h_iald (pc' := 1060) (v := s0 0 (b3 + 2)) rfl rfl rfl hz10 (by omega) (by omega) (Zs7 _) (fun z11 hz11 => ?_)
    have tz11 := h_rgv hz11
    refine h_zeq (tg := 1067) (pc' := 1063) rfl rfl rfl hz11 (fun c12 => ?_) (fun c12 => ?_)
    · refine h_iconst (pc' := 1068) (x := (Int32.ofInt 0)) rfl rfl rfl ?_
      refine h_call (sp := false) (pc' := 1071) (M := [(0, .ref 98), (1, .int z9), (2, .int (Int32.ofInt 0))]) rfl rfl rfl rfl rfl rfl rfl rfl ?_
      refine w_209_98 _ Is7 z9 _ hz9 (Int32.ofInt 0) _ ci_0 (by omega) (fun r13 br13 hr13 s14 Is14 Gs14 tr13 => h_Kv ?_)
      have Zs14 : ∀ i, s14 0 i = s0 0 i := fun i => (Gs14 0 i rfl).trans (Zs7 i)
      have es14_0 : s14 95 0 = s0 95 0 := (Gs14 95 0 rfl).trans es7_0
      have es14_1 : s14 95 1 = s0 95 1 := (Gs14 95 1 rfl).trans es7_1
      have es14_2 : s14 95 2 = s0 95 2 := (Gs14 95 2 rfl).trans es7_2
      have es14_3 : s14 95 3 = s0 95 3 := (Gs14 95 3 rfl).trans es7_3
      have es14_4 : s14 96 0 = s0 96 0 := (Gs14 96 0 rfl).trans es7_4
      have es14_5 : s14 96 1 = s0 96 1 := (Gs14 96 1 rfl).trans es7_5
      have es14_6 : s14 96 2 = s0 96 2 := (Gs14 96 2 rfl).trans es7_6
      have es14_7 : s14 96 3 = s0 96 3 := (Gs14 96 3 rfl).trans es7_7
      have es14_8 : s14 111 0 = s0 111 0 := (Gs14 111 0 rfl).trans es7_8
      have es14_9 : s14 111 1 = s0 111 1 := (Gs14 111 1 rfl).trans es7_9
      have es14_10 : s14 111 2 = s0 111 2 := (Gs14 111 2 rfl).trans es7_10
      have es14_11 : s14 111 3 = s0 111 3 := (Gs14 111 3 rfl).trans es7_11
      have es14_12 : s14 112 0 = s0 112 0 := (Gs14 112 0 rfl).trans es7_12
      have es14_13 : s14 112 1 = s0 112 1 := (Gs14 112 1 rfl).trans es7_13
      have es14_14 : s14 112 2 = s0 112 2 := (Gs14 112 2 rfl).trans es7_14
      have es14_15 : s14 112 3 = s0 112 3 := (Gs14 112 3 rfl).trans es7_15
      clear es7_0 es7_1 es7_10 es7_11 es7_12 es7_13 es7_14 es7_15 es7_2 es7_3 es7_4 es7_5 es7_6 es7_7 es7_8 es7_9
      refine h_pop (pc' := 1072) rfl rfl rfl ?_
      refine h_goto (pc' := 1441) rfl rfl ?_
      exact kk _ Is14 (by first | exact h_jf j0 (by omega) (by omega) (by omega) | exact Or.inr ⟨by omega, by omega, by omega⟩) (by first | exact h_jf j1 (by omega) (by omega) (by omega) | exact Or.inr ⟨by omega, by omega, by omega⟩) (by first | exact h_jf j2 (by omega) (by omega) (by omega) | exact Or.inr ⟨by omega, by omega, by omega⟩) (by first | exact h_jf j3 (by omega) (by omega) (by omega) | exact Or.inr ⟨by omega, by omega, by omega⟩)
    · refine h_iconst (pc' := 1064) (x := (Int32.ofInt 1)) rfl rfl rfl ?_
      refine h_goto (pc' := 1068) rfl rfl ?_
      refine h_call (sp := false) (pc' := 1071) (M := [(0, .ref 98), (1, .int z9), (2, .int (Int32.ofInt 1))]) rfl rfl rfl rfl rfl rfl rfl rfl ?_
      refine w_209_98 _ Is7 z9 _ hz9 (Int32.ofInt 1) _ ci_1 (by omega) (fun r15 br15 hr15 s16 Is16 Gs16 tr15 => h_Kv ?_)
      have Zs16 : ∀ i, s16 0 i = s0 0 i := fun i => (Gs16 0 i rfl).trans (Zs7 i)
      have es16_0 : s16 95 0 = s0 95 0 := (Gs16 95 0 rfl).trans es7_0
      have es16_1 : s16 95 1 = s0 95 1 := (Gs16 95 1 rfl).trans es7_1
      have es16_2 : s16 95 2 = s0 95 2 := (Gs16 95 2 rfl).trans es7_2
      have es16_3 : s16 95 3 = s0 95 3 := (Gs16 95 3 rfl).trans es7_3
      have es16_4 : s16 96 0 = s0 96 0 := (Gs16 96 0 rfl).trans es7_4
      have es16_5 : s16 96 1 = s0 96 1 := (Gs16 96 1 rfl).trans es7_5
      have es16_6 : s16 96 2 = s0 96 2 := (Gs16 96 2 rfl).trans es7_6
      have es16_7 : s16 96 3 = s0 96 3 := (Gs16 96 3 rfl).trans es7_7
      have es16_8 : s16 111 0 = s0 111 0 := (Gs16 111 0 rfl).trans es7_8
      have es16_9 : s16 111 1 = s0 111 1 := (Gs16 111 1 rfl).trans es7_9
      have es16_10 : s16 111 2 = s0 111 2 := (Gs16 111 2 rfl).trans es7_10
      have es16_11 : s16 111 3 = s0 111 3 := (Gs16 111 3 rfl).trans es7_11
      have es16_12 : s16 112 0 = s0 112 0 := (Gs16 112 0 rfl).trans es7_12
      have es16_13 : s16 112 1 = s0 112 1 := (Gs16 112 1 rfl).trans es7_13
      have es16_14 : s16 112 2 = s0 112 2 := (Gs16 112 2 rfl).trans es7_14
      have es16_15 : s16 112 3 = s0 112 3 := (Gs16 112 3 rfl).trans es7_15
      clear es7_0 es7_1 es7_10 es7_11 es7_12 es7_13 es7_14 es7_15 es7_2 es7_3 es7_4 es7_5 es7_6 es7_7 es7_8 es7_9
      refine h_pop (pc' := 1072) rfl rfl rfl ?_
      refine h_goto (pc' := 1441) rfl rfl ?_
      exact kk _ Is16 (by first | exact h_jf j0 (by omega) (by omega) (by omega) | exact Or.inr ⟨by omega, by omega, by omega⟩) (by first | exact h_jf j1 (by omega) (by omega) (by omega) | exact Or.inr ⟨by omega, by omega, by omega⟩) (by first | exact h_jf j2 (by omega) (by omega) (by omega) | exact Or.inr ⟨by omega, by omega, by omega⟩) (by first | exact h_jf j3 (by omega) (by omega) (by omega) | exact Or.inr ⟨by omega, by omega, by omega⟩)
  · refine h_iconst (pc' := 1041) (x := (Int32.ofInt 1)) rfl rfl rfl ?_
    refine h_goto (pc' := 1045) rfl rfl ?_
    refine h_call (sp := false) (pc' := 1048) (M := [(0, .ref 9), (1, .int z2), (2, .int (Int32.ofInt 1))]) rfl rfl rfl rfl rfl rfl rfl rfl ?_
    refine w_110_9 _ I0 z2 _ hz2 (Int32.ofInt 1) _ ci_1 (by omega) (fun r17 br17 hr17 s18 Is18 Gs18 tr17 => h_Kv ?_)
    have Zs18 : ∀ i, s18 0 i = s0 0 i := fun i => (Gs18 0 i rfl).trans rfl
    have es18_0 : s18 95 0 = s0 95 0 := (Gs18 95 0 rfl).trans rfl
    have es18_1 : s18 95 1 = s0 95 1 := (Gs18 95 1 rfl).trans rfl
    have es18_2 : s18 95 2 = s0 95 2 := (Gs18 95 2 rfl).trans rfl
    have es18_3 : s18 95 3 = s0 95 3 := (Gs18 95 3 rfl).trans rfl
    have es18_4 : s18 96 0 = s0 96 0 := (Gs18 96 0 rfl).trans rfl
    have es18_5 : s18 96 1 = s0 96 1 := (Gs18 96 1 rfl).trans rfl
    have es18_6 : s18 96 2 = s0 96 2 := (Gs18 96 2 rfl).trans rfl
    have es18_7 : s18 96 3 = s0 96 3 := (Gs18 96 3 rfl).trans rfl
    have es18_8 : s18 111 0 = s0 111 0 := (Gs18 111 0 rfl).trans rfl
    have es18_9 : s18 111 1 = s0 111 1 := (Gs18 111 1 rfl).trans rfl
    have es18_10 : s18 111 2 = s0 111 2 := (Gs18 111 2 rfl).trans rfl
    have es18_11 : s18 111 3 = s0 111 3 := (Gs18 111 3 rfl).trans rfl
    have es18_12 : s18 112 0 = s0 112 0 := (Gs18 112 0 rfl).trans rfl
    have es18_13 : s18 112 1 = s0 112 1 := (Gs18 112 1 rfl).trans rfl
    have es18_14 : s18 112 2 = s0 112 2 := (Gs18 112 2 rfl).trans rfl
    have es18_15 : s18 112 3 = s0 112 3 := (Gs18 112 3 rfl).trans rfl
    refine h_pop (pc' := 1049) rfl rfl rfl ?_
    refine h_aload_n (pc' := 1050) rfl rfl rfl ?_
    refine h_aload_n (pc' := 1051) rfl rfl rfl ?_
    refine h_iload_n (pc' := 1052) rfl rfl rfl ?_
    refine h_iconst (pc' := 1053) (x := (Int32.ofInt 1)) rfl rfl rfl ?_
    refine h_iadd (pc' := 1054) rfl rfl hy3 ci_1 rfl (by omega) (by omega) (fun z19 hz19 => ?_)
    refine h_iald (pc' := 1055) (v := s0 0 (b3 + 1)) rfl rfl rfl hz19 (by omega) (by omega) (Zs18 _) (fun z20 hz20 => ?_)
    have tz20 := h_rgv hz20
    refine h_aload_n (pc' := 1056) rfl rfl rfl ?_
    refine h_iload_n (pc' := 1057) rfl rfl rfl ?_
    refine h_iconst (pc' := 1058) (x := (Int32.ofInt 2)) rfl rfl rfl ?_
    refine h_iadd (pc' := 1059) rfl rfl hy3 ci_2 rfl (by omega) (by omega) (fun z21 hz21 => ?_)
    refine h_iald (pc' := 1060) (v := s0 0 (b3 + 2)) rfl rfl rfl hz21 (by omega) (by omega) (Zs18 _) (fun z22 hz22 => ?_)
    have tz22 := h_rgv hz22
    refine h_zeq (tg := 1067) (pc' := 1063) rfl rfl rfl hz22 (fun c23 => ?_) (fun c23 => ?_)
    · refine h_iconst (pc' := 1068) (x := (Int32.ofInt 0)) rfl rfl rfl ?_
      refine h_call (sp := false) (pc' := 1071) (M := [(0, .ref 98), (1, .int z20), (2, .int (Int32.ofInt 0))]) rfl rfl rfl rfl rfl rfl rfl rfl ?_
      refine w_209_98 _ Is18 z20 _ hz20 (Int32.ofInt 0) _ ci_0 (by omega) (fun r24 br24 hr24 s25 Is25 Gs25 tr24 => h_Kv ?_)
      have Zs25 : ∀ i, s25 0 i = s0 0 i := fun i => (Gs25 0 i rfl).trans (Zs18 i)
      have es25_0 : s25 95 0 = s0 95 0 := (Gs25 95 0 rfl).trans es18_0
      have es25_1 : s25 95 1 = s0 95 1 := (Gs25 95 1 rfl).trans es18_1
      have es25_2 : s25 95 2 = s0 95 2 := (Gs25 95 2 rfl).trans es18_2
      have es25_3 : s25 95 3 = s0 95 3 := (Gs25 95 3 rfl).trans es18_3
      have es25_4 : s25 96 0 = s0 96 0 := (Gs25 96 0 rfl).trans es18_4
      have es25_5 : s25 96 1 = s0 96 1 := (Gs25 96 1 rfl).trans es18_5
      have es25_6 : s25 96 2 = s0 96 2 := (Gs25 96 2 rfl).trans es18_6
      have es25_7 : s25 96 3 = s0 96 3 := (Gs25 96 3 rfl).trans es18_7
      have es25_8 : s25 111 0 = s0 111 0 := (Gs25 111 0 rfl).trans es18_8
      have es25_9 : s25 111 1 = s0 111 1 := (Gs25 111 1 rfl).trans es18_9
      have es25_10 : s25 111 2 = s0 111 2 := (Gs25 111 2 rfl).trans es18_10
      have es25_11 : s25 111 3 = s0 111 3 := (Gs25 111 3 rfl).trans es18_11
      have es25_12 : s25 112 0 = s0 112 0 := (Gs25 112 0 rfl).trans es18_12
      have es25_13 : s25 112 1 = s0 112 1 := (Gs25 112 1 rfl).trans es18_13
      have es25_14 : s25 112 2 = s0 112 2 := (Gs25 112 2 rfl).trans es18_14
      have es25_15 : s25 112 3 = s0 112 3 := (Gs25 112 3 rfl).trans es18_15
      clear es18_0 es18_1 es18_10 es18_11 es18_12 es18_13 es18_14 es18_15 es18_2 es18_3 es18_4 es18_5 es18_6 es18_7 es18_8 es18_9
      refine h_pop (pc' := 1072) rfl rfl rfl ?_
      refine h_goto (pc' := 1441) rfl rfl ?_
      exact kk _ Is25 (by first | exact h_jf j0 (by omega) (by omega) (by omega) | exact Or.inr ⟨by omega, by omega, by omega⟩) (by first | exact h_jf j1 (by omega) (by omega) (by omega) | exact Or.inr ⟨by omega, by omega, by omega⟩) (by first | exact h_jf j2 (by omega) (by omega) (by omega) | exact Or.inr ⟨by omega, by omega, by omega⟩) (by first | exact h_jf j3 (by omega) (by omega) (by omega) | exact Or.inr ⟨by omega, by omega, by omega⟩)
    · refine h_iconst (pc' := 1064) (x := (Int32.ofInt 1)) rfl rfl rfl ?_
      refine h_goto (pc' := 1068) rfl rfl ?_
      refine h_call (sp := false) (pc' := 1071) (M := [(0, .ref 98), (1, .int z20), (2, .int (Int32.ofInt 1))]) rfl rfl rfl rfl rfl rfl rfl rfl ?_
      refine w_209_98 _ Is18 z20 _ hz20 (Int32.ofInt 1) _ ci_1 (by omega) (fun r26 br26 hr26 s27 Is27 Gs27 tr26 => h_Kv ?_)
      have Zs27 : ∀ i, s27 0 i = s0 0 i := fun i => (Gs27 0 i rfl).trans (Zs18 i)
      have es27_0 : s27 95 0 = s0 95 0 := (Gs27 95 0 rfl).trans es18_0
      have es27_1 : s27 95 1 = s0 95 1 := (Gs27 95 1 rfl).trans es18_1
      have es27_2 : s27 95 2 = s0 95 2 := (Gs27 95 2 rfl).trans es18_2
      have es27_3 : s27 95 3 = s0 95 3 := (Gs27 95 3 rfl).trans es18_3
      have es27_4 : s27 96 0 = s0 96 0 := (Gs27 96 0 rfl).trans es18_4
      have es27_5 : s27 96 1 = s0 96 1 := (Gs27 96 1 rfl).trans es18_5
      have es27_6 : s27 96 2 = s0 96 2 := (Gs27 96 2 rfl).trans es18_6
      have es27_7 : s27 96 3 = s0 96 3 := (Gs27 96 3 rfl).trans es18_7
      have es27_8 : s27 111 0 = s0 111 0 := (Gs27 111 0 rfl).trans es18_8
      have es27_9 : s27 111 1 = s0 111 1 := (Gs27 111 1 rfl).trans es18_9
      have es27_10 : s27 111 2 = s0 111 2 := (Gs27 111 2 rfl).trans es18_10
      have es27_11 : s27 111 3 = s0 111 3 := (Gs27 111 3 rfl).trans es18_11
      have es27_12 : s27 112 0 = s0 112 0 := (Gs27 112 0 rfl).trans es18_12
      have es27_13 : s27 112 1 = s0 112 1 := (Gs27 112 1 rfl).trans es18_13
      have es27_14 : s27 112 2 = s0 112 2 := (Gs27 112 2 rfl).trans es18_14
      have es27_15 : s27 112 3 = s0 112 3 := (Gs27 112 3 rfl).trans es18_15
      clear es18_0 es18_1 es18_10 es18_11 es18_12 es18_13 es18_14 es18_15 es18_2 es18_3 es18_4 es18_5 es18_6 es18_7 es18_8 es18_9
      refine h_pop (pc' := 1072) rfl rfl rfl ?_
      refine h_goto (pc' := 1441) rfl rfl ?_
      exact kk _ Is27 (by first | exact h_jf j0 (by omega) (by omega) (by omega) | exact Or.inr ⟨by omega, by omega, by omega⟩) (by first | exact h_jf j1 (by omega) (by omega) (by omega) | exact Or.inr ⟨by omega, by omega, by omega⟩) (by first | exact h_jf j2 (by omega) (by omega) (by omega) | exact Or.inr ⟨by omega, by omega, by omega⟩) (by first | exact h_jf j3 (by omega) (by omega) (by omega) | exact Or.inr ⟨by omega, by omega, by omega⟩)
theorem g_case_1075 {ns : Nat} (hns : ns ≤ 320) (s0 : h_S) (I0 : h_I s0) (j0 : h_js (s0 96 0) (s0 111 0) (s0 112 0)) (j1 : h_js (s0 96 1) (s0 111 1) (s0 112 1)) (j2 : h_js (s0 96 2) (s0 111 2) (s0 112 2)) (j3 : h_js (s0 96 3) (s0 111 3) (s0 112 3)) (y3 : Int32) (b3 : Int) (hy3 : y3.toInt = b3) (hr : 0 ≤ b3 ∧ b3 + 5 ≤ ns) {Q : Option Value → h_S → Prop} (kk : ∀ τ, h_I τ → h_js (τ 96 0) (τ 111 0) (τ 112 0) → h_js (τ 96 1) (τ 111 1) (τ 112 1) → h_js (τ 96 2) (τ 111 2) (τ 112 2) → h_js (τ 96 3) (τ 111 3) (τ 112 3) → h_T g_P (g_Y ns) 225 1441 [(0, .ref 0), (1, .ref 9), (2, .ref 98), (3, .int y3)] [] τ Q) : h_T g_P (g_Y ns) 225 1075 [(0, .ref 0), (1, .ref 9), (2, .ref 98), (3, .int y3)] [] s0 Q := by
  refine h_aload_n (pc' := 1076) rfl rfl rfl ?_
  refine h_aload_n (pc' := 1077) rfl rfl rfl ?_
  refine h_iload_n (pc' := 1078) rfl rfl rfl ?_
  refine h_iconst (pc' := 1079) (x := (Int32.ofInt 1)) rfl rfl rfl ?_
  refine h_iadd (pc' := 1080) rfl rfl hy3 ci_1 rfl (by omega) (by omega) (fun z1 hz1 => ?_)
  refine h_iald (pc' := 1081) (v := s0 0 (b3 + 1)) rfl rfl rfl hz1 (by omega) (by omega) rfl (fun z2 hz2 => ?_)
  have tz2 := h_rgv hz2
  refine h_call (sp := false) (pc' := 1084) (M := [(0, .ref 9), (1, .int z2)]) rfl rfl rfl rfl rfl rfl rfl rfl ?_
  refine w_111_9 _ I0 z2 _ hz2 (fun r3 br3 hr3 s4 Is4 Gs4 tr3 => h_Kv ?_)
  have Zs4 : ∀ i, s4 0 i = s0 0 i := fun i => (Gs4 0 i rfl).trans rfl
  have es4_0 : s4 95 0 = s0 95 0 := (Gs4 95 0 rfl).trans rfl
  have es4_1 : s4 95 1 = s0 95 1 := (Gs4 95 1 rfl).trans rfl
  have es4_2 : s4 95 2 = s0 95 2 := (Gs4 95 2 rfl).trans rfl
  have es4_3 : s4 95 3 = s0 95 3 := (Gs4 95 3 rfl).trans rfl
  have es4_4 : s4 96 0 = s0 96 0 := (Gs4 96 0 rfl).trans rfl
  have es4_5 : s4 96 1 = s0 96 1 := (Gs4 96 1 rfl).trans rfl
  have es4_6 : s4 96 2 = s0 96 2 := (Gs4 96 2 rfl).trans rfl
  have es4_7 : s4 96 3 = s0 96 3 := (Gs4 96 3 rfl).trans rfl
  have es4_8 : s4 111 0 = s0 111 0 := (Gs4 111 0 rfl).trans rfl
  have es4_9 : s4 111 1 = s0 111 1 := (Gs4 111 1 rfl).trans rfl
  have es4_10 : s4 111 2 = s0 111 2 := (Gs4 111 2 rfl).trans rfl
  have es4_11 : s4 111 3 = s0 111 3 := (Gs4 111 3 rfl).trans rfl
  have es4_12 : s4 112 0 = s0 112 0 := (Gs4 112 0 rfl).trans rfl
  have es4_13 : s4 112 1 = s0 112 1 := (Gs4 112 1 rfl).trans rfl
  have es4_14 : s4 112 2 = s0 112 2 := (Gs4 112 2 rfl).trans rfl
  have es4_15 : s4 112 3 = s0 112 3 := (Gs4 112 3 rfl).trans rfl
  refine h_pop (pc' := 1085) rfl rfl rfl ?_
  refine h_aload_n (pc' := 1086) rfl rfl rfl ?_
  refine h_aload_n (pc' := 1087) rfl rfl rfl ?_
  refine h_iload_n (pc' := 1088) rfl rfl rfl ?_
  refine h_iconst (pc' := 1089) (x := (Int32.ofInt 1)) rfl rfl rfl ?_
  refine h_iadd (pc' := 1090) rfl rfl hy3 ci_1 rfl (by omega) (by omega) (fun z5 hz5 => ?_)
  refine h_iald (pc' := 1091) (v := s0 0 (b3 + 1)) rfl rfl rfl hz5 (by omega) (by omega) (Zs4 _) (fun z6 hz6 => ?_)
  have tz6 := h_rgv hz6
  refine h_call (sp := false) (pc' := 1094) (M := [(0, .ref 98), (1, .int z6)]) rfl rfl rfl rfl rfl rfl rfl rfl ?_
  refine w_210_98 _ Is4 z6 _ hz6 (fun r7 br7 hr7 s8 Is8 Gs8 tr7 => h_Kv ?_)
  have Zs8 : ∀ i, s8 0 i = s0 0 i := fun i => (Gs8 0 i rfl).trans (Zs4 i)
  have es8_0 : s8 95 0 = s0 95 0 := (Gs8 95 0 rfl).trans es4_0
  have es8_1 : s8 95 1 = s0 95 1 := (Gs8 95 1 rfl).trans es4_1
  have es8_2 : s8 95 2 = s0 95 2 := (Gs8 95 2 rfl).trans es4_2
  have es8_3 : s8 95 3 = s0 95 3 := (Gs8 95 3 rfl).trans es4_3
  have es8_4 : s8 96 0 = s0 96 0 := (Gs8 96 0 rfl).trans es4_4
  have es8_5 : s8 96 1 = s0 96 1 := (Gs8 96 1 rfl).trans es4_5
  have es8_6 : s8 96 2 = s0 96 2 := (Gs8 96 2 rfl).trans es4_6
  have es8_7 : s8 96 3 = s0 96 3 := (Gs8 96 3 rfl).trans es4_7
  have es8_8 : s8 111 0 = s0 111 0 := (Gs8 111 0 rfl).trans es4_8
  have es8_9 : s8 111 1 = s0 111 1 := (Gs8 111 1 rfl).trans es4_9
  have es8_10 : s8 111 2 = s0 111 2 := (Gs8 111 2 rfl).trans es4_10
  have es8_11 : s8 111 3 = s0 111 3 := (Gs8 111 3 rfl).trans es4_11
  have es8_12 : s8 112 0 = s0 112 0 := (Gs8 112 0 rfl).trans es4_12
  have es8_13 : s8 112 1 = s0 112 1 := (Gs8 112 1 rfl).trans es4_13
  have es8_14 : s8 112 2 = s0 112 2 := (Gs8 112 2 rfl).trans es4_14
  have es8_15 : s8 112 3 = s0 112 3 := (Gs8 112 3 rfl).trans es4_15
  clear es4_0 es4_1 es4_10 es4_11 es4_12 es4_13 es4_14 es4_15 es4_2 es4_3 es4_4 es4_5 es4_6 es4_7 es4_8 es4_9
  refine h_pop (pc' := 1095) rfl rfl rfl ?_
  refine h_goto (pc' := 1441) rfl rfl ?_
  exact kk _ Is8 (by first | exact h_jf j0 (by omega) (by omega) (by omega) | exact Or.inr ⟨by omega, by omega, by omega⟩) (by first | exact h_jf j1 (by omega) (by omega) (by omega) | exact Or.inr ⟨by omega, by omega, by omega⟩) (by first | exact h_jf j2 (by omega) (by omega) (by omega) | exact Or.inr ⟨by omega, by omega, by omega⟩) (by first | exact h_jf j3 (by omega) (by omega) (by omega) | exact Or.inr ⟨by omega, by omega, by omega⟩)
theorem g_case_1098 {ns : Nat} (hns : ns ≤ 320) (s0 : h_S) (I0 : h_I s0) (j0 : h_js (s0 96 0) (s0 111 0) (s0 112 0)) (j1 : h_js (s0 96 1) (s0 111 1) (s0 112 1)) (j2 : h_js (s0 96 2) (s0 111 2) (s0 112 2)) (j3 : h_js (s0 96 3) (s0 111 3) (s0 112 3)) (y3 : Int32) (b3 : Int) (hy3 : y3.toInt = b3) (hr : 0 ≤ b3 ∧ b3 + 5 ≤ ns) {Q : Option Value → h_S → Prop} (kk : ∀ τ, h_I τ → h_js (τ 96 0) (τ 111 0) (τ 112 0) → h_js (τ 96 1) (τ 111 1) (τ 112 1) → h_js (τ 96 2) (τ 111 2) (τ 112 2) → h_js (τ 96 3) (τ 111 3) (τ 112 3) → h_T g_P (g_Y ns) 225 1441 [(0, .ref 0), (1, .ref 9), (2, .ref 98), (3, .int y3)] [] τ Q) : h_T g_P (g_Y ns) 225 1098 [(0, .ref 0), (1, .ref 9), (2, .ref 98), (3, .int y3)] [] s0 Q := by
  refine h_aload_n (pc' := 1099) rfl rfl rfl ?_
  refine h_aload_n (pc' := 1100) rfl rfl rfl ?_
  refine h_iload_n (pc' := 1101) rfl rfl rfl ?_
  refine h_iconst (pc' := 1102) (x := (Int32.ofInt 1)) rfl rfl rfl ?_
  refine h_iadd (pc' := 1103) rfl rfl hy3 ci_1 rfl (by omega) (by omega) (fun z1 hz1 => ?_)
  refine h_iald (pc' := 1104) (v := s0 0 (b3 + 1)) rfl rfl rfl hz1 (by omega) (by omega) rfl (fun z2 hz2 => ?_)
  have tz2 := h_rgv hz2
  refine h_call (sp := false) (pc' := 1107) (M := [(0, .ref 9), (1, .int z2)]) rfl rfl rfl rfl rfl rfl rfl rfl ?_
  refine w_112_9 _ I0 z2 _ hz2 (fun r3 br3 hr3 s4 Is4 Gs4 => h_Kv ?_)
  have Zs4 : ∀ i, s4 0 i = s0 0 i := fun i => (Gs4 0 i rfl).trans rfl
  have es4_0 : s4 95 0 = s0 95 0 := (Gs4 95 0 rfl).trans rfl
  have es4_1 : s4 95 1 = s0 95 1 := (Gs4 95 1 rfl).trans rfl
  have es4_2 : s4 95 2 = s0 95 2 := (Gs4 95 2 rfl).trans rfl
  have es4_3 : s4 95 3 = s0 95 3 := (Gs4 95 3 rfl).trans rfl
  have es4_4 : s4 96 0 = s0 96 0 := (Gs4 96 0 rfl).trans rfl
  have es4_5 : s4 96 1 = s0 96 1 := (Gs4 96 1 rfl).trans rfl
  have es4_6 : s4 96 2 = s0 96 2 := (Gs4 96 2 rfl).trans rfl
  have es4_7 : s4 96 3 = s0 96 3 := (Gs4 96 3 rfl).trans rfl
  have es4_8 : s4 111 0 = s0 111 0 := (Gs4 111 0 rfl).trans rfl
  have es4_9 : s4 111 1 = s0 111 1 := (Gs4 111 1 rfl).trans rfl
  have es4_10 : s4 111 2 = s0 111 2 := (Gs4 111 2 rfl).trans rfl
  have es4_11 : s4 111 3 = s0 111 3 := (Gs4 111 3 rfl).trans rfl
  have es4_12 : s4 112 0 = s0 112 0 := (Gs4 112 0 rfl).trans rfl
  have es4_13 : s4 112 1 = s0 112 1 := (Gs4 112 1 rfl).trans rfl
  have es4_14 : s4 112 2 = s0 112 2 := (Gs4 112 2 rfl).trans rfl
  have es4_15 : s4 112 3 = s0 112 3 := (Gs4 112 3 rfl).trans rfl
  refine h_pop (pc' := 1108) rfl rfl rfl ?_
  refine h_aload_n (pc' := 1109) rfl rfl rfl ?_
  refine h_aload_n (pc' := 1110) rfl rfl rfl ?_
  refine h_iload_n (pc' := 1111) rfl rfl rfl ?_
  refine h_iconst (pc' := 1112) (x := (Int32.ofInt 1)) rfl rfl rfl ?_
  refine h_iadd (pc' := 1113) rfl rfl hy3 ci_1 rfl (by omega) (by omega) (fun z5 hz5 => ?_)
  refine h_iald (pc' := 1114) (v := s0 0 (b3 + 1)) rfl rfl rfl hz5 (by omega) (by omega) (Zs4 _) (fun z6 hz6 => ?_)
  have tz6 := h_rgv hz6
  refine h_call (sp := false) (pc' := 1117) (M := [(0, .ref 98), (1, .int z6)]) rfl rfl rfl rfl rfl rfl rfl rfl ?_
  refine w_213_98 _ Is4 z6 _ hz6 (fun r7 br7 hr7 s8 Is8 Gs8 => h_Kv ?_)
  have Zs8 : ∀ i, s8 0 i = s0 0 i := fun i => (Gs8 0 i rfl).trans (Zs4 i)
  have es8_0 : s8 95 0 = s0 95 0 := (Gs8 95 0 rfl).trans es4_0
  have es8_1 : s8 95 1 = s0 95 1 := (Gs8 95 1 rfl).trans es4_1
  have es8_2 : s8 95 2 = s0 95 2 := (Gs8 95 2 rfl).trans es4_2
  have es8_3 : s8 95 3 = s0 95 3 := (Gs8 95 3 rfl).trans es4_3
  have es8_4 : s8 96 0 = s0 96 0 := (Gs8 96 0 rfl).trans es4_4
  have es8_5 : s8 96 1 = s0 96 1 := (Gs8 96 1 rfl).trans es4_5
  have es8_6 : s8 96 2 = s0 96 2 := (Gs8 96 2 rfl).trans es4_6
  have es8_7 : s8 96 3 = s0 96 3 := (Gs8 96 3 rfl).trans es4_7
  have es8_8 : s8 111 0 = s0 111 0 := (Gs8 111 0 rfl).trans es4_8
  have es8_9 : s8 111 1 = s0 111 1 := (Gs8 111 1 rfl).trans es4_9
  have es8_10 : s8 111 2 = s0 111 2 := (Gs8 111 2 rfl).trans es4_10
  have es8_11 : s8 111 3 = s0 111 3 := (Gs8 111 3 rfl).trans es4_11
  have es8_12 : s8 112 0 = s0 112 0 := (Gs8 112 0 rfl).trans es4_12
  have es8_13 : s8 112 1 = s0 112 1 := (Gs8 112 1 rfl).trans es4_13
  have es8_14 : s8 112 2 = s0 112 2 := (Gs8 112 2 rfl).trans es4_14
  have es8_15 : s8 112 3 = s0 112 3 := (Gs8 112 3 rfl).trans es4_15
  clear es4_0 es4_1 es4_10 es4_11 es4_12 es4_13 es4_14 es4_15 es4_2 es4_3 es4_4 es4_5 es4_6 es4_7 es4_8 es4_9
  refine h_pop (pc' := 1118) rfl rfl rfl ?_
  refine h_goto (pc' := 1441) rfl rfl ?_
  exact kk _ Is8 (by first | exact h_jf j0 (by omega) (by omega) (by omega) | exact Or.inr ⟨by omega, by omega, by omega⟩) (by first | exact h_jf j1 (by omega) (by omega) (by omega) | exact Or.inr ⟨by omega, by omega, by omega⟩) (by first | exact h_jf j2 (by omega) (by omega) (by omega) | exact Or.inr ⟨by omega, by omega, by omega⟩) (by first | exact h_jf j3 (by omega) (by omega) (by omega) | exact Or.inr ⟨by omega, by omega, by omega⟩)
theorem g_case_1121 {ns : Nat} (hns : ns ≤ 320) (s0 : h_S) (I0 : h_I s0) (j0 : h_js (s0 96 0) (s0 111 0) (s0 112 0)) (j1 : h_js (s0 96 1) (s0 111 1) (s0 112 1)) (j2 : h_js (s0 96 2) (s0 111 2) (s0 112 2)) (j3 : h_js (s0 96 3) (s0 111 3) (s0 112 3)) (y3 : Int32) (b3 : Int) (hy3 : y3.toInt = b3) (hr : 0 ≤ b3 ∧ b3 + 5 ≤ ns) {Q : Option Value → h_S → Prop} (kk : ∀ τ, h_I τ → h_js (τ 96 0) (τ 111 0) (τ 112 0) → h_js (τ 96 1) (τ 111 1) (τ 112 1) → h_js (τ 96 2) (τ 111 2) (τ 112 2) → h_js (τ 96 3) (τ 111 3) (τ 112 3) → h_T g_P (g_Y ns) 225 1441 [(0, .ref 0), (1, .ref 9), (2, .ref 98), (3, .int y3)] [] τ Q) : h_T g_P (g_Y ns) 225 1121 [(0, .ref 0), (1, .ref 9), (2, .ref 98), (3, .int y3)] [] s0 Q := by
  refine h_aload_n (pc' := 1122) rfl rfl rfl ?_
  refine h_aload_n (pc' := 1123) rfl rfl rfl ?_
  refine h_iload_n (pc' := 1124) rfl rfl rfl ?_
  refine h_iconst (pc' := 1125) (x := (Int32.ofInt 1)) rfl rfl rfl ?_
  refine h_iadd (pc' := 1126) rfl rfl hy3 ci_1 rfl (by omega) (by omega) (fun z1 hz1 => ?_)
  refine h_iald (pc' := 1127) (v := s0 0 (b3 + 1)) rfl rfl rfl hz1 (by omega) (by omega) rfl (fun z2 hz2 => ?_)
  have tz2 := h_rgv hz2
  refine h_call (sp := false) (pc' := 1130) (M := [(0, .ref 9), (1, .int z2)]) rfl rfl rfl rfl rfl rfl rfl rfl ?_
  refine w_113_9 _ I0 z2 _ hz2 (fun r3 br3 hr3 s4 Is4 Gs4 => h_Kv ?_)
  have Zs4 : ∀ i, s4 0 i = s0 0 i := fun i => (Gs4 0 i rfl).trans rfl
  have es4_0 : s4 95 0 = s0 95 0 := (Gs4 95 0 rfl).trans rfl
  have es4_1 : s4 95 1 = s0 95 1 := (Gs4 95 1 rfl).trans rfl
  have es4_2 : s4 95 2 = s0 95 2 := (Gs4 95 2 rfl).trans rfl
  have es4_3 : s4 95 3 = s0 95 3 := (Gs4 95 3 rfl).trans rfl
  have es4_4 : s4 96 0 = s0 96 0 := (Gs4 96 0 rfl).trans rfl
  have es4_5 : s4 96 1 = s0 96 1 := (Gs4 96 1 rfl).trans rfl
  have es4_6 : s4 96 2 = s0 96 2 := (Gs4 96 2 rfl).trans rfl
  have es4_7 : s4 96 3 = s0 96 3 := (Gs4 96 3 rfl).trans rfl
  have es4_8 : s4 111 0 = s0 111 0 := (Gs4 111 0 rfl).trans rfl
  have es4_9 : s4 111 1 = s0 111 1 := (Gs4 111 1 rfl).trans rfl
  have es4_10 : s4 111 2 = s0 111 2 := (Gs4 111 2 rfl).trans rfl
  have es4_11 : s4 111 3 = s0 111 3 := (Gs4 111 3 rfl).trans rfl
  have es4_12 : s4 112 0 = s0 112 0 := (Gs4 112 0 rfl).trans rfl
  have es4_13 : s4 112 1 = s0 112 1 := (Gs4 112 1 rfl).trans rfl
  have es4_14 : s4 112 2 = s0 112 2 := (Gs4 112 2 rfl).trans rfl
  have es4_15 : s4 112 3 = s0 112 3 := (Gs4 112 3 rfl).trans rfl
  refine h_pop (pc' := 1131) rfl rfl rfl ?_
  refine h_aload_n (pc' := 1132) rfl rfl rfl ?_
  refine h_aload_n (pc' := 1133) rfl rfl rfl ?_
  refine h_iload_n (pc' := 1134) rfl rfl rfl ?_
  refine h_iconst (pc' := 1135) (x := (Int32.ofInt 1)) rfl rfl rfl ?_
  refine h_iadd (pc' := 1136) rfl rfl hy3 ci_1 rfl (by omega) (by omega) (fun z5 hz5 => ?_)
  refine h_iald (pc' := 1137) (v := s0 0 (b3 + 1)) rfl rfl rfl hz5 (by omega) (by omega) (Zs4 _) (fun z6 hz6 => ?_)
  have tz6 := h_rgv hz6
  refine h_call (sp := false) (pc' := 1140) (M := [(0, .ref 98), (1, .int z6)]) rfl rfl rfl rfl rfl rfl rfl rfl ?_
  refine w_214_98 _ Is4 z6 _ hz6 (fun r7 br7 hr7 s8 Is8 Gs8 => h_Kv ?_)
  have Zs8 : ∀ i, s8 0 i = s0 0 i := fun i => (Gs8 0 i rfl).trans (Zs4 i)
  have es8_0 : s8 95 0 = s0 95 0 := (Gs8 95 0 rfl).trans es4_0
  have es8_1 : s8 95 1 = s0 95 1 := (Gs8 95 1 rfl).trans es4_1
  have es8_2 : s8 95 2 = s0 95 2 := (Gs8 95 2 rfl).trans es4_2
  have es8_3 : s8 95 3 = s0 95 3 := (Gs8 95 3 rfl).trans es4_3
  have es8_4 : s8 96 0 = s0 96 0 := (Gs8 96 0 rfl).trans es4_4
  have es8_5 : s8 96 1 = s0 96 1 := (Gs8 96 1 rfl).trans es4_5
  have es8_6 : s8 96 2 = s0 96 2 := (Gs8 96 2 rfl).trans es4_6
  have es8_7 : s8 96 3 = s0 96 3 := (Gs8 96 3 rfl).trans es4_7
  have es8_8 : s8 111 0 = s0 111 0 := (Gs8 111 0 rfl).trans es4_8
  have es8_9 : s8 111 1 = s0 111 1 := (Gs8 111 1 rfl).trans es4_9
  have es8_10 : s8 111 2 = s0 111 2 := (Gs8 111 2 rfl).trans es4_10
  have es8_11 : s8 111 3 = s0 111 3 := (Gs8 111 3 rfl).trans es4_11
  have es8_12 : s8 112 0 = s0 112 0 := (Gs8 112 0 rfl).trans es4_12
  have es8_13 : s8 112 1 = s0 112 1 := (Gs8 112 1 rfl).trans es4_13
  have es8_14 : s8 112 2 = s0 112 2 := (Gs8 112 2 rfl).trans es4_14
  have es8_15 : s8 112 3 = s0 112 3 := (Gs8 112 3 rfl).trans es4_15
  clear es4_0 es4_1 es4_10 es4_11 es4_12 es4_13 es4_14 es4_15 es4_2 es4_3 es4_4 es4_5 es4_6 es4_7 es4_8 es4_9
  refine h_pop (pc' := 1141) rfl rfl rfl ?_
  refine h_goto (pc' := 1441) rfl rfl ?_
  exact kk _ Is8 (by first | exact h_jf j0 (by omega) (by omega) (by omega) | exact Or.inr ⟨by omega, by omega, by omega⟩) (by first | exact h_jf j1 (by omega) (by omega) (by omega) | exact Or.inr ⟨by omega, by omega, by omega⟩) (by first | exact h_jf j2 (by omega) (by omega) (by omega) | exact Or.inr ⟨by omega, by omega, by omega⟩) (by first | exact h_jf j3 (by omega) (by omega) (by omega) | exact Or.inr ⟨by omega, by omega, by omega⟩)
theorem g_case_1144 {ns : Nat} (hns : ns ≤ 320) (s0 : h_S) (I0 : h_I s0) (j0 : h_js (s0 96 0) (s0 111 0) (s0 112 0)) (j1 : h_js (s0 96 1) (s0 111 1) (s0 112 1)) (j2 : h_js (s0 96 2) (s0 111 2) (s0 112 2)) (j3 : h_js (s0 96 3) (s0 111 3) (s0 112 3)) (y3 : Int32) (b3 : Int) (hy3 : y3.toInt = b3) (hr : 0 ≤ b3 ∧ b3 + 5 ≤ ns) {Q : Option Value → h_S → Prop} (kk : ∀ τ, h_I τ → h_js (τ 96 0) (τ 111 0) (τ 112 0) → h_js (τ 96 1) (τ 111 1) (τ 112 1) → h_js (τ 96 2) (τ 111 2) (τ 112 2) → h_js (τ 96 3) (τ 111 3) (τ 112 3) → h_T g_P (g_Y ns) 225 1441 [(0, .ref 0), (1, .ref 9), (2, .ref 98), (3, .int y3)] [] τ Q) : h_T g_P (g_Y ns) 225 1144 [(0, .ref 0), (1, .ref 9), (2, .ref 98), (3, .int y3)] [] s0 Q := by
  refine h_aload_n (pc' := 1145) rfl rfl rfl ?_
  refine h_aload_n (pc' := 1146) rfl rfl rfl ?_
  refine h_iload_n (pc' := 1147) rfl rfl rfl ?_
  refine h_iconst (pc' := 1148) (x := (Int32.ofInt 1)) rfl rfl rfl ?_
  refine h_iadd (pc' := 1149) rfl rfl hy3 ci_1 rfl (by omega) (by omega) (fun z1 hz1 => ?_)
  refine h_iald (pc' := 1150) (v := s0 0 (b3 + 1)) rfl rfl rfl hz1 (by omega) (by omega) rfl (fun z2 hz2 => ?_)
  have tz2 := h_rgv hz2
  refine h_aload_n (pc' := 1151) rfl rfl rfl ?_
  refine h_iload_n (pc' := 1152) rfl rfl rfl ?_
  refine h_iconst (pc' := 1153) (x := (Int32.ofInt 2)) rfl rfl rfl ?_
  refine h_iadd (pc' := 1154) rfl rfl hy3 ci_2 rfl (by omega) (by omega) (fun z3 hz3 => ?_)
  refine h_iald (pc' := 1155) (v := s0 0 (b3 + 2)) rfl rfl rfl hz3 (by omega) (by omega) rfl (fun z4 hz4 => ?_)
  have tz4 := h_rgv hz4
  refine h_call (sp := false) (pc' := 1158) (M := [(0, .ref 9), (1, .int z2), (2, .int z4)]) rfl rfl rfl rfl rfl rfl rfl rfl ?_
  refine w_114_9 _ I0 z2 _ hz2 z4 _ hz4 (fun r5 br5 hr5 s6 Is6 Gs6 tr5 => h_Kv ?_)
  have Zs6 : ∀ i, s6 0 i = s0 0 i := fun i => (Gs6 0 i rfl).trans rfl
  have es6_0 : s6 95 0 = s0 95 0 := (Gs6 95 0 rfl).trans rfl
  have es6_1 : s6 95 1 = s0 95 1 := (Gs6 95 1 rfl).trans rfl
  have es6_2 : s6 95 2 = s0 95 2 := (Gs6 95 2 rfl).trans rfl
  have es6_3 : s6 95 3 = s0 95 3 := (Gs6 95 3 rfl).trans rfl
  have es6_4 : s6 96 0 = s0 96 0 := (Gs6 96 0 rfl).trans rfl
  have es6_5 : s6 96 1 = s0 96 1 := (Gs6 96 1 rfl).trans rfl
  have es6_6 : s6 96 2 = s0 96 2 := (Gs6 96 2 rfl).trans rfl
  have es6_7 : s6 96 3 = s0 96 3 := (Gs6 96 3 rfl).trans rfl
  have es6_8 : s6 111 0 = s0 111 0 := (Gs6 111 0 rfl).trans rfl
  have es6_9 : s6 111 1 = s0 111 1 := (Gs6 111 1 rfl).trans rfl
  have es6_10 : s6 111 2 = s0 111 2 := (Gs6 111 2 rfl).trans rfl
  have es6_11 : s6 111 3 = s0 111 3 := (Gs6 111 3 rfl).trans rfl
  have es6_12 : s6 112 0 = s0 112 0 := (Gs6 112 0 rfl).trans rfl
  have es6_13 : s6 112 1 = s0 112 1 := (Gs6 112 1 rfl).trans rfl
  have es6_14 : s6 112 2 = s0 112 2 := (Gs6 112 2 rfl).trans rfl
  have es6_15 : s6 112 3 = s0 112 3 := (Gs6 112 3 rfl).trans rfl
  refine h_pop (pc' := 1159) rfl rfl rfl ?_
  refine h_aload_n (pc' := 1160) rfl rfl rfl ?_
  refine h_aload_n (pc' := 1161) rfl rfl rfl ?_
  refine h_iload_n (pc' := 1162) rfl rfl rfl ?_
  refine h_iconst (pc' := 1163) (x := (Int32.ofInt 1)) rfl rfl rfl ?_
  refine h_iadd (pc' := 1164) rfl rfl hy3 ci_1 rfl (by omega) (by omega) (fun z7 hz7 => ?_)
  refine h_iald (pc' := 1165) (v := s0 0 (b3 + 1)) rfl rfl rfl hz7 (by omega) (by omega) (Zs6 _) (fun z8 hz8 => ?_)
  have tz8 := h_rgv hz8
  refine h_aload_n (pc' := 1166) rfl rfl rfl ?_
  refine h_iload_n (pc' := 1167) rfl rfl rfl ?_
  refine h_iconst (pc' := 1168) (x := (Int32.ofInt 2)) rfl rfl rfl ?_
  refine h_iadd (pc' := 1169) rfl rfl hy3 ci_2 rfl (by omega) (by omega) (fun z9 hz9 => ?_)
  refine h_iald (pc' := 1170) (v := s0 0 (b3 + 2)) rfl rfl rfl hz9 (by omega) (by omega) (Zs6 _) (fun z10 hz10 => ?_)
  have tz10 := h_rgv hz10
  refine h_call (sp := false) (pc' := 1173) (M := [(0, .ref 98), (1, .int z8), (2, .int z10)]) rfl rfl rfl rfl rfl rfl rfl rfl ?_
  refine w_215_98 _ Is6 z8 _ hz8 z10 _ hz10 (fun r11 br11 hr11 s12 Is12 Gs12 => h_Kv ?_)
  have Zs12 : ∀ i, s12 0 i = s0 0 i := fun i => (Gs12 0 i rfl).trans (Zs6 i)
  have es12_0 : s12 95 0 = s0 95 0 := (Gs12 95 0 rfl).trans es6_0
  have es12_1 : s12 95 1 = s0 95 1 := (Gs12 95 1 rfl).trans es6_1
  have es12_2 : s12 95 2 = s0 95 2 := (Gs12 95 2 rfl).trans es6_2
  have es12_3 : s12 95 3 = s0 95 3 := (Gs12 95 3 rfl).trans es6_3
  have es12_4 : s12 96 0 = s0 96 0 := (Gs12 96 0 rfl).trans es6_4
  have es12_5 : s12 96 1 = s0 96 1 := (Gs12 96 1 rfl).trans es6_5
  have es12_6 : s12 96 2 = s0 96 2 := (Gs12 96 2 rfl).trans es6_6
  have es12_7 : s12 96 3 = s0 96 3 := (Gs12 96 3 rfl).trans es6_7
  have es12_8 : s12 111 0 = s0 111 0 := (Gs12 111 0 rfl).trans es6_8
  have es12_9 : s12 111 1 = s0 111 1 := (Gs12 111 1 rfl).trans es6_9
  have es12_10 : s12 111 2 = s0 111 2 := (Gs12 111 2 rfl).trans es6_10
  have es12_11 : s12 111 3 = s0 111 3 := (Gs12 111 3 rfl).trans es6_11
  have es12_12 : s12 112 0 = s0 112 0 := (Gs12 112 0 rfl).trans es6_12
  have es12_13 : s12 112 1 = s0 112 1 := (Gs12 112 1 rfl).trans es6_13
  have es12_14 : s12 112 2 = s0 112 2 := (Gs12 112 2 rfl).trans es6_14
  have es12_15 : s12 112 3 = s0 112 3 := (Gs12 112 3 rfl).trans es6_15
  clear es6_0 es6_1 es6_10 es6_11 es6_12 es6_13 es6_14 es6_15 es6_2 es6_3 es6_4 es6_5 es6_6 es6_7 es6_8 es6_9
  refine h_pop (pc' := 1174) rfl rfl rfl ?_
  refine h_goto (pc' := 1441) rfl rfl ?_
  exact kk _ Is12 (by first | exact h_jf j0 (by omega) (by omega) (by omega) | exact Or.inr ⟨by omega, by omega, by omega⟩) (by first | exact h_jf j1 (by omega) (by omega) (by omega) | exact Or.inr ⟨by omega, by omega, by omega⟩) (by first | exact h_jf j2 (by omega) (by omega) (by omega) | exact Or.inr ⟨by omega, by omega, by omega⟩) (by first | exact h_jf j3 (by omega) (by omega) (by omega) | exact Or.inr ⟨by omega, by omega, by omega⟩)
theorem g_case_1177 {ns : Nat} (hns : ns ≤ 320) (s0 : h_S) (I0 : h_I s0) (j0 : h_js (s0 96 0) (s0 111 0) (s0 112 0)) (j1 : h_js (s0 96 1) (s0 111 1) (s0 112 1)) (j2 : h_js (s0 96 2) (s0 111 2) (s0 112 2)) (j3 : h_js (s0 96 3) (s0 111 3) (s0 112 3)) (y3 : Int32) (b3 : Int) (hy3 : y3.toInt = b3) (hr : 0 ≤ b3 ∧ b3 + 5 ≤ ns) {Q : Option Value → h_S → Prop} (kk : ∀ τ, h_I τ → h_js (τ 96 0) (τ 111 0) (τ 112 0) → h_js (τ 96 1) (τ 111 1) (τ 112 1) → h_js (τ 96 2) (τ 111 2) (τ 112 2) → h_js (τ 96 3) (τ 111 3) (τ 112 3) → h_T g_P (g_Y ns) 225 1441 [(0, .ref 0), (1, .ref 9), (2, .ref 98), (3, .int y3)] [] τ Q) : h_T g_P (g_Y ns) 225 1177 [(0, .ref 0), (1, .ref 9), (2, .ref 98), (3, .int y3)] [] s0 Q := by
  refine h_aload_n (pc' := 1178) rfl rfl rfl ?_
  refine h_aload_n (pc' := 1179) rfl rfl rfl ?_
  refine h_iload_n (pc' := 1180) rfl rfl rfl ?_
  refine h_iconst (pc' := 1181) (x := (Int32.ofInt 1)) rfl rfl rfl ?_
  refine h_iadd (pc' := 1182) rfl rfl hy3 ci_1 rfl (by omega) (by omega) (fun z1 hz1 => ?_)
  refine h_iald (pc' := 1183) (v := s0 0 (b3 + 1)) rfl rfl rfl hz1 (by omega) (by omega) rfl (fun z2 hz2 => ?_)
  have tz2 := h_rgv hz2
  refine h_aload_n (pc' := 1184) rfl rfl rfl ?_
  refine h_iload_n (pc' := 1185) rfl rfl rfl ?_
  refine h_iconst (pc' := 1186) (x := (Int32.ofInt 2)) rfl rfl rfl ?_
  refine h_iadd (pc' := 1187) rfl rfl hy3 ci_2 rfl (by omega) (by omega) (fun z3 hz3 => ?_)
  refine h_iald (pc' := 1188) (v := s0 0 (b3 + 2)) rfl rfl rfl hz3 (by omega) (by omega) rfl (fun z4 hz4 => ?_)
  have tz4 := h_rgv hz4
  refine h_aload_n (pc' := 1189) rfl rfl rfl ?_
  refine h_iload_n (pc' := 1190) rfl rfl rfl ?_
  refine h_iconst (pc' := 1191) (x := (Int32.ofInt 3)) rfl rfl rfl ?_
  refine h_iadd (pc' := 1192) rfl rfl hy3 ci_3 rfl (by omega) (by omega) (fun z5 hz5 => ?_)
  refine h_iald (pc' := 1193) (v := s0 0 (b3 + 3)) rfl rfl rfl hz5 (by omega) (by omega) rfl (fun z6 hz6 => ?_)
  have tz6 := h_rgv hz6
  refine h_call (sp := false) (pc' := 1196) (M := [(0, .ref 9), (1, .int z2), (2, .int z4), (3, .int z6)]) rfl rfl rfl rfl rfl rfl rfl rfl ?_
  refine w_115_9 _ I0 z2 _ hz2 z4 _ hz4 z6 _ hz6 (fun r7 br7 hr7 s8 Is8 Gs8 => h_Kv ?_)
  have Zs8 : ∀ i, s8 0 i = s0 0 i := fun i => (Gs8 0 i rfl).trans rfl
  have es8_0 : s8 95 0 = s0 95 0 := (Gs8 95 0 rfl).trans rfl
  have es8_1 : s8 95 1 = s0 95 1 := (Gs8 95 1 rfl).trans rfl
  have es8_2 : s8 95 2 = s0 95 2 := (Gs8 95 2 rfl).trans rfl
  have es8_3 : s8 95 3 = s0 95 3 := (Gs8 95 3 rfl).trans rfl
  have es8_4 : s8 96 0 = s0 96 0 := (Gs8 96 0 rfl).trans rfl
  have es8_5 : s8 96 1 = s0 96 1 := (Gs8 96 1 rfl).trans rfl
  have es8_6 : s8 96 2 = s0 96 2 := (Gs8 96 2 rfl).trans rfl
  have es8_7 : s8 96 3 = s0 96 3 := (Gs8 96 3 rfl).trans rfl
  have es8_8 : s8 111 0 = s0 111 0 := (Gs8 111 0 rfl).trans rfl
  have es8_9 : s8 111 1 = s0 111 1 := (Gs8 111 1 rfl).trans rfl
  have es8_10 : s8 111 2 = s0 111 2 := (Gs8 111 2 rfl).trans rfl
  have es8_11 : s8 111 3 = s0 111 3 := (Gs8 111 3 rfl).trans rfl
  have es8_12 : s8 112 0 = s0 112 0 := (Gs8 112 0 rfl).trans rfl
  have es8_13 : s8 112 1 = s0 112 1 := (Gs8 112 1 rfl).trans rfl
  have es8_14 : s8 112 2 = s0 112 2 := (Gs8 112 2 rfl).trans rfl
  have es8_15 : s8 112 3 = s0 112 3 := (Gs8 112 3 rfl).trans rfl
  refine h_pop (pc' := 1197) rfl rfl rfl ?_
  refine h_aload_n (pc' := 1198) rfl rfl rfl ?_
  refine h_aload_n (pc' := 1199) rfl rfl rfl ?_
  refine h_iload_n (pc' := 1200) rfl rfl rfl ?_
  refine h_iconst (pc' := 1201) (x := (Int32.ofInt 1)) rfl rfl rfl ?_
  refine h_iadd (pc' := 1202) rfl rfl hy3 ci_1 rfl (by omega) (by omega) (fun z9 hz9 => ?_)
  refine h_iald (pc' := 1203) (v := s0 0 (b3 + 1)) rfl rfl rfl hz9 (by omega) (by omega) (Zs8 _) (fun z10 hz10 => ?_)
  have tz10 := h_rgv hz10
  refine h_aload_n (pc' := 1204) rfl rfl rfl ?_
  refine h_iload_n (pc' := 1205) rfl rfl rfl ?_
  refine h_iconst (pc' := 1206) (x := (Int32.ofInt 2)) rfl rfl rfl ?_
  refine h_iadd (pc' := 1207) rfl rfl hy3 ci_2 rfl (by omega) (by omega) (fun z11 hz11 => ?_)
  refine h_iald (pc' := 1208) (v := s0 0 (b3 + 2)) rfl rfl rfl hz11 (by omega) (by omega) (Zs8 _) (fun z12 hz12 => ?_)
  have tz12 := h_rgv hz12
  refine h_aload_n (pc' := 1209) rfl rfl rfl ?_
  refine h_iload_n (pc' := 1210) rfl rfl rfl ?_
  refine h_iconst (pc' := 1211) (x := (Int32.ofInt 3)) rfl rfl rfl ?_
  refine h_iadd (pc' := 1212) rfl rfl hy3 ci_3 rfl (by omega) (by omega) (fun z13 hz13 => ?_)
  refine h_iald (pc' := 1213) (v := s0 0 (b3 + 3)) rfl rfl rfl hz13 (by omega) (by omega) (Zs8 _) (fun z14 hz14 => ?_)
  have tz14 := h_rgv hz14
  refine h_call (sp := false) (pc' := 1216) (M := [(0, .ref 98), (1, .int z10), (2, .int z12), (3, .int z14)]) rfl rfl rfl rfl rfl rfl rfl rfl ?_
  refine w_217_98 _ Is8 z10 _ hz10 z12 _ hz12 z14 _ hz14 (fun r15 br15 hr15 s16 Is16 Gs16 => h_Kv ?_)
  have Zs16 : ∀ i, s16 0 i = s0 0 i := fun i => (Gs16 0 i rfl).trans (Zs8 i)
  have es16_0 : s16 95 0 = s0 95 0 := (Gs16 95 0 rfl).trans es8_0
  have es16_1 : s16 95 1 = s0 95 1 := (Gs16 95 1 rfl).trans es8_1
  have es16_2 : s16 95 2 = s0 95 2 := (Gs16 95 2 rfl).trans es8_2
  have es16_3 : s16 95 3 = s0 95 3 := (Gs16 95 3 rfl).trans es8_3
  have es16_4 : s16 96 0 = s0 96 0 := (Gs16 96 0 rfl).trans es8_4
  have es16_5 : s16 96 1 = s0 96 1 := (Gs16 96 1 rfl).trans es8_5
  have es16_6 : s16 96 2 = s0 96 2 := (Gs16 96 2 rfl).trans es8_6
  have es16_7 : s16 96 3 = s0 96 3 := (Gs16 96 3 rfl).trans es8_7
  have es16_8 : s16 111 0 = s0 111 0 := (Gs16 111 0 rfl).trans es8_8
  have es16_9 : s16 111 1 = s0 111 1 := (Gs16 111 1 rfl).trans es8_9
  have es16_10 : s16 111 2 = s0 111 2 := (Gs16 111 2 rfl).trans es8_10
  have es16_11 : s16 111 3 = s0 111 3 := (Gs16 111 3 rfl).trans es8_11
  have es16_12 : s16 112 0 = s0 112 0 := (Gs16 112 0 rfl).trans es8_12
  have es16_13 : s16 112 1 = s0 112 1 := (Gs16 112 1 rfl).trans es8_13
  have es16_14 : s16 112 2 = s0 112 2 := (Gs16 112 2 rfl).trans es8_14
  have es16_15 : s16 112 3 = s0 112 3 := (Gs16 112 3 rfl).trans es8_15
  clear es8_0 es8_1 es8_10 es8_11 es8_12 es8_13 es8_14 es8_15 es8_2 es8_3 es8_4 es8_5 es8_6 es8_7 es8_8 es8_9
  refine h_pop (pc' := 1217) rfl rfl rfl ?_
  refine h_goto (pc' := 1441) rfl rfl ?_
  exact kk _ Is16 (by first | exact h_jf j0 (by omega) (by omega) (by omega) | exact Or.inr ⟨by omega, by omega, by omega⟩) (by first | exact h_jf j1 (by omega) (by omega) (by omega) | exact Or.inr ⟨by omega, by omega, by omega⟩) (by first | exact h_jf j2 (by omega) (by omega) (by omega) | exact Or.inr ⟨by omega, by omega, by omega⟩) (by first | exact h_jf j3 (by omega) (by omega) (by omega) | exact Or.inr ⟨by omega, by omega, by omega⟩)
theorem g_case_1220 {ns : Nat} (hns : ns ≤ 320) (s0 : h_S) (I0 : h_I s0) (j0 : h_js (s0 96 0) (s0 111 0) (s0 112 0)) (j1 : h_js (s0 96 1) (s0 111 1) (s0 112 1)) (j2 : h_js (s0 96 2) (s0 111 2) (s0 112 2)) (j3 : h_js (s0 96 3) (s0 111 3) (s0 112 3)) (y3 : Int32) (b3 : Int) (hy3 : y3.toInt = b3) (hr : 0 ≤ b3 ∧ b3 + 5 ≤ ns) {Q : Option Value → h_S → Prop} (kk : ∀ τ, h_I τ → h_js (τ 96 0) (τ 111 0) (τ 112 0) → h_js (τ 96 1) (τ 111 1) (τ 112 1) → h_js (τ 96 2) (τ 111 2) (τ 112 2) → h_js (τ 96 3) (τ 111 3) (τ 112 3) → h_T g_P (g_Y ns) 225 1441 [(0, .ref 0), (1, .ref 9), (2, .ref 98), (3, .int y3)] [] τ Q) : h_T g_P (g_Y ns) 225 1220 [(0, .ref 0), (1, .ref 9), (2, .ref 98), (3, .int y3)] [] s0 Q := by
  refine h_aload_n (pc' := 1221) rfl rfl rfl ?_
  refine h_aload_n (pc' := 1222) rfl rfl rfl ?_
  refine h_iload_n (pc' := 1223) rfl rfl rfl ?_
  refine h_iconst (pc' := 1224) (x := (Int32.ofInt 1)) rfl rfl rfl ?_
  refine h_iadd (pc' := 1225) rfl rfl hy3 ci_1 rfl (by omega) (by omega) (fun z1 hz1 => ?_)
  refine h_iald (pc' := 1226) (v := s0 0 (b3 + 1)) rfl rfl rfl hz1 (by omega) (by omega) rfl (fun z2 hz2 => ?_)
  have tz2 := h_rgv hz2
  refine h_call (sp := false) (pc' := 1229) (M := [(0, .ref 9), (1, .int z2)]) rfl rfl rfl rfl rfl rfl rfl rfl ?_
  refine w_116_9 _ I0 z2 _ hz2 (fun r3 br3 hr3 s4 Is4 Gs4 tr3 => h_Kv ?_)
  have Zs4 : ∀ i, s4 0 i = s0 0 i := fun i => (Gs4 0 i rfl).trans rfl
  have es4_0 : s4 95 0 = s0 95 0 := (Gs4 95 0 rfl).trans rfl
  have es4_1 : s4 95 1 = s0 95 1 := (Gs4 95 1 rfl).trans rfl
  have es4_2 : s4 95 2 = s0 95 2 := (Gs4 95 2 rfl).trans rfl
  have es4_3 : s4 95 3 = s0 95 3 := (Gs4 95 3 rfl).trans rfl
  have es4_4 : s4 96 0 = s0 96 0 := (Gs4 96 0 rfl).trans rfl
  have es4_5 : s4 96 1 = s0 96 1 := (Gs4 96 1 rfl).trans rfl
  have es4_6 : s4 96 2 = s0 96 2 := (Gs4 96 2 rfl).trans rfl
  have es4_7 : s4 96 3 = s0 96 3 := (Gs4 96 3 rfl).trans rfl
  have es4_8 : s4 111 0 = s0 111 0 := (Gs4 111 0 rfl).trans rfl
  have es4_9 : s4 111 1 = s0 111 1 := (Gs4 111 1 rfl).trans rfl
  have es4_10 : s4 111 2 = s0 111 2 := (Gs4 111 2 rfl).trans rfl
  have es4_11 : s4 111 3 = s0 111 3 := (Gs4 111 3 rfl).trans rfl
  have es4_12 : s4 112 0 = s0 112 0 := (Gs4 112 0 rfl).trans rfl
  have es4_13 : s4 112 1 = s0 112 1 := (Gs4 112 1 rfl).trans rfl
  have es4_14 : s4 112 2 = s0 112 2 := (Gs4 112 2 rfl).trans rfl
  have es4_15 : s4 112 3 = s0 112 3 := (Gs4 112 3 rfl).trans rfl
  refine h_pop (pc' := 1230) rfl rfl rfl ?_
  refine h_aload_n (pc' := 1231) rfl rfl rfl ?_
  refine h_aload_n (pc' := 1232) rfl rfl rfl ?_
  refine h_iload_n (pc' := 1233) rfl rfl rfl ?_
  refine h_iconst (pc' := 1234) (x := (Int32.ofInt 1)) rfl rfl rfl ?_
  refine h_iadd (pc' := 1235) rfl rfl hy3 ci_1 rfl (by omega) (by omega) (fun z5 hz5 => ?_)
  refine h_iald (pc' := 1236) (v := s0 0 (b3 + 1)) rfl rfl rfl hz5 (by omega) (by omega) (Zs4 _) (fun z6 hz6 => ?_)
  have tz6 := h_rgv hz6
  refine h_call (sp := false) (pc' := 1239) (M := [(0, .ref 98), (1, .int z6)]) rfl rfl rfl rfl rfl rfl rfl rfl ?_
  refine w_218_98 _ Is4 z6 _ hz6 (fun r7 br7 hr7 s8 Is8 Gs8 tr7 => h_Kv ?_)
  have Zs8 : ∀ i, s8 0 i = s0 0 i := fun i => (Gs8 0 i rfl).trans (Zs4 i)
  have es8_0 : s8 95 0 = s0 95 0 := (Gs8 95 0 rfl).trans es4_0
  have es8_1 : s8 95 1 = s0 95 1 := (Gs8 95 1 rfl).trans es4_1
  have es8_2 : s8 95 2 = s0 95 2 := (Gs8 95 2 rfl).trans es4_2
  have es8_3 : s8 95 3 = s0 95 3 := (Gs8 95 3 rfl).trans es4_3
  have es8_4 : s8 96 0 = s0 96 0 := (Gs8 96 0 rfl).trans es4_4
  have es8_5 : s8 96 1 = s0 96 1 := (Gs8 96 1 rfl).trans es4_5
  have es8_6 : s8 96 2 = s0 96 2 := (Gs8 96 2 rfl).trans es4_6
  have es8_7 : s8 96 3 = s0 96 3 := (Gs8 96 3 rfl).trans es4_7
  have es8_8 : s8 111 0 = s0 111 0 := (Gs8 111 0 rfl).trans es4_8
  have es8_9 : s8 111 1 = s0 111 1 := (Gs8 111 1 rfl).trans es4_9
  have es8_10 : s8 111 2 = s0 111 2 := (Gs8 111 2 rfl).trans es4_10
  have es8_11 : s8 111 3 = s0 111 3 := (Gs8 111 3 rfl).trans es4_11
  have es8_12 : s8 112 0 = s0 112 0 := (Gs8 112 0 rfl).trans es4_12
  have es8_13 : s8 112 1 = s0 112 1 := (Gs8 112 1 rfl).trans es4_13
  have es8_14 : s8 112 2 = s0 112 2 := (Gs8 112 2 rfl).trans es4_14
  have es8_15 : s8 112 3 = s0 112 3 := (Gs8 112 3 rfl).trans es4_15
  clear es4_0 es4_1 es4_10 es4_11 es4_12 es4_13 es4_14 es4_15 es4_2 es4_3 es4_4 es4_5 es4_6 es4_7 es4_8 es4_9
  refine h_pop (pc' := 1240) rfl rfl rfl ?_
  refine h_goto (pc' := 1441) rfl rfl ?_
  exact kk _ Is8 (by first | exact h_jf j0 (by omega) (by omega) (by omega) | exact Or.inr ⟨by omega, by omega, by omega⟩) (by first | exact h_jf j1 (by omega) (by omega) (by omega) | exact Or.inr ⟨by omega, by omega, by omega⟩) (by first | exact h_jf j2 (by omega) (by omega) (by omega) | exact Or.inr ⟨by omega, by omega, by omega⟩) (by first | exact h_jf j3 (by omega) (by omega) (by omega) | exact Or.inr ⟨by omega, by omega, by omega⟩)
theorem g_case_1243 {ns : Nat} (hns : ns ≤ 320) (s0 : h_S) (I0 : h_I s0) (j0 : h_js (s0 96 0) (s0 111 0) (s0 112 0)) (j1 : h_js (s0 96 1) (s0 111 1) (s0 112 1)) (j2 : h_js (s0 96 2) (s0 111 2) (s0 112 2)) (j3 : h_js (s0 96 3) (s0 111 3) (s0 112 3)) (y3 : Int32) (b3 : Int) (hy3 : y3.toInt = b3) (hr : 0 ≤ b3 ∧ b3 + 5 ≤ ns) {Q : Option Value → h_S → Prop} (kk : ∀ τ, h_I τ → h_js (τ 96 0) (τ 111 0) (τ 112 0) → h_js (τ 96 1) (τ 111 1) (τ 112 1) → h_js (τ 96 2) (τ 111 2) (τ 112 2) → h_js (τ 96 3) (τ 111 3) (τ 112 3) → h_T g_P (g_Y ns) 225 1441 [(0, .ref 0), (1, .ref 9), (2, .ref 98), (3, .int y3)] [] τ Q) : h_T g_P (g_Y ns) 225 1243 [(0, .ref 0), (1, .ref 9), (2, .ref 98), (3, .int y3)] [] s0 Q := by
  refine h_aload_n (pc' := 1244) rfl rfl rfl ?_
  refine h_aload_n (pc' := 1245) rfl rfl rfl ?_
  refine h_iload_n (pc' := 1246) rfl rfl rfl ?_
  refine h_iconst (pc' := 1247) (x := (Int32.ofInt 1)) rfl rfl rfl ?_
  refine h_iadd (pc' := 1248) rfl rfl hy3 ci_1 rfl (by omega) (by omega) (fun z1 hz1 => ?_)
  refine h_iald (pc' := 1249) (v := s0 0 (b3 + 1)) rfl rfl rfl hz1 (by omega) (by omega) rfl (fun z2 hz2 => ?_)
  have tz2 := h_rgv hz2
  refine h_call (sp := false) (pc' := 1252) (M := [(0, .ref 9), (1, .int z2)]) rfl rfl rfl rfl rfl rfl rfl rfl ?_
  refine w_117_9 _ I0 z2 _ hz2 (fun r3 br3 hr3 s4 Is4 Gs4 => h_Kv ?_)
  have Zs4 : ∀ i, s4 0 i = s0 0 i := fun i => (Gs4 0 i rfl).trans rfl
  have es4_0 : s4 95 0 = s0 95 0 := (Gs4 95 0 rfl).trans rfl
  have es4_1 : s4 95 1 = s0 95 1 := (Gs4 95 1 rfl).trans rfl
  have es4_2 : s4 95 2 = s0 95 2 := (Gs4 95 2 rfl).trans rfl
  have es4_3 : s4 95 3 = s0 95 3 := (Gs4 95 3 rfl).trans rfl
  have es4_4 : s4 96 0 = s0 96 0 := (Gs4 96 0 rfl).trans rfl
  have es4_5 : s4 96 1 = s0 96 1 := (Gs4 96 1 rfl).trans rfl
  have es4_6 : s4 96 2 = s0 96 2 := (Gs4 96 2 rfl).trans rfl
  have es4_7 : s4 96 3 = s0 96 3 := (Gs4 96 3 rfl).trans rfl
  have es4_8 : s4 111 0 = s0 111 0 := (Gs4 111 0 rfl).trans rfl
  have es4_9 : s4 111 1 = s0 111 1 := (Gs4 111 1 rfl).trans rfl
  have es4_10 : s4 111 2 = s0 111 2 := (Gs4 111 2 rfl).trans rfl
  have es4_11 : s4 111 3 = s0 111 3 := (Gs4 111 3 rfl).trans rfl
  have es4_12 : s4 112 0 = s0 112 0 := (Gs4 112 0 rfl).trans rfl
  have es4_13 : s4 112 1 = s0 112 1 := (Gs4 112 1 rfl).trans rfl
  have es4_14 : s4 112 2 = s0 112 2 := (Gs4 112 2 rfl).trans rfl
  have es4_15 : s4 112 3 = s0 112 3 := (Gs4 112 3 rfl).trans rfl
  refine h_pop (pc' := 1253) rfl rfl rfl ?_
  refine h_aload_n (pc' := 1254) rfl rfl rfl ?_
  refine h_aload_n (pc' := 1255) rfl rfl rfl ?_
  refine h_iload_n (pc' := 1256) rfl rfl rfl ?_
  refine h_iconst (pc' := 1257) (x := (Int32.ofInt 1)) rfl rfl rfl ?_
  refine h_iadd (pc' := 1258) rfl rfl hy3 ci_1 rfl (by omega) (by omega) (fun z5 hz5 => ?_)
  refine h_iald (pc' := 1259) (v := s0 0 (b3 + 1)) rfl rfl rfl hz5 (by omega) (by omega) (Zs4 _) (fun z6 hz6 => ?_)
  have tz6 := h_rgv hz6
  refine h_call (sp := false) (pc' := 1262) (M := [(0, .ref 98), (1, .int z6)]) rfl rfl rfl rfl rfl rfl rfl rfl ?_
  refine w_219_98 _ Is4 z6 _ hz6 (fun r7 br7 hr7 s8 Is8 Gs8 => h_Kv ?_)
  have Zs8 : ∀ i, s8 0 i = s0 0 i := fun i => (Gs8 0 i rfl).trans (Zs4 i)
  have es8_0 : s8 95 0 = s0 95 0 := (Gs8 95 0 rfl).trans es4_0
  have es8_1 : s8 95 1 = s0 95 1 := (Gs8 95 1 rfl).trans es4_1
  have es8_2 : s8 95 2 = s0 95 2 := (Gs8 95 2 rfl).trans es4_2
  have es8_3 : s8 95 3 = s0 95 3 := (Gs8 95 3 rfl).trans es4_3
  have es8_4 : s8 96 0 = s0 96 0 := (Gs8 96 0 rfl).trans es4_4
  have es8_5 : s8 96 1 = s0 96 1 := (Gs8 96 1 rfl).trans es4_5
  have es8_6 : s8 96 2 = s0 96 2 := (Gs8 96 2 rfl).trans es4_6
  have es8_7 : s8 96 3 = s0 96 3 := (Gs8 96 3 rfl).trans es4_7
  have es8_8 : s8 111 0 = s0 111 0 := (Gs8 111 0 rfl).trans es4_8
  have es8_9 : s8 111 1 = s0 111 1 := (Gs8 111 1 rfl).trans es4_9
  have es8_10 : s8 111 2 = s0 111 2 := (Gs8 111 2 rfl).trans es4_10
  have es8_11 : s8 111 3 = s0 111 3 := (Gs8 111 3 rfl).trans es4_11
  have es8_12 : s8 112 0 = s0 112 0 := (Gs8 112 0 rfl).trans es4_12
  have es8_13 : s8 112 1 = s0 112 1 := (Gs8 112 1 rfl).trans es4_13
  have es8_14 : s8 112 2 = s0 112 2 := (Gs8 112 2 rfl).trans es4_14
  have es8_15 : s8 112 3 = s0 112 3 := (Gs8 112 3 rfl).trans es4_15
  clear es4_0 es4_1 es4_10 es4_11 es4_12 es4_13 es4_14 es4_15 es4_2 es4_3 es4_4 es4_5 es4_6 es4_7 es4_8 es4_9
  refine h_pop (pc' := 1263) rfl rfl rfl ?_
  refine h_goto (pc' := 1441) rfl rfl ?_
  exact kk _ Is8 (by first | exact h_jf j0 (by omega) (by omega) (by omega) | exact Or.inr ⟨by omega, by omega, by omega⟩) (by first | exact h_jf j1 (by omega) (by omega) (by omega) | exact Or.inr ⟨by omega, by omega, by omega⟩) (by first | exact h_jf j2 (by omega) (by omega) (by omega) | exact Or.inr ⟨by omega, by omega, by omega⟩) (by first | exact h_jf j3 (by omega) (by omega) (by omega) | exact Or.inr ⟨by omega, by omega, by omega⟩)
theorem g_case_1266 {ns : Nat} (hns : ns ≤ 320) (s0 : h_S) (I0 : h_I s0) (j0 : h_js (s0 96 0) (s0 111 0) (s0 112 0)) (j1 : h_js (s0 96 1) (s0 111 1) (s0 112 1)) (j2 : h_js (s0 96 2) (s0 111 2) (s0 112 2)) (j3 : h_js (s0 96 3) (s0 111 3) (s0 112 3)) (y3 : Int32) (b3 : Int) (hy3 : y3.toInt = b3) (hr : 0 ≤ b3 ∧ b3 + 5 ≤ ns) {Q : Option Value → h_S → Prop} (kk : ∀ τ, h_I τ → h_js (τ 96 0) (τ 111 0) (τ 112 0) → h_js (τ 96 1) (τ 111 1) (τ 112 1) → h_js (τ 96 2) (τ 111 2) (τ 112 2) → h_js (τ 96 3) (τ 111 3) (τ 112 3) → h_T g_P (g_Y ns) 225 1441 [(0, .ref 0), (1, .ref 9), (2, .ref 98), (3, .int y3)] [] τ Q) : h_T g_P (g_Y ns) 225 1266 [(0, .ref 0), (1, .ref 9), (2, .ref 98), (3, .int y3)] [] s0 Q := by
  refine h_aload_n (pc' := 1267) rfl rfl rfl ?_
  refine h_aload_n (pc' := 1268) rfl rfl rfl ?_
  refine h_iload_n (pc' := 1269) rfl rfl rfl ?_
  refine h_iconst (pc' := 1270) (x := (Int32.ofInt 1)) rfl rfl rfl ?_
  refine h_iadd (pc' := 1271) rfl rfl hy3 ci_1 rfl (by omega) (by omega) (fun z1 hz1 => ?_)
  refine h_iald (pc' := 1272) (v := s0 0 (b3 + 1)) rfl rfl rfl hz1 (by omega) (by omega) rfl (fun z2 hz2 => ?_)
  have tz2 := h_rgv hz2
  refine h_aload_n (pc' := 1273) rfl rfl rfl ?_
  refine h_iload_n (pc' := 1274) rfl rfl rfl ?_
  refine h_iconst (pc' := 1275) (x := (Int32.ofInt 2)) rfl rfl rfl ?_
  refine h_iadd (pc' := 1276) rfl rfl hy3 ci_2 rfl (by omega) (by omega) (fun z3 hz3 => ?_)
  refine h_iald (pc' := 1277) (v := s0 0 (b3 + 2)) rfl rfl rfl hz3 (by omega) (by omega) rfl (fun z4 hz4 => ?_)
  have tz4 := h_rgv hz4
  refine h_aload_n (pc' := 1278) rfl rfl rfl ?_
  refine h_iload_n (pc' := 1279) rfl rfl rfl ?_
  refine h_iconst (pc' := 1280) (x := (Int32.ofInt 3)) rfl rfl rfl ?_
  refine h_iadd (pc' := 1281) rfl rfl hy3 ci_3 rfl (by omega) (by omega) (fun z5 hz5 => ?_)
  refine h_iald (pc' := 1282) (v := s0 0 (b3 + 3)) rfl rfl rfl hz5 (by omega) (by omega) rfl (fun z6 hz6 => ?_)
  have tz6 := h_rgv hz6
  rcases (show ((s0 0 (b3 + 1)) = 0) ∨ ((s0 0 (b3 + 1)) = 1) ∨ ((s0 0 (b3 + 1)) = 2) ∨ ((s0 0 (b3 + 1)) = 3) ∨ ((s0 0 (b3 + 1)) ≤ (-1)) ∨ (4 ≤ (s0 0 (b3 + 1))) by omega) with c7 | c7 | c7 | c7 | c7 | c7
  · have qz2 : z2 = (Int32.ofInt 0) := h_lit (show z2.toInt = 0 by omega) ci_0
    subst qz2
    refine h_call (sp := false) (pc' := 1285) (M := [(0, .ref 9), (1, .int (Int32.ofInt 0)), (2, .int z4), (3, .int z6)]) rfl rfl rfl rfl rfl rfl rfl rfl ?_
    refine u_sheetX0 _ I0  z4 _ hz4 z6 _ hz6 (fun r8 br8 hr8 s9 Is9 Gs9 tr8 pcs9 => h_Kv ?_)
    have Zs9 : ∀ i, s9 0 i = s0 0 i := fun i => (Gs9 0 i rfl).trans rfl
    rcases pcs9 with pcs9 | pcs9 | pcs9
    · refine h_pop (pc' := 1286) rfl rfl rfl ?_
      refine h_aload_n (pc' := 1287) rfl rfl rfl ?_
      refine h_aload_n (pc' := 1288) rfl rfl rfl ?_
      refine h_iload_n (pc' := 1289) rfl rfl rfl ?_
      refine h_iconst (pc' := 1290) (x := (Int32.ofInt 1)) rfl rfl rfl ?_
      refine h_iadd (pc' := 1291) rfl rfl hy3 ci_1 rfl (by omega) (by omega) (fun z10 hz10 => ?_)
      refine h_iald (pc' := 1292) (v := s0 0 (b3 + 1)) rfl rfl rfl hz10 (by omega) (by omega) (Zs9 _) (fun z11 hz11 => ?_)
      have tz11 := h_rgv hz11
      refine h_aload_n (pc' := 1293) rfl rfl rfl ?_
      refine h_iload_n (pc' := 1294) rfl rfl rfl ?_
      refine h_iconst (pc' := 1295) (x := (Int32.ofInt 2)) rfl rfl rfl ?_
      refine h_iadd (pc' := 1296) rfl rfl hy3 ci_2 rfl (by omega) (by omega) (fun z12 hz12 => ?_)
      refine h_iald (pc' := 1297) (v := s0 0 (b3 + 2)) rfl rfl rfl hz12 (by omega) (by omega) (Zs9 _) (fun z13 hz13 => ?_)
      have tz13 := h_rgv hz13
      refine h_aload_n (pc' := 1298) rfl rfl rfl ?_
      refine h_iload_n (pc' := 1299) rfl rfl rfl ?_
      refine h_iconst (pc' := 1300) (x := (Int32.ofInt 3)) rfl rfl rfl ?_
      refine h_iadd (pc' := 1301) rfl rfl hy3 ci_3 rfl (by omega) (by omega) (fun z14 hz14 => ?_)
      refine h_iald (pc' := 1302) (v := s0 0 (b3 + 3)) rfl rfl rfl hz14 (by omega) (by omega) (Zs9 _) (fun z15 hz15 => ?_)
      have tz15 := h_rgv hz15
      rcases (show ((s0 0 (b3 + 1)) = 0) ∨ ((s0 0 (b3 + 1)) = 1) ∨ ((s0 0 (b3 + 1)) = 2) ∨ ((s0 0 (b3 + 1)) = 3) ∨ ((s0 0 (b3 + 1)) ≤ (-1)) ∨ (4 ≤ (s0 0 (b3 + 1))) by omega) with c16 | c16 | c16 | c16 | c16 | c16
      · have qz11 : z11 = (Int32.ofInt 0) := h_lit (show z11.toInt = 0 by omega) ci_0
        subst qz11
        refine h_call (sp := false) (pc' := 1305) (M := [(0, .ref 98), (1, .int (Int32.ofInt 0)), (2, .int z13), (3, .int z15)]) rfl rfl rfl rfl rfl rfl rfl rfl ?_
        refine u_sheetM0 _ Is9  z13 _ hz13 z15 _ hz15 (fun r17 br17 hr17 s18 Is18 Gs18 tr17 pcs18 => h_Kv ?_)
        have Zs18 : ∀ i, s18 0 i = s0 0 i := fun i => (Gs18 0 i rfl).trans (Zs9 i)
        rcases pcs18 with pcs18 | pcs18 | pcs18
        · refine h_pop (pc' := 1306) rfl rfl rfl ?_
          refine h_goto (pc' := 1441) rfl rfl ?_
          exact kk _ Is18 (by first | exact h_jf j0 (by omega) (by omega) (by omega) | exact Or.inr ⟨by omega, by omega, by omega⟩) (by first | exact h_jf j1 (by omega) (by omega) (by omega) | exact Or.inr ⟨by omega, by omega, by omega⟩) (by first | exact h_jf j2 (by omega) (by omega) (by omega) | exact Or.inr ⟨by omega, by omega, by omega⟩) (by first | exact h_jf j3 (by omega) (by omega) (by omega) | exact Or.inr ⟨by omega, by omega, by omega⟩)
        · refine h_pop (pc' := 1306) rfl rfl rfl ?_
          refine h_goto (pc' := 1441) rfl rfl ?_
          exact kk _ Is18 (by first | exact h_jf j0 (by omega) (by omega) (by omega) | exact Or.inr ⟨by omega, by omega, by omega⟩) (by first | exact h_jf j1 (by omega) (by omega) (by omega) | exact Or.inr ⟨by omega, by omega, by omega⟩) (by first | exact h_jf j2 (by omega) (by omega) (by omega) | exact Or.inr ⟨by omega, by omega, by omega⟩) (by first | exact h_jf j3 (by omega) (by omega) (by omega) | exact Or.inr ⟨by omega, by omega, by omega⟩)
        · refine h_pop (pc' := 1306) rfl rfl rfl ?_
          refine h_goto (pc' := 1441) rfl rfl ?_
          exact kk _ Is18 (by first | exact h_jf j0 (by omega) (by omega) (by omega) | exact Or.inr ⟨by omega, by omega, by omega⟩) (by first | exact h_jf j1 (by omega) (by omega) (by omega) | exact Or.inr ⟨by omega, by omega, by omega⟩) (by first | exact h_jf j2 (by omega) (by omega) (by omega) | exact Or.inr ⟨by omega, by omega, by omega⟩) (by first | exact h_jf j3 (by omega) (by omega) (by omega) | exact Or.inr ⟨by omega, by omega, by omega⟩)
      · have qz11 : z11 = (Int32.ofInt 1) := h_lit (show z11.toInt = 1 by omega) ci_1
        subst qz11
        refine h_call (sp := false) (pc' := 1305) (M := [(0, .ref 98), (1, .int (Int32.ofInt 1)), (2, .int z13), (3, .int z15)]) rfl rfl rfl rfl rfl rfl rfl rfl ?_
        refine u_sheetM1 _ Is9  z13 _ hz13 z15 _ hz15 (fun r19 br19 hr19 s20 Is20 Gs20 tr19 pcs20 => h_Kv ?_)
        have Zs20 : ∀ i, s20 0 i = s0 0 i := fun i => (Gs20 0 i rfl).trans (Zs9 i)
        rcases pcs20 with pcs20 | pcs20 | pcs20
        · refine h_pop (pc' := 1306) rfl rfl rfl ?_
          refine h_goto (pc' := 1441) rfl rfl ?_
          exact kk _ Is20 (by first | exact h_jf j0 (by omega) (by omega) (by omega) | exact Or.inr ⟨by omega, by omega, by omega⟩) (by first | exact h_jf j1 (by omega) (by omega) (by omega) | exact Or.inr ⟨by omega, by omega, by omega⟩) (by first | exact h_jf j2 (by omega) (by omega) (by omega) | exact Or.inr ⟨by omega, by omega, by omega⟩) (by first | exact h_jf j3 (by omega) (by omega) (by omega) | exact Or.inr ⟨by omega, by omega, by omega⟩)
        · refine h_pop (pc' := 1306) rfl rfl rfl ?_
          refine h_goto (pc' := 1441) rfl rfl ?_
          exact kk _ Is20 (by first | exact h_jf j0 (by omega) (by omega) (by omega) | exact Or.inr ⟨by omega, by omega, by omega⟩) (by first | exact h_jf j1 (by omega) (by omega) (by omega) | exact Or.inr ⟨by omega, by omega, by omega⟩) (by first | exact h_jf j2 (by omega) (by omega) (by omega) | exact Or.inr ⟨by omega, by omega, by omega⟩) (by first | exact h_jf j3 (by omega) (by omega) (by omega) | exact Or.inr ⟨by omega, by omega, by omega⟩)
        · refine h_pop (pc' := 1306) rfl rfl rfl ?_
          refine h_goto (pc' := 1441) rfl rfl ?_
          exact kk _ Is20 (by first | exact h_jf j0 (by omega) (by omega) (by omega) | exact Or.inr ⟨by omega, by omega, by omega⟩) (by first | exact h_jf j1 (by omega) (by omega) (by omega) | exact Or.inr ⟨by omega, by omega, by omega⟩) (by first | exact h_jf j2 (by omega) (by omega) (by omega) | exact Or.inr ⟨by omega, by omega, by omega⟩) (by first | exact h_jf j3 (by omega) (by omega) (by omega) | exact Or.inr ⟨by omega, by omega, by omega⟩)
      · have qz11 : z11 = (Int32.ofInt 2) := h_lit (show z11.toInt = 2 by omega) ci_2
        subst qz11
        refine h_call (sp := false) (pc' := 1305) (M := [(0, .ref 98), (1, .int (Int32.ofInt 2)), (2, .int z13), (3, .int z15)]) rfl rfl rfl rfl rfl rfl rfl rfl ?_
        refine u_sheetM2 _ Is9  z13 _ hz13 z15 _ hz15 (fun r21 br21 hr21 s22 Is22 Gs22 tr21 pcs22 => h_Kv ?_)
        have Zs22 : ∀ i, s22 0 i = s0 0 i := fun i => (Gs22 0 i rfl).trans (Zs9 i)
        rcases pcs22 with pcs22 | pcs22 | pcs22
        · refine h_pop (pc' := 1306) rfl rfl rfl ?_
          refine h_goto (pc' := 1441) rfl rfl ?_
          exact kk _ Is22 (by first | exact h_jf j0 (by omega) (by omega) (by omega) | exact Or.inr ⟨by omega, by omega, by omega⟩) (by first | exact h_jf j1 (by omega) (by omega) (by omega) | exact Or.inr ⟨by omega, by omega, by omega⟩) (by first | exact h_jf j2 (by omega) (by omega) (by omega) | exact Or.inr ⟨by omega, by omega, by omega⟩) (by first | exact h_jf j3 (by omega) (by omega) (by omega) | exact Or.inr ⟨by omega, by omega, by omega⟩)
        · refine h_pop (pc' := 1306) rfl rfl rfl ?_
          refine h_goto (pc' := 1441) rfl rfl ?_
          exact kk _ Is22 (by first | exact h_jf j0 (by omega) (by omega) (by omega) | exact Or.inr ⟨by omega, by omega, by omega⟩) (by first | exact h_jf j1 (by omega) (by omega) (by omega) | exact Or.inr ⟨by omega, by omega, by omega⟩) (by first | exact h_jf j2 (by omega) (by omega) (by omega) | exact Or.inr ⟨by omega, by omega, by omega⟩) (by first | exact h_jf j3 (by omega) (by omega) (by omega) | exact Or.inr ⟨by omega, by omega, by omega⟩)
        · refine h_pop (pc' := 1306) rfl rfl rfl ?_
          refine h_goto (pc' := 1441) rfl rfl ?_
          exact kk _ Is22 (by first | exact h_jf j0 (by omega) (by omega) (by omega) | exact Or.inr ⟨by omega, by omega, by omega⟩) (by first | exact h_jf j1 (by omega) (by omega) (by omega) | exact Or.inr ⟨by omega, by omega, by omega⟩) (by first | exact h_jf j2 (by omega) (by omega) (by omega) | exact Or.inr ⟨by omega, by omega, by omega⟩) (by first | exact h_jf j3 (by omega) (by omega) (by omega) | exact Or.inr ⟨by omega, by omega, by omega⟩)
      · have qz11 : z11 = (Int32.ofInt 3) := h_lit (show z11.toInt = 3 by omega) ci_3
        subst qz11
        refine h_call (sp := false) (pc' := 1305) (M := [(0, .ref 98), (1, .int (Int32.ofInt 3)), (2, .int z13), (3, .int z15)]) rfl rfl rfl rfl rfl rfl rfl rfl ?_
        refine u_sheetM3 _ Is9  z13 _ hz13 z15 _ hz15 (fun r23 br23 hr23 s24 Is24 Gs24 tr23 pcs24 => h_Kv ?_)
        have Zs24 : ∀ i, s24 0 i = s0 0 i := fun i => (Gs24 0 i rfl).trans (Zs9 i)
        rcases pcs24 with pcs24 | pcs24 | pcs24
        · refine h_pop (pc' := 1306) rfl rfl rfl ?_
          refine h_goto (pc' := 1441) rfl rfl ?_
          exact kk _ Is24 (by first | exact h_jf j0 (by omega) (by omega) (by omega) | exact Or.inr ⟨by omega, by omega, by omega⟩) (by first | exact h_jf j1 (by omega) (by omega) (by omega) | exact Or.inr ⟨by omega, by omega, by omega⟩) (by first | exact h_jf j2 (by omega) (by omega) (by omega) | exact Or.inr ⟨by omega, by omega, by omega⟩) (by first | exact h_jf j3 (by omega) (by omega) (by omega) | exact Or.inr ⟨by omega, by omega, by omega⟩)
        · refine h_pop (pc' := 1306) rfl rfl rfl ?_
          refine h_goto (pc' := 1441) rfl rfl ?_
          exact kk _ Is24 (by first | exact h_jf j0 (by omega) (by omega) (by omega) | exact Or.inr ⟨by omega, by omega, by omega⟩) (by first | exact h_jf j1 (by omega) (by omega) (by omega) | exact Or.inr ⟨by omega, by omega, by omega⟩) (by first | exact h_jf j2 (by omega) (by omega) (by omega) | exact Or.inr ⟨by omega, by omega, by omega⟩) (by first | exact h_jf j3 (by omega) (by omega) (by omega) | exact Or.inr ⟨by omega, by omega, by omega⟩)
        · refine h_pop (pc' := 1306) rfl rfl rfl ?_
          refine h_goto (pc' := 1441) rfl rfl ?_
          exact kk _ Is24 (by first | exact h_jf j0 (by omega) (by omega) (by omega) | exact Or.inr ⟨by omega, by omega, by omega⟩) (by first | exact h_jf j1 (by omega) (by omega) (by omega) | exact Or.inr ⟨by omega, by omega, by omega⟩) (by first | exact h_jf j2 (by omega) (by omega) (by omega) | exact Or.inr ⟨by omega, by omega, by omega⟩) (by first | exact h_jf j3 (by omega) (by omega) (by omega) | exact Or.inr ⟨by omega, by omega, by omega⟩)
      · refine h_call (sp := false) (pc' := 1305) (M := [(0, .ref 98), (1, .int z11), (2, .int z13), (3, .int z15)]) rfl rfl rfl rfl rfl rfl rfl rfl ?_
        refine u_sheetMn _ Is9 z11 _ hz11 (by omega) z13 _ hz13 z15 _ hz15 (fun r25 br25 hr25 s26 Is26 Gs26 tr25 pcs26 => h_Kv ?_)
        have Zs26 : ∀ i, s26 0 i = s0 0 i := fun i => (Gs26 0 i rfl).trans (Zs9 i)
        have es26_0 : s26 95 0 = s9 95 0 := (Gs26 95 0 rfl).trans rfl
        have es26_1 : s26 95 1 = s9 95 1 := (Gs26 95 1 rfl).trans rfl
        have es26_2 : s26 95 2 = s9 95 2 := (Gs26 95 2 rfl).trans rfl
        have es26_3 : s26 95 3 = s9 95 3 := (Gs26 95 3 rfl).trans rfl
        have es26_4 : s26 96 0 = s9 96 0 := (Gs26 96 0 rfl).trans rfl
        have es26_5 : s26 96 1 = s9 96 1 := (Gs26 96 1 rfl).trans rfl
        have es26_6 : s26 96 2 = s9 96 2 := (Gs26 96 2 rfl).trans rfl
        have es26_7 : s26 96 3 = s9 96 3 := (Gs26 96 3 rfl).trans rfl
        have es26_8 : s26 111 0 = s9 111 0 := (Gs26 111 0 rfl).trans rfl
        have es26_9 : s26 111 1 = s9 111 1 := (Gs26 111 1 rfl).trans rfl
        have es26_10 : s26 111 2 = s9 111 2 := (Gs26 111 2 rfl).trans rfl
        have es26_11 : s26 111 3 = s9 111 3 := (Gs26 111 3 rfl).trans rfl
        have es26_12 : s26 112 0 = s9 112 0 := (Gs26 112 0 rfl).trans rfl
        have es26_13 : s26 112 1 = s9 112 1 := (Gs26 112 1 rfl).trans rfl
        have es26_14 : s26 112 2 = s9 112 2 := (Gs26 112 2 rfl).trans rfl
        have es26_15 : s26 112 3 = s9 112 3 := (Gs26 112 3 rfl).trans rfl
        rcases pcs26 with pcs26
        · refine h_pop (pc' := 1306) rfl rfl rfl ?_
          refine h_goto (pc' := 1441) rfl rfl ?_
          exact kk _ Is26 (by first | exact h_jf j0 (by omega) (by omega) (by omega) | exact Or.inr ⟨by omega, by omega, by omega⟩) (by first | exact h_jf j1 (by omega) (by omega) (by omega) | exact Or.inr ⟨by omega, by omega, by omega⟩) (by first | exact h_jf j2 (by omega) (by omega) (by omega) | exact Or.inr ⟨by omega, by omega, by omega⟩) (by first | exact h_jf j3 (by omega) (by omega) (by omega) | exact Or.inr ⟨by omega, by omega, by omega⟩)
      · refine h_call (sp := false) (pc' := 1305) (M := [(0, .ref 98), (1, .int z11), (2, .int z13), (3, .int z15)]) rfl rfl rfl rfl rfl rfl rfl rfl ?_
        refine u_sheetMp _ Is9 z11 _ hz11 (by omega) z13 _ hz13 z15 _ hz15 (fun r27 br27 hr27 s28 Is28 Gs28 tr27 pcs28 => h_Kv ?_)
        have Zs28 : ∀ i, s28 0 i = s0 0 i := fun i => (Gs28 0 i rfl).trans (Zs9 i)
        have es28_0 : s28 95 0 = s9 95 0 := (Gs28 95 0 rfl).trans rfl
        have es28_1 : s28 95 1 = s9 95 1 := (Gs28 95 1 rfl).trans rfl
        have es28_2 : s28 95 2 = s9 95 2 := (Gs28 95 2 rfl).trans rfl
        have es28_3 : s28 95 3 = s9 95 3 := (Gs28 95 3 rfl).trans rfl
        have es28_4 : s28 96 0 = s9 96 0 := (Gs28 96 0 rfl).trans rfl
        have es28_5 : s28 96 1 = s9 96 1 := (Gs28 96 1 rfl).trans rfl
        have es28_6 : s28 96 2 = s9 96 2 := (Gs28 96 2 rfl).trans rfl
        have es28_7 : s28 96 3 = s9 96 3 := (Gs28 96 3 rfl).trans rfl
        have es28_8 : s28 111 0 = s9 111 0 := (Gs28 111 0 rfl).trans rfl
        have es28_9 : s28 111 1 = s9 111 1 := (Gs28 111 1 rfl).trans rfl
        have es28_10 : s28 111 2 = s9 111 2 := (Gs28 111 2 rfl).trans rfl
        have es28_11 : s28 111 3 = s9 111 3 := (Gs28 111 3 rfl).trans rfl
        have es28_12 : s28 112 0 = s9 112 0 := (Gs28 112 0 rfl).trans rfl
        have es28_13 : s28 112 1 = s9 112 1 := (Gs28 112 1 rfl).trans rfl
        have es28_14 : s28 112 2 = s9 112 2 := (Gs28 112 2 rfl).trans rfl
        have es28_15 : s28 112 3 = s9 112 3 := (Gs28 112 3 rfl).trans rfl
        rcases pcs28 with pcs28
        · refine h_pop (pc' := 1306) rfl rfl rfl ?_
          refine h_goto (pc' := 1441) rfl rfl ?_
          exact kk _ Is28 (by first | exact h_jf j0 (by omega) (by omega) (by omega) | exact Or.inr ⟨by omega, by omega, by omega⟩) (by first | exact h_jf j1 (by omega) (by omega) (by omega) | exact Or.inr ⟨by omega, by omega, by omega⟩) (by first | exact h_jf j2 (by omega) (by omega) (by omega) | exact Or.inr ⟨by omega, by omega, by omega⟩) (by first | exact h_jf j3 (by omega) (by omega) (by omega) | exact Or.inr ⟨by omega, by omega, by omega⟩)
    · refine h_pop (pc' := 1286) rfl rfl rfl ?_
      refine h_aload_n (pc' := 1287) rfl rfl rfl ?_
      refine h_aload_n (pc' := 1288) rfl rfl rfl ?_
      refine h_iload_n (pc' := 1289) rfl rfl rfl ?_
      refine h_iconst (pc' := 1290) (x := (Int32.ofInt 1)) rfl rfl rfl ?_
      refine h_iadd (pc' := 1291) rfl rfl hy3 ci_1 rfl (by omega) (by omega) (fun z29 hz29 => ?_)
      refine h_iald (pc' := 1292) (v := s0 0 (b3 + 1)) rfl rfl rfl hz29 (by omega) (by omega) (Zs9 _) (fun z30 hz30 => ?_)
      have tz30 := h_rgv hz30
      refine h_aload_n (pc' := 1293) rfl rfl rfl ?_
      refine h_iload_n (pc' := 1294) rfl rfl rfl ?_
      refine h_iconst (pc' := 1295) (x := (Int32.ofInt 2)) rfl rfl rfl ?_
      refine h_iadd (pc' := 1296) rfl rfl hy3 ci_2 rfl (by omega) (by omega) (fun z31 hz31 => ?_)
      refine h_iald (pc' := 1297) (v := s0 0 (b3 + 2)) rfl rfl rfl hz31 (by omega) (by omega) (Zs9 _) (fun z32 hz32 => ?_)
      have tz32 := h_rgv hz32
      refine h_aload_n (pc' := 1298) rfl rfl rfl ?_
      refine h_iload_n (pc' := 1299) rfl rfl rfl ?_
      refine h_iconst (pc' := 1300) (x := (Int32.ofInt 3)) rfl rfl rfl ?_
      refine h_iadd (pc' := 1301) rfl rfl hy3 ci_3 rfl (by omega) (by omega) (fun z33 hz33 => ?_)
      refine h_iald (pc' := 1302) (v := s0 0 (b3 + 3)) rfl rfl rfl hz33 (by omega) (by omega) (Zs9 _) (fun z34 hz34 => ?_)
      have tz34 := h_rgv hz34
      rcases (show ((s0 0 (b3 + 1)) = 0) ∨ ((s0 0 (b3 + 1)) = 1) ∨ ((s0 0 (b3 + 1)) = 2) ∨ ((s0 0 (b3 + 1)) = 3) ∨ ((s0 0 (b3 + 1)) ≤ (-1)) ∨ (4 ≤ (s0 0 (b3 + 1))) by omega) with c35 | c35 | c35 | c35 | c35 | c35
      · have qz30 : z30 = (Int32.ofInt 0) := h_lit (show z30.toInt = 0 by omega) ci_0
        subst qz30
        refine h_call (sp := false) (pc' := 1305) (M := [(0, .ref 98), (1, .int (Int32.ofInt 0)), (2, .int z32), (3, .int z34)]) rfl rfl rfl rfl rfl rfl rfl rfl ?_
        refine u_sheetM0 _ Is9  z32 _ hz32 z34 _ hz34 (fun r36 br36 hr36 s37 Is37 Gs37 tr36 pcs37 => h_Kv ?_)
        have Zs37 : ∀ i, s37 0 i = s0 0 i := fun i => (Gs37 0 i rfl).trans (Zs9 i)
        rcases pcs37 with pcs37 | pcs37 | pcs37
        · refine h_pop (pc' := 1306) rfl rfl rfl ?_
          refine h_goto (pc' := 1441) rfl rfl ?_
          exact kk _ Is37 (by first | exact h_jf j0 (by omega) (by omega) (by omega) | exact Or.inr ⟨by omega, by omega, by omega⟩) (by first | exact h_jf j1 (by omega) (by omega) (by omega) | exact Or.inr ⟨by omega, by omega, by omega⟩) (by first | exact h_jf j2 (by omega) (by omega) (by omega) | exact Or.inr ⟨by omega, by omega, by omega⟩) (by first | exact h_jf j3 (by omega) (by omega) (by omega) | exact Or.inr ⟨by omega, by omega, by omega⟩)
        · refine h_pop (pc' := 1306) rfl rfl rfl ?_
          refine h_goto (pc' := 1441) rfl rfl ?_
          exact kk _ Is37 (by first | exact h_jf j0 (by omega) (by omega) (by omega) | exact Or.inr ⟨by omega, by omega, by omega⟩) (by first | exact h_jf j1 (by omega) (by omega) (by omega) | exact Or.inr ⟨by omega, by omega, by omega⟩) (by first | exact h_jf j2 (by omega) (by omega) (by omega) | exact Or.inr ⟨by omega, by omega, by omega⟩) (by first | exact h_jf j3 (by omega) (by omega) (by omega) | exact Or.inr ⟨by omega, by omega, by omega⟩)
        · refine h_pop (pc' := 1306) rfl rfl rfl ?_
          refine h_goto (pc' := 1441) rfl rfl ?_
          exact kk _ Is37 (by first | exact h_jf j0 (by omega) (by omega) (by omega) | exact Or.inr ⟨by omega, by omega, by omega⟩) (by first | exact h_jf j1 (by omega) (by omega) (by omega) | exact Or.inr ⟨by omega, by omega, by omega⟩) (by first | exact h_jf j2 (by omega) (by omega) (by omega) | exact Or.inr ⟨by omega, by omega, by omega⟩) (by first | exact h_jf j3 (by omega) (by omega) (by omega) | exact Or.inr ⟨by omega, by omega, by omega⟩)
      · have qz30 : z30 = (Int32.ofInt 1) := h_lit (show z30.toInt = 1 by omega) ci_1
        subst qz30
        refine h_call (sp := false) (pc' := 1305) (M := [(0, .ref 98), (1, .int (Int32.ofInt 1)), (2, .int z32), (3, .int z34)]) rfl rfl rfl rfl rfl rfl rfl rfl ?_
        refine u_sheetM1 _ Is9  z32 _ hz32 z34 _ hz34 (fun r38 br38 hr38 s39 Is39 Gs39 tr38 pcs39 => h_Kv ?_)
        have Zs39 : ∀ i, s39 0 i = s0 0 i := fun i => (Gs39 0 i rfl).trans (Zs9 i)
        rcases pcs39 with pcs39 | pcs39 | pcs39
        · refine h_pop (pc' := 1306) rfl rfl rfl ?_
          refine h_goto (pc' := 1441) rfl rfl ?_
          exact kk _ Is39 (by first | exact h_jf j0 (by omega) (by omega) (by omega) | exact Or.inr ⟨by omega, by omega, by omega⟩) (by first | exact h_jf j1 (by omega) (by omega) (by omega) | exact Or.inr ⟨by omega, by omega, by omega⟩) (by first | exact h_jf j2 (by omega) (by omega) (by omega) | exact Or.inr ⟨by omega, by omega, by omega⟩) (by first | exact h_jf j3 (by omega) (by omega) (by omega) | exact Or.inr ⟨by omega, by omega, by omega⟩)
        · refine h_pop (pc' := 1306) rfl rfl rfl ?_
          refine h_goto (pc' := 1441) rfl rfl ?_
          exact kk _ Is39 (by first | exact h_jf j0 (by omega) (by omega) (by omega) | exact Or.inr ⟨by omega, by omega, by omega⟩) (by first | exact h_jf j1 (by omega) (by omega) (by omega) | exact Or.inr ⟨by omega, by omega, by omega⟩) (by first | exact h_jf j2 (by omega) (by omega) (by omega) | exact Or.inr ⟨by omega, by omega, by omega⟩) (by first | exact h_jf j3 (by omega) (by omega) (by omega) | exact Or.inr ⟨by omega, by omega, by omega⟩)
        · refine h_pop (pc' := 1306) rfl rfl rfl ?_
          refine h_goto (pc' := 1441) rfl rfl ?_
          exact kk _ Is39 (by first | exact h_jf j0 (by omega) (by omega) (by omega) | exact Or.inr ⟨by omega, by omega, by omega⟩) (by first | exact h_jf j1 (by omega) (by omega) (by omega) | exact Or.inr ⟨by omega, by omega, by omega⟩) (by first | exact h_jf j2 (by omega) (by omega) (by omega) | exact Or.inr ⟨by omega, by omega, by omega⟩) (by first | exact h_jf j3 (by omega) (by omega) (by omega) | exact Or.inr ⟨by omega, by omega, by omega⟩)
      · have qz30 : z30 = (Int32.ofInt 2) := h_lit (show z30.toInt = 2 by omega) ci_2
        subst qz30
        refine h_call (sp := false) (pc' := 1305) (M := [(0, .ref 98), (1, .int (Int32.ofInt 2)), (2, .int z32), (3, .int z34)]) rfl rfl rfl rfl rfl rfl rfl rfl ?_
        refine u_sheetM2 _ Is9  z32 _ hz32 z34 _ hz34 (fun r40 br40 hr40 s41 Is41 Gs41 tr40 pcs41 => h_Kv ?_)
        have Zs41 : ∀ i, s41 0 i = s0 0 i := fun i => (Gs41 0 i rfl).trans (Zs9 i)
        rcases pcs41 with pcs41 | pcs41 | pcs41
        · refine h_pop (pc' := 1306) rfl rfl rfl ?_
          refine h_goto (pc' := 1441) rfl rfl ?_
          exact kk _ Is41 (by first | exact h_jf j0 (by omega) (by omega) (by omega) | exact Or.inr ⟨by omega, by omega, by omega⟩) (by first | exact h_jf j1 (by omega) (by omega) (by omega) | exact Or.inr ⟨by omega, by omega, by omega⟩) (by first | exact h_jf j2 (by omega) (by omega) (by omega) | exact Or.inr ⟨by omega, by omega, by omega⟩) (by first | exact h_jf j3 (by omega) (by omega) (by omega) | exact Or.inr ⟨by omega, by omega, by omega⟩)
        · refine h_pop (pc' := 1306) rfl rfl rfl ?_
          refine h_goto (pc' := 1441) rfl rfl ?_
          exact kk _ Is41 (by first | exact h_jf j0 (by omega) (by omega) (by omega) | exact Or.inr ⟨by omega, by omega, by omega⟩) (by first | exact h_jf j1 (by omega) (by omega) (by omega) | exact Or.inr ⟨by omega, by omega, by omega⟩) (by first | exact h_jf j2 (by omega) (by omega) (by omega) | exact Or.inr ⟨by omega, by omega, by omega⟩) (by first | exact h_jf j3 (by omega) (by omega) (by omega) | exact Or.inr ⟨by omega, by omega, by omega⟩)
        · refine h_pop (pc' := 1306) rfl rfl rfl ?_
          refine h_goto (pc' := 1441) rfl rfl ?_
          exact kk _ Is41 (by first | exact h_jf j0 (by omega) (by omega) (by omega) | exact Or.inr ⟨by omega, by omega, by omega⟩) (by first | exact h_jf j1 (by omega) (by omega) (by omega) | exact Or.inr ⟨by omega, by omega, by omega⟩) (by first | exact h_jf j2 (by omega) (by omega) (by omega) | exact Or.inr ⟨by omega, by omega, by omega⟩) (by first | exact h_jf j3 (by omega) (by omega) (by omega) | exact Or.inr ⟨by omega, by omega, by omega⟩)
      · have qz30 : z30 = (Int32.ofInt 3) := h_lit (show z30.toInt = 3 by omega) ci_3
        subst qz30
        refine h_call (sp := false) (pc' := 1305) (M := [(0, .ref 98), (1, .int (Int32.ofInt 3)), (2, .int z32), (3, .int z34)]) rfl rfl rfl rfl rfl rfl rfl rfl ?_
        refine u_sheetM3 _ Is9  z32 _ hz32 z34 _ hz34 (fun r42 br42 hr42 s43 Is43 Gs43 tr42 pcs43 => h_Kv ?_)
        have Zs43 : ∀ i, s43 0 i = s0 0 i := fun i => (Gs43 0 i rfl).trans (Zs9 i)
        rcases pcs43 with pcs43 | pcs43 | pcs43
        · refine h_pop (pc' := 1306) rfl rfl rfl ?_
          refine h_goto (pc' := 1441) rfl rfl ?_
          exact kk _ Is43 (by first | exact h_jf j0 (by omega) (by omega) (by omega) | exact Or.inr ⟨by omega, by omega, by omega⟩) (by first | exact h_jf j1 (by omega) (by omega) (by omega) | exact Or.inr ⟨by omega, by omega, by omega⟩) (by first | exact h_jf j2 (by omega) (by omega) (by omega) | exact Or.inr ⟨by omega, by omega, by omega⟩) (by first | exact h_jf j3 (by omega) (by omega) (by omega) | exact Or.inr ⟨by omega, by omega, by omega⟩)
        · refine h_pop (pc' := 1306) rfl rfl rfl ?_
          refine h_goto (pc' := 1441) rfl rfl ?_
          exact kk _ Is43 (by first | exact h_jf j0 (by omega) (by omega) (by omega) | exact Or.inr ⟨by omega, by omega, by omega⟩) (by first | exact h_jf j1 (by omega) (by omega) (by omega) | exact Or.inr ⟨by omega, by omega, by omega⟩) (by first | exact h_jf j2 (by omega) (by omega) (by omega) | exact Or.inr ⟨by omega, by omega, by omega⟩) (by first | exact h_jf j3 (by omega) (by omega) (by omega) | exact Or.inr ⟨by omega, by omega, by omega⟩)
        · refine h_pop (pc' := 1306) rfl rfl rfl ?_
          refine h_goto (pc' := 1441) rfl rfl ?_
          exact kk _ Is43 (by first | exact h_jf j0 (by omega) (by omega) (by omega) | exact Or.inr ⟨by omega, by omega, by omega⟩) (by first | exact h_jf j1 (by omega) (by omega) (by omega) | exact Or.inr ⟨by omega, by omega, by omega⟩) (by first | exact h_jf j2 (by omega) (by omega) (by omega) | exact Or.inr ⟨by omega, by omega, by omega⟩) (by first | exact h_jf j3 (by omega) (by omega) (by omega) | exact Or.inr ⟨by omega, by omega, by omega⟩)
      · refine h_call (sp := false) (pc' := 1305) (M := [(0, .ref 98), (1, .int z30), (2, .int z32), (3, .int z34)]) rfl rfl rfl rfl rfl rfl rfl rfl ?_
        refine u_sheetMn _ Is9 z30 _ hz30 (by omega) z32 _ hz32 z34 _ hz34 (fun r44 br44 hr44 s45 Is45 Gs45 tr44 pcs45 => h_Kv ?_)
        have Zs45 : ∀ i, s45 0 i = s0 0 i := fun i => (Gs45 0 i rfl).trans (Zs9 i)
        have es45_0 : s45 95 0 = s9 95 0 := (Gs45 95 0 rfl).trans rfl
        have es45_1 : s45 95 1 = s9 95 1 := (Gs45 95 1 rfl).trans rfl
        have es45_2 : s45 95 2 = s9 95 2 := (Gs45 95 2 rfl).trans rfl
        have es45_3 : s45 95 3 = s9 95 3 := (Gs45 95 3 rfl).trans rfl
        have es45_4 : s45 96 0 = s9 96 0 := (Gs45 96 0 rfl).trans rfl
        have es45_5 : s45 96 1 = s9 96 1 := (Gs45 96 1 rfl).trans rfl
        have es45_6 : s45 96 2 = s9 96 2 := (Gs45 96 2 rfl).trans rfl
        have es45_7 : s45 96 3 = s9 96 3 := (Gs45 96 3 rfl).trans rfl
        have es45_8 : s45 111 0 = s9 111 0 := (Gs45 111 0 rfl).trans rfl
        have es45_9 : s45 111 1 = s9 111 1 := (Gs45 111 1 rfl).trans rfl
        have es45_10 : s45 111 2 = s9 111 2 := (Gs45 111 2 rfl).trans rfl
        have es45_11 : s45 111 3 = s9 111 3 := (Gs45 111 3 rfl).trans rfl
        have es45_12 : s45 112 0 = s9 112 0 := (Gs45 112 0 rfl).trans rfl
        have es45_13 : s45 112 1 = s9 112 1 := (Gs45 112 1 rfl).trans rfl
        have es45_14 : s45 112 2 = s9 112 2 := (Gs45 112 2 rfl).trans rfl
        have es45_15 : s45 112 3 = s9 112 3 := (Gs45 112 3 rfl).trans rfl
        rcases pcs45 with pcs45
        · refine h_pop (pc' := 1306) rfl rfl rfl ?_
          refine h_goto (pc' := 1441) rfl rfl ?_
          exact kk _ Is45 (by first | exact h_jf j0 (by omega) (by omega) (by omega) | exact Or.inr ⟨by omega, by omega, by omega⟩) (by first | exact h_jf j1 (by omega) (by omega) (by omega) | exact Or.inr ⟨by omega, by omega, by omega⟩) (by first | exact h_jf j2 (by omega) (by omega) (by omega) | exact Or.inr ⟨by omega, by omega, by omega⟩) (by first | exact h_jf j3 (by omega) (by omega) (by omega) | exact Or.inr ⟨by omega, by omega, by omega⟩)
      · refine h_call (sp := false) (pc' := 1305) (M := [(0, .ref 98), (1, .int z30), (2, .int z32), (3, .int z34)]) rfl rfl rfl rfl rfl rfl rfl rfl ?_
        refine u_sheetMp _ Is9 z30 _ hz30 (by omega) z32 _ hz32 z34 _ hz34 (fun r46 br46 hr46 s47 Is47 Gs47 tr46 pcs47 => h_Kv ?_)
        have Zs47 : ∀ i, s47 0 i = s0 0 i := fun i => (Gs47 0 i rfl).trans (Zs9 i)
        have es47_0 : s47 95 0 = s9 95 0 := (Gs47 95 0 rfl).trans rfl
        have es47_1 : s47 95 1 = s9 95 1 := (Gs47 95 1 rfl).trans rfl
        have es47_2 : s47 95 2 = s9 95 2 := (Gs47 95 2 rfl).trans rfl
        have es47_3 : s47 95 3 = s9 95 3 := (Gs47 95 3 rfl).trans rfl
        have es47_4 : s47 96 0 = s9 96 0 := (Gs47 96 0 rfl).trans rfl
        have es47_5 : s47 96 1 = s9 96 1 := (Gs47 96 1 rfl).trans rfl
        have es47_6 : s47 96 2 = s9 96 2 := (Gs47 96 2 rfl).trans rfl
        have es47_7 : s47 96 3 = s9 96 3 := (Gs47 96 3 rfl).trans rfl
        have es47_8 : s47 111 0 = s9 111 0 := (Gs47 111 0 rfl).trans rfl
        have es47_9 : s47 111 1 = s9 111 1 := (Gs47 111 1 rfl).trans rfl
        have es47_10 : s47 111 2 = s9 111 2 := (Gs47 111 2 rfl).trans rfl
        have es47_11 : s47 111 3 = s9 111 3 := (Gs47 111 3 rfl).trans rfl
        have es47_12 : s47 112 0 = s9 112 0 := (Gs47 112 0 rfl).trans rfl
        have es47_13 : s47 112 1 = s9 112 1 := (Gs47 112 1 rfl).trans rfl
        have es47_14 : s47 112 2 = s9 112 2 := (Gs47 112 2 rfl).trans rfl
        have es47_15 : s47 112 3 = s9 112 3 := (Gs47 112 3 rfl).trans rfl
        rcases pcs47 with pcs47
        · refine h_pop (pc' := 1306) rfl rfl rfl ?_
          refine h_goto (pc' := 1441) rfl rfl ?_
          exact kk _ Is47 (by first | exact h_jf j0 (by omega) (by omega) (by omega) | exact Or.inr ⟨by omega, by omega, by omega⟩) (by first | exact h_jf j1 (by omega) (by omega) (by omega) | exact Or.inr ⟨by omega, by omega, by omega⟩) (by first | exact h_jf j2 (by omega) (by omega) (by omega) | exact Or.inr ⟨by omega, by omega, by omega⟩) (by first | exact h_jf j3 (by omega) (by omega) (by omega) | exact Or.inr ⟨by omega, by omega, by omega⟩)
    · refine h_pop (pc' := 1286) rfl rfl rfl ?_
      refine h_aload_n (pc' := 1287) rfl rfl rfl ?_
      refine h_aload_n (pc' := 1288) rfl rfl rfl ?_
      refine h_iload_n (pc' := 1289) rfl rfl rfl ?_
      refine h_iconst (pc' := 1290) (x := (Int32.ofInt 1)) rfl rfl rfl ?_
      refine h_iadd (pc' := 1291) rfl rfl hy3 ci_1 rfl (by omega) (by omega) (fun z48 hz48 => ?_)
      refine h_iald (pc' := 1292) (v := s0 0 (b3 + 1)) rfl rfl rfl hz48 (by omega) (by omega) (Zs9 _) (fun z49 hz49 => ?_)
      have tz49 := h_rgv hz49
      refine h_aload_n (pc' := 1293) rfl rfl rfl ?_
      refine h_iload_n (pc' := 1294) rfl rfl rfl ?_
      refine h_iconst (pc' := 1295) (x := (Int32.ofInt 2)) rfl rfl rfl ?_
      refine h_iadd (pc' := 1296) rfl rfl hy3 ci_2 rfl (by omega) (by omega) (fun z50 hz50 => ?_)
      refine h_iald (pc' := 1297) (v := s0 0 (b3 + 2)) rfl rfl rfl hz50 (by omega) (by omega) (Zs9 _) (fun z51 hz51 => ?_)
      have tz51 := h_rgv hz51
      refine h_aload_n (pc' := 1298) rfl rfl rfl ?_
      refine h_iload_n (pc' := 1299) rfl rfl rfl ?_
      refine h_iconst (pc' := 1300) (x := (Int32.ofInt 3)) rfl rfl rfl ?_
      refine h_iadd (pc' := 1301) rfl rfl hy3 ci_3 rfl (by omega) (by omega) (fun z52 hz52 => ?_)
      refine h_iald (pc' := 1302) (v := s0 0 (b3 + 3)) rfl rfl rfl hz52 (by omega) (by omega) (Zs9 _) (fun z53 hz53 => ?_)
      have tz53 := h_rgv hz53
      rcases (show ((s0 0 (b3 + 1)) = 0) ∨ ((s0 0 (b3 + 1)) = 1) ∨ ((s0 0 (b3 + 1)) = 2) ∨ ((s0 0 (b3 + 1)) = 3) ∨ ((s0 0 (b3 + 1)) ≤ (-1)) ∨ (4 ≤ (s0 0 (b3 + 1))) by omega) with c54 | c54 | c54 | c54 | c54 | c54
      · have qz49 : z49 = (Int32.ofInt 0) := h_lit (show z49.toInt = 0 by omega) ci_0
        subst qz49
        refine h_call (sp := false) (pc' := 1305) (M := [(0, .ref 98), (1, .int (Int32.ofInt 0)), (2, .int z51), (3, .int z53)]) rfl rfl rfl rfl rfl rfl rfl rfl ?_
        refine u_sheetM0 _ Is9  z51 _ hz51 z53 _ hz53 (fun r55 br55 hr55 s56 Is56 Gs56 tr55 pcs56 => h_Kv ?_)
        have Zs56 : ∀ i, s56 0 i = s0 0 i := fun i => (Gs56 0 i rfl).trans (Zs9 i)
        rcases pcs56 with pcs56 | pcs56 | pcs56
        · refine h_pop (pc' := 1306) rfl rfl rfl ?_
          refine h_goto (pc' := 1441) rfl rfl ?_
          exact kk _ Is56 (by first | exact h_jf j0 (by omega) (by omega) (by omega) | exact Or.inr ⟨by omega, by omega, by omega⟩) (by first | exact h_jf j1 (by omega) (by omega) (by omega) | exact Or.inr ⟨by omega, by omega, by omega⟩) (by first | exact h_jf j2 (by omega) (by omega) (by omega) | exact Or.inr ⟨by omega, by omega, by omega⟩) (by first | exact h_jf j3 (by omega) (by omega) (by omega) | exact Or.inr ⟨by omega, by omega, by omega⟩)
        · refine h_pop (pc' := 1306) rfl rfl rfl ?_
          refine h_goto (pc' := 1441) rfl rfl ?_
          exact kk _ Is56 (by first | exact h_jf j0 (by omega) (by omega) (by omega) | exact Or.inr ⟨by omega, by omega, by omega⟩) (by first | exact h_jf j1 (by omega) (by omega) (by omega) | exact Or.inr ⟨by omega, by omega, by omega⟩) (by first | exact h_jf j2 (by omega) (by omega) (by omega) | exact Or.inr ⟨by omega, by omega, by omega⟩) (by first | exact h_jf j3 (by omega) (by omega) (by omega) | exact Or.inr ⟨by omega, by omega, by omega⟩)
        · refine h_pop (pc' := 1306) rfl rfl rfl ?_
          refine h_goto (pc' := 1441) rfl rfl ?_
          exact kk _ Is56 (by first | exact h_jf j0 (by omega) (by omega) (by omega) | exact Or.inr ⟨by omega, by omega, by omega⟩) (by first | exact h_jf j1 (by omega) (by omega) (by omega) | exact Or.inr ⟨by omega, by omega, by omega⟩) (by first | exact h_jf j2 (by omega) (by omega) (by omega) | exact Or.inr ⟨by omega, by omega, by omega⟩) (by first | exact h_jf j3 (by omega) (by omega) (by omega) | exact Or.inr ⟨by omega, by omega, by omega⟩)
      · have qz49 : z49 = (Int32.ofInt 1) := h_lit (show z49.toInt = 1 by omega) ci_1
        subst qz49
        refine h_call (sp := false) (pc' := 1305) (M := [(0, .ref 98), (1, .int (Int32.ofInt 1)), (2, .int z51), (3, .int z53)]) rfl rfl rfl rfl rfl rfl rfl rfl ?_
        refine u_sheetM1 _ Is9  z51 _ hz51 z53 _ hz53 (fun r57 br57 hr57 s58 Is58 Gs58 tr57 pcs58 => h_Kv ?_)
        have Zs58 : ∀ i, s58 0 i = s0 0 i := fun i => (Gs58 0 i rfl).trans (Zs9 i)
        rcases pcs58 with pcs58 | pcs58 | pcs58
        · refine h_pop (pc' := 1306) rfl rfl rfl ?_
          refine h_goto (pc' := 1441) rfl rfl ?_
          exact kk _ Is58 (by first | exact h_jf j0 (by omega) (by omega) (by omega) | exact Or.inr ⟨by omega, by omega, by omega⟩) (by first | exact h_jf j1 (by omega) (by omega) (by omega) | exact Or.inr ⟨by omega, by omega, by omega⟩) (by first | exact h_jf j2 (by omega) (by omega) (by omega) | exact Or.inr ⟨by omega, by omega, by omega⟩) (by first | exact h_jf j3 (by omega) (by omega) (by omega) | exact Or.inr ⟨by omega, by omega, by omega⟩)
        · refine h_pop (pc' := 1306) rfl rfl rfl ?_
          refine h_goto (pc' := 1441) rfl rfl ?_
          exact kk _ Is58 (by first | exact h_jf j0 (by omega) (by omega) (by omega) | exact Or.inr ⟨by omega, by omega, by omega⟩) (by first | exact h_jf j1 (by omega) (by omega) (by omega) | exact Or.inr ⟨by omega, by omega, by omega⟩) (by first | exact h_jf j2 (by omega) (by omega) (by omega) | exact Or.inr ⟨by omega, by omega, by omega⟩) (by first | exact h_jf j3 (by omega) (by omega) (by omega) | exact Or.inr ⟨by omega, by omega, by omega⟩)
        · refine h_pop (pc' := 1306) rfl rfl rfl ?_
          refine h_goto (pc' := 1441) rfl rfl ?_
          exact kk _ Is58 (by first | exact h_jf j0 (by omega) (by omega) (by omega) | exact Or.inr ⟨by omega, by omega, by omega⟩) (by first | exact h_jf j1 (by omega) (by omega) (by omega) | exact Or.inr ⟨by omega, by omega, by omega⟩) (by first | exact h_jf j2 (by omega) (by omega) (by omega) | exact Or.inr ⟨by omega, by omega, by omega⟩) (by first | exact h_jf j3 (by omega) (by omega) (by omega) | exact Or.inr ⟨by omega, by omega, by omega⟩)
      · have qz49 : z49 = (Int32.ofInt 2) := h_lit (show z49.toInt = 2 by omega) ci_2
        subst qz49
        refine h_call (sp := false) (pc' := 1305) (M := [(0, .ref 98), (1, .int (Int32.ofInt 2)), (2, .int z51), (3, .int z53)]) rfl rfl rfl rfl rfl rfl rfl rfl ?_
        refine u_sheetM2 _ Is9  z51 _ hz51 z53 _ hz53 (fun r59 br59 hr59 s60 Is60 Gs60 tr59 pcs60 => h_Kv ?_)
        have Zs60 : ∀ i, s60 0 i = s0 0 i := fun i => (Gs60 0 i rfl).trans (Zs9 i)
        rcases pcs60 with pcs60 | pcs60 | pcs60
        · refine h_pop (pc' := 1306) rfl rfl rfl ?_
          refine h_goto (pc' := 1441) rfl rfl ?_
          exact kk _ Is60 (by first | exact h_jf j0 (by omega) (by omega) (by omega) | exact Or.inr ⟨by omega, by omega, by omega⟩) (by first | exact h_jf j1 (by omega) (by omega) (by omega) | exact Or.inr ⟨by omega, by omega, by omega⟩) (by first | exact h_jf j2 (by omega) (by omega) (by omega) | exact Or.inr ⟨by omega, by omega, by omega⟩) (by first | exact h_jf j3 (by omega) (by omega) (by omega) | exact Or.inr ⟨by omega, by omega, by omega⟩)
        · refine h_pop (pc' := 1306) rfl rfl rfl ?_
          refine h_goto (pc' := 1441) rfl rfl ?_
          exact kk _ Is60 (by first | exact h_jf j0 (by omega) (by omega) (by omega) | exact Or.inr ⟨by omega, by omega, by omega⟩) (by first | exact h_jf j1 (by omega) (by omega) (by omega) | exact Or.inr ⟨by omega, by omega, by omega⟩) (by first | exact h_jf j2 (by omega) (by omega) (by omega) | exact Or.inr ⟨by omega, by omega, by omega⟩) (by first | exact h_jf j3 (by omega) (by omega) (by omega) | exact Or.inr ⟨by omega, by omega, by omega⟩)
        · refine h_pop (pc' := 1306) rfl rfl rfl ?_
          refine h_goto (pc' := 1441) rfl rfl ?_
          exact kk _ Is60 (by first | exact h_jf j0 (by omega) (by omega) (by omega) | exact Or.inr ⟨by omega, by omega, by omega⟩) (by first | exact h_jf j1 (by omega) (by omega) (by omega) | exact Or.inr ⟨by omega, by omega, by omega⟩) (by first | exact h_jf j2 (by omega) (by omega) (by omega) | exact Or.inr ⟨by omega, by omega, by omega⟩) (by first | exact h_jf j3 (by omega) (by omega) (by omega) | exact Or.inr ⟨by omega, by omega, by omega⟩)
      · have qz49 : z49 = (Int32.ofInt 3) := h_lit (show z49.toInt = 3 by omega) ci_3
        subst qz49
        refine h_call (sp := false) (pc' := 1305) (M := [(0, .ref 98), (1, .int (Int32.ofInt 3)), (2, .int z51), (3, .int z53)]) rfl rfl rfl rfl rfl rfl rfl rfl ?_
        refine u_sheetM3 _ Is9  z51 _ hz51 z53 _ hz53 (fun r61 br61 hr61 s62 Is62 Gs62 tr61 pcs62 => h_Kv ?_)
        have Zs62 : ∀ i, s62 0 i = s0 0 i := fun i => (Gs62 0 i rfl).trans (Zs9 i)
        rcases pcs62 with pcs62 | pcs62 | pcs62
        · refine h_pop (pc' := 1306) rfl rfl rfl ?_
          refine h_goto (pc' := 1441) rfl rfl ?_
          exact kk _ Is62 (by first | exact h_jf j0 (by omega) (by omega) (by omega) | exact Or.inr ⟨by omega, by omega, by omega⟩) (by first | exact h_jf j1 (by omega) (by omega) (by omega) | exact Or.inr ⟨by omega, by omega, by omega⟩) (by first | exact h_jf j2 (by omega) (by omega) (by omega) | exact Or.inr ⟨by omega, by omega, by omega⟩) (by first | exact h_jf j3 (by omega) (by omega) (by omega) | exact Or.inr ⟨by omega, by omega, by omega⟩)
        · refine h_pop (pc' := 1306) rfl rfl rfl ?_
          refine h_goto (pc' := 1441) rfl rfl ?_
          exact kk _ Is62 (by first | exact h_jf j0 (by omega) (by omega) (by omega) | exact Or.inr ⟨by omega, by omega, by omega⟩) (by first | exact h_jf j1 (by omega) (by omega) (by omega) | exact Or.inr ⟨by omega, by omega, by omega⟩) (by first | exact h_jf j2 (by omega) (by omega) (by omega) | exact Or.inr ⟨by omega, by omega, by omega⟩) (by first | exact h_jf j3 (by omega) (by omega) (by omega) | exact Or.inr ⟨by omega, by omega, by omega⟩)
        · refine h_pop (pc' := 1306) rfl rfl rfl ?_
          refine h_goto (pc' := 1441) rfl rfl ?_
          exact kk _ Is62 (by first | exact h_jf j0 (by omega) (by omega) (by omega) | exact Or.inr ⟨by omega, by omega, by omega⟩) (by first | exact h_jf j1 (by omega) (by omega) (by omega) | exact Or.inr ⟨by omega, by omega, by omega⟩) (by first | exact h_jf j2 (by omega) (by omega) (by omega) | exact Or.inr ⟨by omega, by omega, by omega⟩) (by first | exact h_jf j3 (by omega) (by omega) (by omega) | exact Or.inr ⟨by omega, by omega, by omega⟩)
      · refine h_call (sp := false) (pc' := 1305) (M := [(0, .ref 98), (1, .int z49), (2, .int z51), (3, .int z53)]) rfl rfl rfl rfl rfl rfl rfl rfl ?_
        refine u_sheetMn _ Is9 z49 _ hz49 (by omega) z51 _ hz51 z53 _ hz53 (fun r63 br63 hr63 s64 Is64 Gs64 tr63 pcs64 => h_Kv ?_)
        have Zs64 : ∀ i, s64 0 i = s0 0 i := fun i => (Gs64 0 i rfl).trans (Zs9 i)
        have es64_0 : s64 95 0 = s9 95 0 := (Gs64 95 0 rfl).trans rfl
        have es64_1 : s64 95 1 = s9 95 1 := (Gs64 95 1 rfl).trans rfl
        have es64_2 : s64 95 2 = s9 95 2 := (Gs64 95 2 rfl).trans rfl
        have es64_3 : s64 95 3 = s9 95 3 := (Gs64 95 3 rfl).trans rfl
        have es64_4 : s64 96 0 = s9 96 0 := (Gs64 96 0 rfl).trans rfl
        have es64_5 : s64 96 1 = s9 96 1 := (Gs64 96 1 rfl).trans rfl
        have es64_6 : s64 96 2 = s9 96 2 := (Gs64 96 2 rfl).trans rfl
        have es64_7 : s64 96 3 = s9 96 3 := (Gs64 96 3 rfl).trans rfl
        have es64_8 : s64 111 0 = s9 111 0 := (Gs64 111 0 rfl).trans rfl
        have es64_9 : s64 111 1 = s9 111 1 := (Gs64 111 1 rfl).trans rfl
        have es64_10 : s64 111 2 = s9 111 2 := (Gs64 111 2 rfl).trans rfl
        have es64_11 : s64 111 3 = s9 111 3 := (Gs64 111 3 rfl).trans rfl
        have es64_12 : s64 112 0 = s9 112 0 := (Gs64 112 0 rfl).trans rfl
        have es64_13 : s64 112 1 = s9 112 1 := (Gs64 112 1 rfl).trans rfl
        have es64_14 : s64 112 2 = s9 112 2 := (Gs64 112 2 rfl).trans rfl
        have es64_15 : s64 112 3 = s9 112 3 := (Gs64 112 3 rfl).trans rfl
        rcases pcs64 with pcs64
        · refine h_pop (pc' := 1306) rfl rfl rfl ?_
          refine h_goto (pc' := 1441) rfl rfl ?_
          exact kk _ Is64 (by first | exact h_jf j0 (by omega) (by omega) (by omega) | exact Or.inr ⟨by omega, by omega, by omega⟩) (by first | exact h_jf j1 (by omega) (by omega) (by omega) | exact Or.inr ⟨by omega, by omega, by omega⟩) (by first | exact h_jf j2 (by omega) (by omega) (by omega) | exact Or.inr ⟨by omega, by omega, by omega⟩) (by first | exact h_jf j3 (by omega) (by omega) (by omega) | exact Or.inr ⟨by omega, by omega, by omega⟩)
      · refine h_call (sp := false) (pc' := 1305) (M := [(0, .ref 98), (1, .int z49), (2, .int z51), (3, .int z53)]) rfl rfl rfl rfl rfl rfl rfl rfl ?_
        refine u_sheetMp _ Is9 z49 _ hz49 (by omega) z51 _ hz51 z53 _ hz53 (fun r65 br65 hr65 s66 Is66 Gs66 tr65 pcs66 => h_Kv ?_)
        have Zs66 : ∀ i, s66 0 i = s0 0 i := fun i => (Gs66 0 i rfl).trans (Zs9 i)
        have es66_0 : s66 95 0 = s9 95 0 := (Gs66 95 0 rfl).trans rfl
        have es66_1 : s66 95 1 = s9 95 1 := (Gs66 95 1 rfl).trans rfl
        have es66_2 : s66 95 2 = s9 95 2 := (Gs66 95 2 rfl).trans rfl
        have es66_3 : s66 95 3 = s9 95 3 := (Gs66 95 3 rfl).trans rfl
        have es66_4 : s66 96 0 = s9 96 0 := (Gs66 96 0 rfl).trans rfl
        have es66_5 : s66 96 1 = s9 96 1 := (Gs66 96 1 rfl).trans rfl
        have es66_6 : s66 96 2 = s9 96 2 := (Gs66 96 2 rfl).trans rfl
        have es66_7 : s66 96 3 = s9 96 3 := (Gs66 96 3 rfl).trans rfl
        have es66_8 : s66 111 0 = s9 111 0 := (Gs66 111 0 rfl).trans rfl
        have es66_9 : s66 111 1 = s9 111 1 := (Gs66 111 1 rfl).trans rfl
        have es66_10 : s66 111 2 = s9 111 2 := (Gs66 111 2 rfl).trans rfl
        have es66_11 : s66 111 3 = s9 111 3 := (Gs66 111 3 rfl).trans rfl
        have es66_12 : s66 112 0 = s9 112 0 := (Gs66 112 0 rfl).trans rfl
        have es66_13 : s66 112 1 = s9 112 1 := (Gs66 112 1 rfl).trans rfl
        have es66_14 : s66 112 2 = s9 112 2 := (Gs66 112 2 rfl).trans rfl
        have es66_15 : s66 112 3 = s9 112 3 := (Gs66 112 3 rfl).trans rfl
        rcases pcs66 with pcs66
        · refine h_pop (pc' := 1306) rfl rfl rfl ?_
          refine h_goto (pc' := 1441) rfl rfl ?_
          exact kk _ Is66 (by first | exact h_jf j0 (by omega) (by omega) (by omega) | exact Or.inr ⟨by omega, by omega, by omega⟩) (by first | exact h_jf j1 (by omega) (by omega) (by omega) | exact Or.inr ⟨by omega, by omega, by omega⟩) (by first | exact h_jf j2 (by omega) (by omega) (by omega) | exact Or.inr ⟨by omega, by omega, by omega⟩) (by first | exact h_jf j3 (by omega) (by omega) (by omega) | exact Or.inr ⟨by omega, by omega, by omega⟩)
  · have qz2 : z2 = (Int32.ofInt 1) := h_lit (show z2.toInt = 1 by omega) ci_1
    subst qz2
    refine h_call (sp := false) (pc' := 1285) (M := [(0, .ref 9), (1, .int (Int32.ofInt 1)), (2, .int z4), (3, .int z6)]) rfl rfl rfl rfl rfl rfl rfl rfl ?_
    refine u_sheetX1 _ I0  z4 _ hz4 z6 _ hz6 (fun r67 br67 hr67 s68 Is68 Gs68 tr67 pcs68 => h_Kv ?_)
    have Zs68 : ∀ i, s68 0 i = s0 0 i := fun i => (Gs68 0 i rfl).trans rfl
    rcases pcs68 with pcs68 | pcs68 | pcs68
    · refine h_pop (pc' := 1286) rfl rfl rfl ?_
      refine h_aload_n (pc' := 1287) rfl rfl rfl ?_
      refine h_aload_n (pc' := 1288) rfl rfl rfl ?_
      refine h_iload_n (pc' := 1289) rfl rfl rfl ?_
      refine h_iconst (pc' := 1290) (x := (Int32.ofInt 1)) rfl rfl rfl ?_
      refine h_iadd (pc' := 1291) rfl rfl hy3 ci_1 rfl (by omega) (by omega) (fun z69 hz69 => ?_)
      refine h_iald (pc' := 1292) (v := s0 0 (b3 + 1)) rfl rfl rfl hz69 (by omega) (by omega) (Zs68 _) (fun z70 hz70 => ?_)
      have tz70 := h_rgv hz70
      refine h_aload_n (pc' := 1293) rfl rfl rfl ?_
      refine h_iload_n (pc' := 1294) rfl rfl rfl ?_
      refine h_iconst (pc' := 1295) (x := (Int32.ofInt 2)) rfl rfl rfl ?_
      refine h_iadd (pc' := 1296) rfl rfl hy3 ci_2 rfl (by omega) (by omega) (fun z71 hz71 => ?_)
      refine h_iald (pc' := 1297) (v := s0 0 (b3 + 2)) rfl rfl rfl hz71 (by omega) (by omega) (Zs68 _) (fun z72 hz72 => ?_)
      have tz72 := h_rgv hz72
      refine h_aload_n (pc' := 1298) rfl rfl rfl ?_
      refine h_iload_n (pc' := 1299) rfl rfl rfl ?_
      refine h_iconst (pc' := 1300) (x := (Int32.ofInt 3)) rfl rfl rfl ?_
      refine h_iadd (pc' := 1301) rfl rfl hy3 ci_3 rfl (by omega) (by omega) (fun z73 hz73 => ?_)
      refine h_iald (pc' := 1302) (v := s0 0 (b3 + 3)) rfl rfl rfl hz73 (by omega) (by omega) (Zs68 _) (fun z74 hz74 => ?_)
      have tz74 := h_rgv hz74
      rcases (show ((s0 0 (b3 + 1)) = 0) ∨ ((s0 0 (b3 + 1)) = 1) ∨ ((s0 0 (b3 + 1)) = 2) ∨ ((s0 0 (b3 + 1)) = 3) ∨ ((s0 0 (b3 + 1)) ≤ (-1)) ∨ (4 ≤ (s0 0 (b3 + 1))) by omega) with c75 | c75 | c75 | c75 | c75 | c75
      · have qz70 : z70 = (Int32.ofInt 0) := h_lit (show z70.toInt = 0 by omega) ci_0
        subst qz70
        refine h_call (sp := false) (pc' := 1305) (M := [(0, .ref 98), (1, .int (Int32.ofInt 0)), (2, .int z72), (3, .int z74)]) rfl rfl rfl rfl rfl rfl rfl rfl ?_
        refine u_sheetM0 _ Is68  z72 _ hz72 z74 _ hz74 (fun r76 br76 hr76 s77 Is77 Gs77 tr76 pcs77 => h_Kv ?_)
        have Zs77 : ∀ i, s77 0 i = s0 0 i := fun i => (Gs77 0 i rfl).trans (Zs68 i)
        rcases pcs77 with pcs77 | pcs77 | pcs77
        · refine h_pop (pc' := 1306) rfl rfl rfl ?_
          refine h_goto (pc' := 1441) rfl rfl ?_
          exact kk _ Is77 (by first | exact h_jf j0 (by omega) (by omega) (by omega) | exact Or.inr ⟨by omega, by omega, by omega⟩) (by first | exact h_jf j1 (by omega) (by omega) (by omega) | exact Or.inr ⟨by omega, by omega, by omega⟩) (by first | exact h_jf j2 (by omega) (by omega) (by omega) | exact Or.inr ⟨by omega, by omega, by omega⟩) (by first | exact h_jf j3 (by omega) (by omega) (by omega) | exact Or.inr ⟨by omega, by omega, by omega⟩)
        · refine h_pop (pc' := 1306) rfl rfl rfl ?_
          refine h_goto (pc' := 1441) rfl rfl ?_
          exact kk _ Is77 (by first | exact h_jf j0 (by omega) (by omega) (by omega) | exact Or.inr ⟨by omega, by omega, by omega⟩) (by first | exact h_jf j1 (by omega) (by omega) (by omega) | exact Or.inr ⟨by omega, by omega, by omega⟩) (by first | exact h_jf j2 (by omega) (by omega) (by omega) | exact Or.inr ⟨by omega, by omega, by omega⟩) (by first | exact h_jf j3 (by omega) (by omega) (by omega) | exact Or.inr ⟨by omega, by omega, by omega⟩)
        · refine h_pop (pc' := 1306) rfl rfl rfl ?_
          refine h_goto (pc' := 1441) rfl rfl ?_
          exact kk _ Is77 (by first | exact h_jf j0 (by omega) (by omega) (by omega) | exact Or.inr ⟨by omega, by omega, by omega⟩) (by first | exact h_jf j1 (by omega) (by omega) (by omega) | exact Or.inr ⟨by omega, by omega, by omega⟩) (by first | exact h_jf j2 (by omega) (by omega) (by omega) | exact Or.inr ⟨by omega, by omega, by omega⟩) (by first | exact h_jf j3 (by omega) (by omega) (by omega) | exact Or.inr ⟨by omega, by omega, by omega⟩)
      · have qz70 : z70 = (Int32.ofInt 1) := h_lit (show z70.toInt = 1 by omega) ci_1
        subst qz70
        refine h_call (sp := false) (pc' := 1305) (M := [(0, .ref 98), (1, .int (Int32.ofInt 1)), (2, .int z72), (3, .int z74)]) rfl rfl rfl rfl rfl rfl rfl rfl ?_
        refine u_sheetM1 _ Is68  z72 _ hz72 z74 _ hz74 (fun r78 br78 hr78 s79 Is79 Gs79 tr78 pcs79 => h_Kv ?_)
        have Zs79 : ∀ i, s79 0 i = s0 0 i := fun i => (Gs79 0 i rfl).trans (Zs68 i)
        rcases pcs79 with pcs79 | pcs79 | pcs79
        · refine h_pop (pc' := 1306) rfl rfl rfl ?_
          refine h_goto (pc' := 1441) rfl rfl ?_
          exact kk _ Is79 (by first | exact h_jf j0 (by omega) (by omega) (by omega) | exact Or.inr ⟨by omega, by omega, by omega⟩) (by first | exact h_jf j1 (by omega) (by omega) (by omega) | exact Or.inr ⟨by omega, by omega, by omega⟩) (by first | exact h_jf j2 (by omega) (by omega) (by omega) | exact Or.inr ⟨by omega, by omega, by omega⟩) (by first | exact h_jf j3 (by omega) (by omega) (by omega) | exact Or.inr ⟨by omega, by omega, by omega⟩)
        · refine h_pop (pc' := 1306) rfl rfl rfl ?_
          refine h_goto (pc' := 1441) rfl rfl ?_
          exact kk _ Is79 (by first | exact h_jf j0 (by omega) (by omega) (by omega) | exact Or.inr ⟨by omega, by omega, by omega⟩) (by first | exact h_jf j1 (by omega) (by omega) (by omega) | exact Or.inr ⟨by omega, by omega, by omega⟩) (by first | exact h_jf j2 (by omega) (by omega) (by omega) | exact Or.inr ⟨by omega, by omega, by omega⟩) (by first | exact h_jf j3 (by omega) (by omega) (by omega) | exact Or.inr ⟨by omega, by omega, by omega⟩)
        · refine h_pop (pc' := 1306) rfl rfl rfl ?_
          refine h_goto (pc' := 1441) rfl rfl ?_
          exact kk _ Is79 (by first | exact h_jf j0 (by omega) (by omega) (by omega) | exact Or.inr ⟨by omega, by omega, by omega⟩) (by first | exact h_jf j1 (by omega) (by omega) (by omega) | exact Or.inr ⟨by omega, by omega, by omega⟩) (by first | exact h_jf j2 (by omega) (by omega) (by omega) | exact Or.inr ⟨by omega, by omega, by omega⟩) (by first | exact h_jf j3 (by omega) (by omega) (by omega) | exact Or.inr ⟨by omega, by omega, by omega⟩)
      · have qz70 : z70 = (Int32.ofInt 2) := h_lit (show z70.toInt = 2 by omega) ci_2
        subst qz70
        refine h_call (sp := false) (pc' := 1305) (M := [(0, .ref 98), (1, .int (Int32.ofInt 2)), (2, .int z72), (3, .int z74)]) rfl rfl rfl rfl rfl rfl rfl rfl ?_
        refine u_sheetM2 _ Is68  z72 _ hz72 z74 _ hz74 (fun r80 br80 hr80 s81 Is81 Gs81 tr80 pcs81 => h_Kv ?_)
        have Zs81 : ∀ i, s81 0 i = s0 0 i := fun i => (Gs81 0 i rfl).trans (Zs68 i)
        rcases pcs81 with pcs81 | pcs81 | pcs81
        · refine h_pop (pc' := 1306) rfl rfl rfl ?_
          refine h_goto (pc' := 1441) rfl rfl ?_
          exact kk _ Is81 (by first | exact h_jf j0 (by omega) (by omega) (by omega) | exact Or.inr ⟨by omega, by omega, by omega⟩) (by first | exact h_jf j1 (by omega) (by omega) (by omega) | exact Or.inr ⟨by omega, by omega, by omega⟩) (by first | exact h_jf j2 (by omega) (by omega) (by omega) | exact Or.inr ⟨by omega, by omega, by omega⟩) (by first | exact h_jf j3 (by omega) (by omega) (by omega) | exact Or.inr ⟨by omega, by omega, by omega⟩)
        · refine h_pop (pc' := 1306) rfl rfl rfl ?_
          refine h_goto (pc' := 1441) rfl rfl ?_
          exact kk _ Is81 (by first | exact h_jf j0 (by omega) (by omega) (by omega) | exact Or.inr ⟨by omega, by omega, by omega⟩) (by first | exact h_jf j1 (by omega) (by omega) (by omega) | exact Or.inr ⟨by omega, by omega, by omega⟩) (by first | exact h_jf j2 (by omega) (by omega) (by omega) | exact Or.inr ⟨by omega, by omega, by omega⟩) (by first | exact h_jf j3 (by omega) (by omega) (by omega) | exact Or.inr ⟨by omega, by omega, by omega⟩)
        · refine h_pop (pc' := 1306) rfl rfl rfl ?_
          refine h_goto (pc' := 1441) rfl rfl ?_
          exact kk _ Is81 (by first | exact h_jf j0 (by omega) (by omega) (by omega) | exact Or.inr ⟨by omega, by omega, by omega⟩) (by first | exact h_jf j1 (by omega) (by omega) (by omega) | exact Or.inr ⟨by omega, by omega, by omega⟩) (by first | exact h_jf j2 (by omega) (by omega) (by omega) | exact Or.inr ⟨by omega, by omega, by omega⟩) (by first | exact h_jf j3 (by omega) (by omega) (by omega) | exact Or.inr ⟨by omega, by omega, by omega⟩)
      · have qz70 : z70 = (Int32.ofInt 3) := h_lit (show z70.toInt = 3 by omega) ci_3
        subst qz70
        refine h_call (sp := false) (pc' := 1305) (M := [(0, .ref 98), (1, .int (Int32.ofInt 3)), (2, .int z72), (3, .int z74)]) rfl rfl rfl rfl rfl rfl rfl rfl ?_
        refine u_sheetM3 _ Is68  z72 _ hz72 z74 _ hz74 (fun r82 br82 hr82 s83 Is83 Gs83 tr82 pcs83 => h_Kv ?_)
        have Zs83 : ∀ i, s83 0 i = s0 0 i := fun i => (Gs83 0 i rfl).trans (Zs68 i)
        rcases pcs83 with pcs83 | pcs83 | pcs83
        · refine h_pop (pc' := 1306) rfl rfl rfl ?_
          refine h_goto (pc' := 1441) rfl rfl ?_
          exact kk _ Is83 (by first | exact h_jf j0 (by omega) (by omega) (by omega) | exact Or.inr ⟨by omega, by omega, by omega⟩) (by first | exact h_jf j1 (by omega) (by omega) (by omega) | exact Or.inr ⟨by omega, by omega, by omega⟩) (by first | exact h_jf j2 (by omega) (by omega) (by omega) | exact Or.inr ⟨by omega, by omega, by omega⟩) (by first | exact h_jf j3 (by omega) (by omega) (by omega) | exact Or.inr ⟨by omega, by omega, by omega⟩)
        · refine h_pop (pc' := 1306) rfl rfl rfl ?_
          refine h_goto (pc' := 1441) rfl rfl ?_
          exact kk _ Is83 (by first | exact h_jf j0 (by omega) (by omega) (by omega) | exact Or.inr ⟨by omega, by omega, by omega⟩) (by first | exact h_jf j1 (by omega) (by omega) (by omega) | exact Or.inr ⟨by omega, by omega, by omega⟩) (by first | exact h_jf j2 (by omega) (by omega) (by omega) | exact Or.inr ⟨by omega, by omega, by omega⟩) (by first | exact h_jf j3 (by omega) (by omega) (by omega) | exact Or.inr ⟨by omega, by omega, by omega⟩)
        · refine h_pop (pc' := 1306) rfl rfl rfl ?_
          refine h_goto (pc' := 1441) rfl rfl ?_
          exact kk _ Is83 (by first | exact h_jf j0 (by omega) (by omega) (by omega) | exact Or.inr ⟨by omega, by omega, by omega⟩) (by first | exact h_jf j1 (by omega) (by omega) (by omega) | exact Or.inr ⟨by omega, by omega, by omega⟩) (by first | exact h_jf j2 (by omega) (by omega) (by omega) | exact Or.inr ⟨by omega, by omega, by omega⟩) (by first | exact h_jf j3 (by omega) (by omega) (by omega) | exact Or.inr ⟨by omega, by omega, by omega⟩)
      · refine h_call (sp := false) (pc' := 1305) (M := [(0, .ref 98), (1, .int z70), (2, .int z72), (3, .int z74)]) rfl rfl rfl rfl rfl rfl rfl rfl ?_
        refine u_sheetMn _ Is68 z70 _ hz70 (by omega) z72 _ hz72 z74 _ hz74 (fun r84 br84 hr84 s85 Is85 Gs85 tr84 pcs85 => h_Kv ?_)
        have Zs85 : ∀ i, s85 0 i = s0 0 i := fun i => (Gs85 0 i rfl).trans (Zs68 i)
        have es85_0 : s85 95 0 = s68 95 0 := (Gs85 95 0 rfl).trans rfl
        have es85_1 : s85 95 1 = s68 95 1 := (Gs85 95 1 rfl).trans rfl
        have es85_2 : s85 95 2 = s68 95 2 := (Gs85 95 2 rfl).trans rfl
        have es85_3 : s85 95 3 = s68 95 3 := (Gs85 95 3 rfl).trans rfl
        have es85_4 : s85 96 0 = s68 96 0 := (Gs85 96 0 rfl).trans rfl
        have es85_5 : s85 96 1 = s68 96 1 := (Gs85 96 1 rfl).trans rfl
        have es85_6 : s85 96 2 = s68 96 2 := (Gs85 96 2 rfl).trans rfl
        have es85_7 : s85 96 3 = s68 96 3 := (Gs85 96 3 rfl).trans rfl
        have es85_8 : s85 111 0 = s68 111 0 := (Gs85 111 0 rfl).trans rfl
        have es85_9 : s85 111 1 = s68 111 1 := (Gs85 111 1 rfl).trans rfl
        have es85_10 : s85 111 2 = s68 111 2 := (Gs85 111 2 rfl).trans rfl
        have es85_11 : s85 111 3 = s68 111 3 := (Gs85 111 3 rfl).trans rfl
        have es85_12 : s85 112 0 = s68 112 0 := (Gs85 112 0 rfl).trans rfl
        have es85_13 : s85 112 1 = s68 112 1 := (Gs85 112 1 rfl).trans rfl
        have es85_14 : s85 112 2 = s68 112 2 := (Gs85 112 2 rfl).trans rfl
        have es85_15 : s85 112 3 = s68 112 3 := (Gs85 112 3 rfl).trans rfl
        rcases pcs85 with pcs85
        · refine h_pop (pc' := 1306) rfl rfl rfl ?_
          refine h_goto (pc' := 1441) rfl rfl ?_
          exact kk _ Is85 (by first | exact h_jf j0 (by omega) (by omega) (by omega) | exact Or.inr ⟨by omega, by omega, by omega⟩) (by first | exact h_jf j1 (by omega) (by omega) (by omega) | exact Or.inr ⟨by omega, by omega, by omega⟩) (by first | exact h_jf j2 (by omega) (by omega) (by omega) | exact Or.inr ⟨by omega, by omega, by omega⟩) (by first | exact h_jf j3 (by omega) (by omega) (by omega) | exact Or.inr ⟨by omega, by omega, by omega⟩)
      · refine h_call (sp := false) (pc' := 1305) (M := [(0, .ref 98), (1, .int z70), (2, .int z72), (3, .int z74)]) rfl rfl rfl rfl rfl rfl rfl rfl ?_
        refine u_sheetMp _ Is68 z70 _ hz70 (by omega) z72 _ hz72 z74 _ hz74 (fun r86 br86 hr86 s87 Is87 Gs87 tr86 pcs87 => h_Kv ?_)
        have Zs87 : ∀ i, s87 0 i = s0 0 i := fun i => (Gs87 0 i rfl).trans (Zs68 i)
        have es87_0 : s87 95 0 = s68 95 0 := (Gs87 95 0 rfl).trans rfl
        have es87_1 : s87 95 1 = s68 95 1 := (Gs87 95 1 rfl).trans rfl
        have es87_2 : s87 95 2 = s68 95 2 := (Gs87 95 2 rfl).trans rfl
        have es87_3 : s87 95 3 = s68 95 3 := (Gs87 95 3 rfl).trans rfl
        have es87_4 : s87 96 0 = s68 96 0 := (Gs87 96 0 rfl).trans rfl
        have es87_5 : s87 96 1 = s68 96 1 := (Gs87 96 1 rfl).trans rfl
        have es87_6 : s87 96 2 = s68 96 2 := (Gs87 96 2 rfl).trans rfl
        have es87_7 : s87 96 3 = s68 96 3 := (Gs87 96 3 rfl).trans rfl
        have es87_8 : s87 111 0 = s68 111 0 := (Gs87 111 0 rfl).trans rfl
        have es87_9 : s87 111 1 = s68 111 1 := (Gs87 111 1 rfl).trans rfl
        have es87_10 : s87 111 2 = s68 111 2 := (Gs87 111 2 rfl).trans rfl
        have es87_11 : s87 111 3 = s68 111 3 := (Gs87 111 3 rfl).trans rfl
        have es87_12 : s87 112 0 = s68 112 0 := (Gs87 112 0 rfl).trans rfl
        have es87_13 : s87 112 1 = s68 112 1 := (Gs87 112 1 rfl).trans rfl
        have es87_14 : s87 112 2 = s68 112 2 := (Gs87 112 2 rfl).trans rfl
        have es87_15 : s87 112 3 = s68 112 3 := (Gs87 112 3 rfl).trans rfl
        rcases pcs87 with pcs87
        · refine h_pop (pc' := 1306) rfl rfl rfl ?_
          refine h_goto (pc' := 1441) rfl rfl ?_
          exact kk _ Is87 (by first | exact h_jf j0 (by omega) (by omega) (by omega) | exact Or.inr ⟨by omega, by omega, by omega⟩) (by first | exact h_jf j1 (by omega) (by omega) (by omega) | exact Or.inr ⟨by omega, by omega, by omega⟩) (by first | exact h_jf j2 (by omega) (by omega) (by omega) | exact Or.inr ⟨by omega, by omega, by omega⟩) (by first | exact h_jf j3 (by omega) (by omega) (by omega) | exact Or.inr ⟨by omega, by omega, by omega⟩)
    · refine h_pop (pc' := 1286) rfl rfl rfl ?_
      refine h_aload_n (pc' := 1287) rfl rfl rfl ?_
      refine h_aload_n (pc' := 1288) rfl rfl rfl ?_
      refine h_iload_n (pc' := 1289) rfl rfl rfl ?_
      refine h_iconst (pc' := 1290) (x := (Int32.ofInt 1)) rfl rfl rfl ?_
      refine h_iadd (pc' := 1291) rfl rfl hy3 ci_1 rfl (by omega) (by omega) (fun z88 hz88 => ?_)
      refine h_iald (pc' := 1292) (v := s0 0 (b3 + 1)) rfl rfl rfl hz88 (by omega) (by omega) (Zs68 _) (fun z89 hz89 => ?_)
      have tz89 := h_rgv hz89
      refine h_aload_n (pc' := 1293) rfl rfl rfl ?_
      refine h_iload_n (pc' := 1294) rfl rfl rfl ?_
      refine h_iconst (pc' := 1295) (x := (Int32.ofInt 2)) rfl rfl rfl ?_
      refine h_iadd (pc' := 1296) rfl rfl hy3 ci_2 rfl (by omega) (by omega) (fun z90 hz90 => ?_)
      refine h_iald (pc' := 1297) (v := s0 0 (b3 + 2)) rfl rfl rfl hz90 (by omega) (by omega) (Zs68 _) (fun z91 hz91 => ?_)
      have tz91 := h_rgv hz91
      refine h_aload_n (pc' := 1298) rfl rfl rfl ?_
      refine h_iload_n (pc' := 1299) rfl rfl rfl ?_
      refine h_iconst (pc' := 1300) (x := (Int32.ofInt 3)) rfl rfl rfl ?_
      refine h_iadd (pc' := 1301) rfl rfl hy3 ci_3 rfl (by omega) (by omega) (fun z92 hz92 => ?_)
      refine h_iald (pc' := 1302) (v := s0 0 (b3 + 3)) rfl rfl rfl hz92 (by omega) (by omega) (Zs68 _) (fun z93 hz93 => ?_)
      have tz93 := h_rgv hz93
      rcases (show ((s0 0 (b3 + 1)) = 0) ∨ ((s0 0 (b3 + 1)) = 1) ∨ ((s0 0 (b3 + 1)) = 2) ∨ ((s0 0 (b3 + 1)) = 3) ∨ ((s0 0 (b3 + 1)) ≤ (-1)) ∨ (4 ≤ (s0 0 (b3 + 1))) by omega) with c94 | c94 | c94 | c94 | c94 | c94
      · have qz89 : z89 = (Int32.ofInt 0) := h_lit (show z89.toInt = 0 by omega) ci_0
        subst qz89
        refine h_call (sp := false) (pc' := 1305) (M := [(0, .ref 98), (1, .int (Int32.ofInt 0)), (2, .int z91), (3, .int z93)]) rfl rfl rfl rfl rfl rfl rfl rfl ?_
        refine u_sheetM0 _ Is68  z91 _ hz91 z93 _ hz93 (fun r95 br95 hr95 s96 Is96 Gs96 tr95 pcs96 => h_Kv ?_)
        have Zs96 : ∀ i, s96 0 i = s0 0 i := fun i => (Gs96 0 i rfl).trans (Zs68 i)
        rcases pcs96 with pcs96 | pcs96 | pcs96
        · refine h_pop (pc' := 1306) rfl rfl rfl ?_
          refine h_goto (pc' := 1441) rfl rfl ?_
          exact kk _ Is96 (by first | exact h_jf j0 (by omega) (by omega) (by omega) | exact Or.inr ⟨by omega, by omega, by omega⟩) (by first | exact h_jf j1 (by omega) (by omega) (by omega) | exact Or.inr ⟨by omega, by omega, by omega⟩) (by first | exact h_jf j2 (by omega) (by omega) (by omega) | exact Or.inr ⟨by omega, by omega, by omega⟩) (by first | exact h_jf j3 (by omega) (by omega) (by omega) | exact Or.inr ⟨by omega, by omega, by omega⟩)
        · refine h_pop (pc' := 1306) rfl rfl rfl ?_
          refine h_goto (pc' := 1441) rfl rfl ?_
          exact kk _ Is96 (by first | exact h_jf j0 (by omega) (by omega) (by omega) | exact Or.inr ⟨by omega, by omega, by omega⟩) (by first | exact h_jf j1 (by omega) (by omega) (by omega) | exact Or.inr ⟨by omega, by omega, by omega⟩) (by first | exact h_jf j2 (by omega) (by omega) (by omega) | exact Or.inr ⟨by omega, by omega, by omega⟩) (by first | exact h_jf j3 (by omega) (by omega) (by omega) | exact Or.inr ⟨by omega, by omega, by omega⟩)
        · refine h_pop (pc' := 1306) rfl rfl rfl ?_
          refine h_goto (pc' := 1441) rfl rfl ?_
          exact kk _ Is96 (by first | exact h_jf j0 (by omega) (by omega) (by omega) | exact Or.inr ⟨by omega, by omega, by omega⟩) (by first | exact h_jf j1 (by omega) (by omega) (by omega) | exact Or.inr ⟨by omega, by omega, by omega⟩) (by first | exact h_jf j2 (by omega) (by omega) (by omega) | exact Or.inr ⟨by omega, by omega, by omega⟩) (by first | exact h_jf j3 (by omega) (by omega) (by omega) | exact Or.inr ⟨by omega, by omega, by omega⟩)
      · have qz89 : z89 = (Int32.ofInt 1) := h_lit (show z89.toInt = 1 by omega) ci_1
        subst qz89
        refine h_call (sp := false) (pc' := 1305) (M := [(0, .ref 98), (1, .int (Int32.ofInt 1)), (2, .int z91), (3, .int z93)]) rfl rfl rfl rfl rfl rfl rfl rfl ?_
        refine u_sheetM1 _ Is68  z91 _ hz91 z93 _ hz93 (fun r97 br97 hr97 s98 Is98 Gs98 tr97 pcs98 => h_Kv ?_)
        have Zs98 : ∀ i, s98 0 i = s0 0 i := fun i => (Gs98 0 i rfl).trans (Zs68 i)
        rcases pcs98 with pcs98 | pcs98 | pcs98
        · refine h_pop (pc' := 1306) rfl rfl rfl ?_
          refine h_goto (pc' := 1441) rfl rfl ?_
          exact kk _ Is98 (by first | exact h_jf j0 (by omega) (by omega) (by omega) | exact Or.inr ⟨by omega, by omega, by omega⟩) (by first | exact h_jf j1 (by omega) (by omega) (by omega) | exact Or.inr ⟨by omega, by omega, by omega⟩) (by first | exact h_jf j2 (by omega) (by omega) (by omega) | exact Or.inr ⟨by omega, by omega, by omega⟩) (by first | exact h_jf j3 (by omega) (by omega) (by omega) | exact Or.inr ⟨by omega, by omega, by omega⟩)
        · refine h_pop (pc' := 1306) rfl rfl rfl ?_
          refine h_goto (pc' := 1441) rfl rfl ?_
          exact kk _ Is98 (by first | exact h_jf j0 (by omega) (by omega) (by omega) | exact Or.inr ⟨by omega, by omega, by omega⟩) (by first | exact h_jf j1 (by omega) (by omega) (by omega) | exact Or.inr ⟨by omega, by omega, by omega⟩) (by first | exact h_jf j2 (by omega) (by omega) (by omega) | exact Or.inr ⟨by omega, by omega, by omega⟩) (by first | exact h_jf j3 (by omega) (by omega) (by omega) | exact Or.inr ⟨by omega, by omega, by omega⟩)
        · refine h_pop (pc' := 1306) rfl rfl rfl ?_
          refine h_goto (pc' := 1441) rfl rfl ?_
          exact kk _ Is98 (by first | exact h_jf j0 (by omega) (by omega) (by omega) | exact Or.inr ⟨by omega, by omega, by omega⟩) (by first | exact h_jf j1 (by omega) (by omega) (by omega) | exact Or.inr ⟨by omega, by omega, by omega⟩) (by first | exact h_jf j2 (by omega) (by omega) (by omega) | exact Or.inr ⟨by omega, by omega, by omega⟩) (by first | exact h_jf j3 (by omega) (by omega) (by omega) | exact Or.inr ⟨by omega, by omega, by omega⟩)
      · have qz89 : z89 = (Int32.ofInt 2) := h_lit (show z89.toInt = 2 by omega) ci_2
        subst qz89
        refine h_call (sp := false) (pc' := 1305) (M := [(0, .ref 98), (1, .int (Int32.ofInt 2)), (2, .int z91), (3, .int z93)]) rfl rfl rfl rfl rfl rfl rfl rfl ?_
        refine u_sheetM2 _ Is68  z91 _ hz91 z93 _ hz93 (fun r99 br99 hr99 s100 Is100 Gs100 tr99 pcs100 => h_Kv ?_)
        have Zs100 : ∀ i, s100 0 i = s0 0 i := fun i => (Gs100 0 i rfl).trans (Zs68 i)
        rcases pcs100 with pcs100 | pcs100 | pcs100
        · refine h_pop (pc' := 1306) rfl rfl rfl ?_
          refine h_goto (pc' := 1441) rfl rfl ?_
          exact kk _ Is100 (by first | exact h_jf j0 (by omega) (by omega) (by omega) | exact Or.inr ⟨by omega, by omega, by omega⟩) (by first | exact h_jf j1 (by omega) (by omega) (by omega) | exact Or.inr ⟨by omega, by omega, by omega⟩) (by first | exact h_jf j2 (by omega) (by omega) (by omega) | exact Or.inr ⟨by omega, by omega, by omega⟩) (by first | exact h_jf j3 (by omega) (by omega) (by omega) | exact Or.inr ⟨by omega, by omega, by omega⟩)
        · refine h_pop (pc' := 1306) rfl rfl rfl ?_
          refine h_goto (pc' := 1441) rfl rfl ?_
          exact kk _ Is100 (by first | exact h_jf j0 (by omega) (by omega) (by omega) | exact Or.inr ⟨by omega, by omega, by omega⟩) (by first | exact h_jf j1 (by omega) (by omega) (by omega) | exact Or.inr ⟨by omega, by omega, by omega⟩) (by first | exact h_jf j2 (by omega) (by omega) (by omega) | exact Or.inr ⟨by omega, by omega, by omega⟩) (by first | exact h_jf j3 (by omega) (by omega) (by omega) | exact Or.inr ⟨by omega, by omega, by omega⟩)
        · refine h_pop (pc' := 1306) rfl rfl rfl ?_
          refine h_goto (pc' := 1441) rfl rfl ?_
          exact kk _ Is100 (by first | exact h_jf j0 (by omega) (by omega) (by omega) | exact Or.inr ⟨by omega, by omega, by omega⟩) (by first | exact h_jf j1 (by omega) (by omega) (by omega) | exact Or.inr ⟨by omega, by omega, by omega⟩) (by first | exact h_jf j2 (by omega) (by omega) (by omega) | exact Or.inr ⟨by omega, by omega, by omega⟩) (by first | exact h_jf j3 (by omega) (by omega) (by omega) | exact Or.inr ⟨by omega, by omega, by omega⟩)
      · have qz89 : z89 = (Int32.ofInt 3) := h_lit (show z89.toInt = 3 by omega) ci_3
        subst qz89
        refine h_call (sp := false) (pc' := 1305) (M := [(0, .ref 98), (1, .int (Int32.ofInt 3)), (2, .int z91), (3, .int z93)]) rfl rfl rfl rfl rfl rfl rfl rfl ?_
        refine u_sheetM3 _ Is68  z91 _ hz91 z93 _ hz93 (fun r101 br101 hr101 s102 Is102 Gs102 tr101 pcs102 => h_Kv ?_)
        have Zs102 : ∀ i, s102 0 i = s0 0 i := fun i => (Gs102 0 i rfl).trans (Zs68 i)
        rcases pcs102 with pcs102 | pcs102 | pcs102
        · refine h_pop (pc' := 1306) rfl rfl rfl ?_
          refine h_goto (pc' := 1441) rfl rfl ?_
          exact kk _ Is102 (by first | exact h_jf j0 (by omega) (by omega) (by omega) | exact Or.inr ⟨by omega, by omega, by omega⟩) (by first | exact h_jf j1 (by omega) (by omega) (by omega) | exact Or.inr ⟨by omega, by omega, by omega⟩) (by first | exact h_jf j2 (by omega) (by omega) (by omega) | exact Or.inr ⟨by omega, by omega, by omega⟩) (by first | exact h_jf j3 (by omega) (by omega) (by omega) | exact Or.inr ⟨by omega, by omega, by omega⟩)
        · refine h_pop (pc' := 1306) rfl rfl rfl ?_
          refine h_goto (pc' := 1441) rfl rfl ?_
          exact kk _ Is102 (by first | exact h_jf j0 (by omega) (by omega) (by omega) | exact Or.inr ⟨by omega, by omega, by omega⟩) (by first | exact h_jf j1 (by omega) (by omega) (by omega) | exact Or.inr ⟨by omega, by omega, by omega⟩) (by first | exact h_jf j2 (by omega) (by omega) (by omega) | exact Or.inr ⟨by omega, by omega, by omega⟩) (by first | exact h_jf j3 (by omega) (by omega) (by omega) | exact Or.inr ⟨by omega, by omega, by omega⟩)
        · refine h_pop (pc' := 1306) rfl rfl rfl ?_
          refine h_goto (pc' := 1441) rfl rfl ?_
          exact kk _ Is102 (by first | exact h_jf j0 (by omega) (by omega) (by omega) | exact Or.inr ⟨by omega, by omega, by omega⟩) (by first | exact h_jf j1 (by omega) (by omega) (by omega) | exact Or.inr ⟨by omega, by omega, by omega⟩) (by first | exact h_jf j2 (by omega) (by omega) (by omega) | exact Or.inr ⟨by omega, by omega, by omega⟩) (by first | exact h_jf j3 (by omega) (by omega) (by omega) | exact Or.inr ⟨by omega, by omega, by omega⟩)
      · refine h_call (sp := false) (pc' := 1305) (M := [(0, .ref 98), (1, .int z89), (2, .int z91), (3, .int z93)]) rfl rfl rfl rfl rfl rfl rfl rfl ?_
        refine u_sheetMn _ Is68 z89 _ hz89 (by omega) z91 _ hz91 z93 _ hz93 (fun r103 br103 hr103 s104 Is104 Gs104 tr103 pcs104 => h_Kv ?_)
        have Zs104 : ∀ i, s104 0 i = s0 0 i := fun i => (Gs104 0 i rfl).trans (Zs68 i)
        have es104_0 : s104 95 0 = s68 95 0 := (Gs104 95 0 rfl).trans rfl
        have es104_1 : s104 95 1 = s68 95 1 := (Gs104 95 1 rfl).trans rfl
        have es104_2 : s104 95 2 = s68 95 2 := (Gs104 95 2 rfl).trans rfl
        have es104_3 : s104 95 3 = s68 95 3 := (Gs104 95 3 rfl).trans rfl
        have es104_4 : s104 96 0 = s68 96 0 := (Gs104 96 0 rfl).trans rfl
        have es104_5 : s104 96 1 = s68 96 1 := (Gs104 96 1 rfl).trans rfl
        have es104_6 : s104 96 2 = s68 96 2 := (Gs104 96 2 rfl).trans rfl
        have es104_7 : s104 96 3 = s68 96 3 := (Gs104 96 3 rfl).trans rfl
        have es104_8 : s104 111 0 = s68 111 0 := (Gs104 111 0 rfl).trans rfl
        have es104_9 : s104 111 1 = s68 111 1 := (Gs104 111 1 rfl).trans rfl
        have es104_10 : s104 111 2 = s68 111 2 := (Gs104 111 2 rfl).trans rfl
        have es104_11 : s104 111 3 = s68 111 3 := (Gs104 111 3 rfl).trans rfl
        have es104_12 : s104 112 0 = s68 112 0 := (Gs104 112 0 rfl).trans rfl
        have es104_13 : s104 112 1 = s68 112 1 := (Gs104 112 1 rfl).trans rfl
        have es104_14 : s104 112 2 = s68 112 2 := (Gs104 112 2 rfl).trans rfl
        have es104_15 : s104 112 3 = s68 112 3 := (Gs104 112 3 rfl).trans rfl
        rcases pcs104 with pcs104
        · refine h_pop (pc' := 1306) rfl rfl rfl ?_
          refine h_goto (pc' := 1441) rfl rfl ?_
          exact kk _ Is104 (by first | exact h_jf j0 (by omega) (by omega) (by omega) | exact Or.inr ⟨by omega, by omega, by omega⟩) (by first | exact h_jf j1 (by omega) (by omega) (by omega) | exact Or.inr ⟨by omega, by omega, by omega⟩) (by first | exact h_jf j2 (by omega) (by omega) (by omega) | exact Or.inr ⟨by omega, by omega, by omega⟩) (by first | exact h_jf j3 (by omega) (by omega) (by omega) | exact Or.inr ⟨by omega, by omega, by omega⟩)
      · refine h_call (sp := false) (pc' := 1305) (M := [(0, .ref 98), (1, .int z89), (2, .int z91), (3, .int z93)]) rfl rfl rfl rfl rfl rfl rfl rfl ?_
        refine u_sheetMp _ Is68 z89 _ hz89 (by omega) z91 _ hz91 z93 _ hz93 (fun r105 br105 hr105 s106 Is106 Gs106 tr105 pcs106 => h_Kv ?_)
        have Zs106 : ∀ i, s106 0 i = s0 0 i := fun i => (Gs106 0 i rfl).trans (Zs68 i)
        have es106_0 : s106 95 0 = s68 95 0 := (Gs106 95 0 rfl).trans rfl
        have es106_1 : s106 95 1 = s68 95 1 := (Gs106 95 1 rfl).trans rfl
        have es106_2 : s106 95 2 = s68 95 2 := (Gs106 95 2 rfl).trans rfl
        have es106_3 : s106 95 3 = s68 95 3 := (Gs106 95 3 rfl).trans rfl
        have es106_4 : s106 96 0 = s68 96 0 := (Gs106 96 0 rfl).trans rfl
        have es106_5 : s106 96 1 = s68 96 1 := (Gs106 96 1 rfl).trans rfl
        have es106_6 : s106 96 2 = s68 96 2 := (Gs106 96 2 rfl).trans rfl
        have es106_7 : s106 96 3 = s68 96 3 := (Gs106 96 3 rfl).trans rfl
        have es106_8 : s106 111 0 = s68 111 0 := (Gs106 111 0 rfl).trans rfl
        have es106_9 : s106 111 1 = s68 111 1 := (Gs106 111 1 rfl).trans rfl
        have es106_10 : s106 111 2 = s68 111 2 := (Gs106 111 2 rfl).trans rfl
        have es106_11 : s106 111 3 = s68 111 3 := (Gs106 111 3 rfl).trans rfl
        have es106_12 : s106 112 0 = s68 112 0 := (Gs106 112 0 rfl).trans rfl
        have es106_13 : s106 112 1 = s68 112 1 := (Gs106 112 1 rfl).trans rfl
        have es106_14 : s106 112 2 = s68 112 2 := (Gs106 112 2 rfl).trans rfl
        have es106_15 : s106 112 3 = s68 112 3 := (Gs106 112 3 rfl).trans rfl
        rcases pcs106 with pcs106
        · refine h_pop (pc' := 1306) rfl rfl rfl ?_
          refine h_goto (pc' := 1441) rfl rfl ?_
          exact kk _ Is106 (by first | exact h_jf j0 (by omega) (by omega) (by omega) | exact Or.inr ⟨by omega, by omega, by omega⟩) (by first | exact h_jf j1 (by omega) (by omega) (by omega) | exact Or.inr ⟨by omega, by omega, by omega⟩) (by first | exact h_jf j2 (by omega) (by omega) (by omega) | exact Or.inr ⟨by omega, by omega, by omega⟩) (by first | exact h_jf j3 (by omega) (by omega) (by omega) | exact Or.inr ⟨by omega, by omega, by omega⟩)
    · refine h_pop (pc' := 1286) rfl rfl rfl ?_
      refine h_aload_n (pc' := 1287) rfl rfl rfl ?_
      refine h_aload_n (pc' := 1288) rfl rfl rfl ?_
      refine h_iload_n (pc' := 1289) rfl rfl rfl ?_
      refine h_iconst (pc' := 1290) (x := (Int32.ofInt 1)) rfl rfl rfl ?_
      refine h_iadd (pc' := 1291) rfl rfl hy3 ci_1 rfl (by omega) (by omega) (fun z107 hz107 => ?_)
      refine h_iald (pc' := 1292) (v := s0 0 (b3 + 1)) rfl rfl rfl hz107 (by omega) (by omega) (Zs68 _) (fun z108 hz108 => ?_)
      have tz108 := h_rgv hz108
      refine h_aload_n (pc' := 1293) rfl rfl rfl ?_
      refine h_iload_n (pc' := 1294) rfl rfl rfl ?_
      refine h_iconst (pc' := 1295) (x := (Int32.ofInt 2)) rfl rfl rfl ?_
      refine h_iadd (pc' := 1296) rfl rfl hy3 ci_2 rfl (by omega) (by omega) (fun z109 hz109 => ?_)
      refine h_iald (pc' := 1297) (v := s0 0 (b3 + 2)) rfl rfl rfl hz109 (by omega) (by omega) (Zs68 _) (fun z110 hz110 => ?_)
      have tz110 := h_rgv hz110
      refine h_aload_n (pc' := 1298) rfl rfl rfl ?_
      refine h_iload_n (pc' := 1299) rfl rfl rfl ?_
      refine h_iconst (pc' := 1300) (x := (Int32.ofInt 3)) rfl rfl rfl ?_
      refine h_iadd (pc' := 1301) rfl rfl hy3 ci_3 rfl (by omega) (by omega) (fun z111 hz111 => ?_)
      refine h_iald (pc' := 1302) (v := s0 0 (b3 + 3)) rfl rfl rfl hz111 (by omega) (by omega) (Zs68 _) (fun z112 hz112 => ?_)
      have tz112 := h_rgv hz112
      rcases (show ((s0 0 (b3 + 1)) = 0) ∨ ((s0 0 (b3 + 1)) = 1) ∨ ((s0 0 (b3 + 1)) = 2) ∨ ((s0 0 (b3 + 1)) = 3) ∨ ((s0 0 (b3 + 1)) ≤ (-1)) ∨ (4 ≤ (s0 0 (b3 + 1))) by omega) with c113 | c113 | c113 | c113 | c113 | c113
      · have qz108 : z108 = (Int32.ofInt 0) := h_lit (show z108.toInt = 0 by omega) ci_0
        subst qz108
        refine h_call (sp := false) (pc' := 1305) (M := [(0, .ref 98), (1, .int (Int32.ofInt 0)), (2, .int z110), (3, .int z112)]) rfl rfl rfl rfl rfl rfl rfl rfl ?_
        refine u_sheetM0 _ Is68  z110 _ hz110 z112 _ hz112 (fun r114 br114 hr114 s115 Is115 Gs115 tr114 pcs115 => h_Kv ?_)
        have Zs115 : ∀ i, s115 0 i = s0 0 i := fun i => (Gs115 0 i rfl).trans (Zs68 i)
        rcases pcs115 with pcs115 | pcs115 | pcs115
        · refine h_pop (pc' := 1306) rfl rfl rfl ?_
          refine h_goto (pc' := 1441) rfl rfl ?_
          exact kk _ Is115 (by first | exact h_jf j0 (by omega) (by omega) (by omega) | exact Or.inr ⟨by omega, by omega, by omega⟩) (by first | exact h_jf j1 (by omega) (by omega) (by omega) | exact Or.inr ⟨by omega, by omega, by omega⟩) (by first | exact h_jf j2 (by omega) (by omega) (by omega) | exact Or.inr ⟨by omega, by omega, by omega⟩) (by first | exact h_jf j3 (by omega) (by omega) (by omega) | exact Or.inr ⟨by omega, by omega, by omega⟩)
        · refine h_pop (pc' := 1306) rfl rfl rfl ?_
          refine h_goto (pc' := 1441) rfl rfl ?_
          exact kk _ Is115 (by first | exact h_jf j0 (by omega) (by omega) (by omega) | exact Or.inr ⟨by omega, by omega, by omega⟩) (by first | exact h_jf j1 (by omega) (by omega) (by omega) | exact Or.inr ⟨by omega, by omega, by omega⟩) (by first | exact h_jf j2 (by omega) (by omega) (by omega) | exact Or.inr ⟨by omega, by omega, by omega⟩) (by first | exact h_jf j3 (by omega) (by omega) (by omega) | exact Or.inr ⟨by omega, by omega, by omega⟩)
        · refine h_pop (pc' := 1306) rfl rfl rfl ?_
          refine h_goto (pc' := 1441) rfl rfl ?_
          exact kk _ Is115 (by first | exact h_jf j0 (by omega) (by omega) (by omega) | exact Or.inr ⟨by omega, by omega, by omega⟩) (by first | exact h_jf j1 (by omega) (by omega) (by omega) | exact Or.inr ⟨by omega, by omega, by omega⟩) (by first | exact h_jf j2 (by omega) (by omega) (by omega) | exact Or.inr ⟨by omega, by omega, by omega⟩) (by first | exact h_jf j3 (by omega) (by omega) (by omega) | exact Or.inr ⟨by omega, by omega, by omega⟩)
      · have qz108 : z108 = (Int32.ofInt 1) := h_lit (show z108.toInt = 1 by omega) ci_1
        subst qz108
        refine h_call (sp := false) (pc' := 1305) (M := [(0, .ref 98), (1, .int (Int32.ofInt 1)), (2, .int z110), (3, .int z112)]) rfl rfl rfl rfl rfl rfl rfl rfl ?_
        refine u_sheetM1 _ Is68  z110 _ hz110 z112 _ hz112 (fun r116 br116 hr116 s117 Is117 Gs117 tr116 pcs117 => h_Kv ?_)
        have Zs117 : ∀ i, s117 0 i = s0 0 i := fun i => (Gs117 0 i rfl).trans (Zs68 i)
        rcases pcs117 with pcs117 | pcs117 | pcs117
        · refine h_pop (pc' := 1306) rfl rfl rfl ?_
          refine h_goto (pc' := 1441) rfl rfl ?_
          exact kk _ Is117 (by first | exact h_jf j0 (by omega) (by omega) (by omega) | exact Or.inr ⟨by omega, by omega, by omega⟩) (by first | exact h_jf j1 (by omega) (by omega) (by omega) | exact Or.inr ⟨by omega, by omega, by omega⟩) (by first | exact h_jf j2 (by omega) (by omega) (by omega) | exact Or.inr ⟨by omega, by omega, by omega⟩) (by first | exact h_jf j3 (by omega) (by omega) (by omega) | exact Or.inr ⟨by omega, by omega, by omega⟩)
        · refine h_pop (pc' := 1306) rfl rfl rfl ?_
          refine h_goto (pc' := 1441) rfl rfl ?_
          exact kk _ Is117 (by first | exact h_jf j0 (by omega) (by omega) (by omega) | exact Or.inr ⟨by omega, by omega, by omega⟩) (by first | exact h_jf j1 (by omega) (by omega) (by omega) | exact Or.inr ⟨by omega, by omega, by omega⟩) (by first | exact h_jf j2 (by omega) (by omega) (by omega) | exact Or.inr ⟨by omega, by omega, by omega⟩) (by first | exact h_jf j3 (by omega) (by omega) (by omega) | exact Or.inr ⟨by omega, by omega, by omega⟩)
        · refine h_pop (pc' := 1306) rfl rfl rfl ?_
          refine h_goto (pc' := 1441) rfl rfl ?_
          exact kk _ Is117 (by first | exact h_jf j0 (by omega) (by omega) (by omega) | exact Or.inr ⟨by omega, by omega, by omega⟩) (by first | exact h_jf j1 (by omega) (by omega) (by omega) | exact Or.inr ⟨by omega, by omega, by omega⟩) (by first | exact h_jf j2 (by omega) (by omega) (by omega) | exact Or.inr ⟨by omega, by omega, by omega⟩) (by first | exact h_jf j3 (by omega) (by omega) (by omega) | exact Or.inr ⟨by omega, by omega, by omega⟩)
      · have qz108 : z108 = (Int32.ofInt 2) := h_lit (show z108.toInt = 2 by omega) ci_2
        subst qz108
        refine h_call (sp := false) (pc' := 1305) (M := [(0, .ref 98), (1, .int (Int32.ofInt 2)), (2, .int z110), (3, .int z112)]) rfl rfl rfl rfl rfl rfl rfl rfl ?_
        refine u_sheetM2 _ Is68  z110 _ hz110 z112 _ hz112 (fun r118 br118 hr118 s119 Is119 Gs119 tr118 pcs119 => h_Kv ?_)
        have Zs119 : ∀ i, s119 0 i = s0 0 i := fun i => (Gs119 0 i rfl).trans (Zs68 i)
        rcases pcs119 with pcs119 | pcs119 | pcs119
        · refine h_pop (pc' := 1306) rfl rfl rfl ?_
          refine h_goto (pc' := 1441) rfl rfl ?_
          exact kk _ Is119 (by first | exact h_jf j0 (by omega) (by omega) (by omega) | exact Or.inr ⟨by omega, by omega, by omega⟩) (by first | exact h_jf j1 (by omega) (by omega) (by omega) | exact Or.inr ⟨by omega, by omega, by omega⟩) (by first | exact h_jf j2 (by omega) (by omega) (by omega) | exact Or.inr ⟨by omega, by omega, by omega⟩) (by first | exact h_jf j3 (by omega) (by omega) (by omega) | exact Or.inr ⟨by omega, by omega, by omega⟩)
        · refine h_pop (pc' := 1306) rfl rfl rfl ?_
          refine h_goto (pc' := 1441) rfl rfl ?_
          exact kk _ Is119 (by first | exact h_jf j0 (by omega) (by omega) (by omega) | exact Or.inr ⟨by omega, by omega, by omega⟩) (by first | exact h_jf j1 (by omega) (by omega) (by omega) | exact Or.inr ⟨by omega, by omega, by omega⟩) (by first | exact h_jf j2 (by omega) (by omega) (by omega) | exact Or.inr ⟨by omega, by omega, by omega⟩) (by first | exact h_jf j3 (by omega) (by omega) (by omega) | exact Or.inr ⟨by omega, by omega, by omega⟩)
        · refine h_pop (pc' := 1306) rfl rfl rfl ?_
          refine h_goto (pc' := 1441) rfl rfl ?_
          exact kk _ Is119 (by first | exact h_jf j0 (by omega) (by omega) (by omega) | exact Or.inr ⟨by omega, by omega, by omega⟩) (by first | exact h_jf j1 (by omega) (by omega) (by omega) | exact Or.inr ⟨by omega, by omega, by omega⟩) (by first | exact h_jf j2 (by omega) (by omega) (by omega) | exact Or.inr ⟨by omega, by omega, by omega⟩) (by first | exact h_jf j3 (by omega) (by omega) (by omega) | exact Or.inr ⟨by omega, by omega, by omega⟩)
      · have qz108 : z108 = (Int32.ofInt 3) := h_lit (show z108.toInt = 3 by omega) ci_3
        subst qz108
        refine h_call (sp := false) (pc' := 1305) (M := [(0, .ref 98), (1, .int (Int32.ofInt 3)), (2, .int z110), (3, .int z112)]) rfl rfl rfl rfl rfl rfl rfl rfl ?_
        refine u_sheetM3 _ Is68  z110 _ hz110 z112 _ hz112 (fun r120 br120 hr120 s121 Is121 Gs121 tr120 pcs121 => h_Kv ?_)
        have Zs121 : ∀ i, s121 0 i = s0 0 i := fun i => (Gs121 0 i rfl).trans (Zs68 i)
        rcases pcs121 with pcs121 | pcs121 | pcs121
        · refine h_pop (pc' := 1306) rfl rfl rfl ?_
          refine h_goto (pc' := 1441) rfl rfl ?_
          exact kk _ Is121 (by first | exact h_jf j0 (by omega) (by omega) (by omega) | exact Or.inr ⟨by omega, by omega, by omega⟩) (by first | exact h_jf j1 (by omega) (by omega) (by omega) | exact Or.inr ⟨by omega, by omega, by omega⟩) (by first | exact h_jf j2 (by omega) (by omega) (by omega) | exact Or.inr ⟨by omega, by omega, by omega⟩) (by first | exact h_jf j3 (by omega) (by omega) (by omega) | exact Or.inr ⟨by omega, by omega, by omega⟩)
        · refine h_pop (pc' := 1306) rfl rfl rfl ?_
          refine h_goto (pc' := 1441) rfl rfl ?_
          exact kk _ Is121 (by first | exact h_jf j0 (by omega) (by omega) (by omega) | exact Or.inr ⟨by omega, by omega, by omega⟩) (by first | exact h_jf j1 (by omega) (by omega) (by omega) | exact Or.inr ⟨by omega, by omega, by omega⟩) (by first | exact h_jf j2 (by omega) (by omega) (by omega) | exact Or.inr ⟨by omega, by omega, by omega⟩) (by first | exact h_jf j3 (by omega) (by omega) (by omega) | exact Or.inr ⟨by omega, by omega, by omega⟩)
        · refine h_pop (pc' := 1306) rfl rfl rfl ?_
          refine h_goto (pc' := 1441) rfl rfl ?_
          exact kk _ Is121 (by first | exact h_jf j0 (by omega) (by omega) (by omega) | exact Or.inr ⟨by omega, by omega, by omega⟩) (by first | exact h_jf j1 (by omega) (by omega) (by omega) | exact Or.inr ⟨by omega, by omega, by omega⟩) (by first | exact h_jf j2 (by omega) (by omega) (by omega) | exact Or.inr ⟨by omega, by omega, by omega⟩) (by first | exact h_jf j3 (by omega) (by omega) (by omega) | exact Or.inr ⟨by omega, by omega, by omega⟩)
      · refine h_call (sp := false) (pc' := 1305) (M := [(0, .ref 98), (1, .int z108), (2, .int z110), (3, .int z112)]) rfl rfl rfl rfl rfl rfl rfl rfl ?_
        refine u_sheetMn _ Is68 z108 _ hz108 (by omega) z110 _ hz110 z112 _ hz112 (fun r122 br122 hr122 s123 Is123 Gs123 tr122 pcs123 => h_Kv ?_)
        have Zs123 : ∀ i, s123 0 i = s0 0 i := fun i => (Gs123 0 i rfl).trans (Zs68 i)
        have es123_0 : s123 95 0 = s68 95 0 := (Gs123 95 0 rfl).trans rfl
        have es123_1 : s123 95 1 = s68 95 1 := (Gs123 95 1 rfl).trans rfl
        have es123_2 : s123 95 2 = s68 95 2 := (Gs123 95 2 rfl).trans rfl
        have es123_3 : s123 95 3 = s68 95 3 := (Gs123 95 3 rfl).trans rfl
        have es123_4 : s123 96 0 = s68 96 0 := (Gs123 96 0 rfl).trans rfl
        have es123_5 : s123 96 1 = s68 96 1 := (Gs123 96 1 rfl).trans rfl
        have es123_6 : s123 96 2 = s68 96 2 := (Gs123 96 2 rfl).trans rfl
        have es123_7 : s123 96 3 = s68 96 3 := (Gs123 96 3 rfl).trans rfl
        have es123_8 : s123 111 0 = s68 111 0 := (Gs123 111 0 rfl).trans rfl
        have es123_9 : s123 111 1 = s68 111 1 := (Gs123 111 1 rfl).trans rfl
        have es123_10 : s123 111 2 = s68 111 2 := (Gs123 111 2 rfl).trans rfl
        have es123_11 : s123 111 3 = s68 111 3 := (Gs123 111 3 rfl).trans rfl
        have es123_12 : s123 112 0 = s68 112 0 := (Gs123 112 0 rfl).trans rfl
        have es123_13 : s123 112 1 = s68 112 1 := (Gs123 112 1 rfl).trans rfl
        have es123_14 : s123 112 2 = s68 112 2 := (Gs123 112 2 rfl).trans rfl
        have es123_15 : s123 112 3 = s68 112 3 := (Gs123 112 3 rfl).trans rfl
        rcases pcs123 with pcs123
        · refine h_pop (pc' := 1306) rfl rfl rfl ?_
          refine h_goto (pc' := 1441) rfl rfl ?_
          exact kk _ Is123 (by first | exact h_jf j0 (by omega) (by omega) (by omega) | exact Or.inr ⟨by omega, by omega, by omega⟩) (by first | exact h_jf j1 (by omega) (by omega) (by omega) | exact Or.inr ⟨by omega, by omega, by omega⟩) (by first | exact h_jf j2 (by omega) (by omega) (by omega) | exact Or.inr ⟨by omega, by omega, by omega⟩) (by first | exact h_jf j3 (by omega) (by omega) (by omega) | exact Or.inr ⟨by omega, by omega, by omega⟩)
      · refine h_call (sp := false) (pc' := 1305) (M := [(0, .ref 98), (1, .int z108), (2, .int z110), (3, .int z112)]) rfl rfl rfl rfl rfl rfl rfl rfl ?_
        refine u_sheetMp _ Is68 z108 _ hz108 (by omega) z110 _ hz110 z112 _ hz112 (fun r124 br124 hr124 s125 Is125 Gs125 tr124 pcs125 => h_Kv ?_)
        have Zs125 : ∀ i, s125 0 i = s0 0 i := fun i => (Gs125 0 i rfl).trans (Zs68 i)
        have es125_0 : s125 95 0 = s68 95 0 := (Gs125 95 0 rfl).trans rfl
        have es125_1 : s125 95 1 = s68 95 1 := (Gs125 95 1 rfl).trans rfl
        have es125_2 : s125 95 2 = s68 95 2 := (Gs125 95 2 rfl).trans rfl
        have es125_3 : s125 95 3 = s68 95 3 := (Gs125 95 3 rfl).trans rfl
        have es125_4 : s125 96 0 = s68 96 0 := (Gs125 96 0 rfl).trans rfl
        have es125_5 : s125 96 1 = s68 96 1 := (Gs125 96 1 rfl).trans rfl
        have es125_6 : s125 96 2 = s68 96 2 := (Gs125 96 2 rfl).trans rfl
        have es125_7 : s125 96 3 = s68 96 3 := (Gs125 96 3 rfl).trans rfl
        have es125_8 : s125 111 0 = s68 111 0 := (Gs125 111 0 rfl).trans rfl
        have es125_9 : s125 111 1 = s68 111 1 := (Gs125 111 1 rfl).trans rfl
        have es125_10 : s125 111 2 = s68 111 2 := (Gs125 111 2 rfl).trans rfl
        have es125_11 : s125 111 3 = s68 111 3 := (Gs125 111 3 rfl).trans rfl
        have es125_12 : s125 112 0 = s68 112 0 := (Gs125 112 0 rfl).trans rfl
        have es125_13 : s125 112 1 = s68 112 1 := (Gs125 112 1 rfl).trans rfl
        have es125_14 : s125 112 2 = s68 112 2 := (Gs125 112 2 rfl).trans rfl
        have es125_15 : s125 112 3 = s68 112 3 := (Gs125 112 3 rfl).trans rfl
        rcases pcs125 with pcs125
        · refine h_pop (pc' := 1306) rfl rfl rfl ?_
          refine h_goto (pc' := 1441) rfl rfl ?_
          exact kk _ Is125 (by first | exact h_jf j0 (by omega) (by omega) (by omega) | exact Or.inr ⟨by omega, by omega, by omega⟩) (by first | exact h_jf j1 (by omega) (by omega) (by omega) | exact Or.inr ⟨by omega, by omega, by omega⟩) (by first | exact h_jf j2 (by omega) (by omega) (by omega) | exact Or.inr ⟨by omega, by omega, by omega⟩) (by first | exact h_jf j3 (by omega) (by omega) (by omega) | exact Or.inr ⟨by omega, by omega, by omega⟩)
  · have qz2 : z2 = (Int32.ofInt 2) := h_lit (show z2.toInt = 2 by omega) ci_2
    subst qz2
    refine h_call (sp := false) (pc' := 1285) (M := [(0, .ref 9), (1, .int (Int32.ofInt 2)), (2, .int z4), (3, .int z6)]) rfl rfl rfl rfl rfl rfl rfl rfl ?_
    refine u_sheetX2 _ I0  z4 _ hz4 z6 _ hz6 (fun r126 br126 hr126 s127 Is127 Gs127 tr126 pcs127 => h_Kv ?_)
    have Zs127 : ∀ i, s127 0 i = s0 0 i := fun i => (Gs127 0 i rfl).trans rfl
    rcases pcs127 with pcs127 | pcs127 | pcs127
    · refine h_pop (pc' := 1286) rfl rfl rfl ?_
      refine h_aload_n (pc' := 1287) rfl rfl rfl ?_
      refine h_aload_n (pc' := 1288) rfl rfl rfl ?_
      refine h_iload_n (pc' := 1289) rfl rfl rfl ?_
      refine h_iconst (pc' := 1290) (x := (Int32.ofInt 1)) rfl rfl rfl ?_
      refine h_iadd (pc' := 1291) rfl rfl hy3 ci_1 rfl (by omega) (by omega) (fun z128 hz128 => ?_)
      refine h_iald (pc' := 1292) (v := s0 0 (b3 + 1)) rfl rfl rfl hz128 (by omega) (by omega) (Zs127 _) (fun z129 hz129 => ?_)
      have tz129 := h_rgv hz129
      refine h_aload_n (pc' := 1293) rfl rfl rfl ?_
      refine h_iload_n (pc' := 1294) rfl rfl rfl ?_
      refine h_iconst (pc' := 1295) (x := (Int32.ofInt 2)) rfl rfl rfl ?_
      refine h_iadd (pc' := 1296) rfl rfl hy3 ci_2 rfl (by omega) (by omega) (fun z130 hz130 => ?_)
      refine h_iald (pc' := 1297) (v := s0 0 (b3 + 2)) rfl rfl rfl hz130 (by omega) (by omega) (Zs127 _) (fun z131 hz131 => ?_)
      have tz131 := h_rgv hz131
      refine h_aload_n (pc' := 1298) rfl rfl rfl ?_
      refine h_iload_n (pc' := 1299) rfl rfl rfl ?_
      refine h_iconst (pc' := 1300) (x := (Int32.ofInt 3)) rfl rfl rfl ?_
      refine h_iadd (pc' := 1301) rfl rfl hy3 ci_3 rfl (by omega) (by omega) (fun z132 hz132 => ?_)
      refine h_iald (pc' := 1302) (v := s0 0 (b3 + 3)) rfl rfl rfl hz132 (by omega) (by omega) (Zs127 _) (fun z133 hz133 => ?_)
      have tz133 := h_rgv hz133
      rcases (show ((s0 0 (b3 + 1)) = 0) ∨ ((s0 0 (b3 + 1)) = 1) ∨ ((s0 0 (b3 + 1)) = 2) ∨ ((s0 0 (b3 + 1)) = 3) ∨ ((s0 0 (b3 + 1)) ≤ (-1)) ∨ (4 ≤ (s0 0 (b3 + 1))) by omega) with c134 | c134 | c134 | c134 | c134 | c134
      · have qz129 : z129 = (Int32.ofInt 0) := h_lit (show z129.toInt = 0 by omega) ci_0
        subst qz129
        refine h_call (sp := false) (pc' := 1305) (M := [(0, .ref 98), (1, .int (Int32.ofInt 0)), (2, .int z131), (3, .int z133)]) rfl rfl rfl rfl rfl rfl rfl rfl ?_
        refine u_sheetM0 _ Is127  z131 _ hz131 z133 _ hz133 (fun r135 br135 hr135 s136 Is136 Gs136 tr135 pcs136 => h_Kv ?_)
        have Zs136 : ∀ i, s136 0 i = s0 0 i := fun i => (Gs136 0 i rfl).trans (Zs127 i)
        rcases pcs136 with pcs136 | pcs136 | pcs136
        · refine h_pop (pc' := 1306) rfl rfl rfl ?_
          refine h_goto (pc' := 1441) rfl rfl ?_
          exact kk _ Is136 (by first | exact h_jf j0 (by omega) (by omega) (by omega) | exact Or.inr ⟨by omega, by omega, by omega⟩) (by first | exact h_jf j1 (by omega) (by omega) (by omega) | exact Or.inr ⟨by omega, by omega, by omega⟩) (by first | exact h_jf j2 (by omega) (by omega) (by omega) | exact Or.inr ⟨by omega, by omega, by omega⟩) (by first | exact h_jf j3 (by omega) (by omega) (by omega) | exact Or.inr ⟨by omega, by omega, by omega⟩)
        · refine h_pop (pc' := 1306) rfl rfl rfl ?_
          refine h_goto (pc' := 1441) rfl rfl ?_
          exact kk _ Is136 (by first | exact h_jf j0 (by omega) (by omega) (by omega) | exact Or.inr ⟨by omega, by omega, by omega⟩) (by first | exact h_jf j1 (by omega) (by omega) (by omega) | exact Or.inr ⟨by omega, by omega, by omega⟩) (by first | exact h_jf j2 (by omega) (by omega) (by omega) | exact Or.inr ⟨by omega, by omega, by omega⟩) (by first | exact h_jf j3 (by omega) (by omega) (by omega) | exact Or.inr ⟨by omega, by omega, by omega⟩)
        · refine h_pop (pc' := 1306) rfl rfl rfl ?_
          refine h_goto (pc' := 1441) rfl rfl ?_
          exact kk _ Is136 (by first | exact h_jf j0 (by omega) (by omega) (by omega) | exact Or.inr ⟨by omega, by omega, by omega⟩) (by first | exact h_jf j1 (by omega) (by omega) (by omega) | exact Or.inr ⟨by omega, by omega, by omega⟩) (by first | exact h_jf j2 (by omega) (by omega) (by omega) | exact Or.inr ⟨by omega, by omega, by omega⟩) (by first | exact h_jf j3 (by omega) (by omega) (by omega) | exact Or.inr ⟨by omega, by omega, by omega⟩)
      · have qz129 : z129 = (Int32.ofInt 1) := h_lit (show z129.toInt = 1 by omega) ci_1
        subst qz129
        refine h_call (sp := false) (pc' := 1305) (M := [(0, .ref 98), (1, .int (Int32.ofInt 1)), (2, .int z131), (3, .int z133)]) rfl rfl rfl rfl rfl rfl rfl rfl ?_
        refine u_sheetM1 _ Is127  z131 _ hz131 z133 _ hz133 (fun r137 br137 hr137 s138 Is138 Gs138 tr137 pcs138 => h_Kv ?_)
        have Zs138 : ∀ i, s138 0 i = s0 0 i := fun i => (Gs138 0 i rfl).trans (Zs127 i)
        rcases pcs138 with pcs138 | pcs138 | pcs138
        · refine h_pop (pc' := 1306) rfl rfl rfl ?_
          refine h_goto (pc' := 1441) rfl rfl ?_
          exact kk _ Is138 (by first | exact h_jf j0 (by omega) (by omega) (by omega) | exact Or.inr ⟨by omega, by omega, by omega⟩) (by first | exact h_jf j1 (by omega) (by omega) (by omega) | exact Or.inr ⟨by omega, by omega, by omega⟩) (by first | exact h_jf j2 (by omega) (by omega) (by omega) | exact Or.inr ⟨by omega, by omega, by omega⟩) (by first | exact h_jf j3 (by omega) (by omega) (by omega) | exact Or.inr ⟨by omega, by omega, by omega⟩)
        · refine h_pop (pc' := 1306) rfl rfl rfl ?_
          refine h_goto (pc' := 1441) rfl rfl ?_
          exact kk _ Is138 (by first | exact h_jf j0 (by omega) (by omega) (by omega) | exact Or.inr ⟨by omega, by omega, by omega⟩) (by first | exact h_jf j1 (by omega) (by omega) (by omega) | exact Or.inr ⟨by omega, by omega, by omega⟩) (by first | exact h_jf j2 (by omega) (by omega) (by omega) | exact Or.inr ⟨by omega, by omega, by omega⟩) (by first | exact h_jf j3 (by omega) (by omega) (by omega) | exact Or.inr ⟨by omega, by omega, by omega⟩)
        · refine h_pop (pc' := 1306) rfl rfl rfl ?_
          refine h_goto (pc' := 1441) rfl rfl ?_
          exact kk _ Is138 (by first | exact h_jf j0 (by omega) (by omega) (by omega) | exact Or.inr ⟨by omega, by omega, by omega⟩) (by first | exact h_jf j1 (by omega) (by omega) (by omega) | exact Or.inr ⟨by omega, by omega, by omega⟩) (by first | exact h_jf j2 (by omega) (by omega) (by omega) | exact Or.inr ⟨by omega, by omega, by omega⟩) (by first | exact h_jf j3 (by omega) (by omega) (by omega) | exact Or.inr ⟨by omega, by omega, by omega⟩)
      · have qz129 : z129 = (Int32.ofInt 2) := h_lit (show z129.toInt = 2 by omega) ci_2
        subst qz129
        refine h_call (sp := false) (pc' := 1305) (M := [(0, .ref 98), (1, .int (Int32.ofInt 2)), (2, .int z131), (3, .int z133)]) rfl rfl rfl rfl rfl rfl rfl rfl ?_
        refine u_sheetM2 _ Is127  z131 _ hz131 z133 _ hz133 (fun r139 br139 hr139 s140 Is140 Gs140 tr139 pcs140 => h_Kv ?_)
        have Zs140 : ∀ i, s140 0 i = s0 0 i := fun i => (Gs140 0 i rfl).trans (Zs127 i)
        rcases pcs140 with pcs140 | pcs140 | pcs140
        · refine h_pop (pc' := 1306) rfl rfl rfl ?_
          refine h_goto (pc' := 1441) rfl rfl ?_
          exact kk _ Is140 (by first | exact h_jf j0 (by omega) (by omega) (by omega) | exact Or.inr ⟨by omega, by omega, by omega⟩) (by first | exact h_jf j1 (by omega) (by omega) (by omega) | exact Or.inr ⟨by omega, by omega, by omega⟩) (by first | exact h_jf j2 (by omega) (by omega) (by omega) | exact Or.inr ⟨by omega, by omega, by omega⟩) (by first | exact h_jf j3 (by omega) (by omega) (by omega) | exact Or.inr ⟨by omega, by omega, by omega⟩)
        · refine h_pop (pc' := 1306) rfl rfl rfl ?_
          refine h_goto (pc' := 1441) rfl rfl ?_
          exact kk _ Is140 (by first | exact h_jf j0 (by omega) (by omega) (by omega) | exact Or.inr ⟨by omega, by omega, by omega⟩) (by first | exact h_jf j1 (by omega) (by omega) (by omega) | exact Or.inr ⟨by omega, by omega, by omega⟩) (by first | exact h_jf j2 (by omega) (by omega) (by omega) | exact Or.inr ⟨by omega, by omega, by omega⟩) (by first | exact h_jf j3 (by omega) (by omega) (by omega) | exact Or.inr ⟨by omega, by omega, by omega⟩)
        · refine h_pop (pc' := 1306) rfl rfl rfl ?_
          refine h_goto (pc' := 1441) rfl rfl ?_
          exact kk _ Is140 (by first | exact h_jf j0 (by omega) (by omega) (by omega) | exact Or.inr ⟨by omega, by omega, by omega⟩) (by first | exact h_jf j1 (by omega) (by omega) (by omega) | exact Or.inr ⟨by omega, by omega, by omega⟩) (by first | exact h_jf j2 (by omega) (by omega) (by omega) | exact Or.inr ⟨by omega, by omega, by omega⟩) (by first | exact h_jf j3 (by omega) (by omega) (by omega) | exact Or.inr ⟨by omega, by omega, by omega⟩)
      · have qz129 : z129 = (Int32.ofInt 3) := h_lit (show z129.toInt = 3 by omega) ci_3
        subst qz129
        refine h_call (sp := false) (pc' := 1305) (M := [(0, .ref 98), (1, .int (Int32.ofInt 3)), (2, .int z131), (3, .int z133)]) rfl rfl rfl rfl rfl rfl rfl rfl ?_
        refine u_sheetM3 _ Is127  z131 _ hz131 z133 _ hz133 (fun r141 br141 hr141 s142 Is142 Gs142 tr141 pcs142 => h_Kv ?_)
        have Zs142 : ∀ i, s142 0 i = s0 0 i := fun i => (Gs142 0 i rfl).trans (Zs127 i)
        rcases pcs142 with pcs142 | pcs142 | pcs142
        · refine h_pop (pc' := 1306) rfl rfl rfl ?_
          refine h_goto (pc' := 1441) rfl rfl ?_
          exact kk _ Is142 (by first | exact h_jf j0 (by omega) (by omega) (by omega) | exact Or.inr ⟨by omega, by omega, by omega⟩) (by first | exact h_jf j1 (by omega) (by omega) (by omega) | exact Or.inr ⟨by omega, by omega, by omega⟩) (by first | exact h_jf j2 (by omega) (by omega) (by omega) | exact Or.inr ⟨by omega, by omega, by omega⟩) (by first | exact h_jf j3 (by omega) (by omega) (by omega) | exact Or.inr ⟨by omega, by omega, by omega⟩)
        · refine h_pop (pc' := 1306) rfl rfl rfl ?_
          refine h_goto (pc' := 1441) rfl rfl ?_
          exact kk _ Is142 (by first | exact h_jf j0 (by omega) (by omega) (by omega) | exact Or.inr ⟨by omega, by omega, by omega⟩) (by first | exact h_jf j1 (by omega) (by omega) (by omega) | exact Or.inr ⟨by omega, by omega, by omega⟩) (by first | exact h_jf j2 (by omega) (by omega) (by omega) | exact Or.inr ⟨by omega, by omega, by omega⟩) (by first | exact h_jf j3 (by omega) (by omega) (by omega) | exact Or.inr ⟨by omega, by omega, by omega⟩)
        · refine h_pop (pc' := 1306) rfl rfl rfl ?_
          refine h_goto (pc' := 1441) rfl rfl ?_
          exact kk _ Is142 (by first | exact h_jf j0 (by omega) (by omega) (by omega) | exact Or.inr ⟨by omega, by omega, by omega⟩) (by first | exact h_jf j1 (by omega) (by omega) (by omega) | exact Or.inr ⟨by omega, by omega, by omega⟩) (by first | exact h_jf j2 (by omega) (by omega) (by omega) | exact Or.inr ⟨by omega, by omega, by omega⟩) (by first | exact h_jf j3 (by omega) (by omega) (by omega) | exact Or.inr ⟨by omega, by omega, by omega⟩)
      · refine h_call (sp := false) (pc' := 1305) (M := [(0, .ref 98), (1, .int z129), (2, .int z131), (3, .int z133)]) rfl rfl rfl rfl rfl rfl rfl rfl ?_
        refine u_sheetMn _ Is127 z129 _ hz129 (by omega) z131 _ hz131 z133 _ hz133 (fun r143 br143 hr143 s144 Is144 Gs144 tr143 pcs144 => h_Kv ?_)
        have Zs144 : ∀ i, s144 0 i = s0 0 i := fun i => (Gs144 0 i rfl).trans (Zs127 i)
        have es144_0 : s144 95 0 = s127 95 0 := (Gs144 95 0 rfl).trans rfl
        have es144_1 : s144 95 1 = s127 95 1 := (Gs144 95 1 rfl).trans rfl
        have es144_2 : s144 95 2 = s127 95 2 := (Gs144 95 2 rfl).trans rfl
        have es144_3 : s144 95 3 = s127 95 3 := (Gs144 95 3 rfl).trans rfl
        have es144_4 : s144 96 0 = s127 96 0 := (Gs144 96 0 rfl).trans rfl
        have es144_5 : s144 96 1 = s127 96 1 := (Gs144 96 1 rfl).trans rfl
        have es144_6 : s144 96 2 = s127 96 2 := (Gs144 96 2 rfl).trans rfl
        have es144_7 : s144 96 3 = s127 96 3 := (Gs144 96 3 rfl).trans rfl
        have es144_8 : s144 111 0 = s127 111 0 := (Gs144 111 0 rfl).trans rfl
        have es144_9 : s144 111 1 = s127 111 1 := (Gs144 111 1 rfl).trans rfl
        have es144_10 : s144 111 2 = s127 111 2 := (Gs144 111 2 rfl).trans rfl
        have es144_11 : s144 111 3 = s127 111 3 := (Gs144 111 3 rfl).trans rfl
        have es144_12 : s144 112 0 = s127 112 0 := (Gs144 112 0 rfl).trans rfl
        have es144_13 : s144 112 1 = s127 112 1 := (Gs144 112 1 rfl).trans rfl
        have es144_14 : s144 112 2 = s127 112 2 := (Gs144 112 2 rfl).trans rfl
        have es144_15 : s144 112 3 = s127 112 3 := (Gs144 112 3 rfl).trans rfl
        rcases pcs144 with pcs144
        · refine h_pop (pc' := 1306) rfl rfl rfl ?_
          refine h_goto (pc' := 1441) rfl rfl ?_
          exact kk _ Is144 (by first | exact h_jf j0 (by omega) (by omega) (by omega) | exact Or.inr ⟨by omega, by omega, by omega⟩) (by first | exact h_jf j1 (by omega) (by omega) (by omega) | exact Or.inr ⟨by omega, by omega, by omega⟩) (by first | exact h_jf j2 (by omega) (by omega) (by omega) | exact Or.inr ⟨by omega, by omega, by omega⟩) (by first | exact h_jf j3 (by omega) (by omega) (by omega) | exact Or.inr ⟨by omega, by omega, by omega⟩)
      · refine h_call (sp := false) (pc' := 1305) (M := [(0, .ref 98), (1, .int z129), (2, .int z131), (3, .int z133)]) rfl rfl rfl rfl rfl rfl rfl rfl ?_
        refine u_sheetMp _ Is127 z129 _ hz129 (by omega) z131 _ hz131 z133 _ hz133 (fun r145 br145 hr145 s146 Is146 Gs146 tr145 pcs146 => h_Kv ?_)
        have Zs146 : ∀ i, s146 0 i = s0 0 i := fun i => (Gs146 0 i rfl).trans (Zs127 i)
        have es146_0 : s146 95 0 = s127 95 0 := (Gs146 95 0 rfl).trans rfl
        have es146_1 : s146 95 1 = s127 95 1 := (Gs146 95 1 rfl).trans rfl
        have es146_2 : s146 95 2 = s127 95 2 := (Gs146 95 2 rfl).trans rfl
        have es146_3 : s146 95 3 = s127 95 3 := (Gs146 95 3 rfl).trans rfl
        have es146_4 : s146 96 0 = s127 96 0 := (Gs146 96 0 rfl).trans rfl
        have es146_5 : s146 96 1 = s127 96 1 := (Gs146 96 1 rfl).trans rfl
        have es146_6 : s146 96 2 = s127 96 2 := (Gs146 96 2 rfl).trans rfl
        have es146_7 : s146 96 3 = s127 96 3 := (Gs146 96 3 rfl).trans rfl
        have es146_8 : s146 111 0 = s127 111 0 := (Gs146 111 0 rfl).trans rfl
        have es146_9 : s146 111 1 = s127 111 1 := (Gs146 111 1 rfl).trans rfl
        have es146_10 : s146 111 2 = s127 111 2 := (Gs146 111 2 rfl).trans rfl
        have es146_11 : s146 111 3 = s127 111 3 := (Gs146 111 3 rfl).trans rfl
        have es146_12 : s146 112 0 = s127 112 0 := (Gs146 112 0 rfl).trans rfl
        have es146_13 : s146 112 1 = s127 112 1 := (Gs146 112 1 rfl).trans rfl
        have es146_14 : s146 112 2 = s127 112 2 := (Gs146 112 2 rfl).trans rfl
        have es146_15 : s146 112 3 = s127 112 3 := (Gs146 112 3 rfl).trans rfl
        rcases pcs146 with pcs146
        · refine h_pop (pc' := 1306) rfl rfl rfl ?_
          refine h_goto (pc' := 1441) rfl rfl ?_
          exact kk _ Is146 (by first | exact h_jf j0 (by omega) (by omega) (by omega) | exact Or.inr ⟨by omega, by omega, by omega⟩) (by first | exact h_jf j1 (by omega) (by omega) (by omega) | exact Or.inr ⟨by omega, by omega, by omega⟩) (by first | exact h_jf j2 (by omega) (by omega) (by omega) | exact Or.inr ⟨by omega, by omega, by omega⟩) (by first | exact h_jf j3 (by omega) (by omega) (by omega) | exact Or.inr ⟨by omega, by omega, by omega⟩)
    · refine h_pop (pc' := 1286) rfl rfl rfl ?_
      refine h_aload_n (pc' := 1287) rfl rfl rfl ?_
      refine h_aload_n (pc' := 1288) rfl rfl rfl ?_
      refine h_iload_n (pc' := 1289) rfl rfl rfl ?_
      refine h_iconst (pc' := 1290) (x := (Int32.ofInt 1)) rfl rfl rfl ?_
      refine h_iadd (pc' := 1291) rfl rfl hy3 ci_1 rfl (by omega) (by omega) (fun z147 hz147 => ?_)
      refine h_iald (pc' := 1292) (v := s0 0 (b3 + 1)) rfl rfl rfl hz147 (by omega) (by omega) (Zs127 _) (fun z148 hz148 => ?_)
      have tz148 := h_rgv hz148
      refine h_aload_n (pc' := 1293) rfl rfl rfl ?_
      refine h_iload_n (pc' := 1294) rfl rfl rfl ?_
      refine h_iconst (pc' := 1295) (x := (Int32.ofInt 2)) rfl rfl rfl ?_
      refine h_iadd (pc' := 1296) rfl rfl hy3 ci_2 rfl (by omega) (by omega) (fun z149 hz149 => ?_)
      refine h_iald (pc' := 1297) (v := s0 0 (b3 + 2)) rfl rfl rfl hz149 (by omega) (by omega) (Zs127 _) (fun z150 hz150 => ?_)
      have tz150 := h_rgv hz150
      refine h_aload_n (pc' := 1298) rfl rfl rfl ?_
      refine h_iload_n (pc' := 1299) rfl rfl rfl ?_
      refine h_iconst (pc' := 1300) (x := (Int32.ofInt 3)) rfl rfl rfl ?_
      refine h_iadd (pc' := 1301) rfl rfl hy3 ci_3 rfl (by omega) (by omega) (fun z151 hz151 => ?_)
      refine h_iald (pc' := 1302) (v := s0 0 (b3 + 3)) rfl rfl rfl hz151 (by omega) (by omega) (Zs127 _) (fun z152 hz152 => ?_)
      have tz152 := h_rgv hz152
      rcases (show ((s0 0 (b3 + 1)) = 0) ∨ ((s0 0 (b3 + 1)) = 1) ∨ ((s0 0 (b3 + 1)) = 2) ∨ ((s0 0 (b3 + 1)) = 3) ∨ ((s0 0 (b3 + 1)) ≤ (-1)) ∨ (4 ≤ (s0 0 (b3 + 1))) by omega) with c153 | c153 | c153 | c153 | c153 | c153
      · have qz148 : z148 = (Int32.ofInt 0) := h_lit (show z148.toInt = 0 by omega) ci_0
        subst qz148
        refine h_call (sp := false) (pc' := 1305) (M := [(0, .ref 98), (1, .int (Int32.ofInt 0)), (2, .int z150), (3, .int z152)]) rfl rfl rfl rfl rfl rfl rfl rfl ?_
        refine u_sheetM0 _ Is127  z150 _ hz150 z152 _ hz152 (fun r154 br154 hr154 s155 Is155 Gs155 tr154 pcs155 => h_Kv ?_)
        have Zs155 : ∀ i, s155 0 i = s0 0 i := fun i => (Gs155 0 i rfl).trans (Zs127 i)
        rcases pcs155 with pcs155 | pcs155 | pcs155
        · refine h_pop (pc' := 1306) rfl rfl rfl ?_
          refine h_goto (pc' := 1441) rfl rfl ?_
          exact kk _ Is155 (by first | exact h_jf j0 (by omega) (by omega) (by omega) | exact Or.inr ⟨by omega, by omega, by omega⟩) (by first | exact h_jf j1 (by omega) (by omega) (by omega) | exact Or.inr ⟨by omega, by omega, by omega⟩) (by first | exact h_jf j2 (by omega) (by omega) (by omega) | exact Or.inr ⟨by omega, by omega, by omega⟩) (by first | exact h_jf j3 (by omega) (by omega) (by omega) | exact Or.inr ⟨by omega, by omega, by omega⟩)
        · refine h_pop (pc' := 1306) rfl rfl rfl ?_
          refine h_goto (pc' := 1441) rfl rfl ?_
          exact kk _ Is155 (by first | exact h_jf j0 (by omega) (by omega) (by omega) | exact Or.inr ⟨by omega, by omega, by omega⟩) (by first | exact h_jf j1 (by omega) (by omega) (by omega) | exact Or.inr ⟨by omega, by omega, by omega⟩) (by first | exact h_jf j2 (by omega) (by omega) (by omega) | exact Or.inr ⟨by omega, by omega, by omega⟩) (by first | exact h_jf j3 (by omega) (by omega) (by omega) | exact Or.inr ⟨by omega, by omega, by omega⟩)
        · refine h_pop (pc' := 1306) rfl rfl rfl ?_
          refine h_goto (pc' := 1441) rfl rfl ?_
          exact kk _ Is155 (by first | exact h_jf j0 (by omega) (by omega) (by omega) | exact Or.inr ⟨by omega, by omega, by omega⟩) (by first | exact h_jf j1 (by omega) (by omega) (by omega) | exact Or.inr ⟨by omega, by omega, by omega⟩) (by first | exact h_jf j2 (by omega) (by omega) (by omega) | exact Or.inr ⟨by omega, by omega, by omega⟩) (by first | exact h_jf j3 (by omega) (by omega) (by omega) | exact Or.inr ⟨by omega, by omega, by omega⟩)
      · have qz148 : z148 = (Int32.ofInt 1) := h_lit (show z148.toInt = 1 by omega) ci_1
        subst qz148
        refine h_call (sp := false) (pc' := 1305) (M := [(0, .ref 98), (1, .int (Int32.ofInt 1)), (2, .int z150), (3, .int z152)]) rfl rfl rfl rfl rfl rfl rfl rfl ?_
        refine u_sheetM1 _ Is127  z150 _ hz150 z152 _ hz152 (fun r156 br156 hr156 s157 Is157 Gs157 tr156 pcs157 => h_Kv ?_)
        have Zs157 : ∀ i, s157 0 i = s0 0 i := fun i => (Gs157 0 i rfl).trans (Zs127 i)
        rcases pcs157 with pcs157 | pcs157 | pcs157
        · refine h_pop (pc' := 1306) rfl rfl rfl ?_
          refine h_goto (pc' := 1441) rfl rfl ?_
          exact kk _ Is157 (by first | exact h_jf j0 (by omega) (by omega) (by omega) | exact Or.inr ⟨by omega, by omega, by omega⟩) (by first | exact h_jf j1 (by omega) (by omega) (by omega) | exact Or.inr ⟨by omega, by omega, by omega⟩) (by first | exact h_jf j2 (by omega) (by omega) (by omega) | exact Or.inr ⟨by omega, by omega, by omega⟩) (by first | exact h_jf j3 (by omega) (by omega) (by omega) | exact Or.inr ⟨by omega, by omega, by omega⟩)
        · refine h_pop (pc' := 1306) rfl rfl rfl ?_
          refine h_goto (pc' := 1441) rfl rfl ?_
          exact kk _ Is157 (by first | exact h_jf j0 (by omega) (by omega) (by omega) | exact Or.inr ⟨by omega, by omega, by omega⟩) (by first | exact h_jf j1 (by omega) (by omega) (by omega) | exact Or.inr ⟨by omega, by omega, by omega⟩) (by first | exact h_jf j2 (by omega) (by omega) (by omega) | exact Or.inr ⟨by omega, by omega, by omega⟩) (by first | exact h_jf j3 (by omega) (by omega) (by omega) | exact Or.inr ⟨by omega, by omega, by omega⟩)
        · refine h_pop (pc' := 1306) rfl rfl rfl ?_
          refine h_goto (pc' := 1441) rfl rfl ?_
          exact kk _ Is157 (by first | exact h_jf j0 (by omega) (by omega) (by omega) | exact Or.inr ⟨by omega, by omega, by omega⟩) (by first | exact h_jf j1 (by omega) (by omega) (by omega) | exact Or.inr ⟨by omega, by omega, by omega⟩) (by first | exact h_jf j2 (by omega) (by omega) (by omega) | exact Or.inr ⟨by omega, by omega, by omega⟩) (by first | exact h_jf j3 (by omega) (by omega) (by omega) | exact Or.inr ⟨by omega, by omega, by omega⟩)
      · have qz148 : z148 = (Int32.ofInt 2) := h_lit (show z148.toInt = 2 by omega) ci_2
        subst qz148
        refine h_call (sp := false) (pc' := 1305) (M := [(0, .ref 98), (1, .int (Int32.ofInt 2)), (2, .int z150), (3, .int z152)]) rfl rfl rfl rfl rfl rfl rfl rfl ?_
        refine u_sheetM2 _ Is127  z150 _ hz150 z152 _ hz152 (fun r158 br158 hr158 s159 Is159 Gs159 tr158 pcs159 => h_Kv ?_)
        have Zs159 : ∀ i, s159 0 i = s0 0 i := fun i => (Gs159 0 i rfl).trans (Zs127 i)
        rcases pcs159 with pcs159 | pcs159 | pcs159
        · refine h_pop (pc' := 1306) rfl rfl rfl ?_
          refine h_goto (pc' := 1441) rfl rfl ?_
          exact kk _ Is159 (by first | exact h_jf j0 (by omega) (by omega) (by omega) | exact Or.inr ⟨by omega, by omega, by omega⟩) (by first | exact h_jf j1 (by omega) (by omega) (by omega) | exact Or.inr ⟨by omega, by omega, by omega⟩) (by first | exact h_jf j2 (by omega) (by omega) (by omega) | exact Or.inr ⟨by omega, by omega, by omega⟩) (by first | exact h_jf j3 (by omega) (by omega) (by omega) | exact Or.inr ⟨by omega, by omega, by omega⟩)
        · refine h_pop (pc' := 1306) rfl rfl rfl ?_
          refine h_goto (pc' := 1441) rfl rfl ?_
          exact kk _ Is159 (by first | exact h_jf j0 (by omega) (by omega) (by omega) | exact Or.inr ⟨by omega, by omega, by omega⟩) (by first | exact h_jf j1 (by omega) (by omega) (by omega) | exact Or.inr ⟨by omega, by omega, by omega⟩) (by first | exact h_jf j2 (by omega) (by omega) (by omega) | exact Or.inr ⟨by omega, by omega, by omega⟩) (by first | exact h_jf j3 (by omega) (by omega) (by omega) | exact Or.inr ⟨by omega, by omega, by omega⟩)
        · refine h_pop (pc' := 1306) rfl rfl rfl ?_
          refine h_goto (pc' := 1441) rfl rfl ?_
          exact kk _ Is159 (by first | exact h_jf j0 (by omega) (by omega) (by omega) | exact Or.inr ⟨by omega, by omega, by omega⟩) (by first | exact h_jf j1 (by omega) (by omega) (by omega) | exact Or.inr ⟨by omega, by omega, by omega⟩) (by first | exact h_jf j2 (by omega) (by omega) (by omega) | exact Or.inr ⟨by omega, by omega, by omega⟩) (by first | exact h_jf j3 (by omega) (by omega) (by omega) | exact Or.inr ⟨by omega, by omega, by omega⟩)
      · have qz148 : z148 = (Int32.ofInt 3) := h_lit (show z148.toInt = 3 by omega) ci_3
        subst qz148
        refine h_call (sp := false) (pc' := 1305) (M := [(0, .ref 98), (1, .int (Int32.ofInt 3)), (2, .int z150), (3, .int z152)]) rfl rfl rfl rfl rfl rfl rfl rfl ?_
        refine u_sheetM3 _ Is127  z150 _ hz150 z152 _ hz152 (fun r160 br160 hr160 s161 Is161 Gs161 tr160 pcs161 => h_Kv ?_)
        have Zs161 : ∀ i, s161 0 i = s0 0 i := fun i => (Gs161 0 i rfl).trans (Zs127 i)
        rcases pcs161 with pcs161 | pcs161 | pcs161
        · refine h_pop (pc' := 1306) rfl rfl rfl ?_
          refine h_goto (pc' := 1441) rfl rfl ?_
          exact kk _ Is161 (by first | exact h_jf j0 (by omega) (by omega) (by omega) | exact Or.inr ⟨by omega, by omega, by omega⟩) (by first | exact h_jf j1 (by omega) (by omega) (by omega) | exact Or.inr ⟨by omega, by omega, by omega⟩) (by first | exact h_jf j2 (by omega) (by omega) (by omega) | exact Or.inr ⟨by omega, by omega, by omega⟩) (by first | exact h_jf j3 (by omega) (by omega) (by omega) | exact Or.inr ⟨by omega, by omega, by omega⟩)
        · refine h_pop (pc' := 1306) rfl rfl rfl ?_
          refine h_goto (pc' := 1441) rfl rfl ?_
          exact kk _ Is161 (by first | exact h_jf j0 (by omega) (by omega) (by omega) | exact Or.inr ⟨by omega, by omega, by omega⟩) (by first | exact h_jf j1 (by omega) (by omega) (by omega) | exact Or.inr ⟨by omega, by omega, by omega⟩) (by first | exact h_jf j2 (by omega) (by omega) (by omega) | exact Or.inr ⟨by omega, by omega, by omega⟩) (by first | exact h_jf j3 (by omega) (by omega) (by omega) | exact Or.inr ⟨by omega, by omega, by omega⟩)
        · refine h_pop (pc' := 1306) rfl rfl rfl ?_
          refine h_goto (pc' := 1441) rfl rfl ?_
          exact kk _ Is161 (by first | exact h_jf j0 (by omega) (by omega) (by omega) | exact Or.inr ⟨by omega, by omega, by omega⟩) (by first | exact h_jf j1 (by omega) (by omega) (by omega) | exact Or.inr ⟨by omega, by omega, by omega⟩) (by first | exact h_jf j2 (by omega) (by omega) (by omega) | exact Or.inr ⟨by omega, by omega, by omega⟩) (by first | exact h_jf j3 (by omega) (by omega) (by omega) | exact Or.inr ⟨by omega, by omega, by omega⟩)
      · refine h_call (sp := false) (pc' := 1305) (M := [(0, .ref 98), (1, .int z148), (2, .int z150), (3, .int z152)]) rfl rfl rfl rfl rfl rfl rfl rfl ?_
        refine u_sheetMn _ Is127 z148 _ hz148 (by omega) z150 _ hz150 z152 _ hz152 (fun r162 br162 hr162 s163 Is163 Gs163 tr162 pcs163 => h_Kv ?_)
        have Zs163 : ∀ i, s163 0 i = s0 0 i := fun i => (Gs163 0 i rfl).trans (Zs127 i)
        have es163_0 : s163 95 0 = s127 95 0 := (Gs163 95 0 rfl).trans rfl
        have es163_1 : s163 95 1 = s127 95 1 := (Gs163 95 1 rfl).trans rfl
        have es163_2 : s163 95 2 = s127 95 2 := (Gs163 95 2 rfl).trans rfl
        have es163_3 : s163 95 3 = s127 95 3 := (Gs163 95 3 rfl).trans rfl
        have es163_4 : s163 96 0 = s127 96 0 := (Gs163 96 0 rfl).trans rfl
        have es163_5 : s163 96 1 = s127 96 1 := (Gs163 96 1 rfl).trans rfl
        have es163_6 : s163 96 2 = s127 96 2 := (Gs163 96 2 rfl).trans rfl
        have es163_7 : s163 96 3 = s127 96 3 := (Gs163 96 3 rfl).trans rfl
        have es163_8 : s163 111 0 = s127 111 0 := (Gs163 111 0 rfl).trans rfl
        have es163_9 : s163 111 1 = s127 111 1 := (Gs163 111 1 rfl).trans rfl
        have es163_10 : s163 111 2 = s127 111 2 := (Gs163 111 2 rfl).trans rfl
        have es163_11 : s163 111 3 = s127 111 3 := (Gs163 111 3 rfl).trans rfl
        have es163_12 : s163 112 0 = s127 112 0 := (Gs163 112 0 rfl).trans rfl
        have es163_13 : s163 112 1 = s127 112 1 := (Gs163 112 1 rfl).trans rfl
        have es163_14 : s163 112 2 = s127 112 2 := (Gs163 112 2 rfl).trans rfl
        have es163_15 : s163 112 3 = s127 112 3 := (Gs163 112 3 rfl).trans rfl
        rcases pcs163 with pcs163
        · refine h_pop (pc' := 1306) rfl rfl rfl ?_
          refine h_goto (pc' := 1441) rfl rfl ?_
          exact kk _ Is163 (by first | exact h_jf j0 (by omega) (by omega) (by omega) | exact Or.inr ⟨by omega, by omega, by omega⟩) (by first | exact h_jf j1 (by omega) (by omega) (by omega) | exact Or.inr ⟨by omega, by omega, by omega⟩) (by first | exact h_jf j2 (by omega) (by omega) (by omega) | exact Or.inr ⟨by omega, by omega, by omega⟩) (by first | exact h_jf j3 (by omega) (by omega) (by omega) | exact Or.inr ⟨by omega, by omega, by omega⟩)
      · refine h_call (sp := false) (pc' := 1305) (M := [(0, .ref 98), (1, .int z148), (2, .int z150), (3, .int z152)]) rfl rfl rfl rfl rfl rfl rfl rfl ?_
        refine u_sheetMp _ Is127 z148 _ hz148 (by omega) z150 _ hz150 z152 _ hz152 (fun r164 br164 hr164 s165 Is165 Gs165 tr164 pcs165 => h_Kv ?_)
        have Zs165 : ∀ i, s165 0 i = s0 0 i := fun i => (Gs165 0 i rfl).trans (Zs127 i)
        have es165_0 : s165 95 0 = s127 95 0 := (Gs165 95 0 rfl).trans rfl
        have es165_1 : s165 95 1 = s127 95 1 := (Gs165 95 1 rfl).trans rfl
        have es165_2 : s165 95 2 = s127 95 2 := (Gs165 95 2 rfl).trans rfl
        have es165_3 : s165 95 3 = s127 95 3 := (Gs165 95 3 rfl).trans rfl
        have es165_4 : s165 96 0 = s127 96 0 := (Gs165 96 0 rfl).trans rfl
        have es165_5 : s165 96 1 = s127 96 1 := (Gs165 96 1 rfl).trans rfl
        have es165_6 : s165 96 2 = s127 96 2 := (Gs165 96 2 rfl).trans rfl
        have es165_7 : s165 96 3 = s127 96 3 := (Gs165 96 3 rfl).trans rfl
        have es165_8 : s165 111 0 = s127 111 0 := (Gs165 111 0 rfl).trans rfl
        have es165_9 : s165 111 1 = s127 111 1 := (Gs165 111 1 rfl).trans rfl
        have es165_10 : s165 111 2 = s127 111 2 := (Gs165 111 2 rfl).trans rfl
        have es165_11 : s165 111 3 = s127 111 3 := (Gs165 111 3 rfl).trans rfl
        have es165_12 : s165 112 0 = s127 112 0 := (Gs165 112 0 rfl).trans rfl
        have es165_13 : s165 112 1 = s127 112 1 := (Gs165 112 1 rfl).trans rfl
        have es165_14 : s165 112 2 = s127 112 2 := (Gs165 112 2 rfl).trans rfl
        have es165_15 : s165 112 3 = s127 112 3 := (Gs165 112 3 rfl).trans rfl
        rcases pcs165 with pcs165
        · refine h_pop (pc' := 1306) rfl rfl rfl ?_
          refine h_goto (pc' := 1441) rfl rfl ?_
          exact kk _ Is165 (by first | exact h_jf j0 (by omega) (by omega) (by omega) | exact Or.inr ⟨by omega, by omega, by omega⟩) (by first | exact h_jf j1 (by omega) (by omega) (by omega) | exact Or.inr ⟨by omega, by omega, by omega⟩) (by first | exact h_jf j2 (by omega) (by omega) (by omega) | exact Or.inr ⟨by omega, by omega, by omega⟩) (by first | exact h_jf j3 (by omega) (by omega) (by omega) | exact Or.inr ⟨by omega, by omega, by omega⟩)
    · refine h_pop (pc' := 1286) rfl rfl rfl ?_
      refine h_aload_n (pc' := 1287) rfl rfl rfl ?_
      refine h_aload_n (pc' := 1288) rfl rfl rfl ?_
      refine h_iload_n (pc' := 1289) rfl rfl rfl ?_
      refine h_iconst (pc' := 1290) (x := (Int32.ofInt 1)) rfl rfl rfl ?_
      refine h_iadd (pc' := 1291) rfl rfl hy3 ci_1 rfl (by omega) (by omega) (fun z166 hz166 => ?_)
      refine h_iald (pc' := 1292) (v := s0 0 (b3 + 1)) rfl rfl rfl hz166 (by omega) (by omega) (Zs127 _) (fun z167 hz167 => ?_)
      have tz167 := h_rgv hz167
      refine h_aload_n (pc' := 1293) rfl rfl rfl ?_
      refine h_iload_n (pc' := 1294) rfl rfl rfl ?_
      refine h_iconst (pc' := 1295) (x := (Int32.ofInt 2)) rfl rfl rfl ?_
      refine h_iadd (pc' := 1296) rfl rfl hy3 ci_2 rfl (by omega) (by omega) (fun z168 hz168 => ?_)
      refine h_iald (pc' := 1297) (v := s0 0 (b3 + 2)) rfl rfl rfl hz168 (by omega) (by omega) (Zs127 _) (fun z169 hz169 => ?_)
      have tz169 := h_rgv hz169
      refine h_aload_n (pc' := 1298) rfl rfl rfl ?_
      refine h_iload_n (pc' := 1299) rfl rfl rfl ?_
      refine h_iconst (pc' := 1300) (x := (Int32.ofInt 3)) rfl rfl rfl ?_
      refine h_iadd (pc' := 1301) rfl rfl hy3 ci_3 rfl (by omega) (by omega) (fun z170 hz170 => ?_)
      refine h_iald (pc' := 1302) (v := s0 0 (b3 + 3)) rfl rfl rfl hz170 (by omega) (by omega) (Zs127 _) (fun z171 hz171 => ?_)
      have tz171 := h_rgv hz171
      rcases (show ((s0 0 (b3 + 1)) = 0) ∨ ((s0 0 (b3 + 1)) = 1) ∨ ((s0 0 (b3 + 1)) = 2) ∨ ((s0 0 (b3 + 1)) = 3) ∨ ((s0 0 (b3 + 1)) ≤ (-1)) ∨ (4 ≤ (s0 0 (b3 + 1))) by omega) with c172 | c172 | c172 | c172 | c172 | c172
      · have qz167 : z167 = (Int32.ofInt 0) := h_lit (show z167.toInt = 0 by omega) ci_0
        subst qz167
        refine h_call (sp := false) (pc' := 1305) (M := [(0, .ref 98), (1, .int (Int32.ofInt 0)), (2, .int z169), (3, .int z171)]) rfl rfl rfl rfl rfl rfl rfl rfl ?_
        refine u_sheetM0 _ Is127  z169 _ hz169 z171 _ hz171 (fun r173 br173 hr173 s174 Is174 Gs174 tr173 pcs174 => h_Kv ?_)
        have Zs174 : ∀ i, s174 0 i = s0 0 i := fun i => (Gs174 0 i rfl).trans (Zs127 i)
        rcases pcs174 with pcs174 | pcs174 | pcs174
        · refine h_pop (pc' := 1306) rfl rfl rfl ?_
          refine h_goto (pc' := 1441) rfl rfl ?_
          exact kk _ Is174 (by first | exact h_jf j0 (by omega) (by omega) (by omega) | exact Or.inr ⟨by omega, by omega, by omega⟩) (by first | exact h_jf j1 (by omega) (by omega) (by omega) | exact Or.inr ⟨by omega, by omega, by omega⟩) (by first | exact h_jf j2 (by omega) (by omega) (by omega) | exact Or.inr ⟨by omega, by omega, by omega⟩) (by first | exact h_jf j3 (by omega) (by omega) (by omega) | exact Or.inr ⟨by omega, by omega, by omega⟩)
        · refine h_pop (pc' := 1306) rfl rfl rfl ?_
          refine h_goto (pc' := 1441) rfl rfl ?_
          exact kk _ Is174 (by first | exact h_jf j0 (by omega) (by omega) (by omega) | exact Or.inr ⟨by omega, by omega, by omega⟩) (by first | exact h_jf j1 (by omega) (by omega) (by omega) | exact Or.inr ⟨by omega, by omega, by omega⟩) (by first | exact h_jf j2 (by omega) (by omega) (by omega) | exact Or.inr ⟨by omega, by omega, by omega⟩) (by first | exact h_jf j3 (by omega) (by omega) (by omega) | exact Or.inr ⟨by omega, by omega, by omega⟩)
        · refine h_pop (pc' := 1306) rfl rfl rfl ?_
          refine h_goto (pc' := 1441) rfl rfl ?_
          exact kk _ Is174 (by first | exact h_jf j0 (by omega) (by omega) (by omega) | exact Or.inr ⟨by omega, by omega, by omega⟩) (by first | exact h_jf j1 (by omega) (by omega) (by omega) | exact Or.inr ⟨by omega, by omega, by omega⟩) (by first | exact h_jf j2 (by omega) (by omega) (by omega) | exact Or.inr ⟨by omega, by omega, by omega⟩) (by first | exact h_jf j3 (by omega) (by omega) (by omega) | exact Or.inr ⟨by omega, by omega, by omega⟩)
      · have qz167 : z167 = (Int32.ofInt 1) := h_lit (show z167.toInt = 1 by omega) ci_1
        subst qz167
        refine h_call (sp := false) (pc' := 1305) (M := [(0, .ref 98), (1, .int (Int32.ofInt 1)), (2, .int z169), (3, .int z171)]) rfl rfl rfl rfl rfl rfl rfl rfl ?_
        refine u_sheetM1 _ Is127  z169 _ hz169 z171 _ hz171 (fun r175 br175 hr175 s176 Is176 Gs176 tr175 pcs176 => h_Kv ?_)
        have Zs176 : ∀ i, s176 0 i = s0 0 i := fun i => (Gs176 0 i rfl).trans (Zs127 i)
        rcases pcs176 with pcs176 | pcs176 | pcs176
        · refine h_pop (pc' := 1306) rfl rfl rfl ?_
          refine h_goto (pc' := 1441) rfl rfl ?_
          exact kk _ Is176 (by first | exact h_jf j0 (by omega) (by omega) (by omega) | exact Or.inr ⟨by omega, by omega, by omega⟩) (by first | exact h_jf j1 (by omega) (by omega) (by omega) | exact Or.inr ⟨by omega, by omega, by omega⟩) (by first | exact h_jf j2 (by omega) (by omega) (by omega) | exact Or.inr ⟨by omega, by omega, by omega⟩) (by first | exact h_jf j3 (by omega) (by omega) (by omega) | exact Or.inr ⟨by omega, by omega, by omega⟩)
        · refine h_pop (pc' := 1306) rfl rfl rfl ?_
          refine h_goto (pc' := 1441) rfl rfl ?_
          exact kk _ Is176 (by first | exact h_jf j0 (by omega) (by omega) (by omega) | exact Or.inr ⟨by omega, by omega, by omega⟩) (by first | exact h_jf j1 (by omega) (by omega) (by omega) | exact Or.inr ⟨by omega, by omega, by omega⟩) (by first | exact h_jf j2 (by omega) (by omega) (by omega) | exact Or.inr ⟨by omega, by omega, by omega⟩) (by first | exact h_jf j3 (by omega) (by omega) (by omega) | exact Or.inr ⟨by omega, by omega, by omega⟩)
        · refine h_pop (pc' := 1306) rfl rfl rfl ?_
          refine h_goto (pc' := 1441) rfl rfl ?_
          exact kk _ Is176 (by first | exact h_jf j0 (by omega) (by omega) (by omega) | exact Or.inr ⟨by omega, by omega, by omega⟩) (by first | exact h_jf j1 (by omega) (by omega) (by omega) | exact Or.inr ⟨by omega, by omega, by omega⟩) (by first | exact h_jf j2 (by omega) (by omega) (by omega) | exact Or.inr ⟨by omega, by omega, by omega⟩) (by first | exact h_jf j3 (by omega) (by omega) (by omega) | exact Or.inr ⟨by omega, by omega, by omega⟩)
      · have qz167 : z167 = (Int32.ofInt 2) := h_lit (show z167.toInt = 2 by omega) ci_2
        subst qz167
        refine h_call (sp := false) (pc' := 1305) (M := [(0, .ref 98), (1, .int (Int32.ofInt 2)), (2, .int z169), (3, .int z171)]) rfl rfl rfl rfl rfl rfl rfl rfl ?_
        refine u_sheetM2 _ Is127  z169 _ hz169 z171 _ hz171 (fun r177 br177 hr177 s178 Is178 Gs178 tr177 pcs178 => h_Kv ?_)
        have Zs178 : ∀ i, s178 0 i = s0 0 i := fun i => (Gs178 0 i rfl).trans (Zs127 i)
        rcases pcs178 with pcs178 | pcs178 | pcs178
        · refine h_pop (pc' := 1306) rfl rfl rfl ?_
          refine h_goto (pc' := 1441) rfl rfl ?_
          exact kk _ Is178 (by first | exact h_jf j0 (by omega) (by omega) (by omega) | exact Or.inr ⟨by omega, by omega, by omega⟩) (by first | exact h_jf j1 (by omega) (by omega) (by omega) | exact Or.inr ⟨by omega, by omega, by omega⟩) (by first | exact h_jf j2 (by omega) (by omega) (by omega) | exact Or.inr ⟨by omega, by omega, by omega⟩) (by first | exact h_jf j3 (by omega) (by omega) (by omega) | exact Or.inr ⟨by omega, by omega, by omega⟩)
        · refine h_pop (pc' := 1306) rfl rfl rfl ?_
          refine h_goto (pc' := 1441) rfl rfl ?_
          exact kk _ Is178 (by first | exact h_jf j0 (by omega) (by omega) (by omega) | exact Or.inr ⟨by omega, by omega, by omega⟩) (by first | exact h_jf j1 (by omega) (by omega) (by omega) | exact Or.inr ⟨by omega, by omega, by omega⟩) (by first | exact h_jf j2 (by omega) (by omega) (by omega) | exact Or.inr ⟨by omega, by omega, by omega⟩) (by first | exact h_jf j3 (by omega) (by omega) (by omega) | exact Or.inr ⟨by omega, by omega, by omega⟩)
        · refine h_pop (pc' := 1306) rfl rfl rfl ?_
          refine h_goto (pc' := 1441) rfl rfl ?_
          exact kk _ Is178 (by first | exact h_jf j0 (by omega) (by omega) (by omega) | exact Or.inr ⟨by omega, by omega, by omega⟩) (by first | exact h_jf j1 (by omega) (by omega) (by omega) | exact Or.inr ⟨by omega, by omega, by omega⟩) (by first | exact h_jf j2 (by omega) (by omega) (by omega) | exact Or.inr ⟨by omega, by omega, by omega⟩) (by first | exact h_jf j3 (by omega) (by omega) (by omega) | exact Or.inr ⟨by omega, by omega, by omega⟩)
      · have qz167 : z167 = (Int32.ofInt 3) := h_lit (show z167.toInt = 3 by omega) ci_3
        subst qz167
        refine h_call (sp := false) (pc' := 1305) (M := [(0, .ref 98), (1, .int (Int32.ofInt 3)), (2, .int z169), (3, .int z171)]) rfl rfl rfl rfl rfl rfl rfl rfl ?_
        refine u_sheetM3 _ Is127  z169 _ hz169 z171 _ hz171 (fun r179 br179 hr179 s180 Is180 Gs180 tr179 pcs180 => h_Kv ?_)
        have Zs180 : ∀ i, s180 0 i = s0 0 i := fun i => (Gs180 0 i rfl).trans (Zs127 i)
        rcases pcs180 with pcs180 | pcs180 | pcs180
        · refine h_pop (pc' := 1306) rfl rfl rfl ?_
          refine h_goto (pc' := 1441) rfl rfl ?_
          exact kk _ Is180 (by first | exact h_jf j0 (by omega) (by omega) (by omega) | exact Or.inr ⟨by omega, by omega, by omega⟩) (by first | exact h_jf j1 (by omega) (by omega) (by omega) | exact Or.inr ⟨by omega, by omega, by omega⟩) (by first | exact h_jf j2 (by omega) (by omega) (by omega) | exact Or.inr ⟨by omega, by omega, by omega⟩) (by first | exact h_jf j3 (by omega) (by omega) (by omega) | exact Or.inr ⟨by omega, by omega, by omega⟩)
        · refine h_pop (pc' := 1306) rfl rfl rfl ?_
          refine h_goto (pc' := 1441) rfl rfl ?_
          exact kk _ Is180 (by first | exact h_jf j0 (by omega) (by omega) (by omega) | exact Or.inr ⟨by omega, by omega, by omega⟩) (by first | exact h_jf j1 (by omega) (by omega) (by omega) | exact Or.inr ⟨by omega, by omega, by omega⟩) (by first | exact h_jf j2 (by omega) (by omega) (by omega) | exact Or.inr ⟨by omega, by omega, by omega⟩) (by first | exact h_jf j3 (by omega) (by omega) (by omega) | exact Or.inr ⟨by omega, by omega, by omega⟩)
        · refine h_pop (pc' := 1306) rfl rfl rfl ?_
          refine h_goto (pc' := 1441) rfl rfl ?_
          exact kk _ Is180 (by first | exact h_jf j0 (by omega) (by omega) (by omega) | exact Or.inr ⟨by omega, by omega, by omega⟩) (by first | exact h_jf j1 (by omega) (by omega) (by omega) | exact Or.inr ⟨by omega, by omega, by omega⟩) (by first | exact h_jf j2 (by omega) (by omega) (by omega) | exact Or.inr ⟨by omega, by omega, by omega⟩) (by first | exact h_jf j3 (by omega) (by omega) (by omega) | exact Or.inr ⟨by omega, by omega, by omega⟩)
      · refine h_call (sp := false) (pc' := 1305) (M := [(0, .ref 98), (1, .int z167), (2, .int z169), (3, .int z171)]) rfl rfl rfl rfl rfl rfl rfl rfl ?_
        refine u_sheetMn _ Is127 z167 _ hz167 (by omega) z169 _ hz169 z171 _ hz171 (fun r181 br181 hr181 s182 Is182 Gs182 tr181 pcs182 => h_Kv ?_)
        have Zs182 : ∀ i, s182 0 i = s0 0 i := fun i => (Gs182 0 i rfl).trans (Zs127 i)
        have es182_0 : s182 95 0 = s127 95 0 := (Gs182 95 0 rfl).trans rfl
        have es182_1 : s182 95 1 = s127 95 1 := (Gs182 95 1 rfl).trans rfl
        have es182_2 : s182 95 2 = s127 95 2 := (Gs182 95 2 rfl).trans rfl
        have es182_3 : s182 95 3 = s127 95 3 := (Gs182 95 3 rfl).trans rfl
        have es182_4 : s182 96 0 = s127 96 0 := (Gs182 96 0 rfl).trans rfl
        have es182_5 : s182 96 1 = s127 96 1 := (Gs182 96 1 rfl).trans rfl
        have es182_6 : s182 96 2 = s127 96 2 := (Gs182 96 2 rfl).trans rfl
        have es182_7 : s182 96 3 = s127 96 3 := (Gs182 96 3 rfl).trans rfl
        have es182_8 : s182 111 0 = s127 111 0 := (Gs182 111 0 rfl).trans rfl
        have es182_9 : s182 111 1 = s127 111 1 := (Gs182 111 1 rfl).trans rfl
        have es182_10 : s182 111 2 = s127 111 2 := (Gs182 111 2 rfl).trans rfl
        have es182_11 : s182 111 3 = s127 111 3 := (Gs182 111 3 rfl).trans rfl
        have es182_12 : s182 112 0 = s127 112 0 := (Gs182 112 0 rfl).trans rfl
        have es182_13 : s182 112 1 = s127 112 1 := (Gs182 112 1 rfl).trans rfl
        have es182_14 : s182 112 2 = s127 112 2 := (Gs182 112 2 rfl).trans rfl
        have es182_15 : s182 112 3 = s127 112 3 := (Gs182 112 3 rfl).trans rfl
        rcases pcs182 with pcs182
        · refine h_pop (pc' := 1306) rfl rfl rfl ?_
          refine h_goto (pc' := 1441) rfl rfl ?_
          exact kk _ Is182 (by first | exact h_jf j0 (by omega) (by omega) (by omega) | exact Or.inr ⟨by omega, by omega, by omega⟩) (by first | exact h_jf j1 (by omega) (by omega) (by omega) | exact Or.inr ⟨by omega, by omega, by omega⟩) (by first | exact h_jf j2 (by omega) (by omega) (by omega) | exact Or.inr ⟨by omega, by omega, by omega⟩) (by first | exact h_jf j3 (by omega) (by omega) (by omega) | exact Or.inr ⟨by omega, by omega, by omega⟩)
      · refine h_call (sp := false) (pc' := 1305) (M := [(0, .ref 98), (1, .int z167), (2, .int z169), (3, .int z171)]) rfl rfl rfl rfl rfl rfl rfl rfl ?_
        refine u_sheetMp _ Is127 z167 _ hz167 (by omega) z169 _ hz169 z171 _ hz171 (fun r183 br183 hr183 s184 Is184 Gs184 tr183 pcs184 => h_Kv ?_)
        have Zs184 : ∀ i, s184 0 i = s0 0 i := fun i => (Gs184 0 i rfl).trans (Zs127 i)
        have es184_0 : s184 95 0 = s127 95 0 := (Gs184 95 0 rfl).trans rfl
        have es184_1 : s184 95 1 = s127 95 1 := (Gs184 95 1 rfl).trans rfl
        have es184_2 : s184 95 2 = s127 95 2 := (Gs184 95 2 rfl).trans rfl
        have es184_3 : s184 95 3 = s127 95 3 := (Gs184 95 3 rfl).trans rfl
        have es184_4 : s184 96 0 = s127 96 0 := (Gs184 96 0 rfl).trans rfl
        have es184_5 : s184 96 1 = s127 96 1 := (Gs184 96 1 rfl).trans rfl
        have es184_6 : s184 96 2 = s127 96 2 := (Gs184 96 2 rfl).trans rfl
        have es184_7 : s184 96 3 = s127 96 3 := (Gs184 96 3 rfl).trans rfl
        have es184_8 : s184 111 0 = s127 111 0 := (Gs184 111 0 rfl).trans rfl
        have es184_9 : s184 111 1 = s127 111 1 := (Gs184 111 1 rfl).trans rfl
        have es184_10 : s184 111 2 = s127 111 2 := (Gs184 111 2 rfl).trans rfl
        have es184_11 : s184 111 3 = s127 111 3 := (Gs184 111 3 rfl).trans rfl
        have es184_12 : s184 112 0 = s127 112 0 := (Gs184 112 0 rfl).trans rfl
        have es184_13 : s184 112 1 = s127 112 1 := (Gs184 112 1 rfl).trans rfl
        have es184_14 : s184 112 2 = s127 112 2 := (Gs184 112 2 rfl).trans rfl
        have es184_15 : s184 112 3 = s127 112 3 := (Gs184 112 3 rfl).trans rfl
        rcases pcs184 with pcs184
        · refine h_pop (pc' := 1306) rfl rfl rfl ?_
          refine h_goto (pc' := 1441) rfl rfl ?_
          exact kk _ Is184 (by first | exact h_jf j0 (by omega) (by omega) (by omega) | exact Or.inr ⟨by omega, by omega, by omega⟩) (by first | exact h_jf j1 (by omega) (by omega) (by omega) | exact Or.inr ⟨by omega, by omega, by omega⟩) (by first | exact h_jf j2 (by omega) (by omega) (by omega) | exact Or.inr ⟨by omega, by omega, by omega⟩) (by first | exact h_jf j3 (by omega) (by omega) (by omega) | exact Or.inr ⟨by omega, by omega, by omega⟩)
  · have qz2 : z2 = (Int32.ofInt 3) := h_lit (show z2.toInt = 3 by omega) ci_3
    subst qz2
    refine h_call (sp := false) (pc' := 1285) (M := [(0, .ref 9), (1, .int (Int32.ofInt 3)), (2, .int z4), (3, .int z6)]) rfl rfl rfl rfl rfl rfl rfl rfl ?_
    refine u_sheetX3 _ I0  z4 _ hz4 z6 _ hz6 (fun r185 br185 hr185 s186 Is186 Gs186 tr185 pcs186 => h_Kv ?_)
    have Zs186 : ∀ i, s186 0 i = s0 0 i := fun i => (Gs186 0 i rfl).trans rfl
    rcases pcs186 with pcs186 | pcs186 | pcs186
    · refine h_pop (pc' := 1286) rfl rfl rfl ?_
      refine h_aload_n (pc' := 1287) rfl rfl rfl ?_
      refine h_aload_n (pc' := 1288) rfl rfl rfl ?_
      refine h_iload_n (pc' := 1289) rfl rfl rfl ?_
      refine h_iconst (pc' := 1290) (x := (Int32.ofInt 1)) rfl rfl rfl ?_
      refine h_iadd (pc' := 1291) rfl rfl hy3 ci_1 rfl (by omega) (by omega) (fun z187 hz187 => ?_)
      refine h_iald (pc' := 1292) (v := s0 0 (b3 + 1)) rfl rfl rfl hz187 (by omega) (by omega) (Zs186 _) (fun z188 hz188 => ?_)
      have tz188 := h_rgv hz188
      refine h_aload_n (pc' := 1293) rfl rfl rfl ?_
      refine h_iload_n (pc' := 1294) rfl rfl rfl ?_
      refine h_iconst (pc' := 1295) (x := (Int32.ofInt 2)) rfl rfl rfl ?_
      refine h_iadd (pc' := 1296) rfl rfl hy3 ci_2 rfl (by omega) (by omega) (fun z189 hz189 => ?_)
      refine h_iald (pc' := 1297) (v := s0 0 (b3 + 2)) rfl rfl rfl hz189 (by omega) (by omega) (Zs186 _) (fun z190 hz190 => ?_)
      have tz190 := h_rgv hz190
      refine h_aload_n (pc' := 1298) rfl rfl rfl ?_
      refine h_iload_n (pc' := 1299) rfl rfl rfl ?_
      refine h_iconst (pc' := 1300) (x := (Int32.ofInt 3)) rfl rfl rfl ?_
      refine h_iadd (pc' := 1301) rfl rfl hy3 ci_3 rfl (by omega) (by omega) (fun z191 hz191 => ?_)
      refine h_iald (pc' := 1302) (v := s0 0 (b3 + 3)) rfl rfl rfl hz191 (by omega) (by omega) (Zs186 _) (fun z192 hz192 => ?_)
      have tz192 := h_rgv hz192
      rcases (show ((s0 0 (b3 + 1)) = 0) ∨ ((s0 0 (b3 + 1)) = 1) ∨ ((s0 0 (b3 + 1)) = 2) ∨ ((s0 0 (b3 + 1)) = 3) ∨ ((s0 0 (b3 + 1)) ≤ (-1)) ∨ (4 ≤ (s0 0 (b3 + 1))) by omega) with c193 | c193 | c193 | c193 | c193 | c193
      · have qz188 : z188 = (Int32.ofInt 0) := h_lit (show z188.toInt = 0 by omega) ci_0
        subst qz188
        refine h_call (sp := false) (pc' := 1305) (M := [(0, .ref 98), (1, .int (Int32.ofInt 0)), (2, .int z190), (3, .int z192)]) rfl rfl rfl rfl rfl rfl rfl rfl ?_
        refine u_sheetM0 _ Is186  z190 _ hz190 z192 _ hz192 (fun r194 br194 hr194 s195 Is195 Gs195 tr194 pcs195 => h_Kv ?_)
        have Zs195 : ∀ i, s195 0 i = s0 0 i := fun i => (Gs195 0 i rfl).trans (Zs186 i)
        rcases pcs195 with pcs195 | pcs195 | pcs195
        · refine h_pop (pc' := 1306) rfl rfl rfl ?_
          refine h_goto (pc' := 1441) rfl rfl ?_
          exact kk _ Is195 (by first | exact h_jf j0 (by omega) (by omega) (by omega) | exact Or.inr ⟨by omega, by omega, by omega⟩) (by first | exact h_jf j1 (by omega) (by omega) (by omega) | exact Or.inr ⟨by omega, by omega, by omega⟩) (by first | exact h_jf j2 (by omega) (by omega) (by omega) | exact Or.inr ⟨by omega, by omega, by omega⟩) (by first | exact h_jf j3 (by omega) (by omega) (by omega) | exact Or.inr ⟨by omega, by omega, by omega⟩)
        · refine h_pop (pc' := 1306) rfl rfl rfl ?_
          refine h_goto (pc' := 1441) rfl rfl ?_
          exact kk _ Is195 (by first | exact h_jf j0 (by omega) (by omega) (by omega) | exact Or.inr ⟨by omega, by omega, by omega⟩) (by first | exact h_jf j1 (by omega) (by omega) (by omega) | exact Or.inr ⟨by omega, by omega, by omega⟩) (by first | exact h_jf j2 (by omega) (by omega) (by omega) | exact Or.inr ⟨by omega, by omega, by omega⟩) (by first | exact h_jf j3 (by omega) (by omega) (by omega) | exact Or.inr ⟨by omega, by omega, by omega⟩)
        · refine h_pop (pc' := 1306) rfl rfl rfl ?_
          refine h_goto (pc' := 1441) rfl rfl ?_
          exact kk _ Is195 (by first | exact h_jf j0 (by omega) (by omega) (by omega) | exact Or.inr ⟨by omega, by omega, by omega⟩) (by first | exact h_jf j1 (by omega) (by omega) (by omega) | exact Or.inr ⟨by omega, by omega, by omega⟩) (by first | exact h_jf j2 (by omega) (by omega) (by omega) | exact Or.inr ⟨by omega, by omega, by omega⟩) (by first | exact h_jf j3 (by omega) (by omega) (by omega) | exact Or.inr ⟨by omega, by omega, by omega⟩)
      · have qz188 : z188 = (Int32.ofInt 1) := h_lit (show z188.toInt = 1 by omega) ci_1
        subst qz188
        refine h_call (sp := false) (pc' := 1305) (M := [(0, .ref 98), (1, .int (Int32.ofInt 1)), (2, .int z190), (3, .int z192)]) rfl rfl rfl rfl rfl rfl rfl rfl ?_
        refine u_sheetM1 _ Is186  z190 _ hz190 z192 _ hz192 (fun r196 br196 hr196 s197 Is197 Gs197 tr196 pcs197 => h_Kv ?_)
        have Zs197 : ∀ i, s197 0 i = s0 0 i := fun i => (Gs197 0 i rfl).trans (Zs186 i)
        rcases pcs197 with pcs197 | pcs197 | pcs197
        · refine h_pop (pc' := 1306) rfl rfl rfl ?_
          refine h_goto (pc' := 1441) rfl rfl ?_
          exact kk _ Is197 (by first | exact h_jf j0 (by omega) (by omega) (by omega) | exact Or.inr ⟨by omega, by omega, by omega⟩) (by first | exact h_jf j1 (by omega) (by omega) (by omega) | exact Or.inr ⟨by omega, by omega, by omega⟩) (by first | exact h_jf j2 (by omega) (by omega) (by omega) | exact Or.inr ⟨by omega, by omega, by omega⟩) (by first | exact h_jf j3 (by omega) (by omega) (by omega) | exact Or.inr ⟨by omega, by omega, by omega⟩)
        · refine h_pop (pc' := 1306) rfl rfl rfl ?_
          refine h_goto (pc' := 1441) rfl rfl ?_
          exact kk _ Is197 (by first | exact h_jf j0 (by omega) (by omega) (by omega) | exact Or.inr ⟨by omega, by omega, by omega⟩) (by first | exact h_jf j1 (by omega) (by omega) (by omega) | exact Or.inr ⟨by omega, by omega, by omega⟩) (by first | exact h_jf j2 (by omega) (by omega) (by omega) | exact Or.inr ⟨by omega, by omega, by omega⟩) (by first | exact h_jf j3 (by omega) (by omega) (by omega) | exact Or.inr ⟨by omega, by omega, by omega⟩)
        · refine h_pop (pc' := 1306) rfl rfl rfl ?_
          refine h_goto (pc' := 1441) rfl rfl ?_
          exact kk _ Is197 (by first | exact h_jf j0 (by omega) (by omega) (by omega) | exact Or.inr ⟨by omega, by omega, by omega⟩) (by first | exact h_jf j1 (by omega) (by omega) (by omega) | exact Or.inr ⟨by omega, by omega, by omega⟩) (by first | exact h_jf j2 (by omega) (by omega) (by omega) | exact Or.inr ⟨by omega, by omega, by omega⟩) (by first | exact h_jf j3 (by omega) (by omega) (by omega) | exact Or.inr ⟨by omega, by omega, by omega⟩)
      · have qz188 : z188 = (Int32.ofInt 2) := h_lit (show z188.toInt = 2 by omega) ci_2
        subst qz188
        refine h_call (sp := false) (pc' := 1305) (M := [(0, .ref 98), (1, .int (Int32.ofInt 2)), (2, .int z190), (3, .int z192)]) rfl rfl rfl rfl rfl rfl rfl rfl ?_
        refine u_sheetM2 _ Is186  z190 _ hz190 z192 _ hz192 (fun r198 br198 hr198 s199 Is199 Gs199 tr198 pcs199 => h_Kv ?_)
        have Zs199 : ∀ i, s199 0 i = s0 0 i := fun i => (Gs199 0 i rfl).trans (Zs186 i)
        rcases pcs199 with pcs199 | pcs199 | pcs199
        · refine h_pop (pc' := 1306) rfl rfl rfl ?_
          refine h_goto (pc' := 1441) rfl rfl ?_
          exact kk _ Is199 (by first | exact h_jf j0 (by omega) (by omega) (by omega) | exact Or.inr ⟨by omega, by omega, by omega⟩) (by first | exact h_jf j1 (by omega) (by omega) (by omega) | exact Or.inr ⟨by omega, by omega, by omega⟩) (by first | exact h_jf j2 (by omega) (by omega) (by omega) | exact Or.inr ⟨by omega, by omega, by omega⟩) (by first | exact h_jf j3 (by omega) (by omega) (by omega) | exact Or.inr ⟨by omega, by omega, by omega⟩)
        · refine h_pop (pc' := 1306) rfl rfl rfl ?_
          refine h_goto (pc' := 1441) rfl rfl ?_
          exact kk _ Is199 (by first | exact h_jf j0 (by omega) (by omega) (by omega) | exact Or.inr ⟨by omega, by omega, by omega⟩) (by first | exact h_jf j1 (by omega) (by omega) (by omega) | exact Or.inr ⟨by omega, by omega, by omega⟩) (by first | exact h_jf j2 (by omega) (by omega) (by omega) | exact Or.inr ⟨by omega, by omega, by omega⟩) (by first | exact h_jf j3 (by omega) (by omega) (by omega) | exact Or.inr ⟨by omega, by omega, by omega⟩)
        · refine h_pop (pc' := 1306) rfl rfl rfl ?_
          refine h_goto (pc' := 1441) rfl rfl ?_
          exact kk _ Is199 (by first | exact h_jf j0 (by omega) (by omega) (by omega) | exact Or.inr ⟨by omega, by omega, by omega⟩) (by first | exact h_jf j1 (by omega) (by omega) (by omega) | exact Or.inr ⟨by omega, by omega, by omega⟩) (by first | exact h_jf j2 (by omega) (by omega) (by omega) | exact Or.inr ⟨by omega, by omega, by omega⟩) (by first | exact h_jf j3 (by omega) (by omega) (by omega) | exact Or.inr ⟨by omega, by omega, by omega⟩)
      · have qz188 : z188 = (Int32.ofInt 3) := h_lit (show z188.toInt = 3 by omega) ci_3
        subst qz188
        refine h_call (sp := false) (pc' := 1305) (M := [(0, .ref 98), (1, .int (Int32.ofInt 3)), (2, .int z190), (3, .int z192)]) rfl rfl rfl rfl rfl rfl rfl rfl ?_
        refine u_sheetM3 _ Is186  z190 _ hz190 z192 _ hz192 (fun r200 br200 hr200 s201 Is201 Gs201 tr200 pcs201 => h_Kv ?_)
        have Zs201 : ∀ i, s201 0 i = s0 0 i := fun i => (Gs201 0 i rfl).trans (Zs186 i)
        rcases pcs201 with pcs201 | pcs201 | pcs201
        · refine h_pop (pc' := 1306) rfl rfl rfl ?_
          refine h_goto (pc' := 1441) rfl rfl ?_
          exact kk _ Is201 (by first | exact h_jf j0 (by omega) (by omega) (by omega) | exact Or.inr ⟨by omega, by omega, by omega⟩) (by first | exact h_jf j1 (by omega) (by omega) (by omega) | exact Or.inr ⟨by omega, by omega, by omega⟩) (by first | exact h_jf j2 (by omega) (by omega) (by omega) | exact Or.inr ⟨by omega, by omega, by omega⟩) (by first | exact h_jf j3 (by omega) (by omega) (by omega) | exact Or.inr ⟨by omega, by omega, by omega⟩)
        · refine h_pop (pc' := 1306) rfl rfl rfl ?_
          refine h_goto (pc' := 1441) rfl rfl ?_
          exact kk _ Is201 (by first | exact h_jf j0 (by omega) (by omega) (by omega) | exact Or.inr ⟨by omega, by omega, by omega⟩) (by first | exact h_jf j1 (by omega) (by omega) (by omega) | exact Or.inr ⟨by omega, by omega, by omega⟩) (by first | exact h_jf j2 (by omega) (by omega) (by omega) | exact Or.inr ⟨by omega, by omega, by omega⟩) (by first | exact h_jf j3 (by omega) (by omega) (by omega) | exact Or.inr ⟨by omega, by omega, by omega⟩)
        · refine h_pop (pc' := 1306) rfl rfl rfl ?_
          refine h_goto (pc' := 1441) rfl rfl ?_
          exact kk _ Is201 (by first | exact h_jf j0 (by omega) (by omega) (by omega) | exact Or.inr ⟨by omega, by omega, by omega⟩) (by first | exact h_jf j1 (by omega) (by omega) (by omega) | exact Or.inr ⟨by omega, by omega, by omega⟩) (by first | exact h_jf j2 (by omega) (by omega) (by omega) | exact Or.inr ⟨by omega, by omega, by omega⟩) (by first | exact h_jf j3 (by omega) (by omega) (by omega) | exact Or.inr ⟨by omega, by omega, by omega⟩)
      · refine h_call (sp := false) (pc' := 1305) (M := [(0, .ref 98), (1, .int z188), (2, .int z190), (3, .int z192)]) rfl rfl rfl rfl rfl rfl rfl rfl ?_
        refine u_sheetMn _ Is186 z188 _ hz188 (by omega) z190 _ hz190 z192 _ hz192 (fun r202 br202 hr202 s203 Is203 Gs203 tr202 pcs203 => h_Kv ?_)
        have Zs203 : ∀ i, s203 0 i = s0 0 i := fun i => (Gs203 0 i rfl).trans (Zs186 i)
        have es203_0 : s203 95 0 = s186 95 0 := (Gs203 95 0 rfl).trans rfl
        have es203_1 : s203 95 1 = s186 95 1 := (Gs203 95 1 rfl).trans rfl
        have es203_2 : s203 95 2 = s186 95 2 := (Gs203 95 2 rfl).trans rfl
        have es203_3 : s203 95 3 = s186 95 3 := (Gs203 95 3 rfl).trans rfl
        have es203_4 : s203 96 0 = s186 96 0 := (Gs203 96 0 rfl).trans rfl
        have es203_5 : s203 96 1 = s186 96 1 := (Gs203 96 1 rfl).trans rfl
        have es203_6 : s203 96 2 = s186 96 2 := (Gs203 96 2 rfl).trans rfl
        have es203_7 : s203 96 3 = s186 96 3 := (Gs203 96 3 rfl).trans rfl
        have es203_8 : s203 111 0 = s186 111 0 := (Gs203 111 0 rfl).trans rfl
        have es203_9 : s203 111 1 = s186 111 1 := (Gs203 111 1 rfl).trans rfl
        have es203_10 : s203 111 2 = s186 111 2 := (Gs203 111 2 rfl).trans rfl
        have es203_11 : s203 111 3 = s186 111 3 := (Gs203 111 3 rfl).trans rfl
        have es203_12 : s203 112 0 = s186 112 0 := (Gs203 112 0 rfl).trans rfl
        have es203_13 : s203 112 1 = s186 112 1 := (Gs203 112 1 rfl).trans rfl
        have es203_14 : s203 112 2 = s186 112 2 := (Gs203 112 2 rfl).trans rfl
        have es203_15 : s203 112 3 = s186 112 3 := (Gs203 112 3 rfl).trans rfl
        rcases pcs203 with pcs203
        · refine h_pop (pc' := 1306) rfl rfl rfl ?_
          refine h_goto (pc' := 1441) rfl rfl ?_
          exact kk _ Is203 (by first | exact h_jf j0 (by omega) (by omega) (by omega) | exact Or.inr ⟨by omega, by omega, by omega⟩) (by first | exact h_jf j1 (by omega) (by omega) (by omega) | exact Or.inr ⟨by omega, by omega, by omega⟩) (by first | exact h_jf j2 (by omega) (by omega) (by omega) | exact Or.inr ⟨by omega, by omega, by omega⟩) (by first | exact h_jf j3 (by omega) (by omega) (by omega) | exact Or.inr ⟨by omega, by omega, by omega⟩)
      · refine h_call (sp := false) (pc' := 1305) (M := [(0, .ref 98), (1, .int z188), (2, .int z190), (3, .int z192)]) rfl rfl rfl rfl rfl rfl rfl rfl ?_
        refine u_sheetMp _ Is186 z188 _ hz188 (by omega) z190 _ hz190 z192 _ hz192 (fun r204 br204 hr204 s205 Is205 Gs205 tr204 pcs205 => h_Kv ?_)
        have Zs205 : ∀ i, s205 0 i = s0 0 i := fun i => (Gs205 0 i rfl).trans (Zs186 i)
        have es205_0 : s205 95 0 = s186 95 0 := (Gs205 95 0 rfl).trans rfl
        have es205_1 : s205 95 1 = s186 95 1 := (Gs205 95 1 rfl).trans rfl
        have es205_2 : s205 95 2 = s186 95 2 := (Gs205 95 2 rfl).trans rfl
        have es205_3 : s205 95 3 = s186 95 3 := (Gs205 95 3 rfl).trans rfl
        have es205_4 : s205 96 0 = s186 96 0 := (Gs205 96 0 rfl).trans rfl
        have es205_5 : s205 96 1 = s186 96 1 := (Gs205 96 1 rfl).trans rfl
        have es205_6 : s205 96 2 = s186 96 2 := (Gs205 96 2 rfl).trans rfl
        have es205_7 : s205 96 3 = s186 96 3 := (Gs205 96 3 rfl).trans rfl
        have es205_8 : s205 111 0 = s186 111 0 := (Gs205 111 0 rfl).trans rfl
        have es205_9 : s205 111 1 = s186 111 1 := (Gs205 111 1 rfl).trans rfl
        have es205_10 : s205 111 2 = s186 111 2 := (Gs205 111 2 rfl).trans rfl
        have es205_11 : s205 111 3 = s186 111 3 := (Gs205 111 3 rfl).trans rfl
        have es205_12 : s205 112 0 = s186 112 0 := (Gs205 112 0 rfl).trans rfl
        have es205_13 : s205 112 1 = s186 112 1 := (Gs205 112 1 rfl).trans rfl
        have es205_14 : s205 112 2 = s186 112 2 := (Gs205 112 2 rfl).trans rfl
        have es205_15 : s205 112 3 = s186 112 3 := (Gs205 112 3 rfl).trans rfl
        rcases pcs205 with pcs205
        · refine h_pop (pc' := 1306) rfl rfl rfl ?_
          refine h_goto (pc' := 1441) rfl rfl ?_
          exact kk _ Is205 (by first | exact h_jf j0 (by omega) (by omega) (by omega) | exact Or.inr ⟨by omega, by omega, by omega⟩) (by first | exact h_jf j1 (by omega) (by omega) (by omega) | exact Or.inr ⟨by omega, by omega, by omega⟩) (by first | exact h_jf j2 (by omega) (by omega) (by omega) | exact Or.inr ⟨by omega, by omega, by omega⟩) (by first | exact h_jf j3 (by omega) (by omega) (by omega) | exact Or.inr ⟨by omega, by omega, by omega⟩)
    · refine h_pop (pc' := 1286) rfl rfl rfl ?_
      refine h_aload_n (pc' := 1287) rfl rfl rfl ?_
      refine h_aload_n (pc' := 1288) rfl rfl rfl ?_
      refine h_iload_n (pc' := 1289) rfl rfl rfl ?_
      refine h_iconst (pc' := 1290) (x := (Int32.ofInt 1)) rfl rfl rfl ?_
      refine h_iadd (pc' := 1291) rfl rfl hy3 ci_1 rfl (by omega) (by omega) (fun z206 hz206 => ?_)
      refine h_iald (pc' := 1292) (v := s0 0 (b3 + 1)) rfl rfl rfl hz206 (by omega) (by omega) (Zs186 _) (fun z207 hz207 => ?_)
      have tz207 := h_rgv hz207
      refine h_aload_n (pc' := 1293) rfl rfl rfl ?_
      refine h_iload_n (pc' := 1294) rfl rfl rfl ?_
      refine h_iconst (pc' := 1295) (x := (Int32.ofInt 2)) rfl rfl rfl ?_
      refine h_iadd (pc' := 1296) rfl rfl hy3 ci_2 rfl (by omega) (by omega) (fun z208 hz208 => ?_)
      refine h_iald (pc' := 1297) (v := s0 0 (b3 + 2)) rfl rfl rfl hz208 (by omega) (by omega) (Zs186 _) (fun z209 hz209 => ?_)
      have tz209 := h_rgv hz209
      refine h_aload_n (pc' := 1298) rfl rfl rfl ?_
      refine h_iload_n (pc' := 1299) rfl rfl rfl ?_
      refine h_iconst (pc' := 1300) (x := (Int32.ofInt 3)) rfl rfl rfl ?_
      refine h_iadd (pc' := 1301) rfl rfl hy3 ci_3 rfl (by omega) (by omega) (fun z210 hz210 => ?_)
      refine h_iald (pc' := 1302) (v := s0 0 (b3 + 3)) rfl rfl rfl hz210 (by omega) (by omega) (Zs186 _) (fun z211 hz211 => ?_)
      have tz211 := h_rgv hz211
      rcases (show ((s0 0 (b3 + 1)) = 0) ∨ ((s0 0 (b3 + 1)) = 1) ∨ ((s0 0 (b3 + 1)) = 2) ∨ ((s0 0 (b3 + 1)) = 3) ∨ ((s0 0 (b3 + 1)) ≤ (-1)) ∨ (4 ≤ (s0 0 (b3 + 1))) by omega) with c212 | c212 | c212 | c212 | c212 | c212
      · have qz207 : z207 = (Int32.ofInt 0) := h_lit (show z207.toInt = 0 by omega) ci_0
        subst qz207
        refine h_call (sp := false) (pc' := 1305) (M := [(0, .ref 98), (1, .int (Int32.ofInt 0)), (2, .int z209), (3, .int z211)]) rfl rfl rfl rfl rfl rfl rfl rfl ?_
        refine u_sheetM0 _ Is186  z209 _ hz209 z211 _ hz211 (fun r213 br213 hr213 s214 Is214 Gs214 tr213 pcs214 => h_Kv ?_)
        have Zs214 : ∀ i, s214 0 i = s0 0 i := fun i => (Gs214 0 i rfl).trans (Zs186 i)
        rcases pcs214 with pcs214 | pcs214 | pcs214
        · refine h_pop (pc' := 1306) rfl rfl rfl ?_
          refine h_goto (pc' := 1441) rfl rfl ?_
          exact kk _ Is214 (by first | exact h_jf j0 (by omega) (by omega) (by omega) | exact Or.inr ⟨by omega, by omega, by omega⟩) (by first | exact h_jf j1 (by omega) (by omega) (by omega) | exact Or.inr ⟨by omega, by omega, by omega⟩) (by first | exact h_jf j2 (by omega) (by omega) (by omega) | exact Or.inr ⟨by omega, by omega, by omega⟩) (by first | exact h_jf j3 (by omega) (by omega) (by omega) | exact Or.inr ⟨by omega, by omega, by omega⟩)
        · refine h_pop (pc' := 1306) rfl rfl rfl ?_
          refine h_goto (pc' := 1441) rfl rfl ?_
          exact kk _ Is214 (by first | exact h_jf j0 (by omega) (by omega) (by omega) | exact Or.inr ⟨by omega, by omega, by omega⟩) (by first | exact h_jf j1 (by omega) (by omega) (by omega) | exact Or.inr ⟨by omega, by omega, by omega⟩) (by first | exact h_jf j2 (by omega) (by omega) (by omega) | exact Or.inr ⟨by omega, by omega, by omega⟩) (by first | exact h_jf j3 (by omega) (by omega) (by omega) | exact Or.inr ⟨by omega, by omega, by omega⟩)
        · refine h_pop (pc' := 1306) rfl rfl rfl ?_
          refine h_goto (pc' := 1441) rfl rfl ?_
          exact kk _ Is214 (by first | exact h_jf j0 (by omega) (by omega) (by omega) | exact Or.inr ⟨by omega, by omega, by omega⟩) (by first | exact h_jf j1 (by omega) (by omega) (by omega) | exact Or.inr ⟨by omega, by omega, by omega⟩) (by first | exact h_jf j2 (by omega) (by omega) (by omega) | exact Or.inr ⟨by omega, by omega, by omega⟩) (by first | exact h_jf j3 (by omega) (by omega) (by omega) | exact Or.inr ⟨by omega, by omega, by omega⟩)
      · have qz207 : z207 = (Int32.ofInt 1) := h_lit (show z207.toInt = 1 by omega) ci_1
        subst qz207
        refine h_call (sp := false) (pc' := 1305) (M := [(0, .ref 98), (1, .int (Int32.ofInt 1)), (2, .int z209), (3, .int z211)]) rfl rfl rfl rfl rfl rfl rfl rfl ?_
        refine u_sheetM1 _ Is186  z209 _ hz209 z211 _ hz211 (fun r215 br215 hr215 s216 Is216 Gs216 tr215 pcs216 => h_Kv ?_)
        have Zs216 : ∀ i, s216 0 i = s0 0 i := fun i => (Gs216 0 i rfl).trans (Zs186 i)
        rcases pcs216 with pcs216 | pcs216 | pcs216
        · refine h_pop (pc' := 1306) rfl rfl rfl ?_
          refine h_goto (pc' := 1441) rfl rfl ?_
          exact kk _ Is216 (by first | exact h_jf j0 (by omega) (by omega) (by omega) | exact Or.inr ⟨by omega, by omega, by omega⟩) (by first | exact h_jf j1 (by omega) (by omega) (by omega) | exact Or.inr ⟨by omega, by omega, by omega⟩) (by first | exact h_jf j2 (by omega) (by omega) (by omega) | exact Or.inr ⟨by omega, by omega, by omega⟩) (by first | exact h_jf j3 (by omega) (by omega) (by omega) | exact Or.inr ⟨by omega, by omega, by omega⟩)
        · refine h_pop (pc' := 1306) rfl rfl rfl ?_
          refine h_goto (pc' := 1441) rfl rfl ?_
          exact kk _ Is216 (by first | exact h_jf j0 (by omega) (by omega) (by omega) | exact Or.inr ⟨by omega, by omega, by omega⟩) (by first | exact h_jf j1 (by omega) (by omega) (by omega) | exact Or.inr ⟨by omega, by omega, by omega⟩) (by first | exact h_jf j2 (by omega) (by omega) (by omega) | exact Or.inr ⟨by omega, by omega, by omega⟩) (by first | exact h_jf j3 (by omega) (by omega) (by omega) | exact Or.inr ⟨by omega, by omega, by omega⟩)
        · refine h_pop (pc' := 1306) rfl rfl rfl ?_
          refine h_goto (pc' := 1441) rfl rfl ?_
          exact kk _ Is216 (by first | exact h_jf j0 (by omega) (by omega) (by omega) | exact Or.inr ⟨by omega, by omega, by omega⟩) (by first | exact h_jf j1 (by omega) (by omega) (by omega) | exact Or.inr ⟨by omega, by omega, by omega⟩) (by first | exact h_jf j2 (by omega) (by omega) (by omega) | exact Or.inr ⟨by omega, by omega, by omega⟩) (by first | exact h_jf j3 (by omega) (by omega) (by omega) | exact Or.inr ⟨by omega, by omega, by omega⟩)
      · have qz207 : z207 = (Int32.ofInt 2) := h_lit (show z207.toInt = 2 by omega) ci_2
        subst qz207
        refine h_call (sp := false) (pc' := 1305) (M := [(0, .ref 98), (1, .int (Int32.ofInt 2)), (2, .int z209), (3, .int z211)]) rfl rfl rfl rfl rfl rfl rfl rfl ?_
        refine u_sheetM2 _ Is186  z209 _ hz209 z211 _ hz211 (fun r217 br217 hr217 s218 Is218 Gs218 tr217 pcs218 => h_Kv ?_)
        have Zs218 : ∀ i, s218 0 i = s0 0 i := fun i => (Gs218 0 i rfl).trans (Zs186 i)
        rcases pcs218 with pcs218 | pcs218 | pcs218
        · refine h_pop (pc' := 1306) rfl rfl rfl ?_
          refine h_goto (pc' := 1441) rfl rfl ?_
          exact kk _ Is218 (by first | exact h_jf j0 (by omega) (by omega) (by omega) | exact Or.inr ⟨by omega, by omega, by omega⟩) (by first | exact h_jf j1 (by omega) (by omega) (by omega) | exact Or.inr ⟨by omega, by omega, by omega⟩) (by first | exact h_jf j2 (by omega) (by omega) (by omega) | exact Or.inr ⟨by omega, by omega, by omega⟩) (by first | exact h_jf j3 (by omega) (by omega) (by omega) | exact Or.inr ⟨by omega, by omega, by omega⟩)
        · refine h_pop (pc' := 1306) rfl rfl rfl ?_
          refine h_goto (pc' := 1441) rfl rfl ?_
          exact kk _ Is218 (by first | exact h_jf j0 (by omega) (by omega) (by omega) | exact Or.inr ⟨by omega, by omega, by omega⟩) (by first | exact h_jf j1 (by omega) (by omega) (by omega) | exact Or.inr ⟨by omega, by omega, by omega⟩) (by first | exact h_jf j2 (by omega) (by omega) (by omega) | exact Or.inr ⟨by omega, by omega, by omega⟩) (by first | exact h_jf j3 (by omega) (by omega) (by omega) | exact Or.inr ⟨by omega, by omega, by omega⟩)
        · refine h_pop (pc' := 1306) rfl rfl rfl ?_
          refine h_goto (pc' := 1441) rfl rfl ?_
          exact kk _ Is218 (by first | exact h_jf j0 (by omega) (by omega) (by omega) | exact Or.inr ⟨by omega, by omega, by omega⟩) (by first | exact h_jf j1 (by omega) (by omega) (by omega) | exact Or.inr ⟨by omega, by omega, by omega⟩) (by first | exact h_jf j2 (by omega) (by omega) (by omega) | exact Or.inr ⟨by omega, by omega, by omega⟩) (by first | exact h_jf j3 (by omega) (by omega) (by omega) | exact Or.inr ⟨by omega, by omega, by omega⟩)
      · have qz207 : z207 = (Int32.ofInt 3) := h_lit (show z207.toInt = 3 by omega) ci_3
        subst qz207
        refine h_call (sp := false) (pc' := 1305) (M := [(0, .ref 98), (1, .int (Int32.ofInt 3)), (2, .int z209), (3, .int z211)]) rfl rfl rfl rfl rfl rfl rfl rfl ?_
        refine u_sheetM3 _ Is186  z209 _ hz209 z211 _ hz211 (fun r219 br219 hr219 s220 Is220 Gs220 tr219 pcs220 => h_Kv ?_)
        have Zs220 : ∀ i, s220 0 i = s0 0 i := fun i => (Gs220 0 i rfl).trans (Zs186 i)
        rcases pcs220 with pcs220 | pcs220 | pcs220
        · refine h_pop (pc' := 1306) rfl rfl rfl ?_
          refine h_goto (pc' := 1441) rfl rfl ?_
          exact kk _ Is220 (by first | exact h_jf j0 (by omega) (by omega) (by omega) | exact Or.inr ⟨by omega, by omega, by omega⟩) (by first | exact h_jf j1 (by omega) (by omega) (by omega) | exact Or.inr ⟨by omega, by omega, by omega⟩) (by first | exact h_jf j2 (by omega) (by omega) (by omega) | exact Or.inr ⟨by omega, by omega, by omega⟩) (by first | exact h_jf j3 (by omega) (by omega) (by omega) | exact Or.inr ⟨by omega, by omega, by omega⟩)
        · refine h_pop (pc' := 1306) rfl rfl rfl ?_
          refine h_goto (pc' := 1441) rfl rfl ?_
          exact kk _ Is220 (by first | exact h_jf j0 (by omega) (by omega) (by omega) | exact Or.inr ⟨by omega, by omega, by omega⟩) (by first | exact h_jf j1 (by omega) (by omega) (by omega) | exact Or.inr ⟨by omega, by omega, by omega⟩) (by first | exact h_jf j2 (by omega) (by omega) (by omega) | exact Or.inr ⟨by omega, by omega, by omega⟩) (by first | exact h_jf j3 (by omega) (by omega) (by omega) | exact Or.inr ⟨by omega, by omega, by omega⟩)
        · refine h_pop (pc' := 1306) rfl rfl rfl ?_
          refine h_goto (pc' := 1441) rfl rfl ?_
          exact kk _ Is220 (by first | exact h_jf j0 (by omega) (by omega) (by omega) | exact Or.inr ⟨by omega, by omega, by omega⟩) (by first | exact h_jf j1 (by omega) (by omega) (by omega) | exact Or.inr ⟨by omega, by omega, by omega⟩) (by first | exact h_jf j2 (by omega) (by omega) (by omega) | exact Or.inr ⟨by omega, by omega, by omega⟩) (by first | exact h_jf j3 (by omega) (by omega) (by omega) | exact Or.inr ⟨by omega, by omega, by omega⟩)
      · refine h_call (sp := false) (pc' := 1305) (M := [(0, .ref 98), (1, .int z207), (2, .int z209), (3, .int z211)]) rfl rfl rfl rfl rfl rfl rfl rfl ?_
        refine u_sheetMn _ Is186 z207 _ hz207 (by omega) z209 _ hz209 z211 _ hz211 (fun r221 br221 hr221 s222 Is222 Gs222 tr221 pcs222 => h_Kv ?_)
        have Zs222 : ∀ i, s222 0 i = s0 0 i := fun i => (Gs222 0 i rfl).trans (Zs186 i)
        have es222_0 : s222 95 0 = s186 95 0 := (Gs222 95 0 rfl).trans rfl
        have es222_1 : s222 95 1 = s186 95 1 := (Gs222 95 1 rfl).trans rfl
        have es222_2 : s222 95 2 = s186 95 2 := (Gs222 95 2 rfl).trans rfl
        have es222_3 : s222 95 3 = s186 95 3 := (Gs222 95 3 rfl).trans rfl
        have es222_4 : s222 96 0 = s186 96 0 := (Gs222 96 0 rfl).trans rfl
        have es222_5 : s222 96 1 = s186 96 1 := (Gs222 96 1 rfl).trans rfl
        have es222_6 : s222 96 2 = s186 96 2 := (Gs222 96 2 rfl).trans rfl
        have es222_7 : s222 96 3 = s186 96 3 := (Gs222 96 3 rfl).trans rfl
        have es222_8 : s222 111 0 = s186 111 0 := (Gs222 111 0 rfl).trans rfl
        have es222_9 : s222 111 1 = s186 111 1 := (Gs222 111 1 rfl).trans rfl
        have es222_10 : s222 111 2 = s186 111 2 := (Gs222 111 2 rfl).trans rfl
        have es222_11 : s222 111 3 = s186 111 3 := (Gs222 111 3 rfl).trans rfl
        have es222_12 : s222 112 0 = s186 112 0 := (Gs222 112 0 rfl).trans rfl
        have es222_13 : s222 112 1 = s186 112 1 := (Gs222 112 1 rfl).trans rfl
        have es222_14 : s222 112 2 = s186 112 2 := (Gs222 112 2 rfl).trans rfl
        have es222_15 : s222 112 3 = s186 112 3 := (Gs222 112 3 rfl).trans rfl
        rcases pcs222 with pcs222
        · refine h_pop (pc' := 1306) rfl rfl rfl ?_
          refine h_goto (pc' := 1441) rfl rfl ?_
          exact kk _ Is222 (by first | exact h_jf j0 (by omega) (by omega) (by omega) | exact Or.inr ⟨by omega, by omega, by omega⟩) (by first | exact h_jf j1 (by omega) (by omega) (by omega) | exact Or.inr ⟨by omega, by omega, by omega⟩) (by first | exact h_jf j2 (by omega) (by omega) (by omega) | exact Or.inr ⟨by omega, by omega, by omega⟩) (by first | exact h_jf j3 (by omega) (by omega) (by omega) | exact Or.inr ⟨by omega, by omega, by omega⟩)
      · refine h_call (sp := false) (pc' := 1305) (M := [(0, .ref 98), (1, .int z207), (2, .int z209), (3, .int z211)]) rfl rfl rfl rfl rfl rfl rfl rfl ?_
        refine u_sheetMp _ Is186 z207 _ hz207 (by omega) z209 _ hz209 z211 _ hz211 (fun r223 br223 hr223 s224 Is224 Gs224 tr223 pcs224 => h_Kv ?_)
        have Zs224 : ∀ i, s224 0 i = s0 0 i := fun i => (Gs224 0 i rfl).trans (Zs186 i)
        have es224_0 : s224 95 0 = s186 95 0 := (Gs224 95 0 rfl).trans rfl
        have es224_1 : s224 95 1 = s186 95 1 := (Gs224 95 1 rfl).trans rfl
        have es224_2 : s224 95 2 = s186 95 2 := (Gs224 95 2 rfl).trans rfl
        have es224_3 : s224 95 3 = s186 95 3 := (Gs224 95 3 rfl).trans rfl
        have es224_4 : s224 96 0 = s186 96 0 := (Gs224 96 0 rfl).trans rfl
        have es224_5 : s224 96 1 = s186 96 1 := (Gs224 96 1 rfl).trans rfl
        have es224_6 : s224 96 2 = s186 96 2 := (Gs224 96 2 rfl).trans rfl
        have es224_7 : s224 96 3 = s186 96 3 := (Gs224 96 3 rfl).trans rfl
        have es224_8 : s224 111 0 = s186 111 0 := (Gs224 111 0 rfl).trans rfl
        have es224_9 : s224 111 1 = s186 111 1 := (Gs224 111 1 rfl).trans rfl
        have es224_10 : s224 111 2 = s186 111 2 := (Gs224 111 2 rfl).trans rfl
        have es224_11 : s224 111 3 = s186 111 3 := (Gs224 111 3 rfl).trans rfl
        have es224_12 : s224 112 0 = s186 112 0 := (Gs224 112 0 rfl).trans rfl
        have es224_13 : s224 112 1 = s186 112 1 := (Gs224 112 1 rfl).trans rfl
        have es224_14 : s224 112 2 = s186 112 2 := (Gs224 112 2 rfl).trans rfl
        have es224_15 : s224 112 3 = s186 112 3 := (Gs224 112 3 rfl).trans rfl
        rcases pcs224 with pcs224
        · refine h_pop (pc' := 1306) rfl rfl rfl ?_
          refine h_goto (pc' := 1441) rfl rfl ?_
          exact kk _ Is224 (by first | exact h_jf j0 (by omega) (by omega) (by omega) | exact Or.inr ⟨by omega, by omega, by omega⟩) (by first | exact h_jf j1 (by omega) (by omega) (by omega) | exact Or.inr ⟨by omega, by omega, by omega⟩) (by first | exact h_jf j2 (by omega) (by omega) (by omega) | exact Or.inr ⟨by omega, by omega, by omega⟩) (by first | exact h_jf j3 (by omega) (by omega) (by omega) | exact Or.inr ⟨by omega, by omega, by omega⟩)
    · refine h_pop (pc' := 1286) rfl rfl rfl ?_
      refine h_aload_n (pc' := 1287) rfl rfl rfl ?_
      refine h_aload_n (pc' := 1288) rfl rfl rfl ?_
      refine h_iload_n (pc' := 1289) rfl rfl rfl ?_
      refine h_iconst (pc' := 1290) (x := (Int32.ofInt 1)) rfl rfl rfl ?_
      refine h_iadd (pc' := 1291) rfl rfl hy3 ci_1 rfl (by omega) (by omega) (fun z225 hz225 => ?_)
      refine h_iald (pc' := 1292) (v := s0 0 (b3 + 1)) rfl rfl rfl hz225 (by omega) (by omega) (Zs186 _) (fun z226 hz226 => ?_)
      have tz226 := h_rgv hz226
      refine h_aload_n (pc' := 1293) rfl rfl rfl ?_
      refine h_iload_n (pc' := 1294) rfl rfl rfl ?_
      refine h_iconst (pc' := 1295) (x := (Int32.ofInt 2)) rfl rfl rfl ?_
      refine h_iadd (pc' := 1296) rfl rfl hy3 ci_2 rfl (by omega) (by omega) (fun z227 hz227 => ?_)
      refine h_iald (pc' := 1297) (v := s0 0 (b3 + 2)) rfl rfl rfl hz227 (by omega) (by omega) (Zs186 _) (fun z228 hz228 => ?_)
      have tz228 := h_rgv hz228
      refine h_aload_n (pc' := 1298) rfl rfl rfl ?_
      refine h_iload_n (pc' := 1299) rfl rfl rfl ?_
      refine h_iconst (pc' := 1300) (x := (Int32.ofInt 3)) rfl rfl rfl ?_
      refine h_iadd (pc' := 1301) rfl rfl hy3 ci_3 rfl (by omega) (by omega) (fun z229 hz229 => ?_)
      refine h_iald (pc' := 1302) (v := s0 0 (b3 + 3)) rfl rfl rfl hz229 (by omega) (by omega) (Zs186 _) (fun z230 hz230 => ?_)
      have tz230 := h_rgv hz230
      rcases (show ((s0 0 (b3 + 1)) = 0) ∨ ((s0 0 (b3 + 1)) = 1) ∨ ((s0 0 (b3 + 1)) = 2) ∨ ((s0 0 (b3 + 1)) = 3) ∨ ((s0 0 (b3 + 1)) ≤ (-1)) ∨ (4 ≤ (s0 0 (b3 + 1))) by omega) with c231 | c231 | c231 | c231 | c231 | c231
      · have qz226 : z226 = (Int32.ofInt 0) := h_lit (show z226.toInt = 0 by omega) ci_0
        subst qz226
        refine h_call (sp := false) (pc' := 1305) (M := [(0, .ref 98), (1, .int (Int32.ofInt 0)), (2, .int z228), (3, .int z230)]) rfl rfl rfl rfl rfl rfl rfl rfl ?_
        refine u_sheetM0 _ Is186  z228 _ hz228 z230 _ hz230 (fun r232 br232 hr232 s233 Is233 Gs233 tr232 pcs233 => h_Kv ?_)
        have Zs233 : ∀ i, s233 0 i = s0 0 i := fun i => (Gs233 0 i rfl).trans (Zs186 i)
        rcases pcs233 with pcs233 | pcs233 | pcs233
        · refine h_pop (pc' := 1306) rfl rfl rfl ?_
          refine h_goto (pc' := 1441) rfl rfl ?_
          exact kk _ Is233 (by first | exact h_jf j0 (by omega) (by omega) (by omega) | exact Or.inr ⟨by omega, by omega, by omega⟩) (by first | exact h_jf j1 (by omega) (by omega) (by omega) | exact Or.inr ⟨by omega, by omega, by omega⟩) (by first | exact h_jf j2 (by omega) (by omega) (by omega) | exact Or.inr ⟨by omega, by omega, by omega⟩) (by first | exact h_jf j3 (by omega) (by omega) (by omega) | exact Or.inr ⟨by omega, by omega, by omega⟩)
        · refine h_pop (pc' := 1306) rfl rfl rfl ?_
          refine h_goto (pc' := 1441) rfl rfl ?_
          exact kk _ Is233 (by first | exact h_jf j0 (by omega) (by omega) (by omega) | exact Or.inr ⟨by omega, by omega, by omega⟩) (by first | exact h_jf j1 (by omega) (by omega) (by omega) | exact Or.inr ⟨by omega, by omega, by omega⟩) (by first | exact h_jf j2 (by omega) (by omega) (by omega) | exact Or.inr ⟨by omega, by omega, by omega⟩) (by first | exact h_jf j3 (by omega) (by omega) (by omega) | exact Or.inr ⟨by omega, by omega, by omega⟩)
        · refine h_pop (pc' := 1306) rfl rfl rfl ?_
          refine h_goto (pc' := 1441) rfl rfl ?_
          exact kk _ Is233 (by first | exact h_jf j0 (by omega) (by omega) (by omega) | exact Or.inr ⟨by omega, by omega, by omega⟩) (by first | exact h_jf j1 (by omega) (by omega) (by omega) | exact Or.inr ⟨by omega, by omega, by omega⟩) (by first | exact h_jf j2 (by omega) (by omega) (by omega) | exact Or.inr ⟨by omega, by omega, by omega⟩) (by first | exact h_jf j3 (by omega) (by omega) (by omega) | exact Or.inr ⟨by omega, by omega, by omega⟩)
      · have qz226 : z226 = (Int32.ofInt 1) := h_lit (show z226.toInt = 1 by omega) ci_1
        subst qz226
        refine h_call (sp := false) (pc' := 1305) (M := [(0, .ref 98), (1, .int (Int32.ofInt 1)), (2, .int z228), (3, .int z230)]) rfl rfl rfl rfl rfl rfl rfl rfl ?_
        refine u_sheetM1 _ Is186  z228 _ hz228 z230 _ hz230 (fun r234 br234 hr234 s235 Is235 Gs235 tr234 pcs235 => h_Kv ?_)
        have Zs235 : ∀ i, s235 0 i = s0 0 i := fun i => (Gs235 0 i rfl).trans (Zs186 i)
        rcases pcs235 with pcs235 | pcs235 | pcs235
        · refine h_pop (pc' := 1306) rfl rfl rfl ?_
          refine h_goto (pc' := 1441) rfl rfl ?_
          exact kk _ Is235 (by first | exact h_jf j0 (by omega) (by omega) (by omega) | exact Or.inr ⟨by omega, by omega, by omega⟩) (by first | exact h_jf j1 (by omega) (by omega) (by omega) | exact Or.inr ⟨by omega, by omega, by omega⟩) (by first | exact h_jf j2 (by omega) (by omega) (by omega) | exact Or.inr ⟨by omega, by omega, by omega⟩) (by first | exact h_jf j3 (by omega) (by omega) (by omega) | exact Or.inr ⟨by omega, by omega, by omega⟩)
        · refine h_pop (pc' := 1306) rfl rfl rfl ?_
          refine h_goto (pc' := 1441) rfl rfl ?_
          exact kk _ Is235 (by first | exact h_jf j0 (by omega) (by omega) (by omega) | exact Or.inr ⟨by omega, by omega, by omega⟩) (by first | exact h_jf j1 (by omega) (by omega) (by omega) | exact Or.inr ⟨by omega, by omega, by omega⟩) (by first | exact h_jf j2 (by omega) (by omega) (by omega) | exact Or.inr ⟨by omega, by omega, by omega⟩) (by first | exact h_jf j3 (by omega) (by omega) (by omega) | exact Or.inr ⟨by omega, by omega, by omega⟩)
        · refine h_pop (pc' := 1306) rfl rfl rfl ?_
          refine h_goto (pc' := 1441) rfl rfl ?_
          exact kk _ Is235 (by first | exact h_jf j0 (by omega) (by omega) (by omega) | exact Or.inr ⟨by omega, by omega, by omega⟩) (by first | exact h_jf j1 (by omega) (by omega) (by omega) | exact Or.inr ⟨by omega, by omega, by omega⟩) (by first | exact h_jf j2 (by omega) (by omega) (by omega) | exact Or.inr ⟨by omega, by omega, by omega⟩) (by first | exact h_jf j3 (by omega) (by omega) (by omega) | exact Or.inr ⟨by omega, by omega, by omega⟩)
      · have qz226 : z226 = (Int32.ofInt 2) := h_lit (show z226.toInt = 2 by omega) ci_2
        subst qz226
        refine h_call (sp := false) (pc' := 1305) (M := [(0, .ref 98), (1, .int (Int32.ofInt 2)), (2, .int z228), (3, .int z230)]) rfl rfl rfl rfl rfl rfl rfl rfl ?_
        refine u_sheetM2 _ Is186  z228 _ hz228 z230 _ hz230 (fun r236 br236 hr236 s237 Is237 Gs237 tr236 pcs237 => h_Kv ?_)
        have Zs237 : ∀ i, s237 0 i = s0 0 i := fun i => (Gs237 0 i rfl).trans (Zs186 i)
        rcases pcs237 with pcs237 | pcs237 | pcs237
        · refine h_pop (pc' := 1306) rfl rfl rfl ?_
          refine h_goto (pc' := 1441) rfl rfl ?_
          exact kk _ Is237 (by first | exact h_jf j0 (by omega) (by omega) (by omega) | exact Or.inr ⟨by omega, by omega, by omega⟩) (by first | exact h_jf j1 (by omega) (by omega) (by omega) | exact Or.inr ⟨by omega, by omega, by omega⟩) (by first | exact h_jf j2 (by omega) (by omega) (by omega) | exact Or.inr ⟨by omega, by omega, by omega⟩) (by first | exact h_jf j3 (by omega) (by omega) (by omega) | exact Or.inr ⟨by omega, by omega, by omega⟩)
        · refine h_pop (pc' := 1306) rfl rfl rfl ?_
          refine h_goto (pc' := 1441) rfl rfl ?_
          exact kk _ Is237 (by first | exact h_jf j0 (by omega) (by omega) (by omega) | exact Or.inr ⟨by omega, by omega, by omega⟩) (by first | exact h_jf j1 (by omega) (by omega) (by omega) | exact Or.inr ⟨by omega, by omega, by omega⟩) (by first | exact h_jf j2 (by omega) (by omega) (by omega) | exact Or.inr ⟨by omega, by omega, by omega⟩) (by first | exact h_jf j3 (by omega) (by omega) (by omega) | exact Or.inr ⟨by omega, by omega, by omega⟩)
        · refine h_pop (pc' := 1306) rfl rfl rfl ?_
          refine h_goto (pc' := 1441) rfl rfl ?_
          exact kk _ Is237 (by first | exact h_jf j0 (by omega) (by omega) (by omega) | exact Or.inr ⟨by omega, by omega, by omega⟩) (by first | exact h_jf j1 (by omega) (by omega) (by omega) | exact Or.inr ⟨by omega, by omega, by omega⟩) (by first | exact h_jf j2 (by omega) (by omega) (by omega) | exact Or.inr ⟨by omega, by omega, by omega⟩) (by first | exact h_jf j3 (by omega) (by omega) (by omega) | exact Or.inr ⟨by omega, by omega, by omega⟩)
      · have qz226 : z226 = (Int32.ofInt 3) := h_lit (show z226.toInt = 3 by omega) ci_3
        subst qz226
        refine h_call (sp := false) (pc' := 1305) (M := [(0, .ref 98), (1, .int (Int32.ofInt 3)), (2, .int z228), (3, .int z230)]) rfl rfl rfl rfl rfl rfl rfl rfl ?_
        refine u_sheetM3 _ Is186  z228 _ hz228 z230 _ hz230 (fun r238 br238 hr238 s239 Is239 Gs239 tr238 pcs239 => h_Kv ?_)
        have Zs239 : ∀ i, s239 0 i = s0 0 i := fun i => (Gs239 0 i rfl).trans (Zs186 i)
        rcases pcs239 with pcs239 | pcs239 | pcs239
        · refine h_pop (pc' := 1306) rfl rfl rfl ?_
          refine h_goto (pc' := 1441) rfl rfl ?_
          exact kk _ Is239 (by first | exact h_jf j0 (by omega) (by omega) (by omega) | exact Or.inr ⟨by omega, by omega, by omega⟩) (by first | exact h_jf j1 (by omega) (by omega) (by omega) | exact Or.inr ⟨by omega, by omega, by omega⟩) (by first | exact h_jf j2 (by omega) (by omega) (by omega) | exact Or.inr ⟨by omega, by omega, by omega⟩) (by first | exact h_jf j3 (by omega) (by omega) (by omega) | exact Or.inr ⟨by omega, by omega, by omega⟩)
        · refine h_pop (pc' := 1306) rfl rfl rfl ?_
          refine h_goto (pc' := 1441) rfl rfl ?_
          exact kk _ Is239 (by first | exact h_jf j0 (by omega) (by omega) (by omega) | exact Or.inr ⟨by omega, by omega, by omega⟩) (by first | exact h_jf j1 (by omega) (by omega) (by omega) | exact Or.inr ⟨by omega, by omega, by omega⟩) (by first | exact h_jf j2 (by omega) (by omega) (by omega) | exact Or.inr ⟨by omega, by omega, by omega⟩) (by first | exact h_jf j3 (by omega) (by omega) (by omega) | exact Or.inr ⟨by omega, by omega, by omega⟩)
        · refine h_pop (pc' := 1306) rfl rfl rfl ?_
          refine h_goto (pc' := 1441) rfl rfl ?_
          exact kk _ Is239 (by first | exact h_jf j0 (by omega) (by omega) (by omega) | exact Or.inr ⟨by omega, by omega, by omega⟩) (by first | exact h_jf j1 (by omega) (by omega) (by omega) | exact Or.inr ⟨by omega, by omega, by omega⟩) (by first | exact h_jf j2 (by omega) (by omega) (by omega) | exact Or.inr ⟨by omega, by omega, by omega⟩) (by first | exact h_jf j3 (by omega) (by omega) (by omega) | exact Or.inr ⟨by omega, by omega, by omega⟩)
      · refine h_call (sp := false) (pc' := 1305) (M := [(0, .ref 98), (1, .int z226), (2, .int z228), (3, .int z230)]) rfl rfl rfl rfl rfl rfl rfl rfl ?_
        refine u_sheetMn _ Is186 z226 _ hz226 (by omega) z228 _ hz228 z230 _ hz230 (fun r240 br240 hr240 s241 Is241 Gs241 tr240 pcs241 => h_Kv ?_)
        have Zs241 : ∀ i, s241 0 i = s0 0 i := fun i => (Gs241 0 i rfl).trans (Zs186 i)
        have es241_0 : s241 95 0 = s186 95 0 := (Gs241 95 0 rfl).trans rfl
        have es241_1 : s241 95 1 = s186 95 1 := (Gs241 95 1 rfl).trans rfl
        have es241_2 : s241 95 2 = s186 95 2 := (Gs241 95 2 rfl).trans rfl
        have es241_3 : s241 95 3 = s186 95 3 := (Gs241 95 3 rfl).trans rfl
        have es241_4 : s241 96 0 = s186 96 0 := (Gs241 96 0 rfl).trans rfl
        have es241_5 : s241 96 1 = s186 96 1 := (Gs241 96 1 rfl).trans rfl
        have es241_6 : s241 96 2 = s186 96 2 := (Gs241 96 2 rfl).trans rfl
        have es241_7 : s241 96 3 = s186 96 3 := (Gs241 96 3 rfl).trans rfl
        have es241_8 : s241 111 0 = s186 111 0 := (Gs241 111 0 rfl).trans rfl
        have es241_9 : s241 111 1 = s186 111 1 := (Gs241 111 1 rfl).trans rfl
        have es241_10 : s241 111 2 = s186 111 2 := (Gs241 111 2 rfl).trans rfl
        have es241_11 : s241 111 3 = s186 111 3 := (Gs241 111 3 rfl).trans rfl
        have es241_12 : s241 112 0 = s186 112 0 := (Gs241 112 0 rfl).trans rfl
        have es241_13 : s241 112 1 = s186 112 1 := (Gs241 112 1 rfl).trans rfl
        have es241_14 : s241 112 2 = s186 112 2 := (Gs241 112 2 rfl).trans rfl
        have es241_15 : s241 112 3 = s186 112 3 := (Gs241 112 3 rfl).trans rfl
        rcases pcs241 with pcs241
        · refine h_pop (pc' := 1306) rfl rfl rfl ?_
          refine h_goto (pc' := 1441) rfl rfl ?_
          exact kk _ Is241 (by first | exact h_jf j0 (by omega) (by omega) (by omega) | exact Or.inr ⟨by omega, by omega, by omega⟩) (by first | exact h_jf j1 (by omega) (by omega) (by omega) | exact Or.inr ⟨by omega, by omega, by omega⟩) (by first | exact h_jf j2 (by omega) (by omega) (by omega) | exact Or.inr ⟨by omega, by omega, by omega⟩) (by first | exact h_jf j3 (by omega) (by omega) (by omega) | exact Or.inr ⟨by omega, by omega, by omega⟩)
      · refine h_call (sp := false) (pc' := 1305) (M := [(0, .ref 98), (1, .int z226), (2, .int z228), (3, .int z230)]) rfl rfl rfl rfl rfl rfl rfl rfl ?_
        refine u_sheetMp _ Is186 z226 _ hz226 (by omega) z228 _ hz228 z230 _ hz230 (fun r242 br242 hr242 s243 Is243 Gs243 tr242 pcs243 => h_Kv ?_)
        have Zs243 : ∀ i, s243 0 i = s0 0 i := fun i => (Gs243 0 i rfl).trans (Zs186 i)
        have es243_0 : s243 95 0 = s186 95 0 := (Gs243 95 0 rfl).trans rfl
        have es243_1 : s243 95 1 = s186 95 1 := (Gs243 95 1 rfl).trans rfl
        have es243_2 : s243 95 2 = s186 95 2 := (Gs243 95 2 rfl).trans rfl
        have es243_3 : s243 95 3 = s186 95 3 := (Gs243 95 3 rfl).trans rfl
        have es243_4 : s243 96 0 = s186 96 0 := (Gs243 96 0 rfl).trans rfl
        have es243_5 : s243 96 1 = s186 96 1 := (Gs243 96 1 rfl).trans rfl
        have es243_6 : s243 96 2 = s186 96 2 := (Gs243 96 2 rfl).trans rfl
        have es243_7 : s243 96 3 = s186 96 3 := (Gs243 96 3 rfl).trans rfl
        have es243_8 : s243 111 0 = s186 111 0 := (Gs243 111 0 rfl).trans rfl
        have es243_9 : s243 111 1 = s186 111 1 := (Gs243 111 1 rfl).trans rfl
        have es243_10 : s243 111 2 = s186 111 2 := (Gs243 111 2 rfl).trans rfl
        have es243_11 : s243 111 3 = s186 111 3 := (Gs243 111 3 rfl).trans rfl
        have es243_12 : s243 112 0 = s186 112 0 := (Gs243 112 0 rfl).trans rfl
        have es243_13 : s243 112 1 = s186 112 1 := (Gs243 112 1 rfl).trans rfl
        have es243_14 : s243 112 2 = s186 112 2 := (Gs243 112 2 rfl).trans rfl
        have es243_15 : s243 112 3 = s186 112 3 := (Gs243 112 3 rfl).trans rfl
        rcases pcs243 with pcs243
        · refine h_pop (pc' := 1306) rfl rfl rfl ?_
          refine h_goto (pc' := 1441) rfl rfl ?_
          exact kk _ Is243 (by first | exact h_jf j0 (by omega) (by omega) (by omega) | exact Or.inr ⟨by omega, by omega, by omega⟩) (by first | exact h_jf j1 (by omega) (by omega) (by omega) | exact Or.inr ⟨by omega, by omega, by omega⟩) (by first | exact h_jf j2 (by omega) (by omega) (by omega) | exact Or.inr ⟨by omega, by omega, by omega⟩) (by first | exact h_jf j3 (by omega) (by omega) (by omega) | exact Or.inr ⟨by omega, by omega, by omega⟩)
  · refine h_call (sp := false) (pc' := 1285) (M := [(0, .ref 9), (1, .int z2), (2, .int z4), (3, .int z6)]) rfl rfl rfl rfl rfl rfl rfl rfl ?_
    refine u_sheetXn _ I0 z2 _ hz2 (by omega) z4 _ hz4 z6 _ hz6 (fun r244 br244 hr244 s245 Is245 Gs245 tr244 pcs245 => h_Kv ?_)
    have Zs245 : ∀ i, s245 0 i = s0 0 i := fun i => (Gs245 0 i rfl).trans rfl
    have es245_0 : s245 95 0 = s0 95 0 := (Gs245 95 0 rfl).trans rfl
    have es245_1 : s245 95 1 = s0 95 1 := (Gs245 95 1 rfl).trans rfl
    have es245_2 : s245 95 2 = s0 95 2 := (Gs245 95 2 rfl).trans rfl
    have es245_3 : s245 95 3 = s0 95 3 := (Gs245 95 3 rfl).trans rfl
    have es245_4 : s245 96 0 = s0 96 0 := (Gs245 96 0 rfl).trans rfl
    have es245_5 : s245 96 1 = s0 96 1 := (Gs245 96 1 rfl).trans rfl
    have es245_6 : s245 96 2 = s0 96 2 := (Gs245 96 2 rfl).trans rfl
    have es245_7 : s245 96 3 = s0 96 3 := (Gs245 96 3 rfl).trans rfl
    have es245_8 : s245 111 0 = s0 111 0 := (Gs245 111 0 rfl).trans rfl
    have es245_9 : s245 111 1 = s0 111 1 := (Gs245 111 1 rfl).trans rfl
    have es245_10 : s245 111 2 = s0 111 2 := (Gs245 111 2 rfl).trans rfl
    have es245_11 : s245 111 3 = s0 111 3 := (Gs245 111 3 rfl).trans rfl
    have es245_12 : s245 112 0 = s0 112 0 := (Gs245 112 0 rfl).trans rfl
    have es245_13 : s245 112 1 = s0 112 1 := (Gs245 112 1 rfl).trans rfl
    have es245_14 : s245 112 2 = s0 112 2 := (Gs245 112 2 rfl).trans rfl
    have es245_15 : s245 112 3 = s0 112 3 := (Gs245 112 3 rfl).trans rfl
    rcases pcs245 with pcs245
    · refine h_pop (pc' := 1286) rfl rfl rfl ?_
      refine h_aload_n (pc' := 1287) rfl rfl rfl ?_
      refine h_aload_n (pc' := 1288) rfl rfl rfl ?_
      refine h_iload_n (pc' := 1289) rfl rfl rfl ?_
      refine h_iconst (pc' := 1290) (x := (Int32.ofInt 1)) rfl rfl rfl ?_
      refine h_iadd (pc' := 1291) rfl rfl hy3 ci_1 rfl (by omega) (by omega) (fun z246 hz246 => ?_)
      refine h_iald (pc' := 1292) (v := s0 0 (b3 + 1)) rfl rfl rfl hz246 (by omega) (by omega) (Zs245 _) (fun z247 hz247 => ?_)
      have tz247 := h_rgv hz247
      refine h_aload_n (pc' := 1293) rfl rfl rfl ?_
      refine h_iload_n (pc' := 1294) rfl rfl rfl ?_
      refine h_iconst (pc' := 1295) (x := (Int32.ofInt 2)) rfl rfl rfl ?_
      refine h_iadd (pc' := 1296) rfl rfl hy3 ci_2 rfl (by omega) (by omega) (fun z248 hz248 => ?_)
      refine h_iald (pc' := 1297) (v := s0 0 (b3 + 2)) rfl rfl rfl hz248 (by omega) (by omega) (Zs245 _) (fun z249 hz249 => ?_)
      have tz249 := h_rgv hz249
      refine h_aload_n (pc' := 1298) rfl rfl rfl ?_
      refine h_iload_n (pc' := 1299) rfl rfl rfl ?_
      refine h_iconst (pc' := 1300) (x := (Int32.ofInt 3)) rfl rfl rfl ?_
      refine h_iadd (pc' := 1301) rfl rfl hy3 ci_3 rfl (by omega) (by omega) (fun z250 hz250 => ?_)
      refine h_iald (pc' := 1302) (v := s0 0 (b3 + 3)) rfl rfl rfl hz250 (by omega) (by omega) (Zs245 _) (fun z251 hz251 => ?_)
      have tz251 := h_rgv hz251
      rcases (show ((s0 0 (b3 + 1)) = 0) ∨ ((s0 0 (b3 + 1)) = 1) ∨ ((s0 0 (b3 + 1)) = 2) ∨ ((s0 0 (b3 + 1)) = 3) ∨ ((s0 0 (b3 + 1)) ≤ (-1)) ∨ (4 ≤ (s0 0 (b3 + 1))) by omega) with c252 | c252 | c252 | c252 | c252 | c252
      · have qz247 : z247 = (Int32.ofInt 0) := h_lit (show z247.toInt = 0 by omega) ci_0
        subst qz247
        refine h_call (sp := false) (pc' := 1305) (M := [(0, .ref 98), (1, .int (Int32.ofInt 0)), (2, .int z249), (3, .int z251)]) rfl rfl rfl rfl rfl rfl rfl rfl ?_
        refine u_sheetM0 _ Is245  z249 _ hz249 z251 _ hz251 (fun r253 br253 hr253 s254 Is254 Gs254 tr253 pcs254 => h_Kv ?_)
        have Zs254 : ∀ i, s254 0 i = s0 0 i := fun i => (Gs254 0 i rfl).trans (Zs245 i)
        rcases pcs254 with pcs254 | pcs254 | pcs254
        · refine h_pop (pc' := 1306) rfl rfl rfl ?_
          refine h_goto (pc' := 1441) rfl rfl ?_
          exact kk _ Is254 (by first | exact h_jf j0 (by omega) (by omega) (by omega) | exact Or.inr ⟨by omega, by omega, by omega⟩) (by first | exact h_jf j1 (by omega) (by omega) (by omega) | exact Or.inr ⟨by omega, by omega, by omega⟩) (by first | exact h_jf j2 (by omega) (by omega) (by omega) | exact Or.inr ⟨by omega, by omega, by omega⟩) (by first | exact h_jf j3 (by omega) (by omega) (by omega) | exact Or.inr ⟨by omega, by omega, by omega⟩)
        · refine h_pop (pc' := 1306) rfl rfl rfl ?_
          refine h_goto (pc' := 1441) rfl rfl ?_
          exact kk _ Is254 (by first | exact h_jf j0 (by omega) (by omega) (by omega) | exact Or.inr ⟨by omega, by omega, by omega⟩) (by first | exact h_jf j1 (by omega) (by omega) (by omega) | exact Or.inr ⟨by omega, by omega, by omega⟩) (by first | exact h_jf j2 (by omega) (by omega) (by omega) | exact Or.inr ⟨by omega, by omega, by omega⟩) (by first | exact h_jf j3 (by omega) (by omega) (by omega) | exact Or.inr ⟨by omega, by omega, by omega⟩)
        · refine h_pop (pc' := 1306) rfl rfl rfl ?_
          refine h_goto (pc' := 1441) rfl rfl ?_
          exact kk _ Is254 (by first | exact h_jf j0 (by omega) (by omega) (by omega) | exact Or.inr ⟨by omega, by omega, by omega⟩) (by first | exact h_jf j1 (by omega) (by omega) (by omega) | exact Or.inr ⟨by omega, by omega, by omega⟩) (by first | exact h_jf j2 (by omega) (by omega) (by omega) | exact Or.inr ⟨by omega, by omega, by omega⟩) (by first | exact h_jf j3 (by omega) (by omega) (by omega) | exact Or.inr ⟨by omega, by omega, by omega⟩)
      · have qz247 : z247 = (Int32.ofInt 1) := h_lit (show z247.toInt = 1 by omega) ci_1
        subst qz247
        refine h_call (sp := false) (pc' := 1305) (M := [(0, .ref 98), (1, .int (Int32.ofInt 1)), (2, .int z249), (3, .int z251)]) rfl rfl rfl rfl rfl rfl rfl rfl ?_
        refine u_sheetM1 _ Is245  z249 _ hz249 z251 _ hz251 (fun r255 br255 hr255 s256 Is256 Gs256 tr255 pcs256 => h_Kv ?_)
        have Zs256 : ∀ i, s256 0 i = s0 0 i := fun i => (Gs256 0 i rfl).trans (Zs245 i)
        rcases pcs256 with pcs256 | pcs256 | pcs256
        · refine h_pop (pc' := 1306) rfl rfl rfl ?_
          refine h_goto (pc' := 1441) rfl rfl ?_
          exact kk _ Is256 (by first | exact h_jf j0 (by omega) (by omega) (by omega) | exact Or.inr ⟨by omega, by omega, by omega⟩) (by first | exact h_jf j1 (by omega) (by omega) (by omega) | exact Or.inr ⟨by omega, by omega, by omega⟩) (by first | exact h_jf j2 (by omega) (by omega) (by omega) | exact Or.inr ⟨by omega, by omega, by omega⟩) (by first | exact h_jf j3 (by omega) (by omega) (by omega) | exact Or.inr ⟨by omega, by omega, by omega⟩)
        · refine h_pop (pc' := 1306) rfl rfl rfl ?_
          refine h_goto (pc' := 1441) rfl rfl ?_
          exact kk _ Is256 (by first | exact h_jf j0 (by omega) (by omega) (by omega) | exact Or.inr ⟨by omega, by omega, by omega⟩) (by first | exact h_jf j1 (by omega) (by omega) (by omega) | exact Or.inr ⟨by omega, by omega, by omega⟩) (by first | exact h_jf j2 (by omega) (by omega) (by omega) | exact Or.inr ⟨by omega, by omega, by omega⟩) (by first | exact h_jf j3 (by omega) (by omega) (by omega) | exact Or.inr ⟨by omega, by omega, by omega⟩)
        · refine h_pop (pc' := 1306) rfl rfl rfl ?_
          refine h_goto (pc' := 1441) rfl rfl ?_
          exact kk _ Is256 (by first | exact h_jf j0 (by omega) (by omega) (by omega) | exact Or.inr ⟨by omega, by omega, by omega⟩) (by first | exact h_jf j1 (by omega) (by omega) (by omega) | exact Or.inr ⟨by omega, by omega, by omega⟩) (by first | exact h_jf j2 (by omega) (by omega) (by omega) | exact Or.inr ⟨by omega, by omega, by omega⟩) (by first | exact h_jf j3 (by omega) (by omega) (by omega) | exact Or.inr ⟨by omega, by omega, by omega⟩)
      · have qz247 : z247 = (Int32.ofInt 2) := h_lit (show z247.toInt = 2 by omega) ci_2
        subst qz247
        refine h_call (sp := false) (pc' := 1305) (M := [(0, .ref 98), (1, .int (Int32.ofInt 2)), (2, .int z249), (3, .int z251)]) rfl rfl rfl rfl rfl rfl rfl rfl ?_
        refine u_sheetM2 _ Is245  z249 _ hz249 z251 _ hz251 (fun r257 br257 hr257 s258 Is258 Gs258 tr257 pcs258 => h_Kv ?_)
        have Zs258 : ∀ i, s258 0 i = s0 0 i := fun i => (Gs258 0 i rfl).trans (Zs245 i)
        rcases pcs258 with pcs258 | pcs258 | pcs258
        · refine h_pop (pc' := 1306) rfl rfl rfl ?_
          refine h_goto (pc' := 1441) rfl rfl ?_
          exact kk _ Is258 (by first | exact h_jf j0 (by omega) (by omega) (by omega) | exact Or.inr ⟨by omega, by omega, by omega⟩) (by first | exact h_jf j1 (by omega) (by omega) (by omega) | exact Or.inr ⟨by omega, by omega, by omega⟩) (by first | exact h_jf j2 (by omega) (by omega) (by omega) | exact Or.inr ⟨by omega, by omega, by omega⟩) (by first | exact h_jf j3 (by omega) (by omega) (by omega) | exact Or.inr ⟨by omega, by omega, by omega⟩)
        · refine h_pop (pc' := 1306) rfl rfl rfl ?_
          refine h_goto (pc' := 1441) rfl rfl ?_
          exact kk _ Is258 (by first | exact h_jf j0 (by omega) (by omega) (by omega) | exact Or.inr ⟨by omega, by omega, by omega⟩) (by first | exact h_jf j1 (by omega) (by omega) (by omega) | exact Or.inr ⟨by omega, by omega, by omega⟩) (by first | exact h_jf j2 (by omega) (by omega) (by omega) | exact Or.inr ⟨by omega, by omega, by omega⟩) (by first | exact h_jf j3 (by omega) (by omega) (by omega) | exact Or.inr ⟨by omega, by omega, by omega⟩)
        · refine h_pop (pc' := 1306) rfl rfl rfl ?_
          refine h_goto (pc' := 1441) rfl rfl ?_
          exact kk _ Is258 (by first | exact h_jf j0 (by omega) (by omega) (by omega) | exact Or.inr ⟨by omega, by omega, by omega⟩) (by first | exact h_jf j1 (by omega) (by omega) (by omega) | exact Or.inr ⟨by omega, by omega, by omega⟩) (by first | exact h_jf j2 (by omega) (by omega) (by omega) | exact Or.inr ⟨by omega, by omega, by omega⟩) (by first | exact h_jf j3 (by omega) (by omega) (by omega) | exact Or.inr ⟨by omega, by omega, by omega⟩)
      · have qz247 : z247 = (Int32.ofInt 3) := h_lit (show z247.toInt = 3 by omega) ci_3
        subst qz247
        refine h_call (sp := false) (pc' := 1305) (M := [(0, .ref 98), (1, .int (Int32.ofInt 3)), (2, .int z249), (3, .int z251)]) rfl rfl rfl rfl rfl rfl rfl rfl ?_
        refine u_sheetM3 _ Is245  z249 _ hz249 z251 _ hz251 (fun r259 br259 hr259 s260 Is260 Gs260 tr259 pcs260 => h_Kv ?_)
        have Zs260 : ∀ i, s260 0 i = s0 0 i := fun i => (Gs260 0 i rfl).trans (Zs245 i)
        rcases pcs260 with pcs260 | pcs260 | pcs260
        · refine h_pop (pc' := 1306) rfl rfl rfl ?_
          refine h_goto (pc' := 1441) rfl rfl ?_
          exact kk _ Is260 (by first | exact h_jf j0 (by omega) (by omega) (by omega) | exact Or.inr ⟨by omega, by omega, by omega⟩) (by first | exact h_jf j1 (by omega) (by omega) (by omega) | exact Or.inr ⟨by omega, by omega, by omega⟩) (by first | exact h_jf j2 (by omega) (by omega) (by omega) | exact Or.inr ⟨by omega, by omega, by omega⟩) (by first | exact h_jf j3 (by omega) (by omega) (by omega) | exact Or.inr ⟨by omega, by omega, by omega⟩)
        · refine h_pop (pc' := 1306) rfl rfl rfl ?_
          refine h_goto (pc' := 1441) rfl rfl ?_
          exact kk _ Is260 (by first | exact h_jf j0 (by omega) (by omega) (by omega) | exact Or.inr ⟨by omega, by omega, by omega⟩) (by first | exact h_jf j1 (by omega) (by omega) (by omega) | exact Or.inr ⟨by omega, by omega, by omega⟩) (by first | exact h_jf j2 (by omega) (by omega) (by omega) | exact Or.inr ⟨by omega, by omega, by omega⟩) (by first | exact h_jf j3 (by omega) (by omega) (by omega) | exact Or.inr ⟨by omega, by omega, by omega⟩)
        · refine h_pop (pc' := 1306) rfl rfl rfl ?_
          refine h_goto (pc' := 1441) rfl rfl ?_
          exact kk _ Is260 (by first | exact h_jf j0 (by omega) (by omega) (by omega) | exact Or.inr ⟨by omega, by omega, by omega⟩) (by first | exact h_jf j1 (by omega) (by omega) (by omega) | exact Or.inr ⟨by omega, by omega, by omega⟩) (by first | exact h_jf j2 (by omega) (by omega) (by omega) | exact Or.inr ⟨by omega, by omega, by omega⟩) (by first | exact h_jf j3 (by omega) (by omega) (by omega) | exact Or.inr ⟨by omega, by omega, by omega⟩)
      · refine h_call (sp := false) (pc' := 1305) (M := [(0, .ref 98), (1, .int z247), (2, .int z249), (3, .int z251)]) rfl rfl rfl rfl rfl rfl rfl rfl ?_
        refine u_sheetMn _ Is245 z247 _ hz247 (by omega) z249 _ hz249 z251 _ hz251 (fun r261 br261 hr261 s262 Is262 Gs262 tr261 pcs262 => h_Kv ?_)
        have Zs262 : ∀ i, s262 0 i = s0 0 i := fun i => (Gs262 0 i rfl).trans (Zs245 i)
        have es262_0 : s262 95 0 = s0 95 0 := (Gs262 95 0 rfl).trans es245_0
        have es262_1 : s262 95 1 = s0 95 1 := (Gs262 95 1 rfl).trans es245_1
        have es262_2 : s262 95 2 = s0 95 2 := (Gs262 95 2 rfl).trans es245_2
        have es262_3 : s262 95 3 = s0 95 3 := (Gs262 95 3 rfl).trans es245_3
        have es262_4 : s262 96 0 = s0 96 0 := (Gs262 96 0 rfl).trans es245_4
        have es262_5 : s262 96 1 = s0 96 1 := (Gs262 96 1 rfl).trans es245_5
        have es262_6 : s262 96 2 = s0 96 2 := (Gs262 96 2 rfl).trans es245_6
        have es262_7 : s262 96 3 = s0 96 3 := (Gs262 96 3 rfl).trans es245_7
        have es262_8 : s262 111 0 = s0 111 0 := (Gs262 111 0 rfl).trans es245_8
        have es262_9 : s262 111 1 = s0 111 1 := (Gs262 111 1 rfl).trans es245_9
        have es262_10 : s262 111 2 = s0 111 2 := (Gs262 111 2 rfl).trans es245_10
        have es262_11 : s262 111 3 = s0 111 3 := (Gs262 111 3 rfl).trans es245_11
        have es262_12 : s262 112 0 = s0 112 0 := (Gs262 112 0 rfl).trans es245_12
        have es262_13 : s262 112 1 = s0 112 1 := (Gs262 112 1 rfl).trans es245_13
        have es262_14 : s262 112 2 = s0 112 2 := (Gs262 112 2 rfl).trans es245_14
        have es262_15 : s262 112 3 = s0 112 3 := (Gs262 112 3 rfl).trans es245_15
        rcases pcs262 with pcs262
        · refine h_pop (pc' := 1306) rfl rfl rfl ?_
          refine h_goto (pc' := 1441) rfl rfl ?_
          exact kk _ Is262 (by first | exact h_jf j0 (by omega) (by omega) (by omega) | exact Or.inr ⟨by omega, by omega, by omega⟩) (by first | exact h_jf j1 (by omega) (by omega) (by omega) | exact Or.inr ⟨by omega, by omega, by omega⟩) (by first | exact h_jf j2 (by omega) (by omega) (by omega) | exact Or.inr ⟨by omega, by omega, by omega⟩) (by first | exact h_jf j3 (by omega) (by omega) (by omega) | exact Or.inr ⟨by omega, by omega, by omega⟩)
      · refine h_call (sp := false) (pc' := 1305) (M := [(0, .ref 98), (1, .int z247), (2, .int z249), (3, .int z251)]) rfl rfl rfl rfl rfl rfl rfl rfl ?_
        refine u_sheetMp _ Is245 z247 _ hz247 (by omega) z249 _ hz249 z251 _ hz251 (fun r263 br263 hr263 s264 Is264 Gs264 tr263 pcs264 => h_Kv ?_)
        have Zs264 : ∀ i, s264 0 i = s0 0 i := fun i => (Gs264 0 i rfl).trans (Zs245 i)
        have es264_0 : s264 95 0 = s0 95 0 := (Gs264 95 0 rfl).trans es245_0
        have es264_1 : s264 95 1 = s0 95 1 := (Gs264 95 1 rfl).trans es245_1
        have es264_2 : s264 95 2 = s0 95 2 := (Gs264 95 2 rfl).trans es245_2
        have es264_3 : s264 95 3 = s0 95 3 := (Gs264 95 3 rfl).trans es245_3
        have es264_4 : s264 96 0 = s0 96 0 := (Gs264 96 0 rfl).trans es245_4
        have es264_5 : s264 96 1 = s0 96 1 := (Gs264 96 1 rfl).trans es245_5
        have es264_6 : s264 96 2 = s0 96 2 := (Gs264 96 2 rfl).trans es245_6
        have es264_7 : s264 96 3 = s0 96 3 := (Gs264 96 3 rfl).trans es245_7
        have es264_8 : s264 111 0 = s0 111 0 := (Gs264 111 0 rfl).trans es245_8
        have es264_9 : s264 111 1 = s0 111 1 := (Gs264 111 1 rfl).trans es245_9
        have es264_10 : s264 111 2 = s0 111 2 := (Gs264 111 2 rfl).trans es245_10
        have es264_11 : s264 111 3 = s0 111 3 := (Gs264 111 3 rfl).trans es245_11
        have es264_12 : s264 112 0 = s0 112 0 := (Gs264 112 0 rfl).trans es245_12
        have es264_13 : s264 112 1 = s0 112 1 := (Gs264 112 1 rfl).trans es245_13
        have es264_14 : s264 112 2 = s0 112 2 := (Gs264 112 2 rfl).trans es245_14
        have es264_15 : s264 112 3 = s0 112 3 := (Gs264 112 3 rfl).trans es245_15
        rcases pcs264 with pcs264
        · refine h_pop (pc' := 1306) rfl rfl rfl ?_
          refine h_goto (pc' := 1441) rfl rfl ?_
          exact kk _ Is264 (by first | exact h_jf j0 (by omega) (by omega) (by omega) | exact Or.inr ⟨by omega, by omega, by omega⟩) (by first | exact h_jf j1 (by omega) (by omega) (by omega) | exact Or.inr ⟨by omega, by omega, by omega⟩) (by first | exact h_jf j2 (by omega) (by omega) (by omega) | exact Or.inr ⟨by omega, by omega, by omega⟩) (by first | exact h_jf j3 (by omega) (by omega) (by omega) | exact Or.inr ⟨by omega, by omega, by omega⟩)
  · refine h_call (sp := false) (pc' := 1285) (M := [(0, .ref 9), (1, .int z2), (2, .int z4), (3, .int z6)]) rfl rfl rfl rfl rfl rfl rfl rfl ?_
    refine u_sheetXp _ I0 z2 _ hz2 (by omega) z4 _ hz4 z6 _ hz6 (fun r265 br265 hr265 s266 Is266 Gs266 tr265 pcs266 => h_Kv ?_)
    have Zs266 : ∀ i, s266 0 i = s0 0 i := fun i => (Gs266 0 i rfl).trans rfl
    have es266_0 : s266 95 0 = s0 95 0 := (Gs266 95 0 rfl).trans rfl
    have es266_1 : s266 95 1 = s0 95 1 := (Gs266 95 1 rfl).trans rfl
    have es266_2 : s266 95 2 = s0 95 2 := (Gs266 95 2 rfl).trans rfl
    have es266_3 : s266 95 3 = s0 95 3 := (Gs266 95 3 rfl).trans rfl
    have es266_4 : s266 96 0 = s0 96 0 := (Gs266 96 0 rfl).trans rfl
    have es266_5 : s266 96 1 = s0 96 1 := (Gs266 96 1 rfl).trans rfl
    have es266_6 : s266 96 2 = s0 96 2 := (Gs266 96 2 rfl).trans rfl
    have es266_7 : s266 96 3 = s0 96 3 := (Gs266 96 3 rfl).trans rfl
    have es266_8 : s266 111 0 = s0 111 0 := (Gs266 111 0 rfl).trans rfl
    have es266_9 : s266 111 1 = s0 111 1 := (Gs266 111 1 rfl).trans rfl
    have es266_10 : s266 111 2 = s0 111 2 := (Gs266 111 2 rfl).trans rfl
    have es266_11 : s266 111 3 = s0 111 3 := (Gs266 111 3 rfl).trans rfl
    have es266_12 : s266 112 0 = s0 112 0 := (Gs266 112 0 rfl).trans rfl
    have es266_13 : s266 112 1 = s0 112 1 := (Gs266 112 1 rfl).trans rfl
    have es266_14 : s266 112 2 = s0 112 2 := (Gs266 112 2 rfl).trans rfl
    have es266_15 : s266 112 3 = s0 112 3 := (Gs266 112 3 rfl).trans rfl
    rcases pcs266 with pcs266
    · refine h_pop (pc' := 1286) rfl rfl rfl ?_
      refine h_aload_n (pc' := 1287) rfl rfl rfl ?_
      refine h_aload_n (pc' := 1288) rfl rfl rfl ?_
      refine h_iload_n (pc' := 1289) rfl rfl rfl ?_
      refine h_iconst (pc' := 1290) (x := (Int32.ofInt 1)) rfl rfl rfl ?_
      refine h_iadd (pc' := 1291) rfl rfl hy3 ci_1 rfl (by omega) (by omega) (fun z267 hz267 => ?_)
      refine h_iald (pc' := 1292) (v := s0 0 (b3 + 1)) rfl rfl rfl hz267 (by omega) (by omega) (Zs266 _) (fun z268 hz268 => ?_)
      have tz268 := h_rgv hz268
      refine h_aload_n (pc' := 1293) rfl rfl rfl ?_
      refine h_iload_n (pc' := 1294) rfl rfl rfl ?_
      refine h_iconst (pc' := 1295) (x := (Int32.ofInt 2)) rfl rfl rfl ?_
      refine h_iadd (pc' := 1296) rfl rfl hy3 ci_2 rfl (by omega) (by omega) (fun z269 hz269 => ?_)
      refine h_iald (pc' := 1297) (v := s0 0 (b3 + 2)) rfl rfl rfl hz269 (by omega) (by omega) (Zs266 _) (fun z270 hz270 => ?_)
      have tz270 := h_rgv hz270
      refine h_aload_n (pc' := 1298) rfl rfl rfl ?_
      refine h_iload_n (pc' := 1299) rfl rfl rfl ?_
      refine h_iconst (pc' := 1300) (x := (Int32.ofInt 3)) rfl rfl rfl ?_
      refine h_iadd (pc' := 1301) rfl rfl hy3 ci_3 rfl (by omega) (by omega) (fun z271 hz271 => ?_)
      refine h_iald (pc' := 1302) (v := s0 0 (b3 + 3)) rfl rfl rfl hz271 (by omega) (by omega) (Zs266 _) (fun z272 hz272 => ?_)
      have tz272 := h_rgv hz272
      rcases (show ((s0 0 (b3 + 1)) = 0) ∨ ((s0 0 (b3 + 1)) = 1) ∨ ((s0 0 (b3 + 1)) = 2) ∨ ((s0 0 (b3 + 1)) = 3) ∨ ((s0 0 (b3 + 1)) ≤ (-1)) ∨ (4 ≤ (s0 0 (b3 + 1))) by omega) with c273 | c273 | c273 | c273 | c273 | c273
      · have qz268 : z268 = (Int32.ofInt 0) := h_lit (show z268.toInt = 0 by omega) ci_0
        subst qz268
        refine h_call (sp := false) (pc' := 1305) (M := [(0, .ref 98), (1, .int (Int32.ofInt 0)), (2, .int z270), (3, .int z272)]) rfl rfl rfl rfl rfl rfl rfl rfl ?_
        refine u_sheetM0 _ Is266  z270 _ hz270 z272 _ hz272 (fun r274 br274 hr274 s275 Is275 Gs275 tr274 pcs275 => h_Kv ?_)
        have Zs275 : ∀ i, s275 0 i = s0 0 i := fun i => (Gs275 0 i rfl).trans (Zs266 i)
        rcases pcs275 with pcs275 | pcs275 | pcs275
        · refine h_pop (pc' := 1306) rfl rfl rfl ?_
          refine h_goto (pc' := 1441) rfl rfl ?_
          exact kk _ Is275 (by first | exact h_jf j0 (by omega) (by omega) (by omega) | exact Or.inr ⟨by omega, by omega, by omega⟩) (by first | exact h_jf j1 (by omega) (by omega) (by omega) | exact Or.inr ⟨by omega, by omega, by omega⟩) (by first | exact h_jf j2 (by omega) (by omega) (by omega) | exact Or.inr ⟨by omega, by omega, by omega⟩) (by first | exact h_jf j3 (by omega) (by omega) (by omega) | exact Or.inr ⟨by omega, by omega, by omega⟩)
        · refine h_pop (pc' := 1306) rfl rfl rfl ?_
          refine h_goto (pc' := 1441) rfl rfl ?_
          exact kk _ Is275 (by first | exact h_jf j0 (by omega) (by omega) (by omega) | exact Or.inr ⟨by omega, by omega, by omega⟩) (by first | exact h_jf j1 (by omega) (by omega) (by omega) | exact Or.inr ⟨by omega, by omega, by omega⟩) (by first | exact h_jf j2 (by omega) (by omega) (by omega) | exact Or.inr ⟨by omega, by omega, by omega⟩) (by first | exact h_jf j3 (by omega) (by omega) (by omega) | exact Or.inr ⟨by omega, by omega, by omega⟩)
        · refine h_pop (pc' := 1306) rfl rfl rfl ?_
          refine h_goto (pc' := 1441) rfl rfl ?_
          exact kk _ Is275 (by first | exact h_jf j0 (by omega) (by omega) (by omega) | exact Or.inr ⟨by omega, by omega, by omega⟩) (by first | exact h_jf j1 (by omega) (by omega) (by omega) | exact Or.inr ⟨by omega, by omega, by omega⟩) (by first | exact h_jf j2 (by omega) (by omega) (by omega) | exact Or.inr ⟨by omega, by omega, by omega⟩) (by first | exact h_jf j3 (by omega) (by omega) (by omega) | exact Or.inr ⟨by omega, by omega, by omega⟩)
      · have qz268 : z268 = (Int32.ofInt 1) := h_lit (show z268.toInt = 1 by omega) ci_1
        subst qz268
        refine h_call (sp := false) (pc' := 1305) (M := [(0, .ref 98), (1, .int (Int32.ofInt 1)), (2, .int z270), (3, .int z272)]) rfl rfl rfl rfl rfl rfl rfl rfl ?_
        refine u_sheetM1 _ Is266  z270 _ hz270 z272 _ hz272 (fun r276 br276 hr276 s277 Is277 Gs277 tr276 pcs277 => h_Kv ?_)
        have Zs277 : ∀ i, s277 0 i = s0 0 i := fun i => (Gs277 0 i rfl).trans (Zs266 i)
        rcases pcs277 with pcs277 | pcs277 | pcs277
        · refine h_pop (pc' := 1306) rfl rfl rfl ?_
          refine h_goto (pc' := 1441) rfl rfl ?_
          exact kk _ Is277 (by first | exact h_jf j0 (by omega) (by omega) (by omega) | exact Or.inr ⟨by omega, by omega, by omega⟩) (by first | exact h_jf j1 (by omega) (by omega) (by omega) | exact Or.inr ⟨by omega, by omega, by omega⟩) (by first | exact h_jf j2 (by omega) (by omega) (by omega) | exact Or.inr ⟨by omega, by omega, by omega⟩) (by first | exact h_jf j3 (by omega) (by omega) (by omega) | exact Or.inr ⟨by omega, by omega, by omega⟩)
        · refine h_pop (pc' := 1306) rfl rfl rfl ?_
          refine h_goto (pc' := 1441) rfl rfl ?_
          exact kk _ Is277 (by first | exact h_jf j0 (by omega) (by omega) (by omega) | exact Or.inr ⟨by omega, by omega, by omega⟩) (by first | exact h_jf j1 (by omega) (by omega) (by omega) | exact Or.inr ⟨by omega, by omega, by omega⟩) (by first | exact h_jf j2 (by omega) (by omega) (by omega) | exact Or.inr ⟨by omega, by omega, by omega⟩) (by first | exact h_jf j3 (by omega) (by omega) (by omega) | exact Or.inr ⟨by omega, by omega, by omega⟩)
        · refine h_pop (pc' := 1306) rfl rfl rfl ?_
          refine h_goto (pc' := 1441) rfl rfl ?_
          exact kk _ Is277 (by first | exact h_jf j0 (by omega) (by omega) (by omega) | exact Or.inr ⟨by omega, by omega, by omega⟩) (by first | exact h_jf j1 (by omega) (by omega) (by omega) | exact Or.inr ⟨by omega, by omega, by omega⟩) (by first | exact h_jf j2 (by omega) (by omega) (by omega) | exact Or.inr ⟨by omega, by omega, by omega⟩) (by first | exact h_jf j3 (by omega) (by omega) (by omega) | exact Or.inr ⟨by omega, by omega, by omega⟩)
      · have qz268 : z268 = (Int32.ofInt 2) := h_lit (show z268.toInt = 2 by omega) ci_2
        subst qz268
        refine h_call (sp := false) (pc' := 1305) (M := [(0, .ref 98), (1, .int (Int32.ofInt 2)), (2, .int z270), (3, .int z272)]) rfl rfl rfl rfl rfl rfl rfl rfl ?_
        refine u_sheetM2 _ Is266  z270 _ hz270 z272 _ hz272 (fun r278 br278 hr278 s279 Is279 Gs279 tr278 pcs279 => h_Kv ?_)
        have Zs279 : ∀ i, s279 0 i = s0 0 i := fun i => (Gs279 0 i rfl).trans (Zs266 i)
        rcases pcs279 with pcs279 | pcs279 | pcs279
        · refine h_pop (pc' := 1306) rfl rfl rfl ?_
          refine h_goto (pc' := 1441) rfl rfl ?_
          exact kk _ Is279 (by first | exact h_jf j0 (by omega) (by omega) (by omega) | exact Or.inr ⟨by omega, by omega, by omega⟩) (by first | exact h_jf j1 (by omega) (by omega) (by omega) | exact Or.inr ⟨by omega, by omega, by omega⟩) (by first | exact h_jf j2 (by omega) (by omega) (by omega) | exact Or.inr ⟨by omega, by omega, by omega⟩) (by first | exact h_jf j3 (by omega) (by omega) (by omega) | exact Or.inr ⟨by omega, by omega, by omega⟩)
        · refine h_pop (pc' := 1306) rfl rfl rfl ?_
          refine h_goto (pc' := 1441) rfl rfl ?_
          exact kk _ Is279 (by first | exact h_jf j0 (by omega) (by omega) (by omega) | exact Or.inr ⟨by omega, by omega, by omega⟩) (by first | exact h_jf j1 (by omega) (by omega) (by omega) | exact Or.inr ⟨by omega, by omega, by omega⟩) (by first | exact h_jf j2 (by omega) (by omega) (by omega) | exact Or.inr ⟨by omega, by omega, by omega⟩) (by first | exact h_jf j3 (by omega) (by omega) (by omega) | exact Or.inr ⟨by omega, by omega, by omega⟩)
        · refine h_pop (pc' := 1306) rfl rfl rfl ?_
          refine h_goto (pc' := 1441) rfl rfl ?_
          exact kk _ Is279 (by first | exact h_jf j0 (by omega) (by omega) (by omega) | exact Or.inr ⟨by omega, by omega, by omega⟩) (by first | exact h_jf j1 (by omega) (by omega) (by omega) | exact Or.inr ⟨by omega, by omega, by omega⟩) (by first | exact h_jf j2 (by omega) (by omega) (by omega) | exact Or.inr ⟨by omega, by omega, by omega⟩) (by first | exact h_jf j3 (by omega) (by omega) (by omega) | exact Or.inr ⟨by omega, by omega, by omega⟩)
      · have qz268 : z268 = (Int32.ofInt 3) := h_lit (show z268.toInt = 3 by omega) ci_3
        subst qz268
        refine h_call (sp := false) (pc' := 1305) (M := [(0, .ref 98), (1, .int (Int32.ofInt 3)), (2, .int z270), (3, .int z272)]) rfl rfl rfl rfl rfl rfl rfl rfl ?_
        refine u_sheetM3 _ Is266  z270 _ hz270 z272 _ hz272 (fun r280 br280 hr280 s281 Is281 Gs281 tr280 pcs281 => h_Kv ?_)
        have Zs281 : ∀ i, s281 0 i = s0 0 i := fun i => (Gs281 0 i rfl).trans (Zs266 i)
        rcases pcs281 with pcs281 | pcs281 | pcs281
        · refine h_pop (pc' := 1306) rfl rfl rfl ?_
          refine h_goto (pc' := 1441) rfl rfl ?_
          exact kk _ Is281 (by first | exact h_jf j0 (by omega) (by omega) (by omega) | exact Or.inr ⟨by omega, by omega, by omega⟩) (by first | exact h_jf j1 (by omega) (by omega) (by omega) | exact Or.inr ⟨by omega, by omega, by omega⟩) (by first | exact h_jf j2 (by omega) (by omega) (by omega) | exact Or.inr ⟨by omega, by omega, by omega⟩) (by first | exact h_jf j3 (by omega) (by omega) (by omega) | exact Or.inr ⟨by omega, by omega, by omega⟩)
        · refine h_pop (pc' := 1306) rfl rfl rfl ?_
          refine h_goto (pc' := 1441) rfl rfl ?_
          exact kk _ Is281 (by first | exact h_jf j0 (by omega) (by omega) (by omega) | exact Or.inr ⟨by omega, by omega, by omega⟩) (by first | exact h_jf j1 (by omega) (by omega) (by omega) | exact Or.inr ⟨by omega, by omega, by omega⟩) (by first | exact h_jf j2 (by omega) (by omega) (by omega) | exact Or.inr ⟨by omega, by omega, by omega⟩) (by first | exact h_jf j3 (by omega) (by omega) (by omega) | exact Or.inr ⟨by omega, by omega, by omega⟩)
        · refine h_pop (pc' := 1306) rfl rfl rfl ?_
          refine h_goto (pc' := 1441) rfl rfl ?_
          exact kk _ Is281 (by first | exact h_jf j0 (by omega) (by omega) (by omega) | exact Or.inr ⟨by omega, by omega, by omega⟩) (by first | exact h_jf j1 (by omega) (by omega) (by omega) | exact Or.inr ⟨by omega, by omega, by omega⟩) (by first | exact h_jf j2 (by omega) (by omega) (by omega) | exact Or.inr ⟨by omega, by omega, by omega⟩) (by first | exact h_jf j3 (by omega) (by omega) (by omega) | exact Or.inr ⟨by omega, by omega, by omega⟩)
      · refine h_call (sp := false) (pc' := 1305) (M := [(0, .ref 98), (1, .int z268), (2, .int z270), (3, .int z272)]) rfl rfl rfl rfl rfl rfl rfl rfl ?_
        refine u_sheetMn _ Is266 z268 _ hz268 (by omega) z270 _ hz270 z272 _ hz272 (fun r282 br282 hr282 s283 Is283 Gs283 tr282 pcs283 => h_Kv ?_)
        have Zs283 : ∀ i, s283 0 i = s0 0 i := fun i => (Gs283 0 i rfl).trans (Zs266 i)
        have es283_0 : s283 95 0 = s0 95 0 := (Gs283 95 0 rfl).trans es266_0
        have es283_1 : s283 95 1 = s0 95 1 := (Gs283 95 1 rfl).trans es266_1
        have es283_2 : s283 95 2 = s0 95 2 := (Gs283 95 2 rfl).trans es266_2
        have es283_3 : s283 95 3 = s0 95 3 := (Gs283 95 3 rfl).trans es266_3
        have es283_4 : s283 96 0 = s0 96 0 := (Gs283 96 0 rfl).trans es266_4
        have es283_5 : s283 96 1 = s0 96 1 := (Gs283 96 1 rfl).trans es266_5
        have es283_6 : s283 96 2 = s0 96 2 := (Gs283 96 2 rfl).trans es266_6
        have es283_7 : s283 96 3 = s0 96 3 := (Gs283 96 3 rfl).trans es266_7
        have es283_8 : s283 111 0 = s0 111 0 := (Gs283 111 0 rfl).trans es266_8
        have es283_9 : s283 111 1 = s0 111 1 := (Gs283 111 1 rfl).trans es266_9
        have es283_10 : s283 111 2 = s0 111 2 := (Gs283 111 2 rfl).trans es266_10
        have es283_11 : s283 111 3 = s0 111 3 := (Gs283 111 3 rfl).trans es266_11
        have es283_12 : s283 112 0 = s0 112 0 := (Gs283 112 0 rfl).trans es266_12
        have es283_13 : s283 112 1 = s0 112 1 := (Gs283 112 1 rfl).trans es266_13
        have es283_14 : s283 112 2 = s0 112 2 := (Gs283 112 2 rfl).trans es266_14
        have es283_15 : s283 112 3 = s0 112 3 := (Gs283 112 3 rfl).trans es266_15
        rcases pcs283 with pcs283
        · refine h_pop (pc' := 1306) rfl rfl rfl ?_
          refine h_goto (pc' := 1441) rfl rfl ?_
          exact kk _ Is283 (by first | exact h_jf j0 (by omega) (by omega) (by omega) | exact Or.inr ⟨by omega, by omega, by omega⟩) (by first | exact h_jf j1 (by omega) (by omega) (by omega) | exact Or.inr ⟨by omega, by omega, by omega⟩) (by first | exact h_jf j2 (by omega) (by omega) (by omega) | exact Or.inr ⟨by omega, by omega, by omega⟩) (by first | exact h_jf j3 (by omega) (by omega) (by omega) | exact Or.inr ⟨by omega, by omega, by omega⟩)
      · refine h_call (sp := false) (pc' := 1305) (M := [(0, .ref 98), (1, .int z268), (2, .int z270), (3, .int z272)]) rfl rfl rfl rfl rfl rfl rfl rfl ?_
        refine u_sheetMp _ Is266 z268 _ hz268 (by omega) z270 _ hz270 z272 _ hz272 (fun r284 br284 hr284 s285 Is285 Gs285 tr284 pcs285 => h_Kv ?_)
        have Zs285 : ∀ i, s285 0 i = s0 0 i := fun i => (Gs285 0 i rfl).trans (Zs266 i)
        have es285_0 : s285 95 0 = s0 95 0 := (Gs285 95 0 rfl).trans es266_0
        have es285_1 : s285 95 1 = s0 95 1 := (Gs285 95 1 rfl).trans es266_1
        have es285_2 : s285 95 2 = s0 95 2 := (Gs285 95 2 rfl).trans es266_2
        have es285_3 : s285 95 3 = s0 95 3 := (Gs285 95 3 rfl).trans es266_3
        have es285_4 : s285 96 0 = s0 96 0 := (Gs285 96 0 rfl).trans es266_4
        have es285_5 : s285 96 1 = s0 96 1 := (Gs285 96 1 rfl).trans es266_5
        have es285_6 : s285 96 2 = s0 96 2 := (Gs285 96 2 rfl).trans es266_6
        have es285_7 : s285 96 3 = s0 96 3 := (Gs285 96 3 rfl).trans es266_7
        have es285_8 : s285 111 0 = s0 111 0 := (Gs285 111 0 rfl).trans es266_8
        have es285_9 : s285 111 1 = s0 111 1 := (Gs285 111 1 rfl).trans es266_9
        have es285_10 : s285 111 2 = s0 111 2 := (Gs285 111 2 rfl).trans es266_10
        have es285_11 : s285 111 3 = s0 111 3 := (Gs285 111 3 rfl).trans es266_11
        have es285_12 : s285 112 0 = s0 112 0 := (Gs285 112 0 rfl).trans es266_12
        have es285_13 : s285 112 1 = s0 112 1 := (Gs285 112 1 rfl).trans es266_13
        have es285_14 : s285 112 2 = s0 112 2 := (Gs285 112 2 rfl).trans es266_14
        have es285_15 : s285 112 3 = s0 112 3 := (Gs285 112 3 rfl).trans es266_15
        rcases pcs285 with pcs285
        · refine h_pop (pc' := 1306) rfl rfl rfl ?_
          refine h_goto (pc' := 1441) rfl rfl ?_
          exact kk _ Is285 (by first | exact h_jf j0 (by omega) (by omega) (by omega) | exact Or.inr ⟨by omega, by omega, by omega⟩) (by first | exact h_jf j1 (by omega) (by omega) (by omega) | exact Or.inr ⟨by omega, by omega, by omega⟩) (by first | exact h_jf j2 (by omega) (by omega) (by omega) | exact Or.inr ⟨by omega, by omega, by omega⟩) (by first | exact h_jf j3 (by omega) (by omega) (by omega) | exact Or.inr ⟨by omega, by omega, by omega⟩)
theorem g_case_1309 {ns : Nat} (hns : ns ≤ 320) (s0 : h_S) (I0 : h_I s0) (j0 : h_js (s0 96 0) (s0 111 0) (s0 112 0)) (j1 : h_js (s0 96 1) (s0 111 1) (s0 112 1)) (j2 : h_js (s0 96 2) (s0 111 2) (s0 112 2)) (j3 : h_js (s0 96 3) (s0 111 3) (s0 112 3)) (y3 : Int32) (b3 : Int) (hy3 : y3.toInt = b3) (hr : 0 ≤ b3 ∧ b3 + 5 ≤ ns) {Q : Option Value → h_S → Prop} (kk : ∀ τ, h_I τ → h_js (τ 96 0) (τ 111 0) (τ 112 0) → h_js (τ 96 1) (τ 111 1) (τ 112 1) → h_js (τ 96 2) (τ 111 2) (τ 112 2) → h_js (τ 96 3) (τ 111 3) (τ 112 3) → h_T g_P (g_Y ns) 225 1441 [(0, .ref 0), (1, .ref 9), (2, .ref 98), (3, .int y3)] [] τ Q) : h_T g_P (g_Y ns) 225 1309 [(0, .ref 0), (1, .ref 9), (2, .ref 98), (3, .int y3)] [] s0 Q := by
  refine h_aload_n (pc' := 1310) rfl rfl rfl ?_
  refine h_aload_n (pc' := 1311) rfl rfl rfl ?_
  refine h_iload_n (pc' := 1312) rfl rfl rfl ?_
  refine h_iconst (pc' := 1313) (x := (Int32.ofInt 1)) rfl rfl rfl ?_
  refine h_iadd (pc' := 1314) rfl rfl hy3 ci_1 rfl (by omega) (by omega) (fun z1 hz1 => ?_)
  refine h_iald (pc' := 1315) (v := s0 0 (b3 + 1)) rfl rfl rfl hz1 (by omega) (by omega) rfl (fun z2 hz2 => ?_)
  have tz2 := h_rgv hz2
  refine h_aload_n (pc' := 1316) rfl rfl rfl ?_
  refine h_iload_n (pc' := 1317) rfl rfl rfl ?_
  refine h_iconst (pc' := 1318) (x := (Int32.ofInt 2)) rfl rfl rfl ?_
  refine h_iadd (pc' := 1319) rfl rfl hy3 ci_2 rfl (by omega) (by omega) (fun z3 hz3 => ?_)
  refine h_iald (pc' := 1320) (v := s0 0 (b3 + 2)) rfl rfl rfl hz3 (by omega) (by omega) rfl (fun z4 hz4 => ?_)
  have tz4 := h_rgv hz4
  refine h_aload_n (pc' := 1321) rfl rfl rfl ?_
  refine h_iload_n (pc' := 1322) rfl rfl rfl ?_
  refine h_iconst (pc' := 1323) (x := (Int32.ofInt 3)) rfl rfl rfl ?_
  refine h_iadd (pc' := 1324) rfl rfl hy3 ci_3 rfl (by omega) (by omega) (fun z5 hz5 => ?_)
  refine h_iald (pc' := 1325) (v := s0 0 (b3 + 3)) rfl rfl rfl hz5 (by omega) (by omega) rfl (fun z6 hz6 => ?_)
  have tz6 := h_rgv hz6
  rcases (show ((s0 0 (b3 + 1)) = 0) ∨ ((s0 0 (b3 + 1)) = 1) ∨ ((s0 0 (b3 + 1)) = 2) ∨ ((s0 0 (b3 + 1)) = 3) ∨ ((s0 0 (b3 + 1)) ≤ (-1)) ∨ (4 ≤ (s0 0 (b3 + 1))) by omega) with c7 | c7 | c7 | c7 | c7 | c7
  · have qz2 : z2 = (Int32.ofInt 0) := h_lit (show z2.toInt = 0 by omega) ci_0
    subst qz2
    refine h_call (sp := false) (pc' := 1328) (M := [(0, .ref 9), (1, .int (Int32.ofInt 0)), (2, .int z4), (3, .int z6)]) rfl rfl rfl rfl rfl rfl rfl rfl ?_
    refine u_layX0 _ I0  z4 _ hz4 z6 _ hz6 (fun r8 br8 hr8 s9 Is9 Gs9 tr8 pcs9 => h_Kv ?_)
    have Zs9 : ∀ i, s9 0 i = s0 0 i := fun i => (Gs9 0 i rfl).trans rfl
    have es9_0 : s9 95 0 = s0 95 0 := (Gs9 95 0 rfl).trans rfl
    have es9_1 : s9 95 1 = s0 95 1 := (Gs9 95 1 rfl).trans rfl
    have es9_2 : s9 95 2 = s0 95 2 := (Gs9 95 2 rfl).trans rfl
    have es9_3 : s9 95 3 = s0 95 3 := (Gs9 95 3 rfl).trans rfl
    have es9_4 : s9 96 0 = s0 96 0 := (Gs9 96 0 rfl).trans rfl
    have es9_5 : s9 96 1 = s0 96 1 := (Gs9 96 1 rfl).trans rfl
    have es9_6 : s9 96 2 = s0 96 2 := (Gs9 96 2 rfl).trans rfl
    have es9_7 : s9 96 3 = s0 96 3 := (Gs9 96 3 rfl).trans rfl
    have es9_8 : s9 111 0 = s0 111 0 := (Gs9 111 0 rfl).trans rfl
    have es9_9 : s9 111 1 = s0 111 1 := (Gs9 111 1 rfl).trans rfl
    have es9_10 : s9 111 2 = s0 111 2 := (Gs9 111 2 rfl).trans rfl
    have es9_11 : s9 111 3 = s0 111 3 := (Gs9 111 3 rfl).trans rfl
    have es9_12 : s9 112 0 = s0 112 0 := (Gs9 112 0 rfl).trans rfl
    have es9_13 : s9 112 1 = s0 112 1 := (Gs9 112 1 rfl).trans rfl
    have es9_14 : s9 112 2 = s0 112 2 := (Gs9 112 2 rfl).trans rfl
    have es9_15 : s9 112 3 = s0 112 3 := (Gs9 112 3 rfl).trans rfl
    rcases pcs9 with pcs9 | pcs9 | pcs9
    · refine h_aload_n (pc' := 1329) rfl rfl rfl ?_
      refine h_aload_n (pc' := 1330) rfl rfl rfl ?_
      refine h_iload_n (pc' := 1331) rfl rfl rfl ?_
      refine h_iconst (pc' := 1332) (x := (Int32.ofInt 1)) rfl rfl rfl ?_
      refine h_iadd (pc' := 1333) rfl rfl hy3 ci_1 rfl (by omega) (by omega) (fun z10 hz10 => ?_)
      refine h_iald (pc' := 1334) (v := s0 0 (b3 + 1)) rfl rfl rfl hz10 (by omega) (by omega) (Zs9 _) (fun z11 hz11 => ?_)
      have tz11 := h_rgv hz11
      refine h_aload_n (pc' := 1335) rfl rfl rfl ?_
      refine h_iload_n (pc' := 1336) rfl rfl rfl ?_
      refine h_iconst (pc' := 1337) (x := (Int32.ofInt 2)) rfl rfl rfl ?_
      refine h_iadd (pc' := 1338) rfl rfl hy3 ci_2 rfl (by omega) (by omega) (fun z12 hz12 => ?_)
      refine h_iald (pc' := 1339) (v := s0 0 (b3 + 2)) rfl rfl rfl hz12 (by omega) (by omega) (Zs9 _) (fun z13 hz13 => ?_)
      have tz13 := h_rgv hz13
      refine h_aload_n (pc' := 1340) rfl rfl rfl ?_
      refine h_iload_n (pc' := 1341) rfl rfl rfl ?_
      refine h_iconst (pc' := 1342) (x := (Int32.ofInt 3)) rfl rfl rfl ?_
      refine h_iadd (pc' := 1343) rfl rfl hy3 ci_3 rfl (by omega) (by omega) (fun z14 hz14 => ?_)
      refine h_iald (pc' := 1344) (v := s0 0 (b3 + 3)) rfl rfl rfl hz14 (by omega) (by omega) (Zs9 _) (fun z15 hz15 => ?_)
      have tz15 := h_rgv hz15
      rcases (show ((s0 0 (b3 + 1)) = 0) ∨ ((s0 0 (b3 + 1)) = 1) ∨ ((s0 0 (b3 + 1)) = 2) ∨ ((s0 0 (b3 + 1)) = 3) ∨ ((s0 0 (b3 + 1)) ≤ (-1)) ∨ (4 ≤ (s0 0 (b3 + 1))) by omega) with c16 | c16 | c16 | c16 | c16 | c16
      · have qz11 : z11 = (Int32.ofInt 0) := h_lit (show z11.toInt = 0 by omega) ci_0
        subst qz11
        refine h_call (sp := false) (pc' := 1347) (M := [(0, .ref 98), (1, .int (Int32.ofInt 0)), (2, .int z13), (3, .int z15)]) rfl rfl rfl rfl rfl rfl rfl rfl ?_
        refine u_layM0 _ Is9  z13 _ hz13 z15 _ hz15 (fun r17 br17 hr17 s18 Is18 Gs18 tr17 pcs18 => h_Kv ?_)
        have Zs18 : ∀ i, s18 0 i = s0 0 i := fun i => (Gs18 0 i rfl).trans (Zs9 i)
        have es18_0 : s18 95 0 = s0 95 0 := (Gs18 95 0 rfl).trans es9_0
        have es18_1 : s18 95 1 = s0 95 1 := (Gs18 95 1 rfl).trans es9_1
        have es18_2 : s18 95 2 = s0 95 2 := (Gs18 95 2 rfl).trans es9_2
        have es18_3 : s18 95 3 = s0 95 3 := (Gs18 95 3 rfl).trans es9_3
        have es18_4 : s18 96 0 = s0 96 0 := (Gs18 96 0 rfl).trans es9_4
        have es18_5 : s18 96 1 = s0 96 1 := (Gs18 96 1 rfl).trans es9_5
        have es18_6 : s18 96 2 = s0 96 2 := (Gs18 96 2 rfl).trans es9_6
        have es18_7 : s18 96 3 = s0 96 3 := (Gs18 96 3 rfl).trans es9_7
        have es18_8 : s18 111 0 = s0 111 0 := (Gs18 111 0 rfl).trans es9_8
        have es18_9 : s18 111 1 = s0 111 1 := (Gs18 111 1 rfl).trans es9_9
        have es18_10 : s18 111 2 = s0 111 2 := (Gs18 111 2 rfl).trans es9_10
        have es18_11 : s18 111 3 = s0 111 3 := (Gs18 111 3 rfl).trans es9_11
        have es18_12 : s18 112 0 = s0 112 0 := (Gs18 112 0 rfl).trans es9_12
        have es18_13 : s18 112 1 = s0 112 1 := (Gs18 112 1 rfl).trans es9_13
        have es18_14 : s18 112 2 = s0 112 2 := (Gs18 112 2 rfl).trans es9_14
        have es18_15 : s18 112 3 = s0 112 3 := (Gs18 112 3 rfl).trans es9_15
        rcases pcs18 with pcs18 | pcs18 | pcs18
        · refine h_ceq (tg := 1441) (pc' := 1350) rfl rfl rfl hr8 hr17 (fun c19 => ?_) (fun c19 => absurd c19 (by omega))
          exact kk _ Is18 (by first | exact h_jf j0 (by omega) (by omega) (by omega) | exact Or.inr ⟨by omega, by omega, by omega⟩) (by first | exact h_jf j1 (by omega) (by omega) (by omega) | exact Or.inr ⟨by omega, by omega, by omega⟩) (by first | exact h_jf j2 (by omega) (by omega) (by omega) | exact Or.inr ⟨by omega, by omega, by omega⟩) (by first | exact h_jf j3 (by omega) (by omega) (by omega) | exact Or.inr ⟨by omega, by omega, by omega⟩)
        · refine h_ceq (tg := 1441) (pc' := 1350) rfl rfl rfl hr8 hr17 (fun c20 => absurd c20 (by omega)) (fun c20 => ?_)
          refine h_iconst (pc' := 1351) (x := (Int32.ofInt 0)) rfl rfl rfl ?_
          exfalso
          unfold h_js at j0 j1 j2 j3
          omega
        · refine h_ceq (tg := 1441) (pc' := 1350) rfl rfl rfl hr8 hr17 (fun c21 => absurd c21 (by omega)) (fun c21 => ?_)
          refine h_iconst (pc' := 1351) (x := (Int32.ofInt 0)) rfl rfl rfl ?_
          exfalso
          unfold h_js at j0 j1 j2 j3
          omega
      · have qz11 : z11 = (Int32.ofInt 1) := h_lit (show z11.toInt = 1 by omega) ci_1
        subst qz11
        refine h_call (sp := false) (pc' := 1347) (M := [(0, .ref 98), (1, .int (Int32.ofInt 1)), (2, .int z13), (3, .int z15)]) rfl rfl rfl rfl rfl rfl rfl rfl ?_
        refine u_layM1 _ Is9  z13 _ hz13 z15 _ hz15 (fun r22 br22 hr22 s23 Is23 Gs23 tr22 pcs23 => h_Kv ?_)
        have Zs23 : ∀ i, s23 0 i = s0 0 i := fun i => (Gs23 0 i rfl).trans (Zs9 i)
        have es23_0 : s23 95 0 = s0 95 0 := (Gs23 95 0 rfl).trans es9_0
        have es23_1 : s23 95 1 = s0 95 1 := (Gs23 95 1 rfl).trans es9_1
        have es23_2 : s23 95 2 = s0 95 2 := (Gs23 95 2 rfl).trans es9_2
        have es23_3 : s23 95 3 = s0 95 3 := (Gs23 95 3 rfl).trans es9_3
        have es23_4 : s23 96 0 = s0 96 0 := (Gs23 96 0 rfl).trans es9_4
        have es23_5 : s23 96 1 = s0 96 1 := (Gs23 96 1 rfl).trans es9_5
        have es23_6 : s23 96 2 = s0 96 2 := (Gs23 96 2 rfl).trans es9_6
        have es23_7 : s23 96 3 = s0 96 3 := (Gs23 96 3 rfl).trans es9_7
        have es23_8 : s23 111 0 = s0 111 0 := (Gs23 111 0 rfl).trans es9_8
        have es23_9 : s23 111 1 = s0 111 1 := (Gs23 111 1 rfl).trans es9_9
        have es23_10 : s23 111 2 = s0 111 2 := (Gs23 111 2 rfl).trans es9_10
        have es23_11 : s23 111 3 = s0 111 3 := (Gs23 111 3 rfl).trans es9_11
        have es23_12 : s23 112 0 = s0 112 0 := (Gs23 112 0 rfl).trans es9_12
        have es23_13 : s23 112 1 = s0 112 1 := (Gs23 112 1 rfl).trans es9_13
        have es23_14 : s23 112 2 = s0 112 2 := (Gs23 112 2 rfl).trans es9_14
        have es23_15 : s23 112 3 = s0 112 3 := (Gs23 112 3 rfl).trans es9_15
        rcases pcs23 with pcs23 | pcs23 | pcs23
        · refine h_ceq (tg := 1441) (pc' := 1350) rfl rfl rfl hr8 hr22 (fun c24 => ?_) (fun c24 => absurd c24 (by omega))
          exact kk _ Is23 (by first | exact h_jf j0 (by omega) (by omega) (by omega) | exact Or.inr ⟨by omega, by omega, by omega⟩) (by first | exact h_jf j1 (by omega) (by omega) (by omega) | exact Or.inr ⟨by omega, by omega, by omega⟩) (by first | exact h_jf j2 (by omega) (by omega) (by omega) | exact Or.inr ⟨by omega, by omega, by omega⟩) (by first | exact h_jf j3 (by omega) (by omega) (by omega) | exact Or.inr ⟨by omega, by omega, by omega⟩)
        · refine h_ceq (tg := 1441) (pc' := 1350) rfl rfl rfl hr8 hr22 (fun c25 => absurd c25 (by omega)) (fun c25 => ?_)
          refine h_iconst (pc' := 1351) (x := (Int32.ofInt 0)) rfl rfl rfl ?_
          exfalso
          unfold h_js at j0 j1 j2 j3
          omega
        · refine h_ceq (tg := 1441) (pc' := 1350) rfl rfl rfl hr8 hr22 (fun c26 => absurd c26 (by omega)) (fun c26 => ?_)
          refine h_iconst (pc' := 1351) (x := (Int32.ofInt 0)) rfl rfl rfl ?_
          exfalso
          unfold h_js at j0 j1 j2 j3
          omega
      · have qz11 : z11 = (Int32.ofInt 2) := h_lit (show z11.toInt = 2 by omega) ci_2
        subst qz11
        refine h_call (sp := false) (pc' := 1347) (M := [(0, .ref 98), (1, .int (Int32.ofInt 2)), (2, .int z13), (3, .int z15)]) rfl rfl rfl rfl rfl rfl rfl rfl ?_
        refine u_layM2 _ Is9  z13 _ hz13 z15 _ hz15 (fun r27 br27 hr27 s28 Is28 Gs28 tr27 pcs28 => h_Kv ?_)
        have Zs28 : ∀ i, s28 0 i = s0 0 i := fun i => (Gs28 0 i rfl).trans (Zs9 i)
        have es28_0 : s28 95 0 = s0 95 0 := (Gs28 95 0 rfl).trans es9_0
        have es28_1 : s28 95 1 = s0 95 1 := (Gs28 95 1 rfl).trans es9_1
        have es28_2 : s28 95 2 = s0 95 2 := (Gs28 95 2 rfl).trans es9_2
        have es28_3 : s28 95 3 = s0 95 3 := (Gs28 95 3 rfl).trans es9_3
        have es28_4 : s28 96 0 = s0 96 0 := (Gs28 96 0 rfl).trans es9_4
        have es28_5 : s28 96 1 = s0 96 1 := (Gs28 96 1 rfl).trans es9_5
        have es28_6 : s28 96 2 = s0 96 2 := (Gs28 96 2 rfl).trans es9_6
        have es28_7 : s28 96 3 = s0 96 3 := (Gs28 96 3 rfl).trans es9_7
        have es28_8 : s28 111 0 = s0 111 0 := (Gs28 111 0 rfl).trans es9_8
        have es28_9 : s28 111 1 = s0 111 1 := (Gs28 111 1 rfl).trans es9_9
        have es28_10 : s28 111 2 = s0 111 2 := (Gs28 111 2 rfl).trans es9_10
        have es28_11 : s28 111 3 = s0 111 3 := (Gs28 111 3 rfl).trans es9_11
        have es28_12 : s28 112 0 = s0 112 0 := (Gs28 112 0 rfl).trans es9_12
        have es28_13 : s28 112 1 = s0 112 1 := (Gs28 112 1 rfl).trans es9_13
        have es28_14 : s28 112 2 = s0 112 2 := (Gs28 112 2 rfl).trans es9_14
        have es28_15 : s28 112 3 = s0 112 3 := (Gs28 112 3 rfl).trans es9_15
        rcases pcs28 with pcs28 | pcs28 | pcs28
        · refine h_ceq (tg := 1441) (pc' := 1350) rfl rfl rfl hr8 hr27 (fun c29 => ?_) (fun c29 => absurd c29 (by omega))
          exact kk _ Is28 (by first | exact h_jf j0 (by omega) (by omega) (by omega) | exact Or.inr ⟨by omega, by omega, by omega⟩) (by first | exact h_jf j1 (by omega) (by omega) (by omega) | exact Or.inr ⟨by omega, by omega, by omega⟩) (by first | exact h_jf j2 (by omega) (by omega) (by omega) | exact Or.inr ⟨by omega, by omega, by omega⟩) (by first | exact h_jf j3 (by omega) (by omega) (by omega) | exact Or.inr ⟨by omega, by omega, by omega⟩)
        · refine h_ceq (tg := 1441) (pc' := 1350) rfl rfl rfl hr8 hr27 (fun c30 => absurd c30 (by omega)) (fun c30 => ?_)
          refine h_iconst (pc' := 1351) (x := (Int32.ofInt 0)) rfl rfl rfl ?_
          exfalso
          unfold h_js at j0 j1 j2 j3
          omega
        · refine h_ceq (tg := 1441) (pc' := 1350) rfl rfl rfl hr8 hr27 (fun c31 => absurd c31 (by omega)) (fun c31 => ?_)
          refine h_iconst (pc' := 1351) (x := (Int32.ofInt 0)) rfl rfl rfl ?_
          exfalso
          unfold h_js at j0 j1 j2 j3
          omega
      · have qz11 : z11 = (Int32.ofInt 3) := h_lit (show z11.toInt = 3 by omega) ci_3
        subst qz11
        refine h_call (sp := false) (pc' := 1347) (M := [(0, .ref 98), (1, .int (Int32.ofInt 3)), (2, .int z13), (3, .int z15)]) rfl rfl rfl rfl rfl rfl rfl rfl ?_
        refine u_layM3 _ Is9  z13 _ hz13 z15 _ hz15 (fun r32 br32 hr32 s33 Is33 Gs33 tr32 pcs33 => h_Kv ?_)
        have Zs33 : ∀ i, s33 0 i = s0 0 i := fun i => (Gs33 0 i rfl).trans (Zs9 i)
        have es33_0 : s33 95 0 = s0 95 0 := (Gs33 95 0 rfl).trans es9_0
        have es33_1 : s33 95 1 = s0 95 1 := (Gs33 95 1 rfl).trans es9_1
        have es33_2 : s33 95 2 = s0 95 2 := (Gs33 95 2 rfl).trans es9_2
        have es33_3 : s33 95 3 = s0 95 3 := (Gs33 95 3 rfl).trans es9_3
        have es33_4 : s33 96 0 = s0 96 0 := (Gs33 96 0 rfl).trans es9_4
        have es33_5 : s33 96 1 = s0 96 1 := (Gs33 96 1 rfl).trans es9_5
        have es33_6 : s33 96 2 = s0 96 2 := (Gs33 96 2 rfl).trans es9_6
        have es33_7 : s33 96 3 = s0 96 3 := (Gs33 96 3 rfl).trans es9_7
        have es33_8 : s33 111 0 = s0 111 0 := (Gs33 111 0 rfl).trans es9_8
        have es33_9 : s33 111 1 = s0 111 1 := (Gs33 111 1 rfl).trans es9_9
        have es33_10 : s33 111 2 = s0 111 2 := (Gs33 111 2 rfl).trans es9_10
        have es33_11 : s33 111 3 = s0 111 3 := (Gs33 111 3 rfl).trans es9_11
        have es33_12 : s33 112 0 = s0 112 0 := (Gs33 112 0 rfl).trans es9_12
        have es33_13 : s33 112 1 = s0 112 1 := (Gs33 112 1 rfl).trans es9_13
        have es33_14 : s33 112 2 = s0 112 2 := (Gs33 112 2 rfl).trans es9_14
        have es33_15 : s33 112 3 = s0 112 3 := (Gs33 112 3 rfl).trans es9_15
        rcases pcs33 with pcs33 | pcs33 | pcs33
        · refine h_ceq (tg := 1441) (pc' := 1350) rfl rfl rfl hr8 hr32 (fun c34 => ?_) (fun c34 => absurd c34 (by omega))
          exact kk _ Is33 (by first | exact h_jf j0 (by omega) (by omega) (by omega) | exact Or.inr ⟨by omega, by omega, by omega⟩) (by first | exact h_jf j1 (by omega) (by omega) (by omega) | exact Or.inr ⟨by omega, by omega, by omega⟩) (by first | exact h_jf j2 (by omega) (by omega) (by omega) | exact Or.inr ⟨by omega, by omega, by omega⟩) (by first | exact h_jf j3 (by omega) (by omega) (by omega) | exact Or.inr ⟨by omega, by omega, by omega⟩)
        · refine h_ceq (tg := 1441) (pc' := 1350) rfl rfl rfl hr8 hr32 (fun c35 => absurd c35 (by omega)) (fun c35 => ?_)
          refine h_iconst (pc' := 1351) (x := (Int32.ofInt 0)) rfl rfl rfl ?_
          exfalso
          unfold h_js at j0 j1 j2 j3
          omega
        · refine h_ceq (tg := 1441) (pc' := 1350) rfl rfl rfl hr8 hr32 (fun c36 => absurd c36 (by omega)) (fun c36 => ?_)
          refine h_iconst (pc' := 1351) (x := (Int32.ofInt 0)) rfl rfl rfl ?_
          exfalso
          unfold h_js at j0 j1 j2 j3
          omega
      · refine h_call (sp := false) (pc' := 1347) (M := [(0, .ref 98), (1, .int z11), (2, .int z13), (3, .int z15)]) rfl rfl rfl rfl rfl rfl rfl rfl ?_
        refine u_layMn _ Is9 z11 _ hz11 (by omega) z13 _ hz13 z15 _ hz15 (fun r37 br37 hr37 s38 Is38 Gs38 tr37 pcs38 => h_Kv ?_)
        have Zs38 : ∀ i, s38 0 i = s0 0 i := fun i => (Gs38 0 i rfl).trans (Zs9 i)
        have es38_0 : s38 95 0 = s0 95 0 := (Gs38 95 0 rfl).trans es9_0
        have es38_1 : s38 95 1 = s0 95 1 := (Gs38 95 1 rfl).trans es9_1
        have es38_2 : s38 95 2 = s0 95 2 := (Gs38 95 2 rfl).trans es9_2
        have es38_3 : s38 95 3 = s0 95 3 := (Gs38 95 3 rfl).trans es9_3
        have es38_4 : s38 96 0 = s0 96 0 := (Gs38 96 0 rfl).trans es9_4
        have es38_5 : s38 96 1 = s0 96 1 := (Gs38 96 1 rfl).trans es9_5
        have es38_6 : s38 96 2 = s0 96 2 := (Gs38 96 2 rfl).trans es9_6
        have es38_7 : s38 96 3 = s0 96 3 := (Gs38 96 3 rfl).trans es9_7
        have es38_8 : s38 111 0 = s0 111 0 := (Gs38 111 0 rfl).trans es9_8
        have es38_9 : s38 111 1 = s0 111 1 := (Gs38 111 1 rfl).trans es9_9
        have es38_10 : s38 111 2 = s0 111 2 := (Gs38 111 2 rfl).trans es9_10
        have es38_11 : s38 111 3 = s0 111 3 := (Gs38 111 3 rfl).trans es9_11
        have es38_12 : s38 112 0 = s0 112 0 := (Gs38 112 0 rfl).trans es9_12
        have es38_13 : s38 112 1 = s0 112 1 := (Gs38 112 1 rfl).trans es9_13
        have es38_14 : s38 112 2 = s0 112 2 := (Gs38 112 2 rfl).trans es9_14
        have es38_15 : s38 112 3 = s0 112 3 := (Gs38 112 3 rfl).trans es9_15
        rcases pcs38 with pcs38
        · refine h_ceq (tg := 1441) (pc' := 1350) rfl rfl rfl hr8 hr37 (fun c39 => absurd c39 (by omega)) (fun c39 => ?_)
          refine h_iconst (pc' := 1351) (x := (Int32.ofInt 0)) rfl rfl rfl ?_
          exfalso
          unfold h_js at j0 j1 j2 j3
          omega
      · refine h_call (sp := false) (pc' := 1347) (M := [(0, .ref 98), (1, .int z11), (2, .int z13), (3, .int z15)]) rfl rfl rfl rfl rfl rfl rfl rfl ?_
        refine u_layMp _ Is9 z11 _ hz11 (by omega) z13 _ hz13 z15 _ hz15 (fun r40 br40 hr40 s41 Is41 Gs41 tr40 pcs41 => h_Kv ?_)
        have Zs41 : ∀ i, s41 0 i = s0 0 i := fun i => (Gs41 0 i rfl).trans (Zs9 i)
        have es41_0 : s41 95 0 = s0 95 0 := (Gs41 95 0 rfl).trans es9_0
        have es41_1 : s41 95 1 = s0 95 1 := (Gs41 95 1 rfl).trans es9_1
        have es41_2 : s41 95 2 = s0 95 2 := (Gs41 95 2 rfl).trans es9_2
        have es41_3 : s41 95 3 = s0 95 3 := (Gs41 95 3 rfl).trans es9_3
        have es41_4 : s41 96 0 = s0 96 0 := (Gs41 96 0 rfl).trans es9_4
        have es41_5 : s41 96 1 = s0 96 1 := (Gs41 96 1 rfl).trans es9_5
        have es41_6 : s41 96 2 = s0 96 2 := (Gs41 96 2 rfl).trans es9_6
        have es41_7 : s41 96 3 = s0 96 3 := (Gs41 96 3 rfl).trans es9_7
        have es41_8 : s41 111 0 = s0 111 0 := (Gs41 111 0 rfl).trans es9_8
        have es41_9 : s41 111 1 = s0 111 1 := (Gs41 111 1 rfl).trans es9_9
        have es41_10 : s41 111 2 = s0 111 2 := (Gs41 111 2 rfl).trans es9_10
        have es41_11 : s41 111 3 = s0 111 3 := (Gs41 111 3 rfl).trans es9_11
        have es41_12 : s41 112 0 = s0 112 0 := (Gs41 112 0 rfl).trans es9_12
        have es41_13 : s41 112 1 = s0 112 1 := (Gs41 112 1 rfl).trans es9_13
        have es41_14 : s41 112 2 = s0 112 2 := (Gs41 112 2 rfl).trans es9_14
        have es41_15 : s41 112 3 = s0 112 3 := (Gs41 112 3 rfl).trans es9_15
        rcases pcs41 with pcs41
        · refine h_ceq (tg := 1441) (pc' := 1350) rfl rfl rfl hr8 hr40 (fun c42 => absurd c42 (by omega)) (fun c42 => ?_)
          refine h_iconst (pc' := 1351) (x := (Int32.ofInt 0)) rfl rfl rfl ?_
          exfalso
          unfold h_js at j0 j1 j2 j3
          omega
    · refine h_aload_n (pc' := 1329) rfl rfl rfl ?_
      refine h_aload_n (pc' := 1330) rfl rfl rfl ?_
      refine h_iload_n (pc' := 1331) rfl rfl rfl ?_
      refine h_iconst (pc' := 1332) (x := (Int32.ofInt 1)) rfl rfl rfl ?_
      refine h_iadd (pc' := 1333) rfl rfl hy3 ci_1 rfl (by omega) (by omega) (fun z43 hz43 => ?_)
      refine h_iald (pc' := 1334) (v := s0 0 (b3 + 1)) rfl rfl rfl hz43 (by omega) (by omega) (Zs9 _) (fun z44 hz44 => ?_)
      have tz44 := h_rgv hz44
      refine h_aload_n (pc' := 1335) rfl rfl rfl ?_
      refine h_iload_n (pc' := 1336) rfl rfl rfl ?_
      refine h_iconst (pc' := 1337) (x := (Int32.ofInt 2)) rfl rfl rfl ?_
      refine h_iadd (pc' := 1338) rfl rfl hy3 ci_2 rfl (by omega) (by omega) (fun z45 hz45 => ?_)
      refine h_iald (pc' := 1339) (v := s0 0 (b3 + 2)) rfl rfl rfl hz45 (by omega) (by omega) (Zs9 _) (fun z46 hz46 => ?_)
      have tz46 := h_rgv hz46
      refine h_aload_n (pc' := 1340) rfl rfl rfl ?_
      refine h_iload_n (pc' := 1341) rfl rfl rfl ?_
      refine h_iconst (pc' := 1342) (x := (Int32.ofInt 3)) rfl rfl rfl ?_
      refine h_iadd (pc' := 1343) rfl rfl hy3 ci_3 rfl (by omega) (by omega) (fun z47 hz47 => ?_)
      refine h_iald (pc' := 1344) (v := s0 0 (b3 + 3)) rfl rfl rfl hz47 (by omega) (by omega) (Zs9 _) (fun z48 hz48 => ?_)
      have tz48 := h_rgv hz48
      rcases (show ((s0 0 (b3 + 1)) = 0) ∨ ((s0 0 (b3 + 1)) = 1) ∨ ((s0 0 (b3 + 1)) = 2) ∨ ((s0 0 (b3 + 1)) = 3) ∨ ((s0 0 (b3 + 1)) ≤ (-1)) ∨ (4 ≤ (s0 0 (b3 + 1))) by omega) with c49 | c49 | c49 | c49 | c49 | c49
      · have qz44 : z44 = (Int32.ofInt 0) := h_lit (show z44.toInt = 0 by omega) ci_0
        subst qz44
        refine h_call (sp := false) (pc' := 1347) (M := [(0, .ref 98), (1, .int (Int32.ofInt 0)), (2, .int z46), (3, .int z48)]) rfl rfl rfl rfl rfl rfl rfl rfl ?_
        refine u_layM0 _ Is9  z46 _ hz46 z48 _ hz48 (fun r50 br50 hr50 s51 Is51 Gs51 tr50 pcs51 => h_Kv ?_)
        have Zs51 : ∀ i, s51 0 i = s0 0 i := fun i => (Gs51 0 i rfl).trans (Zs9 i)
        have es51_0 : s51 95 0 = s0 95 0 := (Gs51 95 0 rfl).trans es9_0
        have es51_1 : s51 95 1 = s0 95 1 := (Gs51 95 1 rfl).trans es9_1
        have es51_2 : s51 95 2 = s0 95 2 := (Gs51 95 2 rfl).trans es9_2
        have es51_3 : s51 95 3 = s0 95 3 := (Gs51 95 3 rfl).trans es9_3
        have es51_4 : s51 96 0 = s0 96 0 := (Gs51 96 0 rfl).trans es9_4
        have es51_5 : s51 96 1 = s0 96 1 := (Gs51 96 1 rfl).trans es9_5
        have es51_6 : s51 96 2 = s0 96 2 := (Gs51 96 2 rfl).trans es9_6
        have es51_7 : s51 96 3 = s0 96 3 := (Gs51 96 3 rfl).trans es9_7
        have es51_8 : s51 111 0 = s0 111 0 := (Gs51 111 0 rfl).trans es9_8
        have es51_9 : s51 111 1 = s0 111 1 := (Gs51 111 1 rfl).trans es9_9
        have es51_10 : s51 111 2 = s0 111 2 := (Gs51 111 2 rfl).trans es9_10
        have es51_11 : s51 111 3 = s0 111 3 := (Gs51 111 3 rfl).trans es9_11
        have es51_12 : s51 112 0 = s0 112 0 := (Gs51 112 0 rfl).trans es9_12
        have es51_13 : s51 112 1 = s0 112 1 := (Gs51 112 1 rfl).trans es9_13
        have es51_14 : s51 112 2 = s0 112 2 := (Gs51 112 2 rfl).trans es9_14
        have es51_15 : s51 112 3 = s0 112 3 := (Gs51 112 3 rfl).trans es9_15
        rcases pcs51 with pcs51 | pcs51 | pcs51
        · refine h_ceq (tg := 1441) (pc' := 1350) rfl rfl rfl hr8 hr50 (fun c52 => absurd c52 (by omega)) (fun c52 => ?_)
          refine h_iconst (pc' := 1351) (x := (Int32.ofInt 0)) rfl rfl rfl ?_
          exfalso
          unfold h_js at j0 j1 j2 j3
          omega
        · refine h_ceq (tg := 1441) (pc' := 1350) rfl rfl rfl hr8 hr50 (fun c53 => ?_) (fun c53 => absurd c53 (by omega))
          exact kk _ Is51 (by first | exact h_jf j0 (by omega) (by omega) (by omega) | exact Or.inr ⟨by omega, by omega, by omega⟩) (by first | exact h_jf j1 (by omega) (by omega) (by omega) | exact Or.inr ⟨by omega, by omega, by omega⟩) (by first | exact h_jf j2 (by omega) (by omega) (by omega) | exact Or.inr ⟨by omega, by omega, by omega⟩) (by first | exact h_jf j3 (by omega) (by omega) (by omega) | exact Or.inr ⟨by omega, by omega, by omega⟩)
        · refine h_ceq (tg := 1441) (pc' := 1350) rfl rfl rfl hr8 hr50 (fun c54 => absurd c54 (by omega)) (fun c54 => ?_)
          refine h_iconst (pc' := 1351) (x := (Int32.ofInt 0)) rfl rfl rfl ?_
          exfalso
          unfold h_js at j0 j1 j2 j3
          omega
      · have qz44 : z44 = (Int32.ofInt 1) := h_lit (show z44.toInt = 1 by omega) ci_1
        subst qz44
        refine h_call (sp := false) (pc' := 1347) (M := [(0, .ref 98), (1, .int (Int32.ofInt 1)), (2, .int z46), (3, .int z48)]) rfl rfl rfl rfl rfl rfl rfl rfl ?_
        refine u_layM1 _ Is9  z46 _ hz46 z48 _ hz48 (fun r55 br55 hr55 s56 Is56 Gs56 tr55 pcs56 => h_Kv ?_)
        have Zs56 : ∀ i, s56 0 i = s0 0 i := fun i => (Gs56 0 i rfl).trans (Zs9 i)
        have es56_0 : s56 95 0 = s0 95 0 := (Gs56 95 0 rfl).trans es9_0
        have es56_1 : s56 95 1 = s0 95 1 := (Gs56 95 1 rfl).trans es9_1
        have es56_2 : s56 95 2 = s0 95 2 := (Gs56 95 2 rfl).trans es9_2
        have es56_3 : s56 95 3 = s0 95 3 := (Gs56 95 3 rfl).trans es9_3
        have es56_4 : s56 96 0 = s0 96 0 := (Gs56 96 0 rfl).trans es9_4
        have es56_5 : s56 96 1 = s0 96 1 := (Gs56 96 1 rfl).trans es9_5
        have es56_6 : s56 96 2 = s0 96 2 := (Gs56 96 2 rfl).trans es9_6
        have es56_7 : s56 96 3 = s0 96 3 := (Gs56 96 3 rfl).trans es9_7
        have es56_8 : s56 111 0 = s0 111 0 := (Gs56 111 0 rfl).trans es9_8
        have es56_9 : s56 111 1 = s0 111 1 := (Gs56 111 1 rfl).trans es9_9
        have es56_10 : s56 111 2 = s0 111 2 := (Gs56 111 2 rfl).trans es9_10
        have es56_11 : s56 111 3 = s0 111 3 := (Gs56 111 3 rfl).trans es9_11
        have es56_12 : s56 112 0 = s0 112 0 := (Gs56 112 0 rfl).trans es9_12
        have es56_13 : s56 112 1 = s0 112 1 := (Gs56 112 1 rfl).trans es9_13
        have es56_14 : s56 112 2 = s0 112 2 := (Gs56 112 2 rfl).trans es9_14
        have es56_15 : s56 112 3 = s0 112 3 := (Gs56 112 3 rfl).trans es9_15
        rcases pcs56 with pcs56 | pcs56 | pcs56
        · refine h_ceq (tg := 1441) (pc' := 1350) rfl rfl rfl hr8 hr55 (fun c57 => absurd c57 (by omega)) (fun c57 => ?_)
          refine h_iconst (pc' := 1351) (x := (Int32.ofInt 0)) rfl rfl rfl ?_
          exfalso
          unfold h_js at j0 j1 j2 j3
          omega
        · refine h_ceq (tg := 1441) (pc' := 1350) rfl rfl rfl hr8 hr55 (fun c58 => ?_) (fun c58 => absurd c58 (by omega))
          exact kk _ Is56 (by first | exact h_jf j0 (by omega) (by omega) (by omega) | exact Or.inr ⟨by omega, by omega, by omega⟩) (by first | exact h_jf j1 (by omega) (by omega) (by omega) | exact Or.inr ⟨by omega, by omega, by omega⟩) (by first | exact h_jf j2 (by omega) (by omega) (by omega) | exact Or.inr ⟨by omega, by omega, by omega⟩) (by first | exact h_jf j3 (by omega) (by omega) (by omega) | exact Or.inr ⟨by omega, by omega, by omega⟩)
        · refine h_ceq (tg := 1441) (pc' := 1350) rfl rfl rfl hr8 hr55 (fun c59 => absurd c59 (by omega)) (fun c59 => ?_)
          refine h_iconst (pc' := 1351) (x := (Int32.ofInt 0)) rfl rfl rfl ?_
          exfalso
          unfold h_js at j0 j1 j2 j3
          omega
      · have qz44 : z44 = (Int32.ofInt 2) := h_lit (show z44.toInt = 2 by omega) ci_2
        subst qz44
        refine h_call (sp := false) (pc' := 1347) (M := [(0, .ref 98), (1, .int (Int32.ofInt 2)), (2, .int z46), (3, .int z48)]) rfl rfl rfl rfl rfl rfl rfl rfl ?_
        refine u_layM2 _ Is9  z46 _ hz46 z48 _ hz48 (fun r60 br60 hr60 s61 Is61 Gs61 tr60 pcs61 => h_Kv ?_)
        have Zs61 : ∀ i, s61 0 i = s0 0 i := fun i => (Gs61 0 i rfl).trans (Zs9 i)
        have es61_0 : s61 95 0 = s0 95 0 := (Gs61 95 0 rfl).trans es9_0
        have es61_1 : s61 95 1 = s0 95 1 := (Gs61 95 1 rfl).trans es9_1
        have es61_2 : s61 95 2 = s0 95 2 := (Gs61 95 2 rfl).trans es9_2
        have es61_3 : s61 95 3 = s0 95 3 := (Gs61 95 3 rfl).trans es9_3
        have es61_4 : s61 96 0 = s0 96 0 := (Gs61 96 0 rfl).trans es9_4
        have es61_5 : s61 96 1 = s0 96 1 := (Gs61 96 1 rfl).trans es9_5
        have es61_6 : s61 96 2 = s0 96 2 := (Gs61 96 2 rfl).trans es9_6
        have es61_7 : s61 96 3 = s0 96 3 := (Gs61 96 3 rfl).trans es9_7
        have es61_8 : s61 111 0 = s0 111 0 := (Gs61 111 0 rfl).trans es9_8
        have es61_9 : s61 111 1 = s0 111 1 := (Gs61 111 1 rfl).trans es9_9
        have es61_10 : s61 111 2 = s0 111 2 := (Gs61 111 2 rfl).trans es9_10
        have es61_11 : s61 111 3 = s0 111 3 := (Gs61 111 3 rfl).trans es9_11
        have es61_12 : s61 112 0 = s0 112 0 := (Gs61 112 0 rfl).trans es9_12
        have es61_13 : s61 112 1 = s0 112 1 := (Gs61 112 1 rfl).trans es9_13
        have es61_14 : s61 112 2 = s0 112 2 := (Gs61 112 2 rfl).trans es9_14
        have es61_15 : s61 112 3 = s0 112 3 := (Gs61 112 3 rfl).trans es9_15
        rcases pcs61 with pcs61 | pcs61 | pcs61
        · refine h_ceq (tg := 1441) (pc' := 1350) rfl rfl rfl hr8 hr60 (fun c62 => absurd c62 (by omega)) (fun c62 => ?_)
          refine h_iconst (pc' := 1351) (x := (Int32.ofInt 0)) rfl rfl rfl ?_
          exfalso
          unfold h_js at j0 j1 j2 j3
          omega
        · refine h_ceq (tg := 1441) (pc' := 1350) rfl rfl rfl hr8 hr60 (fun c63 => ?_) (fun c63 => absurd c63 (by omega))
          exact kk _ Is61 (by first | exact h_jf j0 (by omega) (by omega) (by omega) | exact Or.inr ⟨by omega, by omega, by omega⟩) (by first | exact h_jf j1 (by omega) (by omega) (by omega) | exact Or.inr ⟨by omega, by omega, by omega⟩) (by first | exact h_jf j2 (by omega) (by omega) (by omega) | exact Or.inr ⟨by omega, by omega, by omega⟩) (by first | exact h_jf j3 (by omega) (by omega) (by omega) | exact Or.inr ⟨by omega, by omega, by omega⟩)
        · refine h_ceq (tg := 1441) (pc' := 1350) rfl rfl rfl hr8 hr60 (fun c64 => absurd c64 (by omega)) (fun c64 => ?_)
          refine h_iconst (pc' := 1351) (x := (Int32.ofInt 0)) rfl rfl rfl ?_
          exfalso
          unfold h_js at j0 j1 j2 j3
          omega
      · have qz44 : z44 = (Int32.ofInt 3) := h_lit (show z44.toInt = 3 by omega) ci_3
        subst qz44
        refine h_call (sp := false) (pc' := 1347) (M := [(0, .ref 98), (1, .int (Int32.ofInt 3)), (2, .int z46), (3, .int z48)]) rfl rfl rfl rfl rfl rfl rfl rfl ?_
        refine u_layM3 _ Is9  z46 _ hz46 z48 _ hz48 (fun r65 br65 hr65 s66 Is66 Gs66 tr65 pcs66 => h_Kv ?_)
        have Zs66 : ∀ i, s66 0 i = s0 0 i := fun i => (Gs66 0 i rfl).trans (Zs9 i)
        have es66_0 : s66 95 0 = s0 95 0 := (Gs66 95 0 rfl).trans es9_0
        have es66_1 : s66 95 1 = s0 95 1 := (Gs66 95 1 rfl).trans es9_1
        have es66_2 : s66 95 2 = s0 95 2 := (Gs66 95 2 rfl).trans es9_2
        have es66_3 : s66 95 3 = s0 95 3 := (Gs66 95 3 rfl).trans es9_3
        have es66_4 : s66 96 0 = s0 96 0 := (Gs66 96 0 rfl).trans es9_4
        have es66_5 : s66 96 1 = s0 96 1 := (Gs66 96 1 rfl).trans es9_5
        have es66_6 : s66 96 2 = s0 96 2 := (Gs66 96 2 rfl).trans es9_6
        have es66_7 : s66 96 3 = s0 96 3 := (Gs66 96 3 rfl).trans es9_7
        have es66_8 : s66 111 0 = s0 111 0 := (Gs66 111 0 rfl).trans es9_8
        have es66_9 : s66 111 1 = s0 111 1 := (Gs66 111 1 rfl).trans es9_9
        have es66_10 : s66 111 2 = s0 111 2 := (Gs66 111 2 rfl).trans es9_10
        have es66_11 : s66 111 3 = s0 111 3 := (Gs66 111 3 rfl).trans es9_11
        have es66_12 : s66 112 0 = s0 112 0 := (Gs66 112 0 rfl).trans es9_12
        have es66_13 : s66 112 1 = s0 112 1 := (Gs66 112 1 rfl).trans es9_13
        have es66_14 : s66 112 2 = s0 112 2 := (Gs66 112 2 rfl).trans es9_14
        have es66_15 : s66 112 3 = s0 112 3 := (Gs66 112 3 rfl).trans es9_15
        rcases pcs66 with pcs66 | pcs66 | pcs66
        · refine h_ceq (tg := 1441) (pc' := 1350) rfl rfl rfl hr8 hr65 (fun c67 => absurd c67 (by omega)) (fun c67 => ?_)
          refine h_iconst (pc' := 1351) (x := (Int32.ofInt 0)) rfl rfl rfl ?_
          exfalso
          unfold h_js at j0 j1 j2 j3
          omega
        · refine h_ceq (tg := 1441) (pc' := 1350) rfl rfl rfl hr8 hr65 (fun c68 => ?_) (fun c68 => absurd c68 (by omega))
          exact kk _ Is66 (by first | exact h_jf j0 (by omega) (by omega) (by omega) | exact Or.inr ⟨by omega, by omega, by omega⟩) (by first | exact h_jf j1 (by omega) (by omega) (by omega) | exact Or.inr ⟨by omega, by omega, by omega⟩) (by first | exact h_jf j2 (by omega) (by omega) (by omega) | exact Or.inr ⟨by omega, by omega, by omega⟩) (by first | exact h_jf j3 (by omega) (by omega) (by omega) | exact Or.inr ⟨by omega, by omega, by omega⟩)
        · refine h_ceq (tg := 1441) (pc' := 1350) rfl rfl rfl hr8 hr65 (fun c69 => absurd c69 (by omega)) (fun c69 => ?_)
          refine h_iconst (pc' := 1351) (x := (Int32.ofInt 0)) rfl rfl rfl ?_
          exfalso
          unfold h_js at j0 j1 j2 j3
          omega
      · refine h_call (sp := false) (pc' := 1347) (M := [(0, .ref 98), (1, .int z44), (2, .int z46), (3, .int z48)]) rfl rfl rfl rfl rfl rfl rfl rfl ?_
        refine u_layMn _ Is9 z44 _ hz44 (by omega) z46 _ hz46 z48 _ hz48 (fun r70 br70 hr70 s71 Is71 Gs71 tr70 pcs71 => h_Kv ?_)
        have Zs71 : ∀ i, s71 0 i = s0 0 i := fun i => (Gs71 0 i rfl).trans (Zs9 i)
        have es71_0 : s71 95 0 = s0 95 0 := (Gs71 95 0 rfl).trans es9_0
        have es71_1 : s71 95 1 = s0 95 1 := (Gs71 95 1 rfl).trans es9_1
        have es71_2 : s71 95 2 = s0 95 2 := (Gs71 95 2 rfl).trans es9_2
        have es71_3 : s71 95 3 = s0 95 3 := (Gs71 95 3 rfl).trans es9_3
        have es71_4 : s71 96 0 = s0 96 0 := (Gs71 96 0 rfl).trans es9_4
        have es71_5 : s71 96 1 = s0 96 1 := (Gs71 96 1 rfl).trans es9_5
        have es71_6 : s71 96 2 = s0 96 2 := (Gs71 96 2 rfl).trans es9_6
        have es71_7 : s71 96 3 = s0 96 3 := (Gs71 96 3 rfl).trans es9_7
        have es71_8 : s71 111 0 = s0 111 0 := (Gs71 111 0 rfl).trans es9_8
        have es71_9 : s71 111 1 = s0 111 1 := (Gs71 111 1 rfl).trans es9_9
        have es71_10 : s71 111 2 = s0 111 2 := (Gs71 111 2 rfl).trans es9_10
        have es71_11 : s71 111 3 = s0 111 3 := (Gs71 111 3 rfl).trans es9_11
        have es71_12 : s71 112 0 = s0 112 0 := (Gs71 112 0 rfl).trans es9_12
        have es71_13 : s71 112 1 = s0 112 1 := (Gs71 112 1 rfl).trans es9_13
        have es71_14 : s71 112 2 = s0 112 2 := (Gs71 112 2 rfl).trans es9_14
        have es71_15 : s71 112 3 = s0 112 3 := (Gs71 112 3 rfl).trans es9_15
        rcases pcs71 with pcs71
        · refine h_ceq (tg := 1441) (pc' := 1350) rfl rfl rfl hr8 hr70 (fun c72 => absurd c72 (by omega)) (fun c72 => ?_)
          refine h_iconst (pc' := 1351) (x := (Int32.ofInt 0)) rfl rfl rfl ?_
          exfalso
          unfold h_js at j0 j1 j2 j3
          omega
      · refine h_call (sp := false) (pc' := 1347) (M := [(0, .ref 98), (1, .int z44), (2, .int z46), (3, .int z48)]) rfl rfl rfl rfl rfl rfl rfl rfl ?_
        refine u_layMp _ Is9 z44 _ hz44 (by omega) z46 _ hz46 z48 _ hz48 (fun r73 br73 hr73 s74 Is74 Gs74 tr73 pcs74 => h_Kv ?_)
        have Zs74 : ∀ i, s74 0 i = s0 0 i := fun i => (Gs74 0 i rfl).trans (Zs9 i)
        have es74_0 : s74 95 0 = s0 95 0 := (Gs74 95 0 rfl).trans es9_0
        have es74_1 : s74 95 1 = s0 95 1 := (Gs74 95 1 rfl).trans es9_1
        have es74_2 : s74 95 2 = s0 95 2 := (Gs74 95 2 rfl).trans es9_2
        have es74_3 : s74 95 3 = s0 95 3 := (Gs74 95 3 rfl).trans es9_3
        have es74_4 : s74 96 0 = s0 96 0 := (Gs74 96 0 rfl).trans es9_4
        have es74_5 : s74 96 1 = s0 96 1 := (Gs74 96 1 rfl).trans es9_5
        have es74_6 : s74 96 2 = s0 96 2 := (Gs74 96 2 rfl).trans es9_6
        have es74_7 : s74 96 3 = s0 96 3 := (Gs74 96 3 rfl).trans es9_7
        have es74_8 : s74 111 0 = s0 111 0 := (Gs74 111 0 rfl).trans es9_8
        have es74_9 : s74 111 1 = s0 111 1 := (Gs74 111 1 rfl).trans es9_9
        have es74_10 : s74 111 2 = s0 111 2 := (Gs74 111 2 rfl).trans es9_10
        have es74_11 : s74 111 3 = s0 111 3 := (Gs74 111 3 rfl).trans es9_11
        have es74_12 : s74 112 0 = s0 112 0 := (Gs74 112 0 rfl).trans es9_12
        have es74_13 : s74 112 1 = s0 112 1 := (Gs74 112 1 rfl).trans es9_13
        have es74_14 : s74 112 2 = s0 112 2 := (Gs74 112 2 rfl).trans es9_14
        have es74_15 : s74 112 3 = s0 112 3 := (Gs74 112 3 rfl).trans es9_15
        rcases pcs74 with pcs74
        · refine h_ceq (tg := 1441) (pc' := 1350) rfl rfl rfl hr8 hr73 (fun c75 => absurd c75 (by omega)) (fun c75 => ?_)
          refine h_iconst (pc' := 1351) (x := (Int32.ofInt 0)) rfl rfl rfl ?_
          exfalso
          unfold h_js at j0 j1 j2 j3
          omega
    · refine h_aload_n (pc' := 1329) rfl rfl rfl ?_
      refine h_aload_n (pc' := 1330) rfl rfl rfl ?_
      refine h_iload_n (pc' := 1331) rfl rfl rfl ?_
      refine h_iconst (pc' := 1332) (x := (Int32.ofInt 1)) rfl rfl rfl ?_
      refine h_iadd (pc' := 1333) rfl rfl hy3 ci_1 rfl (by omega) (by omega) (fun z76 hz76 => ?_)
      refine h_iald (pc' := 1334) (v := s0 0 (b3 + 1)) rfl rfl rfl hz76 (by omega) (by omega) (Zs9 _) (fun z77 hz77 => ?_)
      have tz77 := h_rgv hz77
      refine h_aload_n (pc' := 1335) rfl rfl rfl ?_
      refine h_iload_n (pc' := 1336) rfl rfl rfl ?_
      refine h_iconst (pc' := 1337) (x := (Int32.ofInt 2)) rfl rfl rfl ?_
      refine h_iadd (pc' := 1338) rfl rfl hy3 ci_2 rfl (by omega) (by omega) (fun z78 hz78 => ?_)
      refine h_iald (pc' := 1339) (v := s0 0 (b3 + 2)) rfl rfl rfl hz78 (by omega) (by omega) (Zs9 _) (fun z79 hz79 => ?_)
      have tz79 := h_rgv hz79
      refine h_aload_n (pc' := 1340) rfl rfl rfl ?_
      refine h_iload_n (pc' := 1341) rfl rfl rfl ?_
      refine h_iconst (pc' := 1342) (x := (Int32.ofInt 3)) rfl rfl rfl ?_
      refine h_iadd (pc' := 1343) rfl rfl hy3 ci_3 rfl (by omega) (by omega) (fun z80 hz80 => ?_)
      refine h_iald (pc' := 1344) (v := s0 0 (b3 + 3)) rfl rfl rfl hz80 (by omega) (by omega) (Zs9 _) (fun z81 hz81 => ?_)
      have tz81 := h_rgv hz81
      rcases (show ((s0 0 (b3 + 1)) = 0) ∨ ((s0 0 (b3 + 1)) = 1) ∨ ((s0 0 (b3 + 1)) = 2) ∨ ((s0 0 (b3 + 1)) = 3) ∨ ((s0 0 (b3 + 1)) ≤ (-1)) ∨ (4 ≤ (s0 0 (b3 + 1))) by omega) with c82 | c82 | c82 | c82 | c82 | c82
      · have qz77 : z77 = (Int32.ofInt 0) := h_lit (show z77.toInt = 0 by omega) ci_0
        subst qz77
        refine h_call (sp := false) (pc' := 1347) (M := [(0, .ref 98), (1, .int (Int32.ofInt 0)), (2, .int z79), (3, .int z81)]) rfl rfl rfl rfl rfl rfl rfl rfl ?_
        refine u_layM0 _ Is9  z79 _ hz79 z81 _ hz81 (fun r83 br83 hr83 s84 Is84 Gs84 tr83 pcs84 => h_Kv ?_)
        have Zs84 : ∀ i, s84 0 i = s0 0 i := fun i => (Gs84 0 i rfl).trans (Zs9 i)
        have es84_0 : s84 95 0 = s0 95 0 := (Gs84 95 0 rfl).trans es9_0
        have es84_1 : s84 95 1 = s0 95 1 := (Gs84 95 1 rfl).trans es9_1
        have es84_2 : s84 95 2 = s0 95 2 := (Gs84 95 2 rfl).trans es9_2
        have es84_3 : s84 95 3 = s0 95 3 := (Gs84 95 3 rfl).trans es9_3
        have es84_4 : s84 96 0 = s0 96 0 := (Gs84 96 0 rfl).trans es9_4
        have es84_5 : s84 96 1 = s0 96 1 := (Gs84 96 1 rfl).trans es9_5
        have es84_6 : s84 96 2 = s0 96 2 := (Gs84 96 2 rfl).trans es9_6
        have es84_7 : s84 96 3 = s0 96 3 := (Gs84 96 3 rfl).trans es9_7
        have es84_8 : s84 111 0 = s0 111 0 := (Gs84 111 0 rfl).trans es9_8
        have es84_9 : s84 111 1 = s0 111 1 := (Gs84 111 1 rfl).trans es9_9
        have es84_10 : s84 111 2 = s0 111 2 := (Gs84 111 2 rfl).trans es9_10
        have es84_11 : s84 111 3 = s0 111 3 := (Gs84 111 3 rfl).trans es9_11
        have es84_12 : s84 112 0 = s0 112 0 := (Gs84 112 0 rfl).trans es9_12
        have es84_13 : s84 112 1 = s0 112 1 := (Gs84 112 1 rfl).trans es9_13
        have es84_14 : s84 112 2 = s0 112 2 := (Gs84 112 2 rfl).trans es9_14
        have es84_15 : s84 112 3 = s0 112 3 := (Gs84 112 3 rfl).trans es9_15
        rcases pcs84 with pcs84 | pcs84 | pcs84
        · refine h_ceq (tg := 1441) (pc' := 1350) rfl rfl rfl hr8 hr83 (fun c85 => absurd c85 (by omega)) (fun c85 => ?_)
          refine h_iconst (pc' := 1351) (x := (Int32.ofInt 0)) rfl rfl rfl ?_
          exfalso
          unfold h_js at j0 j1 j2 j3
          omega
        · refine h_ceq (tg := 1441) (pc' := 1350) rfl rfl rfl hr8 hr83 (fun c86 => absurd c86 (by omega)) (fun c86 => ?_)
          refine h_iconst (pc' := 1351) (x := (Int32.ofInt 0)) rfl rfl rfl ?_
          exfalso
          unfold h_js at j0 j1 j2 j3
          omega
        · refine h_ceq (tg := 1441) (pc' := 1350) rfl rfl rfl hr8 hr83 (fun c87 => ?_) (fun c87 => absurd c87 (by omega))
          exact kk _ Is84 (by first | exact h_jf j0 (by omega) (by omega) (by omega) | exact Or.inr ⟨by omega, by omega, by omega⟩) (by first | exact h_jf j1 (by omega) (by omega) (by omega) | exact Or.inr ⟨by omega, by omega, by omega⟩) (by first | exact h_jf j2 (by omega) (by omega) (by omega) | exact Or.inr ⟨by omega, by omega, by omega⟩) (by first | exact h_jf j3 (by omega) (by omega) (by omega) | exact Or.inr ⟨by omega, by omega, by omega⟩)
      · have qz77 : z77 = (Int32.ofInt 1) := h_lit (show z77.toInt = 1 by omega) ci_1
        subst qz77
        refine h_call (sp := false) (pc' := 1347) (M := [(0, .ref 98), (1, .int (Int32.ofInt 1)), (2, .int z79), (3, .int z81)]) rfl rfl rfl rfl rfl rfl rfl rfl ?_
        refine u_layM1 _ Is9  z79 _ hz79 z81 _ hz81 (fun r88 br88 hr88 s89 Is89 Gs89 tr88 pcs89 => h_Kv ?_)
        have Zs89 : ∀ i, s89 0 i = s0 0 i := fun i => (Gs89 0 i rfl).trans (Zs9 i)
        have es89_0 : s89 95 0 = s0 95 0 := (Gs89 95 0 rfl).trans es9_0
        have es89_1 : s89 95 1 = s0 95 1 := (Gs89 95 1 rfl).trans es9_1
        have es89_2 : s89 95 2 = s0 95 2 := (Gs89 95 2 rfl).trans es9_2
        have es89_3 : s89 95 3 = s0 95 3 := (Gs89 95 3 rfl).trans es9_3
        have es89_4 : s89 96 0 = s0 96 0 := (Gs89 96 0 rfl).trans es9_4
        have es89_5 : s89 96 1 = s0 96 1 := (Gs89 96 1 rfl).trans es9_5
        have es89_6 : s89 96 2 = s0 96 2 := (Gs89 96 2 rfl).trans es9_6
        have es89_7 : s89 96 3 = s0 96 3 := (Gs89 96 3 rfl).trans es9_7
        have es89_8 : s89 111 0 = s0 111 0 := (Gs89 111 0 rfl).trans es9_8
        have es89_9 : s89 111 1 = s0 111 1 := (Gs89 111 1 rfl).trans es9_9
        have es89_10 : s89 111 2 = s0 111 2 := (Gs89 111 2 rfl).trans es9_10
        have es89_11 : s89 111 3 = s0 111 3 := (Gs89 111 3 rfl).trans es9_11
        have es89_12 : s89 112 0 = s0 112 0 := (Gs89 112 0 rfl).trans es9_12
        have es89_13 : s89 112 1 = s0 112 1 := (Gs89 112 1 rfl).trans es9_13
        have es89_14 : s89 112 2 = s0 112 2 := (Gs89 112 2 rfl).trans es9_14
        have es89_15 : s89 112 3 = s0 112 3 := (Gs89 112 3 rfl).trans es9_15
        rcases pcs89 with pcs89 | pcs89 | pcs89
        · refine h_ceq (tg := 1441) (pc' := 1350) rfl rfl rfl hr8 hr88 (fun c90 => absurd c90 (by omega)) (fun c90 => ?_)
          refine h_iconst (pc' := 1351) (x := (Int32.ofInt 0)) rfl rfl rfl ?_
          exfalso
          unfold h_js at j0 j1 j2 j3
          omega
        · refine h_ceq (tg := 1441) (pc' := 1350) rfl rfl rfl hr8 hr88 (fun c91 => absurd c91 (by omega)) (fun c91 => ?_)
          refine h_iconst (pc' := 1351) (x := (Int32.ofInt 0)) rfl rfl rfl ?_
          exfalso
          unfold h_js at j0 j1 j2 j3
          omega
        · refine h_ceq (tg := 1441) (pc' := 1350) rfl rfl rfl hr8 hr88 (fun c92 => ?_) (fun c92 => absurd c92 (by omega))
          exact kk _ Is89 (by first | exact h_jf j0 (by omega) (by omega) (by omega) | exact Or.inr ⟨by omega, by omega, by omega⟩) (by first | exact h_jf j1 (by omega) (by omega) (by omega) | exact Or.inr ⟨by omega, by omega, by omega⟩) (by first | exact h_jf j2 (by omega) (by omega) (by omega) | exact Or.inr ⟨by omega, by omega, by omega⟩) (by first | exact h_jf j3 (by omega) (by omega) (by omega) | exact Or.inr ⟨by omega, by omega, by omega⟩)
      · have qz77 : z77 = (Int32.ofInt 2) := h_lit (show z77.toInt = 2 by omega) ci_2
        subst qz77
        refine h_call (sp := false) (pc' := 1347) (M := [(0, .ref 98), (1, .int (Int32.ofInt 2)), (2, .int z79), (3, .int z81)]) rfl rfl rfl rfl rfl rfl rfl rfl ?_
        refine u_layM2 _ Is9  z79 _ hz79 z81 _ hz81 (fun r93 br93 hr93 s94 Is94 Gs94 tr93 pcs94 => h_Kv ?_)
        have Zs94 : ∀ i, s94 0 i = s0 0 i := fun i => (Gs94 0 i rfl).trans (Zs9 i)
        have es94_0 : s94 95 0 = s0 95 0 := (Gs94 95 0 rfl).trans es9_0
        have es94_1 : s94 95 1 = s0 95 1 := (Gs94 95 1 rfl).trans es9_1
        have es94_2 : s94 95 2 = s0 95 2 := (Gs94 95 2 rfl).trans es9_2
        have es94_3 : s94 95 3 = s0 95 3 := (Gs94 95 3 rfl).trans es9_3
        have es94_4 : s94 96 0 = s0 96 0 := (Gs94 96 0 rfl).trans es9_4
        have es94_5 : s94 96 1 = s0 96 1 := (Gs94 96 1 rfl).trans es9_5
        have es94_6 : s94 96 2 = s0 96 2 := (Gs94 96 2 rfl).trans es9_6
        have es94_7 : s94 96 3 = s0 96 3 := (Gs94 96 3 rfl).trans es9_7
        have es94_8 : s94 111 0 = s0 111 0 := (Gs94 111 0 rfl).trans es9_8
        have es94_9 : s94 111 1 = s0 111 1 := (Gs94 111 1 rfl).trans es9_9
        have es94_10 : s94 111 2 = s0 111 2 := (Gs94 111 2 rfl).trans es9_10
        have es94_11 : s94 111 3 = s0 111 3 := (Gs94 111 3 rfl).trans es9_11
        have es94_12 : s94 112 0 = s0 112 0 := (Gs94 112 0 rfl).trans es9_12
        have es94_13 : s94 112 1 = s0 112 1 := (Gs94 112 1 rfl).trans es9_13
        have es94_14 : s94 112 2 = s0 112 2 := (Gs94 112 2 rfl).trans es9_14
        have es94_15 : s94 112 3 = s0 112 3 := (Gs94 112 3 rfl).trans es9_15
        rcases pcs94 with pcs94 | pcs94 | pcs94
        · refine h_ceq (tg := 1441) (pc' := 1350) rfl rfl rfl hr8 hr93 (fun c95 => absurd c95 (by omega)) (fun c95 => ?_)
          refine h_iconst (pc' := 1351) (x := (Int32.ofInt 0)) rfl rfl rfl ?_
          exfalso
          unfold h_js at j0 j1 j2 j3
          omega
        · refine h_ceq (tg := 1441) (pc' := 1350) rfl rfl rfl hr8 hr93 (fun c96 => absurd c96 (by omega)) (fun c96 => ?_)
          refine h_iconst (pc' := 1351) (x := (Int32.ofInt 0)) rfl rfl rfl ?_
          exfalso
          unfold h_js at j0 j1 j2 j3
          omega
        · refine h_ceq (tg := 1441) (pc' := 1350) rfl rfl rfl hr8 hr93 (fun c97 => ?_) (fun c97 => absurd c97 (by omega))
          exact kk _ Is94 (by first | exact h_jf j0 (by omega) (by omega) (by omega) | exact Or.inr ⟨by omega, by omega, by omega⟩) (by first | exact h_jf j1 (by omega) (by omega) (by omega) | exact Or.inr ⟨by omega, by omega, by omega⟩) (by first | exact h_jf j2 (by omega) (by omega) (by omega) | exact Or.inr ⟨by omega, by omega, by omega⟩) (by first | exact h_jf j3 (by omega) (by omega) (by omega) | exact Or.inr ⟨by omega, by omega, by omega⟩)
      · have qz77 : z77 = (Int32.ofInt 3) := h_lit (show z77.toInt = 3 by omega) ci_3
        subst qz77
        refine h_call (sp := false) (pc' := 1347) (M := [(0, .ref 98), (1, .int (Int32.ofInt 3)), (2, .int z79), (3, .int z81)]) rfl rfl rfl rfl rfl rfl rfl rfl ?_
        refine u_layM3 _ Is9  z79 _ hz79 z81 _ hz81 (fun r98 br98 hr98 s99 Is99 Gs99 tr98 pcs99 => h_Kv ?_)
        have Zs99 : ∀ i, s99 0 i = s0 0 i := fun i => (Gs99 0 i rfl).trans (Zs9 i)
        have es99_0 : s99 95 0 = s0 95 0 := (Gs99 95 0 rfl).trans es9_0
        have es99_1 : s99 95 1 = s0 95 1 := (Gs99 95 1 rfl).trans es9_1
        have es99_2 : s99 95 2 = s0 95 2 := (Gs99 95 2 rfl).trans es9_2
        have es99_3 : s99 95 3 = s0 95 3 := (Gs99 95 3 rfl).trans es9_3
        have es99_4 : s99 96 0 = s0 96 0 := (Gs99 96 0 rfl).trans es9_4
        have es99_5 : s99 96 1 = s0 96 1 := (Gs99 96 1 rfl).trans es9_5
        have es99_6 : s99 96 2 = s0 96 2 := (Gs99 96 2 rfl).trans es9_6
        have es99_7 : s99 96 3 = s0 96 3 := (Gs99 96 3 rfl).trans es9_7
        have es99_8 : s99 111 0 = s0 111 0 := (Gs99 111 0 rfl).trans es9_8
        have es99_9 : s99 111 1 = s0 111 1 := (Gs99 111 1 rfl).trans es9_9
        have es99_10 : s99 111 2 = s0 111 2 := (Gs99 111 2 rfl).trans es9_10
        have es99_11 : s99 111 3 = s0 111 3 := (Gs99 111 3 rfl).trans es9_11
        have es99_12 : s99 112 0 = s0 112 0 := (Gs99 112 0 rfl).trans es9_12
        have es99_13 : s99 112 1 = s0 112 1 := (Gs99 112 1 rfl).trans es9_13
        have es99_14 : s99 112 2 = s0 112 2 := (Gs99 112 2 rfl).trans es9_14
        have es99_15 : s99 112 3 = s0 112 3 := (Gs99 112 3 rfl).trans es9_15
        rcases pcs99 with pcs99 | pcs99 | pcs99
        · refine h_ceq (tg := 1441) (pc' := 1350) rfl rfl rfl hr8 hr98 (fun c100 => absurd c100 (by omega)) (fun c100 => ?_)
          refine h_iconst (pc' := 1351) (x := (Int32.ofInt 0)) rfl rfl rfl ?_
          exfalso
          unfold h_js at j0 j1 j2 j3
          omega
        · refine h_ceq (tg := 1441) (pc' := 1350) rfl rfl rfl hr8 hr98 (fun c101 => absurd c101 (by omega)) (fun c101 => ?_)
          refine h_iconst (pc' := 1351) (x := (Int32.ofInt 0)) rfl rfl rfl ?_
          exfalso
          unfold h_js at j0 j1 j2 j3
          omega
        · refine h_ceq (tg := 1441) (pc' := 1350) rfl rfl rfl hr8 hr98 (fun c102 => ?_) (fun c102 => absurd c102 (by omega))
          exact kk _ Is99 (by first | exact h_jf j0 (by omega) (by omega) (by omega) | exact Or.inr ⟨by omega, by omega, by omega⟩) (by first | exact h_jf j1 (by omega) (by omega) (by omega) | exact Or.inr ⟨by omega, by omega, by omega⟩) (by first | exact h_jf j2 (by omega) (by omega) (by omega) | exact Or.inr ⟨by omega, by omega, by omega⟩) (by first | exact h_jf j3 (by omega) (by omega) (by omega) | exact Or.inr ⟨by omega, by omega, by omega⟩)
      · refine h_call (sp := false) (pc' := 1347) (M := [(0, .ref 98), (1, .int z77), (2, .int z79), (3, .int z81)]) rfl rfl rfl rfl rfl rfl rfl rfl ?_
        refine u_layMn _ Is9 z77 _ hz77 (by omega) z79 _ hz79 z81 _ hz81 (fun r103 br103 hr103 s104 Is104 Gs104 tr103 pcs104 => h_Kv ?_)
        have Zs104 : ∀ i, s104 0 i = s0 0 i := fun i => (Gs104 0 i rfl).trans (Zs9 i)
        have es104_0 : s104 95 0 = s0 95 0 := (Gs104 95 0 rfl).trans es9_0
        have es104_1 : s104 95 1 = s0 95 1 := (Gs104 95 1 rfl).trans es9_1
        have es104_2 : s104 95 2 = s0 95 2 := (Gs104 95 2 rfl).trans es9_2
        have es104_3 : s104 95 3 = s0 95 3 := (Gs104 95 3 rfl).trans es9_3
        have es104_4 : s104 96 0 = s0 96 0 := (Gs104 96 0 rfl).trans es9_4
        have es104_5 : s104 96 1 = s0 96 1 := (Gs104 96 1 rfl).trans es9_5
        have es104_6 : s104 96 2 = s0 96 2 := (Gs104 96 2 rfl).trans es9_6
        have es104_7 : s104 96 3 = s0 96 3 := (Gs104 96 3 rfl).trans es9_7
        have es104_8 : s104 111 0 = s0 111 0 := (Gs104 111 0 rfl).trans es9_8
        have es104_9 : s104 111 1 = s0 111 1 := (Gs104 111 1 rfl).trans es9_9
        have es104_10 : s104 111 2 = s0 111 2 := (Gs104 111 2 rfl).trans es9_10
        have es104_11 : s104 111 3 = s0 111 3 := (Gs104 111 3 rfl).trans es9_11
        have es104_12 : s104 112 0 = s0 112 0 := (Gs104 112 0 rfl).trans es9_12
        have es104_13 : s104 112 1 = s0 112 1 := (Gs104 112 1 rfl).trans es9_13
        have es104_14 : s104 112 2 = s0 112 2 := (Gs104 112 2 rfl).trans es9_14
        have es104_15 : s104 112 3 = s0 112 3 := (Gs104 112 3 rfl).trans es9_15
        rcases pcs104 with pcs104
        · refine h_ceq (tg := 1441) (pc' := 1350) rfl rfl rfl hr8 hr103 (fun c105 => absurd c105 (by omega)) (fun c105 => ?_)
          refine h_iconst (pc' := 1351) (x := (Int32.ofInt 0)) rfl rfl rfl ?_
          exfalso
          unfold h_js at j0 j1 j2 j3
          omega
      · refine h_call (sp := false) (pc' := 1347) (M := [(0, .ref 98), (1, .int z77), (2, .int z79), (3, .int z81)]) rfl rfl rfl rfl rfl rfl rfl rfl ?_
        refine u_layMp _ Is9 z77 _ hz77 (by omega) z79 _ hz79 z81 _ hz81 (fun r106 br106 hr106 s107 Is107 Gs107 tr106 pcs107 => h_Kv ?_)
        have Zs107 : ∀ i, s107 0 i = s0 0 i := fun i => (Gs107 0 i rfl).trans (Zs9 i)
        have es107_0 : s107 95 0 = s0 95 0 := (Gs107 95 0 rfl).trans es9_0
        have es107_1 : s107 95 1 = s0 95 1 := (Gs107 95 1 rfl).trans es9_1
        have es107_2 : s107 95 2 = s0 95 2 := (Gs107 95 2 rfl).trans es9_2
        have es107_3 : s107 95 3 = s0 95 3 := (Gs107 95 3 rfl).trans es9_3
        have es107_4 : s107 96 0 = s0 96 0 := (Gs107 96 0 rfl).trans es9_4
        have es107_5 : s107 96 1 = s0 96 1 := (Gs107 96 1 rfl).trans es9_5
        have es107_6 : s107 96 2 = s0 96 2 := (Gs107 96 2 rfl).trans es9_6
        have es107_7 : s107 96 3 = s0 96 3 := (Gs107 96 3 rfl).trans es9_7
        have es107_8 : s107 111 0 = s0 111 0 := (Gs107 111 0 rfl).trans es9_8
        have es107_9 : s107 111 1 = s0 111 1 := (Gs107 111 1 rfl).trans es9_9
        have es107_10 : s107 111 2 = s0 111 2 := (Gs107 111 2 rfl).trans es9_10
        have es107_11 : s107 111 3 = s0 111 3 := (Gs107 111 3 rfl).trans es9_11
        have es107_12 : s107 112 0 = s0 112 0 := (Gs107 112 0 rfl).trans es9_12
        have es107_13 : s107 112 1 = s0 112 1 := (Gs107 112 1 rfl).trans es9_13
        have es107_14 : s107 112 2 = s0 112 2 := (Gs107 112 2 rfl).trans es9_14
        have es107_15 : s107 112 3 = s0 112 3 := (Gs107 112 3 rfl).trans es9_15
        rcases pcs107 with pcs107
        · refine h_ceq (tg := 1441) (pc' := 1350) rfl rfl rfl hr8 hr106 (fun c108 => absurd c108 (by omega)) (fun c108 => ?_)
          refine h_iconst (pc' := 1351) (x := (Int32.ofInt 0)) rfl rfl rfl ?_
          exfalso
          unfold h_js at j0 j1 j2 j3
          omega
  · have qz2 : z2 = (Int32.ofInt 1) := h_lit (show z2.toInt = 1 by omega) ci_1
    subst qz2
    refine h_call (sp := false) (pc' := 1328) (M := [(0, .ref 9), (1, .int (Int32.ofInt 1)), (2, .int z4), (3, .int z6)]) rfl rfl rfl rfl rfl rfl rfl rfl ?_
    refine u_layX1 _ I0  z4 _ hz4 z6 _ hz6 (fun r109 br109 hr109 s110 Is110 Gs110 tr109 pcs110 => h_Kv ?_)
    have Zs110 : ∀ i, s110 0 i = s0 0 i := fun i => (Gs110 0 i rfl).trans rfl
    have es110_0 : s110 95 0 = s0 95 0 := (Gs110 95 0 rfl).trans rfl
    have es110_1 : s110 95 1 = s0 95 1 := (Gs110 95 1 rfl).trans rfl
    have es110_2 : s110 95 2 = s0 95 2 := (Gs110 95 2 rfl).trans rfl
    have es110_3 : s110 95 3 = s0 95 3 := (Gs110 95 3 rfl).trans rfl
    have es110_4 : s110 96 0 = s0 96 0 := (Gs110 96 0 rfl).trans rfl
    have es110_5 : s110 96 1 = s0 96 1 := (Gs110 96 1 rfl).trans rfl
    have es110_6 : s110 96 2 = s0 96 2 := (Gs110 96 2 rfl).trans rfl
    have es110_7 : s110 96 3 = s0 96 3 := (Gs110 96 3 rfl).trans rfl
    have es110_8 : s110 111 0 = s0 111 0 := (Gs110 111 0 rfl).trans rfl
    have es110_9 : s110 111 1 = s0 111 1 := (Gs110 111 1 rfl).trans rfl
    have es110_10 : s110 111 2 = s0 111 2 := (Gs110 111 2 rfl).trans rfl
    have es110_11 : s110 111 3 = s0 111 3 := (Gs110 111 3 rfl).trans rfl
    have es110_12 : s110 112 0 = s0 112 0 := (Gs110 112 0 rfl).trans rfl
    have es110_13 : s110 112 1 = s0 112 1 := (Gs110 112 1 rfl).trans rfl
    have es110_14 : s110 112 2 = s0 112 2 := (Gs110 112 2 rfl).trans rfl
    have es110_15 : s110 112 3 = s0 112 3 := (Gs110 112 3 rfl).trans rfl
    rcases pcs110 with pcs110 | pcs110 | pcs110
    · refine h_aload_n (pc' := 1329) rfl rfl rfl ?_
      refine h_aload_n (pc' := 1330) rfl rfl rfl ?_
      refine h_iload_n (pc' := 1331) rfl rfl rfl ?_
      refine h_iconst (pc' := 1332) (x := (Int32.ofInt 1)) rfl rfl rfl ?_
      refine h_iadd (pc' := 1333) rfl rfl hy3 ci_1 rfl (by omega) (by omega) (fun z111 hz111 => ?_)
      refine h_iald (pc' := 1334) (v := s0 0 (b3 + 1)) rfl rfl rfl hz111 (by omega) (by omega) (Zs110 _) (fun z112 hz112 => ?_)
      have tz112 := h_rgv hz112
      refine h_aload_n (pc' := 1335) rfl rfl rfl ?_
      refine h_iload_n (pc' := 1336) rfl rfl rfl ?_
      refine h_iconst (pc' := 1337) (x := (Int32.ofInt 2)) rfl rfl rfl ?_
      refine h_iadd (pc' := 1338) rfl rfl hy3 ci_2 rfl (by omega) (by omega) (fun z113 hz113 => ?_)
      refine h_iald (pc' := 1339) (v := s0 0 (b3 + 2)) rfl rfl rfl hz113 (by omega) (by omega) (Zs110 _) (fun z114 hz114 => ?_)
      have tz114 := h_rgv hz114
      refine h_aload_n (pc' := 1340) rfl rfl rfl ?_
      refine h_iload_n (pc' := 1341) rfl rfl rfl ?_
      refine h_iconst (pc' := 1342) (x := (Int32.ofInt 3)) rfl rfl rfl ?_
      refine h_iadd (pc' := 1343) rfl rfl hy3 ci_3 rfl (by omega) (by omega) (fun z115 hz115 => ?_)
      refine h_iald (pc' := 1344) (v := s0 0 (b3 + 3)) rfl rfl rfl hz115 (by omega) (by omega) (Zs110 _) (fun z116 hz116 => ?_)
      have tz116 := h_rgv hz116
      rcases (show ((s0 0 (b3 + 1)) = 0) ∨ ((s0 0 (b3 + 1)) = 1) ∨ ((s0 0 (b3 + 1)) = 2) ∨ ((s0 0 (b3 + 1)) = 3) ∨ ((s0 0 (b3 + 1)) ≤ (-1)) ∨ (4 ≤ (s0 0 (b3 + 1))) by omega) with c117 | c117 | c117 | c117 | c117 | c117
      · have qz112 : z112 = (Int32.ofInt 0) := h_lit (show z112.toInt = 0 by omega) ci_0
        subst qz112
        refine h_call (sp := false) (pc' := 1347) (M := [(0, .ref 98), (1, .int (Int32.ofInt 0)), (2, .int z114), (3, .int z116)]) rfl rfl rfl rfl rfl rfl rfl rfl ?_
        refine u_layM0 _ Is110  z114 _ hz114 z116 _ hz116 (fun r118 br118 hr118 s119 Is119 Gs119 tr118 pcs119 => h_Kv ?_)
        have Zs119 : ∀ i, s119 0 i = s0 0 i := fun i => (Gs119 0 i rfl).trans (Zs110 i)
        have es119_0 : s119 95 0 = s0 95 0 := (Gs119 95 0 rfl).trans es110_0
        have es119_1 : s119 95 1 = s0 95 1 := (Gs119 95 1 rfl).trans es110_1
        have es119_2 : s119 95 2 = s0 95 2 := (Gs119 95 2 rfl).trans es110_2
        have es119_3 : s119 95 3 = s0 95 3 := (Gs119 95 3 rfl).trans es110_3
        have es119_4 : s119 96 0 = s0 96 0 := (Gs119 96 0 rfl).trans es110_4
        have es119_5 : s119 96 1 = s0 96 1 := (Gs119 96 1 rfl).trans es110_5
        have es119_6 : s119 96 2 = s0 96 2 := (Gs119 96 2 rfl).trans es110_6
        have es119_7 : s119 96 3 = s0 96 3 := (Gs119 96 3 rfl).trans es110_7
        have es119_8 : s119 111 0 = s0 111 0 := (Gs119 111 0 rfl).trans es110_8
        have es119_9 : s119 111 1 = s0 111 1 := (Gs119 111 1 rfl).trans es110_9
        have es119_10 : s119 111 2 = s0 111 2 := (Gs119 111 2 rfl).trans es110_10
        have es119_11 : s119 111 3 = s0 111 3 := (Gs119 111 3 rfl).trans es110_11
        have es119_12 : s119 112 0 = s0 112 0 := (Gs119 112 0 rfl).trans es110_12
        have es119_13 : s119 112 1 = s0 112 1 := (Gs119 112 1 rfl).trans es110_13
        have es119_14 : s119 112 2 = s0 112 2 := (Gs119 112 2 rfl).trans es110_14
        have es119_15 : s119 112 3 = s0 112 3 := (Gs119 112 3 rfl).trans es110_15
        rcases pcs119 with pcs119 | pcs119 | pcs119
        · refine h_ceq (tg := 1441) (pc' := 1350) rfl rfl rfl hr109 hr118 (fun c120 => ?_) (fun c120 => absurd c120 (by omega))
          exact kk _ Is119 (by first | exact h_jf j0 (by omega) (by omega) (by omega) | exact Or.inr ⟨by omega, by omega, by omega⟩) (by first | exact h_jf j1 (by omega) (by omega) (by omega) | exact Or.inr ⟨by omega, by omega, by omega⟩) (by first | exact h_jf j2 (by omega) (by omega) (by omega) | exact Or.inr ⟨by omega, by omega, by omega⟩) (by first | exact h_jf j3 (by omega) (by omega) (by omega) | exact Or.inr ⟨by omega, by omega, by omega⟩)
        · refine h_ceq (tg := 1441) (pc' := 1350) rfl rfl rfl hr109 hr118 (fun c121 => absurd c121 (by omega)) (fun c121 => ?_)
          refine h_iconst (pc' := 1351) (x := (Int32.ofInt 0)) rfl rfl rfl ?_
          exfalso
          unfold h_js at j0 j1 j2 j3
          omega
        · refine h_ceq (tg := 1441) (pc' := 1350) rfl rfl rfl hr109 hr118 (fun c122 => absurd c122 (by omega)) (fun c122 => ?_)
          refine h_iconst (pc' := 1351) (x := (Int32.ofInt 0)) rfl rfl rfl ?_
          exfalso
          unfold h_js at j0 j1 j2 j3
          omega
      · have qz112 : z112 = (Int32.ofInt 1) := h_lit (show z112.toInt = 1 by omega) ci_1
        subst qz112
        refine h_call (sp := false) (pc' := 1347) (M := [(0, .ref 98), (1, .int (Int32.ofInt 1)), (2, .int z114), (3, .int z116)]) rfl rfl rfl rfl rfl rfl rfl rfl ?_
        refine u_layM1 _ Is110  z114 _ hz114 z116 _ hz116 (fun r123 br123 hr123 s124 Is124 Gs124 tr123 pcs124 => h_Kv ?_)
        have Zs124 : ∀ i, s124 0 i = s0 0 i := fun i => (Gs124 0 i rfl).trans (Zs110 i)
        have es124_0 : s124 95 0 = s0 95 0 := (Gs124 95 0 rfl).trans es110_0
        have es124_1 : s124 95 1 = s0 95 1 := (Gs124 95 1 rfl).trans es110_1
        have es124_2 : s124 95 2 = s0 95 2 := (Gs124 95 2 rfl).trans es110_2
        have es124_3 : s124 95 3 = s0 95 3 := (Gs124 95 3 rfl).trans es110_3
        have es124_4 : s124 96 0 = s0 96 0 := (Gs124 96 0 rfl).trans es110_4
        have es124_5 : s124 96 1 = s0 96 1 := (Gs124 96 1 rfl).trans es110_5
        have es124_6 : s124 96 2 = s0 96 2 := (Gs124 96 2 rfl).trans es110_6
        have es124_7 : s124 96 3 = s0 96 3 := (Gs124 96 3 rfl).trans es110_7
        have es124_8 : s124 111 0 = s0 111 0 := (Gs124 111 0 rfl).trans es110_8
        have es124_9 : s124 111 1 = s0 111 1 := (Gs124 111 1 rfl).trans es110_9
        have es124_10 : s124 111 2 = s0 111 2 := (Gs124 111 2 rfl).trans es110_10
        have es124_11 : s124 111 3 = s0 111 3 := (Gs124 111 3 rfl).trans es110_11
        have es124_12 : s124 112 0 = s0 112 0 := (Gs124 112 0 rfl).trans es110_12
        have es124_13 : s124 112 1 = s0 112 1 := (Gs124 112 1 rfl).trans es110_13
        have es124_14 : s124 112 2 = s0 112 2 := (Gs124 112 2 rfl).trans es110_14
        have es124_15 : s124 112 3 = s0 112 3 := (Gs124 112 3 rfl).trans es110_15
        rcases pcs124 with pcs124 | pcs124 | pcs124
        · refine h_ceq (tg := 1441) (pc' := 1350) rfl rfl rfl hr109 hr123 (fun c125 => ?_) (fun c125 => absurd c125 (by omega))
          exact kk _ Is124 (by first | exact h_jf j0 (by omega) (by omega) (by omega) | exact Or.inr ⟨by omega, by omega, by omega⟩) (by first | exact h_jf j1 (by omega) (by omega) (by omega) | exact Or.inr ⟨by omega, by omega, by omega⟩) (by first | exact h_jf j2 (by omega) (by omega) (by omega) | exact Or.inr ⟨by omega, by omega, by omega⟩) (by first | exact h_jf j3 (by omega) (by omega) (by omega) | exact Or.inr ⟨by omega, by omega, by omega⟩)
        · refine h_ceq (tg := 1441) (pc' := 1350) rfl rfl rfl hr109 hr123 (fun c126 => absurd c126 (by omega)) (fun c126 => ?_)
          refine h_iconst (pc' := 1351) (x := (Int32.ofInt 0)) rfl rfl rfl ?_
          exfalso
          unfold h_js at j0 j1 j2 j3
          omega
        · refine h_ceq (tg := 1441) (pc' := 1350) rfl rfl rfl hr109 hr123 (fun c127 => absurd c127 (by omega)) (fun c127 => ?_)
          refine h_iconst (pc' := 1351) (x := (Int32.ofInt 0)) rfl rfl rfl ?_
          exfalso
          unfold h_js at j0 j1 j2 j3
          omega
      · have qz112 : z112 = (Int32.ofInt 2) := h_lit (show z112.toInt = 2 by omega) ci_2
        subst qz112
        refine h_call (sp := false) (pc' := 1347) (M := [(0, .ref 98), (1, .int (Int32.ofInt 2)), (2, .int z114), (3, .int z116)]) rfl rfl rfl rfl rfl rfl rfl rfl ?_
        refine u_layM2 _ Is110  z114 _ hz114 z116 _ hz116 (fun r128 br128 hr128 s129 Is129 Gs129 tr128 pcs129 => h_Kv ?_)
        have Zs129 : ∀ i, s129 0 i = s0 0 i := fun i => (Gs129 0 i rfl).trans (Zs110 i)
        have es129_0 : s129 95 0 = s0 95 0 := (Gs129 95 0 rfl).trans es110_0
        have es129_1 : s129 95 1 = s0 95 1 := (Gs129 95 1 rfl).trans es110_1
        have es129_2 : s129 95 2 = s0 95 2 := (Gs129 95 2 rfl).trans es110_2
        have es129_3 : s129 95 3 = s0 95 3 := (Gs129 95 3 rfl).trans es110_3
        have es129_4 : s129 96 0 = s0 96 0 := (Gs129 96 0 rfl).trans es110_4
        have es129_5 : s129 96 1 = s0 96 1 := (Gs129 96 1 rfl).trans es110_5
        have es129_6 : s129 96 2 = s0 96 2 := (Gs129 96 2 rfl).trans es110_6
        have es129_7 : s129 96 3 = s0 96 3 := (Gs129 96 3 rfl).trans es110_7
        have es129_8 : s129 111 0 = s0 111 0 := (Gs129 111 0 rfl).trans es110_8
        have es129_9 : s129 111 1 = s0 111 1 := (Gs129 111 1 rfl).trans es110_9
        have es129_10 : s129 111 2 = s0 111 2 := (Gs129 111 2 rfl).trans es110_10
        have es129_11 : s129 111 3 = s0 111 3 := (Gs129 111 3 rfl).trans es110_11
        have es129_12 : s129 112 0 = s0 112 0 := (Gs129 112 0 rfl).trans es110_12
        have es129_13 : s129 112 1 = s0 112 1 := (Gs129 112 1 rfl).trans es110_13
        have es129_14 : s129 112 2 = s0 112 2 := (Gs129 112 2 rfl).trans es110_14
        have es129_15 : s129 112 3 = s0 112 3 := (Gs129 112 3 rfl).trans es110_15
        rcases pcs129 with pcs129 | pcs129 | pcs129
        · refine h_ceq (tg := 1441) (pc' := 1350) rfl rfl rfl hr109 hr128 (fun c130 => ?_) (fun c130 => absurd c130 (by omega))
          exact kk _ Is129 (by first | exact h_jf j0 (by omega) (by omega) (by omega) | exact Or.inr ⟨by omega, by omega, by omega⟩) (by first | exact h_jf j1 (by omega) (by omega) (by omega) | exact Or.inr ⟨by omega, by omega, by omega⟩) (by first | exact h_jf j2 (by omega) (by omega) (by omega) | exact Or.inr ⟨by omega, by omega, by omega⟩) (by first | exact h_jf j3 (by omega) (by omega) (by omega) | exact Or.inr ⟨by omega, by omega, by omega⟩)
        · refine h_ceq (tg := 1441) (pc' := 1350) rfl rfl rfl hr109 hr128 (fun c131 => absurd c131 (by omega)) (fun c131 => ?_)
          refine h_iconst (pc' := 1351) (x := (Int32.ofInt 0)) rfl rfl rfl ?_
          exfalso
          unfold h_js at j0 j1 j2 j3
          omega
        · refine h_ceq (tg := 1441) (pc' := 1350) rfl rfl rfl hr109 hr128 (fun c132 => absurd c132 (by omega)) (fun c132 => ?_)
          refine h_iconst (pc' := 1351) (x := (Int32.ofInt 0)) rfl rfl rfl ?_
          exfalso
          unfold h_js at j0 j1 j2 j3
          omega
      · have qz112 : z112 = (Int32.ofInt 3) := h_lit (show z112.toInt = 3 by omega) ci_3
        subst qz112
        refine h_call (sp := false) (pc' := 1347) (M := [(0, .ref 98), (1, .int (Int32.ofInt 3)), (2, .int z114), (3, .int z116)]) rfl rfl rfl rfl rfl rfl rfl rfl ?_
        refine u_layM3 _ Is110  z114 _ hz114 z116 _ hz116 (fun r133 br133 hr133 s134 Is134 Gs134 tr133 pcs134 => h_Kv ?_)
        have Zs134 : ∀ i, s134 0 i = s0 0 i := fun i => (Gs134 0 i rfl).trans (Zs110 i)
        have es134_0 : s134 95 0 = s0 95 0 := (Gs134 95 0 rfl).trans es110_0
        have es134_1 : s134 95 1 = s0 95 1 := (Gs134 95 1 rfl).trans es110_1
        have es134_2 : s134 95 2 = s0 95 2 := (Gs134 95 2 rfl).trans es110_2
        have es134_3 : s134 95 3 = s0 95 3 := (Gs134 95 3 rfl).trans es110_3
        have es134_4 : s134 96 0 = s0 96 0 := (Gs134 96 0 rfl).trans es110_4
        have es134_5 : s134 96 1 = s0 96 1 := (Gs134 96 1 rfl).trans es110_5
        have es134_6 : s134 96 2 = s0 96 2 := (Gs134 96 2 rfl).trans es110_6
        have es134_7 : s134 96 3 = s0 96 3 := (Gs134 96 3 rfl).trans es110_7
        have es134_8 : s134 111 0 = s0 111 0 := (Gs134 111 0 rfl).trans es110_8
        have es134_9 : s134 111 1 = s0 111 1 := (Gs134 111 1 rfl).trans es110_9
        have es134_10 : s134 111 2 = s0 111 2 := (Gs134 111 2 rfl).trans es110_10
        have es134_11 : s134 111 3 = s0 111 3 := (Gs134 111 3 rfl).trans es110_11
        have es134_12 : s134 112 0 = s0 112 0 := (Gs134 112 0 rfl).trans es110_12
        have es134_13 : s134 112 1 = s0 112 1 := (Gs134 112 1 rfl).trans es110_13
        have es134_14 : s134 112 2 = s0 112 2 := (Gs134 112 2 rfl).trans es110_14
        have es134_15 : s134 112 3 = s0 112 3 := (Gs134 112 3 rfl).trans es110_15
        rcases pcs134 with pcs134 | pcs134 | pcs134
        · refine h_ceq (tg := 1441) (pc' := 1350) rfl rfl rfl hr109 hr133 (fun c135 => ?_) (fun c135 => absurd c135 (by omega))
          exact kk _ Is134 (by first | exact h_jf j0 (by omega) (by omega) (by omega) | exact Or.inr ⟨by omega, by omega, by omega⟩) (by first | exact h_jf j1 (by omega) (by omega) (by omega) | exact Or.inr ⟨by omega, by omega, by omega⟩) (by first | exact h_jf j2 (by omega) (by omega) (by omega) | exact Or.inr ⟨by omega, by omega, by omega⟩) (by first | exact h_jf j3 (by omega) (by omega) (by omega) | exact Or.inr ⟨by omega, by omega, by omega⟩)
        · refine h_ceq (tg := 1441) (pc' := 1350) rfl rfl rfl hr109 hr133 (fun c136 => absurd c136 (by omega)) (fun c136 => ?_)
          refine h_iconst (pc' := 1351) (x := (Int32.ofInt 0)) rfl rfl rfl ?_
          exfalso
          unfold h_js at j0 j1 j2 j3
          omega
        · refine h_ceq (tg := 1441) (pc' := 1350) rfl rfl rfl hr109 hr133 (fun c137 => absurd c137 (by omega)) (fun c137 => ?_)
          refine h_iconst (pc' := 1351) (x := (Int32.ofInt 0)) rfl rfl rfl ?_
          exfalso
          unfold h_js at j0 j1 j2 j3
          omega
      · refine h_call (sp := false) (pc' := 1347) (M := [(0, .ref 98), (1, .int z112), (2, .int z114), (3, .int z116)]) rfl rfl rfl rfl rfl rfl rfl rfl ?_
        refine u_layMn _ Is110 z112 _ hz112 (by omega) z114 _ hz114 z116 _ hz116 (fun r138 br138 hr138 s139 Is139 Gs139 tr138 pcs139 => h_Kv ?_)
        have Zs139 : ∀ i, s139 0 i = s0 0 i := fun i => (Gs139 0 i rfl).trans (Zs110 i)
        have es139_0 : s139 95 0 = s0 95 0 := (Gs139 95 0 rfl).trans es110_0
        have es139_1 : s139 95 1 = s0 95 1 := (Gs139 95 1 rfl).trans es110_1
        have es139_2 : s139 95 2 = s0 95 2 := (Gs139 95 2 rfl).trans es110_2
        have es139_3 : s139 95 3 = s0 95 3 := (Gs139 95 3 rfl).trans es110_3
        have es139_4 : s139 96 0 = s0 96 0 := (Gs139 96 0 rfl).trans es110_4
        have es139_5 : s139 96 1 = s0 96 1 := (Gs139 96 1 rfl).trans es110_5
        have es139_6 : s139 96 2 = s0 96 2 := (Gs139 96 2 rfl).trans es110_6
        have es139_7 : s139 96 3 = s0 96 3 := (Gs139 96 3 rfl).trans es110_7
        have es139_8 : s139 111 0 = s0 111 0 := (Gs139 111 0 rfl).trans es110_8
        have es139_9 : s139 111 1 = s0 111 1 := (Gs139 111 1 rfl).trans es110_9
        have es139_10 : s139 111 2 = s0 111 2 := (Gs139 111 2 rfl).trans es110_10
        have es139_11 : s139 111 3 = s0 111 3 := (Gs139 111 3 rfl).trans es110_11
        have es139_12 : s139 112 0 = s0 112 0 := (Gs139 112 0 rfl).trans es110_12
        have es139_13 : s139 112 1 = s0 112 1 := (Gs139 112 1 rfl).trans es110_13
        have es139_14 : s139 112 2 = s0 112 2 := (Gs139 112 2 rfl).trans es110_14
        have es139_15 : s139 112 3 = s0 112 3 := (Gs139 112 3 rfl).trans es110_15
        rcases pcs139 with pcs139
        · refine h_ceq (tg := 1441) (pc' := 1350) rfl rfl rfl hr109 hr138 (fun c140 => absurd c140 (by omega)) (fun c140 => ?_)
          refine h_iconst (pc' := 1351) (x := (Int32.ofInt 0)) rfl rfl rfl ?_
          exfalso
          unfold h_js at j0 j1 j2 j3
          omega
      · refine h_call (sp := false) (pc' := 1347) (M := [(0, .ref 98), (1, .int z112), (2, .int z114), (3, .int z116)]) rfl rfl rfl rfl rfl rfl rfl rfl ?_
        refine u_layMp _ Is110 z112 _ hz112 (by omega) z114 _ hz114 z116 _ hz116 (fun r141 br141 hr141 s142 Is142 Gs142 tr141 pcs142 => h_Kv ?_)
        have Zs142 : ∀ i, s142 0 i = s0 0 i := fun i => (Gs142 0 i rfl).trans (Zs110 i)
        have es142_0 : s142 95 0 = s0 95 0 := (Gs142 95 0 rfl).trans es110_0
        have es142_1 : s142 95 1 = s0 95 1 := (Gs142 95 1 rfl).trans es110_1
        have es142_2 : s142 95 2 = s0 95 2 := (Gs142 95 2 rfl).trans es110_2
        have es142_3 : s142 95 3 = s0 95 3 := (Gs142 95 3 rfl).trans es110_3
        have es142_4 : s142 96 0 = s0 96 0 := (Gs142 96 0 rfl).trans es110_4
        have es142_5 : s142 96 1 = s0 96 1 := (Gs142 96 1 rfl).trans es110_5
        have es142_6 : s142 96 2 = s0 96 2 := (Gs142 96 2 rfl).trans es110_6
        have es142_7 : s142 96 3 = s0 96 3 := (Gs142 96 3 rfl).trans es110_7
        have es142_8 : s142 111 0 = s0 111 0 := (Gs142 111 0 rfl).trans es110_8
        have es142_9 : s142 111 1 = s0 111 1 := (Gs142 111 1 rfl).trans es110_9
        have es142_10 : s142 111 2 = s0 111 2 := (Gs142 111 2 rfl).trans es110_10
        have es142_11 : s142 111 3 = s0 111 3 := (Gs142 111 3 rfl).trans es110_11
        have es142_12 : s142 112 0 = s0 112 0 := (Gs142 112 0 rfl).trans es110_12
        have es142_13 : s142 112 1 = s0 112 1 := (Gs142 112 1 rfl).trans es110_13
        have es142_14 : s142 112 2 = s0 112 2 := (Gs142 112 2 rfl).trans es110_14
        have es142_15 : s142 112 3 = s0 112 3 := (Gs142 112 3 rfl).trans es110_15
        rcases pcs142 with pcs142
        · refine h_ceq (tg := 1441) (pc' := 1350) rfl rfl rfl hr109 hr141 (fun c143 => absurd c143 (by omega)) (fun c143 => ?_)
          refine h_iconst (pc' := 1351) (x := (Int32.ofInt 0)) rfl rfl rfl ?_
          exfalso
          unfold h_js at j0 j1 j2 j3
          omega
    · refine h_aload_n (pc' := 1329) rfl rfl rfl ?_
      refine h_aload_n (pc' := 1330) rfl rfl rfl ?_
      refine h_iload_n (pc' := 1331) rfl rfl rfl ?_
      refine h_iconst (pc' := 1332) (x := (Int32.ofInt 1)) rfl rfl rfl ?_
      refine h_iadd (pc' := 1333) rfl rfl hy3 ci_1 rfl (by omega) (by omega) (fun z144 hz144 => ?_)
      refine h_iald (pc' := 1334) (v := s0 0 (b3 + 1)) rfl rfl rfl hz144 (by omega) (by omega) (Zs110 _) (fun z145 hz145 => ?_)
      have tz145 := h_rgv hz145
      refine h_aload_n (pc' := 1335) rfl rfl rfl ?_
      refine h_iload_n (pc' := 1336) rfl rfl rfl ?_
      refine h_iconst (pc' := 1337) (x := (Int32.ofInt 2)) rfl rfl rfl ?_
      refine h_iadd (pc' := 1338) rfl rfl hy3 ci_2 rfl (by omega) (by omega) (fun z146 hz146 => ?_)
      refine h_iald (pc' := 1339) (v := s0 0 (b3 + 2)) rfl rfl rfl hz146 (by omega) (by omega) (Zs110 _) (fun z147 hz147 => ?_)
      have tz147 := h_rgv hz147
      refine h_aload_n (pc' := 1340) rfl rfl rfl ?_
      refine h_iload_n (pc' := 1341) rfl rfl rfl ?_
      refine h_iconst (pc' := 1342) (x := (Int32.ofInt 3)) rfl rfl rfl ?_
      refine h_iadd (pc' := 1343) rfl rfl hy3 ci_3 rfl (by omega) (by omega) (fun z148 hz148 => ?_)
      refine h_iald (pc' := 1344) (v := s0 0 (b3 + 3)) rfl rfl rfl hz148 (by omega) (by omega) (Zs110 _) (fun z149 hz149 => ?_)
      have tz149 := h_rgv hz149
      rcases (show ((s0 0 (b3 + 1)) = 0) ∨ ((s0 0 (b3 + 1)) = 1) ∨ ((s0 0 (b3 + 1)) = 2) ∨ ((s0 0 (b3 + 1)) = 3) ∨ ((s0 0 (b3 + 1)) ≤ (-1)) ∨ (4 ≤ (s0 0 (b3 + 1))) by omega) with c150 | c150 | c150 | c150 | c150 | c150
      · have qz145 : z145 = (Int32.ofInt 0) := h_lit (show z145.toInt = 0 by omega) ci_0
        subst qz145
        refine h_call (sp := false) (pc' := 1347) (M := [(0, .ref 98), (1, .int (Int32.ofInt 0)), (2, .int z147), (3, .int z149)]) rfl rfl rfl rfl rfl rfl rfl rfl ?_
        refine u_layM0 _ Is110  z147 _ hz147 z149 _ hz149 (fun r151 br151 hr151 s152 Is152 Gs152 tr151 pcs152 => h_Kv ?_)
        have Zs152 : ∀ i, s152 0 i = s0 0 i := fun i => (Gs152 0 i rfl).trans (Zs110 i)
        have es152_0 : s152 95 0 = s0 95 0 := (Gs152 95 0 rfl).trans es110_0
        have es152_1 : s152 95 1 = s0 95 1 := (Gs152 95 1 rfl).trans es110_1
        have es152_2 : s152 95 2 = s0 95 2 := (Gs152 95 2 rfl).trans es110_2
        have es152_3 : s152 95 3 = s0 95 3 := (Gs152 95 3 rfl).trans es110_3
        have es152_4 : s152 96 0 = s0 96 0 := (Gs152 96 0 rfl).trans es110_4
        have es152_5 : s152 96 1 = s0 96 1 := (Gs152 96 1 rfl).trans es110_5
        have es152_6 : s152 96 2 = s0 96 2 := (Gs152 96 2 rfl).trans es110_6
        have es152_7 : s152 96 3 = s0 96 3 := (Gs152 96 3 rfl).trans es110_7
        have es152_8 : s152 111 0 = s0 111 0 := (Gs152 111 0 rfl).trans es110_8
        have es152_9 : s152 111 1 = s0 111 1 := (Gs152 111 1 rfl).trans es110_9
        have es152_10 : s152 111 2 = s0 111 2 := (Gs152 111 2 rfl).trans es110_10
        have es152_11 : s152 111 3 = s0 111 3 := (Gs152 111 3 rfl).trans es110_11
        have es152_12 : s152 112 0 = s0 112 0 := (Gs152 112 0 rfl).trans es110_12
        have es152_13 : s152 112 1 = s0 112 1 := (Gs152 112 1 rfl).trans es110_13
        have es152_14 : s152 112 2 = s0 112 2 := (Gs152 112 2 rfl).trans es110_14
        have es152_15 : s152 112 3 = s0 112 3 := (Gs152 112 3 rfl).trans es110_15
        rcases pcs152 with pcs152 | pcs152 | pcs152
        · refine h_ceq (tg := 1441) (pc' := 1350) rfl rfl rfl hr109 hr151 (fun c153 => absurd c153 (by omega)) (fun c153 => ?_)
          refine h_iconst (pc' := 1351) (x := (Int32.ofInt 0)) rfl rfl rfl ?_
          exfalso
          unfold h_js at j0 j1 j2 j3
          omega
        · refine h_ceq (tg := 1441) (pc' := 1350) rfl rfl rfl hr109 hr151 (fun c154 => ?_) (fun c154 => absurd c154 (by omega))
          exact kk _ Is152 (by first | exact h_jf j0 (by omega) (by omega) (by omega) | exact Or.inr ⟨by omega, by omega, by omega⟩) (by first | exact h_jf j1 (by omega) (by omega) (by omega) | exact Or.inr ⟨by omega, by omega, by omega⟩) (by first | exact h_jf j2 (by omega) (by omega) (by omega) | exact Or.inr ⟨by omega, by omega, by omega⟩) (by first | exact h_jf j3 (by omega) (by omega) (by omega) | exact Or.inr ⟨by omega, by omega, by omega⟩)
        · refine h_ceq (tg := 1441) (pc' := 1350) rfl rfl rfl hr109 hr151 (fun c155 => absurd c155 (by omega)) (fun c155 => ?_)
          refine h_iconst (pc' := 1351) (x := (Int32.ofInt 0)) rfl rfl rfl ?_
          exfalso
          unfold h_js at j0 j1 j2 j3
          omega
      · have qz145 : z145 = (Int32.ofInt 1) := h_lit (show z145.toInt = 1 by omega) ci_1
        subst qz145
        refine h_call (sp := false) (pc' := 1347) (M := [(0, .ref 98), (1, .int (Int32.ofInt 1)), (2, .int z147), (3, .int z149)]) rfl rfl rfl rfl rfl rfl rfl rfl ?_
        refine u_layM1 _ Is110  z147 _ hz147 z149 _ hz149 (fun r156 br156 hr156 s157 Is157 Gs157 tr156 pcs157 => h_Kv ?_)
        have Zs157 : ∀ i, s157 0 i = s0 0 i := fun i => (Gs157 0 i rfl).trans (Zs110 i)
        have es157_0 : s157 95 0 = s0 95 0 := (Gs157 95 0 rfl).trans es110_0
        have es157_1 : s157 95 1 = s0 95 1 := (Gs157 95 1 rfl).trans es110_1
        have es157_2 : s157 95 2 = s0 95 2 := (Gs157 95 2 rfl).trans es110_2
        have es157_3 : s157 95 3 = s0 95 3 := (Gs157 95 3 rfl).trans es110_3
        have es157_4 : s157 96 0 = s0 96 0 := (Gs157 96 0 rfl).trans es110_4
        have es157_5 : s157 96 1 = s0 96 1 := (Gs157 96 1 rfl).trans es110_5
        have es157_6 : s157 96 2 = s0 96 2 := (Gs157 96 2 rfl).trans es110_6
        have es157_7 : s157 96 3 = s0 96 3 := (Gs157 96 3 rfl).trans es110_7
        have es157_8 : s157 111 0 = s0 111 0 := (Gs157 111 0 rfl).trans es110_8
        have es157_9 : s157 111 1 = s0 111 1 := (Gs157 111 1 rfl).trans es110_9
        have es157_10 : s157 111 2 = s0 111 2 := (Gs157 111 2 rfl).trans es110_10
        have es157_11 : s157 111 3 = s0 111 3 := (Gs157 111 3 rfl).trans es110_11
        have es157_12 : s157 112 0 = s0 112 0 := (Gs157 112 0 rfl).trans es110_12
        have es157_13 : s157 112 1 = s0 112 1 := (Gs157 112 1 rfl).trans es110_13
        have es157_14 : s157 112 2 = s0 112 2 := (Gs157 112 2 rfl).trans es110_14
        have es157_15 : s157 112 3 = s0 112 3 := (Gs157 112 3 rfl).trans es110_15
        rcases pcs157 with pcs157 | pcs157 | pcs157
        · refine h_ceq (tg := 1441) (pc' := 1350) rfl rfl rfl hr109 hr156 (fun c158 => absurd c158 (by omega)) (fun c158 => ?_)
          refine h_iconst (pc' := 1351) (x := (Int32.ofInt 0)) rfl rfl rfl ?_
          exfalso
          unfold h_js at j0 j1 j2 j3
          omega
        · refine h_ceq (tg := 1441) (pc' := 1350) rfl rfl rfl hr109 hr156 (fun c159 => ?_) (fun c159 => absurd c159 (by omega))
          exact kk _ Is157 (by first | exact h_jf j0 (by omega) (by omega) (by omega) | exact Or.inr ⟨by omega, by omega, by omega⟩) (by first | exact h_jf j1 (by omega) (by omega) (by omega) | exact Or.inr ⟨by omega, by omega, by omega⟩) (by first | exact h_jf j2 (by omega) (by omega) (by omega) | exact Or.inr ⟨by omega, by omega, by omega⟩) (by first | exact h_jf j3 (by omega) (by omega) (by omega) | exact Or.inr ⟨by omega, by omega, by omega⟩)
        · refine h_ceq (tg := 1441) (pc' := 1350) rfl rfl rfl hr109 hr156 (fun c160 => absurd c160 (by omega)) (fun c160 => ?_)
          refine h_iconst (pc' := 1351) (x := (Int32.ofInt 0)) rfl rfl rfl ?_
          exfalso
          unfold h_js at j0 j1 j2 j3
          omega
      · have qz145 : z145 = (Int32.ofInt 2) := h_lit (show z145.toInt = 2 by omega) ci_2
        subst qz145
        refine h_call (sp := false) (pc' := 1347) (M := [(0, .ref 98), (1, .int (Int32.ofInt 2)), (2, .int z147), (3, .int z149)]) rfl rfl rfl rfl rfl rfl rfl rfl ?_
        refine u_layM2 _ Is110  z147 _ hz147 z149 _ hz149 (fun r161 br161 hr161 s162 Is162 Gs162 tr161 pcs162 => h_Kv ?_)
        have Zs162 : ∀ i, s162 0 i = s0 0 i := fun i => (Gs162 0 i rfl).trans (Zs110 i)
        have es162_0 : s162 95 0 = s0 95 0 := (Gs162 95 0 rfl).trans es110_0
        have es162_1 : s162 95 1 = s0 95 1 := (Gs162 95 1 rfl).trans es110_1
        have es162_2 : s162 95 2 = s0 95 2 := (Gs162 95 2 rfl).trans es110_2
        have es162_3 : s162 95 3 = s0 95 3 := (Gs162 95 3 rfl).trans es110_3
        have es162_4 : s162 96 0 = s0 96 0 := (Gs162 96 0 rfl).trans es110_4
        have es162_5 : s162 96 1 = s0 96 1 := (Gs162 96 1 rfl).trans es110_5
        have es162_6 : s162 96 2 = s0 96 2 := (Gs162 96 2 rfl).trans es110_6
        have es162_7 : s162 96 3 = s0 96 3 := (Gs162 96 3 rfl).trans es110_7
        have es162_8 : s162 111 0 = s0 111 0 := (Gs162 111 0 rfl).trans es110_8
        have es162_9 : s162 111 1 = s0 111 1 := (Gs162 111 1 rfl).trans es110_9
        have es162_10 : s162 111 2 = s0 111 2 := (Gs162 111 2 rfl).trans es110_10
        have es162_11 : s162 111 3 = s0 111 3 := (Gs162 111 3 rfl).trans es110_11
        have es162_12 : s162 112 0 = s0 112 0 := (Gs162 112 0 rfl).trans es110_12
        have es162_13 : s162 112 1 = s0 112 1 := (Gs162 112 1 rfl).trans es110_13
        have es162_14 : s162 112 2 = s0 112 2 := (Gs162 112 2 rfl).trans es110_14
        have es162_15 : s162 112 3 = s0 112 3 := (Gs162 112 3 rfl).trans es110_15
        rcases pcs162 with pcs162 | pcs162 | pcs162
        · refine h_ceq (tg := 1441) (pc' := 1350) rfl rfl rfl hr109 hr161 (fun c163 => absurd c163 (by omega)) (fun c163 => ?_)
          refine h_iconst (pc' := 1351) (x := (Int32.ofInt 0)) rfl rfl rfl ?_
          exfalso
          unfold h_js at j0 j1 j2 j3
          omega
        · refine h_ceq (tg := 1441) (pc' := 1350) rfl rfl rfl hr109 hr161 (fun c164 => ?_) (fun c164 => absurd c164 (by omega))
          exact kk _ Is162 (by first | exact h_jf j0 (by omega) (by omega) (by omega) | exact Or.inr ⟨by omega, by omega, by omega⟩) (by first | exact h_jf j1 (by omega) (by omega) (by omega) | exact Or.inr ⟨by omega, by omega, by omega⟩) (by first | exact h_jf j2 (by omega) (by omega) (by omega) | exact Or.inr ⟨by omega, by omega, by omega⟩) (by first | exact h_jf j3 (by omega) (by omega) (by omega) | exact Or.inr ⟨by omega, by omega, by omega⟩)
        · refine h_ceq (tg := 1441) (pc' := 1350) rfl rfl rfl hr109 hr161 (fun c165 => absurd c165 (by omega)) (fun c165 => ?_)
          refine h_iconst (pc' := 1351) (x := (Int32.ofInt 0)) rfl rfl rfl ?_
          exfalso
          unfold h_js at j0 j1 j2 j3
          omega
      · have qz145 : z145 = (Int32.ofInt 3) := h_lit (show z145.toInt = 3 by omega) ci_3
        subst qz145
        refine h_call (sp := false) (pc' := 1347) (M := [(0, .ref 98), (1, .int (Int32.ofInt 3)), (2, .int z147), (3, .int z149)]) rfl rfl rfl rfl rfl rfl rfl rfl ?_
        refine u_layM3 _ Is110  z147 _ hz147 z149 _ hz149 (fun r166 br166 hr166 s167 Is167 Gs167 tr166 pcs167 => h_Kv ?_)
        have Zs167 : ∀ i, s167 0 i = s0 0 i := fun i => (Gs167 0 i rfl).trans (Zs110 i)
        have es167_0 : s167 95 0 = s0 95 0 := (Gs167 95 0 rfl).trans es110_0
        have es167_1 : s167 95 1 = s0 95 1 := (Gs167 95 1 rfl).trans es110_1
        have es167_2 : s167 95 2 = s0 95 2 := (Gs167 95 2 rfl).trans es110_2
        have es167_3 : s167 95 3 = s0 95 3 := (Gs167 95 3 rfl).trans es110_3
        have es167_4 : s167 96 0 = s0 96 0 := (Gs167 96 0 rfl).trans es110_4
        have es167_5 : s167 96 1 = s0 96 1 := (Gs167 96 1 rfl).trans es110_5
        have es167_6 : s167 96 2 = s0 96 2 := (Gs167 96 2 rfl).trans es110_6
        have es167_7 : s167 96 3 = s0 96 3 := (Gs167 96 3 rfl).trans es110_7
        have es167_8 : s167 111 0 = s0 111 0 := (Gs167 111 0 rfl).trans es110_8
        have es167_9 : s167 111 1 = s0 111 1 := (Gs167 111 1 rfl).trans es110_9
        have es167_10 : s167 111 2 = s0 111 2 := (Gs167 111 2 rfl).trans es110_10
        have es167_11 : s167 111 3 = s0 111 3 := (Gs167 111 3 rfl).trans es110_11
        have es167_12 : s167 112 0 = s0 112 0 := (Gs167 112 0 rfl).trans es110_12
        have es167_13 : s167 112 1 = s0 112 1 := (Gs167 112 1 rfl).trans es110_13
        have es167_14 : s167 112 2 = s0 112 2 := (Gs167 112 2 rfl).trans es110_14
        have es167_15 : s167 112 3 = s0 112 3 := (Gs167 112 3 rfl).trans es110_15
        rcases pcs167 with pcs167 | pcs167 | pcs167
        · refine h_ceq (tg := 1441) (pc' := 1350) rfl rfl rfl hr109 hr166 (fun c168 => absurd c168 (by omega)) (fun c168 => ?_)
          refine h_iconst (pc' := 1351) (x := (Int32.ofInt 0)) rfl rfl rfl ?_
          exfalso
          unfold h_js at j0 j1 j2 j3
          omega
        · refine h_ceq (tg := 1441) (pc' := 1350) rfl rfl rfl hr109 hr166 (fun c169 => ?_) (fun c169 => absurd c169 (by omega))
          exact kk _ Is167 (by first | exact h_jf j0 (by omega) (by omega) (by omega) | exact Or.inr ⟨by omega, by omega, by omega⟩) (by first | exact h_jf j1 (by omega) (by omega) (by omega) | exact Or.inr ⟨by omega, by omega, by omega⟩) (by first | exact h_jf j2 (by omega) (by omega) (by omega) | exact Or.inr ⟨by omega, by omega, by omega⟩) (by first | exact h_jf j3 (by omega) (by omega) (by omega) | exact Or.inr ⟨by omega, by omega, by omega⟩)
        · refine h_ceq (tg := 1441) (pc' := 1350) rfl rfl rfl hr109 hr166 (fun c170 => absurd c170 (by omega)) (fun c170 => ?_)
          refine h_iconst (pc' := 1351) (x := (Int32.ofInt 0)) rfl rfl rfl ?_
          exfalso
          unfold h_js at j0 j1 j2 j3
          omega
      · refine h_call (sp := false) (pc' := 1347) (M := [(0, .ref 98), (1, .int z145), (2, .int z147), (3, .int z149)]) rfl rfl rfl rfl rfl rfl rfl rfl ?_
        refine u_layMn _ Is110 z145 _ hz145 (by omega) z147 _ hz147 z149 _ hz149 (fun r171 br171 hr171 s172 Is172 Gs172 tr171 pcs172 => h_Kv ?_)
        have Zs172 : ∀ i, s172 0 i = s0 0 i := fun i => (Gs172 0 i rfl).trans (Zs110 i)
        have es172_0 : s172 95 0 = s0 95 0 := (Gs172 95 0 rfl).trans es110_0
        have es172_1 : s172 95 1 = s0 95 1 := (Gs172 95 1 rfl).trans es110_1
        have es172_2 : s172 95 2 = s0 95 2 := (Gs172 95 2 rfl).trans es110_2
        have es172_3 : s172 95 3 = s0 95 3 := (Gs172 95 3 rfl).trans es110_3
        have es172_4 : s172 96 0 = s0 96 0 := (Gs172 96 0 rfl).trans es110_4
        have es172_5 : s172 96 1 = s0 96 1 := (Gs172 96 1 rfl).trans es110_5
        have es172_6 : s172 96 2 = s0 96 2 := (Gs172 96 2 rfl).trans es110_6
        have es172_7 : s172 96 3 = s0 96 3 := (Gs172 96 3 rfl).trans es110_7
        have es172_8 : s172 111 0 = s0 111 0 := (Gs172 111 0 rfl).trans es110_8
        have es172_9 : s172 111 1 = s0 111 1 := (Gs172 111 1 rfl).trans es110_9
        have es172_10 : s172 111 2 = s0 111 2 := (Gs172 111 2 rfl).trans es110_10
        have es172_11 : s172 111 3 = s0 111 3 := (Gs172 111 3 rfl).trans es110_11
        have es172_12 : s172 112 0 = s0 112 0 := (Gs172 112 0 rfl).trans es110_12
        have es172_13 : s172 112 1 = s0 112 1 := (Gs172 112 1 rfl).trans es110_13
        have es172_14 : s172 112 2 = s0 112 2 := (Gs172 112 2 rfl).trans es110_14
        have es172_15 : s172 112 3 = s0 112 3 := (Gs172 112 3 rfl).trans es110_15
        rcases pcs172 with pcs172
        · refine h_ceq (tg := 1441) (pc' := 1350) rfl rfl rfl hr109 hr171 (fun c173 => absurd c173 (by omega)) (fun c173 => ?_)
          refine h_iconst (pc' := 1351) (x := (Int32.ofInt 0)) rfl rfl rfl ?_
          exfalso
          unfold h_js at j0 j1 j2 j3
          omega
      · refine h_call (sp := false) (pc' := 1347) (M := [(0, .ref 98), (1, .int z145), (2, .int z147), (3, .int z149)]) rfl rfl rfl rfl rfl rfl rfl rfl ?_
        refine u_layMp _ Is110 z145 _ hz145 (by omega) z147 _ hz147 z149 _ hz149 (fun r174 br174 hr174 s175 Is175 Gs175 tr174 pcs175 => h_Kv ?_)
        have Zs175 : ∀ i, s175 0 i = s0 0 i := fun i => (Gs175 0 i rfl).trans (Zs110 i)
        have es175_0 : s175 95 0 = s0 95 0 := (Gs175 95 0 rfl).trans es110_0
        have es175_1 : s175 95 1 = s0 95 1 := (Gs175 95 1 rfl).trans es110_1
        have es175_2 : s175 95 2 = s0 95 2 := (Gs175 95 2 rfl).trans es110_2
        have es175_3 : s175 95 3 = s0 95 3 := (Gs175 95 3 rfl).trans es110_3
        have es175_4 : s175 96 0 = s0 96 0 := (Gs175 96 0 rfl).trans es110_4
        have es175_5 : s175 96 1 = s0 96 1 := (Gs175 96 1 rfl).trans es110_5
        have es175_6 : s175 96 2 = s0 96 2 := (Gs175 96 2 rfl).trans es110_6
        have es175_7 : s175 96 3 = s0 96 3 := (Gs175 96 3 rfl).trans es110_7
        have es175_8 : s175 111 0 = s0 111 0 := (Gs175 111 0 rfl).trans es110_8
        have es175_9 : s175 111 1 = s0 111 1 := (Gs175 111 1 rfl).trans es110_9
        have es175_10 : s175 111 2 = s0 111 2 := (Gs175 111 2 rfl).trans es110_10
        have es175_11 : s175 111 3 = s0 111 3 := (Gs175 111 3 rfl).trans es110_11
        have es175_12 : s175 112 0 = s0 112 0 := (Gs175 112 0 rfl).trans es110_12
        have es175_13 : s175 112 1 = s0 112 1 := (Gs175 112 1 rfl).trans es110_13
        have es175_14 : s175 112 2 = s0 112 2 := (Gs175 112 2 rfl).trans es110_14
        have es175_15 : s175 112 3 = s0 112 3 := (Gs175 112 3 rfl).trans es110_15
        rcases pcs175 with pcs175
        · refine h_ceq (tg := 1441) (pc' := 1350) rfl rfl rfl hr109 hr174 (fun c176 => absurd c176 (by omega)) (fun c176 => ?_)
          refine h_iconst (pc' := 1351) (x := (Int32.ofInt 0)) rfl rfl rfl ?_
          exfalso
          unfold h_js at j0 j1 j2 j3
          omega
    · refine h_aload_n (pc' := 1329) rfl rfl rfl ?_
      refine h_aload_n (pc' := 1330) rfl rfl rfl ?_
      refine h_iload_n (pc' := 1331) rfl rfl rfl ?_
      refine h_iconst (pc' := 1332) (x := (Int32.ofInt 1)) rfl rfl rfl ?_
      refine h_iadd (pc' := 1333) rfl rfl hy3 ci_1 rfl (by omega) (by omega) (fun z177 hz177 => ?_)
      refine h_iald (pc' := 1334) (v := s0 0 (b3 + 1)) rfl rfl rfl hz177 (by omega) (by omega) (Zs110 _) (fun z178 hz178 => ?_)
      have tz178 := h_rgv hz178
      refine h_aload_n (pc' := 1335) rfl rfl rfl ?_
      refine h_iload_n (pc' := 1336) rfl rfl rfl ?_
      refine h_iconst (pc' := 1337) (x := (Int32.ofInt 2)) rfl rfl rfl ?_
      refine h_iadd (pc' := 1338) rfl rfl hy3 ci_2 rfl (by omega) (by omega) (fun z179 hz179 => ?_)
      refine h_iald (pc' := 1339) (v := s0 0 (b3 + 2)) rfl rfl rfl hz179 (by omega) (by omega) (Zs110 _) (fun z180 hz180 => ?_)
      have tz180 := h_rgv hz180
      refine h_aload_n (pc' := 1340) rfl rfl rfl ?_
      refine h_iload_n (pc' := 1341) rfl rfl rfl ?_
      refine h_iconst (pc' := 1342) (x := (Int32.ofInt 3)) rfl rfl rfl ?_
      refine h_iadd (pc' := 1343) rfl rfl hy3 ci_3 rfl (by omega) (by omega) (fun z181 hz181 => ?_)
      refine h_iald (pc' := 1344) (v := s0 0 (b3 + 3)) rfl rfl rfl hz181 (by omega) (by omega) (Zs110 _) (fun z182 hz182 => ?_)
      have tz182 := h_rgv hz182
      rcases (show ((s0 0 (b3 + 1)) = 0) ∨ ((s0 0 (b3 + 1)) = 1) ∨ ((s0 0 (b3 + 1)) = 2) ∨ ((s0 0 (b3 + 1)) = 3) ∨ ((s0 0 (b3 + 1)) ≤ (-1)) ∨ (4 ≤ (s0 0 (b3 + 1))) by omega) with c183 | c183 | c183 | c183 | c183 | c183
      · have qz178 : z178 = (Int32.ofInt 0) := h_lit (show z178.toInt = 0 by omega) ci_0
        subst qz178
        refine h_call (sp := false) (pc' := 1347) (M := [(0, .ref 98), (1, .int (Int32.ofInt 0)), (2, .int z180), (3, .int z182)]) rfl rfl rfl rfl rfl rfl rfl rfl ?_
        refine u_layM0 _ Is110  z180 _ hz180 z182 _ hz182 (fun r184 br184 hr184 s185 Is185 Gs185 tr184 pcs185 => h_Kv ?_)
        have Zs185 : ∀ i, s185 0 i = s0 0 i := fun i => (Gs185 0 i rfl).trans (Zs110 i)
        have es185_0 : s185 95 0 = s0 95 0 := (Gs185 95 0 rfl).trans es110_0
        have es185_1 : s185 95 1 = s0 95 1 := (Gs185 95 1 rfl).trans es110_1
        have es185_2 : s185 95 2 = s0 95 2 := (Gs185 95 2 rfl).trans es110_2
        have es185_3 : s185 95 3 = s0 95 3 := (Gs185 95 3 rfl).trans es110_3
        have es185_4 : s185 96 0 = s0 96 0 := (Gs185 96 0 rfl).trans es110_4
        have es185_5 : s185 96 1 = s0 96 1 := (Gs185 96 1 rfl).trans es110_5
        have es185_6 : s185 96 2 = s0 96 2 := (Gs185 96 2 rfl).trans es110_6
        have es185_7 : s185 96 3 = s0 96 3 := (Gs185 96 3 rfl).trans es110_7
        have es185_8 : s185 111 0 = s0 111 0 := (Gs185 111 0 rfl).trans es110_8
        have es185_9 : s185 111 1 = s0 111 1 := (Gs185 111 1 rfl).trans es110_9
        have es185_10 : s185 111 2 = s0 111 2 := (Gs185 111 2 rfl).trans es110_10
        have es185_11 : s185 111 3 = s0 111 3 := (Gs185 111 3 rfl).trans es110_11
        have es185_12 : s185 112 0 = s0 112 0 := (Gs185 112 0 rfl).trans es110_12
        have es185_13 : s185 112 1 = s0 112 1 := (Gs185 112 1 rfl).trans es110_13
        have es185_14 : s185 112 2 = s0 112 2 := (Gs185 112 2 rfl).trans es110_14
        have es185_15 : s185 112 3 = s0 112 3 := (Gs185 112 3 rfl).trans es110_15
        rcases pcs185 with pcs185 | pcs185 | pcs185
        · refine h_ceq (tg := 1441) (pc' := 1350) rfl rfl rfl hr109 hr184 (fun c186 => absurd c186 (by omega)) (fun c186 => ?_)
          refine h_iconst (pc' := 1351) (x := (Int32.ofInt 0)) rfl rfl rfl ?_
          exfalso
          unfold h_js at j0 j1 j2 j3
          omega
        · refine h_ceq (tg := 1441) (pc' := 1350) rfl rfl rfl hr109 hr184 (fun c187 => absurd c187 (by omega)) (fun c187 => ?_)
          refine h_iconst (pc' := 1351) (x := (Int32.ofInt 0)) rfl rfl rfl ?_
          exfalso
          unfold h_js at j0 j1 j2 j3
          omega
        · refine h_ceq (tg := 1441) (pc' := 1350) rfl rfl rfl hr109 hr184 (fun c188 => ?_) (fun c188 => absurd c188 (by omega))
          exact kk _ Is185 (by first | exact h_jf j0 (by omega) (by omega) (by omega) | exact Or.inr ⟨by omega, by omega, by omega⟩) (by first | exact h_jf j1 (by omega) (by omega) (by omega) | exact Or.inr ⟨by omega, by omega, by omega⟩) (by first | exact h_jf j2 (by omega) (by omega) (by omega) | exact Or.inr ⟨by omega, by omega, by omega⟩) (by first | exact h_jf j3 (by omega) (by omega) (by omega) | exact Or.inr ⟨by omega, by omega, by omega⟩)
      · have qz178 : z178 = (Int32.ofInt 1) := h_lit (show z178.toInt = 1 by omega) ci_1
        subst qz178
        refine h_call (sp := false) (pc' := 1347) (M := [(0, .ref 98), (1, .int (Int32.ofInt 1)), (2, .int z180), (3, .int z182)]) rfl rfl rfl rfl rfl rfl rfl rfl ?_
        refine u_layM1 _ Is110  z180 _ hz180 z182 _ hz182 (fun r189 br189 hr189 s190 Is190 Gs190 tr189 pcs190 => h_Kv ?_)
        have Zs190 : ∀ i, s190 0 i = s0 0 i := fun i => (Gs190 0 i rfl).trans (Zs110 i)
        have es190_0 : s190 95 0 = s0 95 0 := (Gs190 95 0 rfl).trans es110_0
        have es190_1 : s190 95 1 = s0 95 1 := (Gs190 95 1 rfl).trans es110_1
        have es190_2 : s190 95 2 = s0 95 2 := (Gs190 95 2 rfl).trans es110_2
        have es190_3 : s190 95 3 = s0 95 3 := (Gs190 95 3 rfl).trans es110_3
        have es190_4 : s190 96 0 = s0 96 0 := (Gs190 96 0 rfl).trans es110_4
        have es190_5 : s190 96 1 = s0 96 1 := (Gs190 96 1 rfl).trans es110_5
        have es190_6 : s190 96 2 = s0 96 2 := (Gs190 96 2 rfl).trans es110_6
        have es190_7 : s190 96 3 = s0 96 3 := (Gs190 96 3 rfl).trans es110_7
        have es190_8 : s190 111 0 = s0 111 0 := (Gs190 111 0 rfl).trans es110_8
        have es190_9 : s190 111 1 = s0 111 1 := (Gs190 111 1 rfl).trans es110_9
        have es190_10 : s190 111 2 = s0 111 2 := (Gs190 111 2 rfl).trans es110_10
        have es190_11 : s190 111 3 = s0 111 3 := (Gs190 111 3 rfl).trans es110_11
        have es190_12 : s190 112 0 = s0 112 0 := (Gs190 112 0 rfl).trans es110_12
        have es190_13 : s190 112 1 = s0 112 1 := (Gs190 112 1 rfl).trans es110_13
        have es190_14 : s190 112 2 = s0 112 2 := (Gs190 112 2 rfl).trans es110_14
        have es190_15 : s190 112 3 = s0 112 3 := (Gs190 112 3 rfl).trans es110_15
        rcases pcs190 with pcs190 | pcs190 | pcs190
        · refine h_ceq (tg := 1441) (pc' := 1350) rfl rfl rfl hr109 hr189 (fun c191 => absurd c191 (by omega)) (fun c191 => ?_)
          refine h_iconst (pc' := 1351) (x := (Int32.ofInt 0)) rfl rfl rfl ?_
          exfalso
          unfold h_js at j0 j1 j2 j3
          omega
        · refine h_ceq (tg := 1441) (pc' := 1350) rfl rfl rfl hr109 hr189 (fun c192 => absurd c192 (by omega)) (fun c192 => ?_)
          refine h_iconst (pc' := 1351) (x := (Int32.ofInt 0)) rfl rfl rfl ?_
          exfalso
          unfold h_js at j0 j1 j2 j3
          omega
        · refine h_ceq (tg := 1441) (pc' := 1350) rfl rfl rfl hr109 hr189 (fun c193 => ?_) (fun c193 => absurd c193 (by omega))
          exact kk _ Is190 (by first | exact h_jf j0 (by omega) (by omega) (by omega) | exact Or.inr ⟨by omega, by omega, by omega⟩) (by first | exact h_jf j1 (by omega) (by omega) (by omega) | exact Or.inr ⟨by omega, by omega, by omega⟩) (by first | exact h_jf j2 (by omega) (by omega) (by omega) | exact Or.inr ⟨by omega, by omega, by omega⟩) (by first | exact h_jf j3 (by omega) (by omega) (by omega) | exact Or.inr ⟨by omega, by omega, by omega⟩)
      · have qz178 : z178 = (Int32.ofInt 2) := h_lit (show z178.toInt = 2 by omega) ci_2
        subst qz178
        refine h_call (sp := false) (pc' := 1347) (M := [(0, .ref 98), (1, .int (Int32.ofInt 2)), (2, .int z180), (3, .int z182)]) rfl rfl rfl rfl rfl rfl rfl rfl ?_
        refine u_layM2 _ Is110  z180 _ hz180 z182 _ hz182 (fun r194 br194 hr194 s195 Is195 Gs195 tr194 pcs195 => h_Kv ?_)
        have Zs195 : ∀ i, s195 0 i = s0 0 i := fun i => (Gs195 0 i rfl).trans (Zs110 i)
        have es195_0 : s195 95 0 = s0 95 0 := (Gs195 95 0 rfl).trans es110_0
        have es195_1 : s195 95 1 = s0 95 1 := (Gs195 95 1 rfl).trans es110_1
        have es195_2 : s195 95 2 = s0 95 2 := (Gs195 95 2 rfl).trans es110_2
        have es195_3 : s195 95 3 = s0 95 3 := (Gs195 95 3 rfl).trans es110_3
        have es195_4 : s195 96 0 = s0 96 0 := (Gs195 96 0 rfl).trans es110_4
        have es195_5 : s195 96 1 = s0 96 1 := (Gs195 96 1 rfl).trans es110_5
        have es195_6 : s195 96 2 = s0 96 2 := (Gs195 96 2 rfl).trans es110_6
        have es195_7 : s195 96 3 = s0 96 3 := (Gs195 96 3 rfl).trans es110_7
        have es195_8 : s195 111 0 = s0 111 0 := (Gs195 111 0 rfl).trans es110_8
        have es195_9 : s195 111 1 = s0 111 1 := (Gs195 111 1 rfl).trans es110_9
        have es195_10 : s195 111 2 = s0 111 2 := (Gs195 111 2 rfl).trans es110_10
        have es195_11 : s195 111 3 = s0 111 3 := (Gs195 111 3 rfl).trans es110_11
        have es195_12 : s195 112 0 = s0 112 0 := (Gs195 112 0 rfl).trans es110_12
        have es195_13 : s195 112 1 = s0 112 1 := (Gs195 112 1 rfl).trans es110_13
        have es195_14 : s195 112 2 = s0 112 2 := (Gs195 112 2 rfl).trans es110_14
        have es195_15 : s195 112 3 = s0 112 3 := (Gs195 112 3 rfl).trans es110_15
        rcases pcs195 with pcs195 | pcs195 | pcs195
        · refine h_ceq (tg := 1441) (pc' := 1350) rfl rfl rfl hr109 hr194 (fun c196 => absurd c196 (by omega)) (fun c196 => ?_)
          refine h_iconst (pc' := 1351) (x := (Int32.ofInt 0)) rfl rfl rfl ?_
          exfalso
          unfold h_js at j0 j1 j2 j3
          omega
        · refine h_ceq (tg := 1441) (pc' := 1350) rfl rfl rfl hr109 hr194 (fun c197 => absurd c197 (by omega)) (fun c197 => ?_)
          refine h_iconst (pc' := 1351) (x := (Int32.ofInt 0)) rfl rfl rfl ?_
          exfalso
          unfold h_js at j0 j1 j2 j3
          omega
        · refine h_ceq (tg := 1441) (pc' := 1350) rfl rfl rfl hr109 hr194 (fun c198 => ?_) (fun c198 => absurd c198 (by omega))
          exact kk _ Is195 (by first | exact h_jf j0 (by omega) (by omega) (by omega) | exact Or.inr ⟨by omega, by omega, by omega⟩) (by first | exact h_jf j1 (by omega) (by omega) (by omega) | exact Or.inr ⟨by omega, by omega, by omega⟩) (by first | exact h_jf j2 (by omega) (by omega) (by omega) | exact Or.inr ⟨by omega, by omega, by omega⟩) (by first | exact h_jf j3 (by omega) (by omega) (by omega) | exact Or.inr ⟨by omega, by omega, by omega⟩)
      · have qz178 : z178 = (Int32.ofInt 3) := h_lit (show z178.toInt = 3 by omega) ci_3
        subst qz178
        refine h_call (sp := false) (pc' := 1347) (M := [(0, .ref 98), (1, .int (Int32.ofInt 3)), (2, .int z180), (3, .int z182)]) rfl rfl rfl rfl rfl rfl rfl rfl ?_
        refine u_layM3 _ Is110  z180 _ hz180 z182 _ hz182 (fun r199 br199 hr199 s200 Is200 Gs200 tr199 pcs200 => h_Kv ?_)
        have Zs200 : ∀ i, s200 0 i = s0 0 i := fun i => (Gs200 0 i rfl).trans (Zs110 i)
        have es200_0 : s200 95 0 = s0 95 0 := (Gs200 95 0 rfl).trans es110_0
        have es200_1 : s200 95 1 = s0 95 1 := (Gs200 95 1 rfl).trans es110_1
        have es200_2 : s200 95 2 = s0 95 2 := (Gs200 95 2 rfl).trans es110_2
        have es200_3 : s200 95 3 = s0 95 3 := (Gs200 95 3 rfl).trans es110_3
        have es200_4 : s200 96 0 = s0 96 0 := (Gs200 96 0 rfl).trans es110_4
        have es200_5 : s200 96 1 = s0 96 1 := (Gs200 96 1 rfl).trans es110_5
        have es200_6 : s200 96 2 = s0 96 2 := (Gs200 96 2 rfl).trans es110_6
        have es200_7 : s200 96 3 = s0 96 3 := (Gs200 96 3 rfl).trans es110_7
        have es200_8 : s200 111 0 = s0 111 0 := (Gs200 111 0 rfl).trans es110_8
        have es200_9 : s200 111 1 = s0 111 1 := (Gs200 111 1 rfl).trans es110_9
        have es200_10 : s200 111 2 = s0 111 2 := (Gs200 111 2 rfl).trans es110_10
        have es200_11 : s200 111 3 = s0 111 3 := (Gs200 111 3 rfl).trans es110_11
        have es200_12 : s200 112 0 = s0 112 0 := (Gs200 112 0 rfl).trans es110_12
        have es200_13 : s200 112 1 = s0 112 1 := (Gs200 112 1 rfl).trans es110_13
        have es200_14 : s200 112 2 = s0 112 2 := (Gs200 112 2 rfl).trans es110_14
        have es200_15 : s200 112 3 = s0 112 3 := (Gs200 112 3 rfl).trans es110_15
        rcases pcs200 with pcs200 | pcs200 | pcs200
        · refine h_ceq (tg := 1441) (pc' := 1350) rfl rfl rfl hr109 hr199 (fun c201 => absurd c201 (by omega)) (fun c201 => ?_)
          refine h_iconst (pc' := 1351) (x := (Int32.ofInt 0)) rfl rfl rfl ?_
          exfalso
          unfold h_js at j0 j1 j2 j3
          omega
        · refine h_ceq (tg := 1441) (pc' := 1350) rfl rfl rfl hr109 hr199 (fun c202 => absurd c202 (by omega)) (fun c202 => ?_)
          refine h_iconst (pc' := 1351) (x := (Int32.ofInt 0)) rfl rfl rfl ?_
          exfalso
          unfold h_js at j0 j1 j2 j3
          omega
        · refine h_ceq (tg := 1441) (pc' := 1350) rfl rfl rfl hr109 hr199 (fun c203 => ?_) (fun c203 => absurd c203 (by omega))
          exact kk _ Is200 (by first | exact h_jf j0 (by omega) (by omega) (by omega) | exact Or.inr ⟨by omega, by omega, by omega⟩) (by first | exact h_jf j1 (by omega) (by omega) (by omega) | exact Or.inr ⟨by omega, by omega, by omega⟩) (by first | exact h_jf j2 (by omega) (by omega) (by omega) | exact Or.inr ⟨by omega, by omega, by omega⟩) (by first | exact h_jf j3 (by omega) (by omega) (by omega) | exact Or.inr ⟨by omega, by omega, by omega⟩)
      · refine h_call (sp := false) (pc' := 1347) (M := [(0, .ref 98), (1, .int z178), (2, .int z180), (3, .int z182)]) rfl rfl rfl rfl rfl rfl rfl rfl ?_
        refine u_layMn _ Is110 z178 _ hz178 (by omega) z180 _ hz180 z182 _ hz182 (fun r204 br204 hr204 s205 Is205 Gs205 tr204 pcs205 => h_Kv ?_)
        have Zs205 : ∀ i, s205 0 i = s0 0 i := fun i => (Gs205 0 i rfl).trans (Zs110 i)
        have es205_0 : s205 95 0 = s0 95 0 := (Gs205 95 0 rfl).trans es110_0
        have es205_1 : s205 95 1 = s0 95 1 := (Gs205 95 1 rfl).trans es110_1
        have es205_2 : s205 95 2 = s0 95 2 := (Gs205 95 2 rfl).trans es110_2
        have es205_3 : s205 95 3 = s0 95 3 := (Gs205 95 3 rfl).trans es110_3
        have es205_4 : s205 96 0 = s0 96 0 := (Gs205 96 0 rfl).trans es110_4
        have es205_5 : s205 96 1 = s0 96 1 := (Gs205 96 1 rfl).trans es110_5
        have es205_6 : s205 96 2 = s0 96 2 := (Gs205 96 2 rfl).trans es110_6
        have es205_7 : s205 96 3 = s0 96 3 := (Gs205 96 3 rfl).trans es110_7
        have es205_8 : s205 111 0 = s0 111 0 := (Gs205 111 0 rfl).trans es110_8
        have es205_9 : s205 111 1 = s0 111 1 := (Gs205 111 1 rfl).trans es110_9
        have es205_10 : s205 111 2 = s0 111 2 := (Gs205 111 2 rfl).trans es110_10
        have es205_11 : s205 111 3 = s0 111 3 := (Gs205 111 3 rfl).trans es110_11
        have es205_12 : s205 112 0 = s0 112 0 := (Gs205 112 0 rfl).trans es110_12
        have es205_13 : s205 112 1 = s0 112 1 := (Gs205 112 1 rfl).trans es110_13
        have es205_14 : s205 112 2 = s0 112 2 := (Gs205 112 2 rfl).trans es110_14
        have es205_15 : s205 112 3 = s0 112 3 := (Gs205 112 3 rfl).trans es110_15
        rcases pcs205 with pcs205
        · refine h_ceq (tg := 1441) (pc' := 1350) rfl rfl rfl hr109 hr204 (fun c206 => absurd c206 (by omega)) (fun c206 => ?_)
          refine h_iconst (pc' := 1351) (x := (Int32.ofInt 0)) rfl rfl rfl ?_
          exfalso
          unfold h_js at j0 j1 j2 j3
          omega
      · refine h_call (sp := false) (pc' := 1347) (M := [(0, .ref 98), (1, .int z178), (2, .int z180), (3, .int z182)]) rfl rfl rfl rfl rfl rfl rfl rfl ?_
        refine u_layMp _ Is110 z178 _ hz178 (by omega) z180 _ hz180 z182 _ hz182 (fun r207 br207 hr207 s208 Is208 Gs208 tr207 pcs208 => h_Kv ?_)
        have Zs208 : ∀ i, s208 0 i = s0 0 i := fun i => (Gs208 0 i rfl).trans (Zs110 i)
        have es208_0 : s208 95 0 = s0 95 0 := (Gs208 95 0 rfl).trans es110_0
        have es208_1 : s208 95 1 = s0 95 1 := (Gs208 95 1 rfl).trans es110_1
        have es208_2 : s208 95 2 = s0 95 2 := (Gs208 95 2 rfl).trans es110_2
        have es208_3 : s208 95 3 = s0 95 3 := (Gs208 95 3 rfl).trans es110_3
        have es208_4 : s208 96 0 = s0 96 0 := (Gs208 96 0 rfl).trans es110_4
        have es208_5 : s208 96 1 = s0 96 1 := (Gs208 96 1 rfl).trans es110_5
        have es208_6 : s208 96 2 = s0 96 2 := (Gs208 96 2 rfl).trans es110_6
        have es208_7 : s208 96 3 = s0 96 3 := (Gs208 96 3 rfl).trans es110_7
        have es208_8 : s208 111 0 = s0 111 0 := (Gs208 111 0 rfl).trans es110_8
        have es208_9 : s208 111 1 = s0 111 1 := (Gs208 111 1 rfl).trans es110_9
        have es208_10 : s208 111 2 = s0 111 2 := (Gs208 111 2 rfl).trans es110_10
        have es208_11 : s208 111 3 = s0 111 3 := (Gs208 111 3 rfl).trans es110_11
        have es208_12 : s208 112 0 = s0 112 0 := (Gs208 112 0 rfl).trans es110_12
        have es208_13 : s208 112 1 = s0 112 1 := (Gs208 112 1 rfl).trans es110_13
        have es208_14 : s208 112 2 = s0 112 2 := (Gs208 112 2 rfl).trans es110_14
        have es208_15 : s208 112 3 = s0 112 3 := (Gs208 112 3 rfl).trans es110_15
        rcases pcs208 with pcs208
        · refine h_ceq (tg := 1441) (pc' := 1350) rfl rfl rfl hr109 hr207 (fun c209 => absurd c209 (by omega)) (fun c209 => ?_)
          refine h_iconst (pc' := 1351) (x := (Int32.ofInt 0)) rfl rfl rfl ?_
          exfalso
          unfold h_js at j0 j1 j2 j3
          omega
  · have qz2 : z2 = (Int32.ofInt 2) := h_lit (show z2.toInt = 2 by omega) ci_2
    subst qz2
    refine h_call (sp := false) (pc' := 1328) (M := [(0, .ref 9), (1, .int (Int32.ofInt 2)), (2, .int z4), (3, .int z6)]) rfl rfl rfl rfl rfl rfl rfl rfl ?_
    refine u_layX2 _ I0  z4 _ hz4 z6 _ hz6 (fun r210 br210 hr210 s211 Is211 Gs211 tr210 pcs211 => h_Kv ?_)
    have Zs211 : ∀ i, s211 0 i = s0 0 i := fun i => (Gs211 0 i rfl).trans rfl
    have es211_0 : s211 95 0 = s0 95 0 := (Gs211 95 0 rfl).trans rfl
    have es211_1 : s211 95 1 = s0 95 1 := (Gs211 95 1 rfl).trans rfl
    have es211_2 : s211 95 2 = s0 95 2 := (Gs211 95 2 rfl).trans rfl
    have es211_3 : s211 95 3 = s0 95 3 := (Gs211 95 3 rfl).trans rfl
    have es211_4 : s211 96 0 = s0 96 0 := (Gs211 96 0 rfl).trans rfl
    have es211_5 : s211 96 1 = s0 96 1 := (Gs211 96 1 rfl).trans rfl
    have es211_6 : s211 96 2 = s0 96 2 := (Gs211 96 2 rfl).trans rfl
    have es211_7 : s211 96 3 = s0 96 3 := (Gs211 96 3 rfl).trans rfl
    have es211_8 : s211 111 0 = s0 111 0 := (Gs211 111 0 rfl).trans rfl
    have es211_9 : s211 111 1 = s0 111 1 := (Gs211 111 1 rfl).trans rfl
    have es211_10 : s211 111 2 = s0 111 2 := (Gs211 111 2 rfl).trans rfl
    have es211_11 : s211 111 3 = s0 111 3 := (Gs211 111 3 rfl).trans rfl
    have es211_12 : s211 112 0 = s0 112 0 := (Gs211 112 0 rfl).trans rfl
    have es211_13 : s211 112 1 = s0 112 1 := (Gs211 112 1 rfl).trans rfl
    have es211_14 : s211 112 2 = s0 112 2 := (Gs211 112 2 rfl).trans rfl
    have es211_15 : s211 112 3 = s0 112 3 := (Gs211 112 3 rfl).trans rfl
    rcases pcs211 with pcs211 | pcs211 | pcs211
    · refine h_aload_n (pc' := 1329) rfl rfl rfl ?_
      refine h_aload_n (pc' := 1330) rfl rfl rfl ?_
      refine h_iload_n (pc' := 1331) rfl rfl rfl ?_
      refine h_iconst (pc' := 1332) (x := (Int32.ofInt 1)) rfl rfl rfl ?_
      refine h_iadd (pc' := 1333) rfl rfl hy3 ci_1 rfl (by omega) (by omega) (fun z212 hz212 => ?_)
      refine h_iald (pc' := 1334) (v := s0 0 (b3 + 1)) rfl rfl rfl hz212 (by omega) (by omega) (Zs211 _) (fun z213 hz213 => ?_)
      have tz213 := h_rgv hz213
      refine h_aload_n (pc' := 1335) rfl rfl rfl ?_
      refine h_iload_n (pc' := 1336) rfl rfl rfl ?_
      refine h_iconst (pc' := 1337) (x := (Int32.ofInt 2)) rfl rfl rfl ?_
      refine h_iadd (pc' := 1338) rfl rfl hy3 ci_2 rfl (by omega) (by omega) (fun z214 hz214 => ?_)
      refine h_iald (pc' := 1339) (v := s0 0 (b3 + 2)) rfl rfl rfl hz214 (by omega) (by omega) (Zs211 _) (fun z215 hz215 => ?_)
      have tz215 := h_rgv hz215
      refine h_aload_n (pc' := 1340) rfl rfl rfl ?_
      refine h_iload_n (pc' := 1341) rfl rfl rfl ?_
      refine h_iconst (pc' := 1342) (x := (Int32.ofInt 3)) rfl rfl rfl ?_
      refine h_iadd (pc' := 1343) rfl rfl hy3 ci_3 rfl (by omega) (by omega) (fun z216 hz216 => ?_)
      refine h_iald (pc' := 1344) (v := s0 0 (b3 + 3)) rfl rfl rfl hz216 (by omega) (by omega) (Zs211 _) (fun z217 hz217 => ?_)
      have tz217 := h_rgv hz217
      rcases (show ((s0 0 (b3 + 1)) = 0) ∨ ((s0 0 (b3 + 1)) = 1) ∨ ((s0 0 (b3 + 1)) = 2) ∨ ((s0 0 (b3 + 1)) = 3) ∨ ((s0 0 (b3 + 1)) ≤ (-1)) ∨ (4 ≤ (s0 0 (b3 + 1))) by omega) with c218 | c218 | c218 | c218 | c218 | c218
      · have qz213 : z213 = (Int32.ofInt 0) := h_lit (show z213.toInt = 0 by omega) ci_0
        subst qz213
        refine h_call (sp := false) (pc' := 1347) (M := [(0, .ref 98), (1, .int (Int32.ofInt 0)), (2, .int z215), (3, .int z217)]) rfl rfl rfl rfl rfl rfl rfl rfl ?_
        refine u_layM0 _ Is211  z215 _ hz215 z217 _ hz217 (fun r219 br219 hr219 s220 Is220 Gs220 tr219 pcs220 => h_Kv ?_)
        have Zs220 : ∀ i, s220 0 i = s0 0 i := fun i => (Gs220 0 i rfl).trans (Zs211 i)
        have es220_0 : s220 95 0 = s0 95 0 := (Gs220 95 0 rfl).trans es211_0
        have es220_1 : s220 95 1 = s0 95 1 := (Gs220 95 1 rfl).trans es211_1
        have es220_2 : s220 95 2 = s0 95 2 := (Gs220 95 2 rfl).trans es211_2
        have es220_3 : s220 95 3 = s0 95 3 := (Gs220 95 3 rfl).trans es211_3
        have es220_4 : s220 96 0 = s0 96 0 := (Gs220 96 0 rfl).trans es211_4
        have es220_5 : s220 96 1 = s0 96 1 := (Gs220 96 1 rfl).trans es211_5
        have es220_6 : s220 96 2 = s0 96 2 := (Gs220 96 2 rfl).trans es211_6
        have es220_7 : s220 96 3 = s0 96 3 := (Gs220 96 3 rfl).trans es211_7
        have es220_8 : s220 111 0 = s0 111 0 := (Gs220 111 0 rfl).trans es211_8
        have es220_9 : s220 111 1 = s0 111 1 := (Gs220 111 1 rfl).trans es211_9
        have es220_10 : s220 111 2 = s0 111 2 := (Gs220 111 2 rfl).trans es211_10
        have es220_11 : s220 111 3 = s0 111 3 := (Gs220 111 3 rfl).trans es211_11
        have es220_12 : s220 112 0 = s0 112 0 := (Gs220 112 0 rfl).trans es211_12
        have es220_13 : s220 112 1 = s0 112 1 := (Gs220 112 1 rfl).trans es211_13
        have es220_14 : s220 112 2 = s0 112 2 := (Gs220 112 2 rfl).trans es211_14
        have es220_15 : s220 112 3 = s0 112 3 := (Gs220 112 3 rfl).trans es211_15
        rcases pcs220 with pcs220 | pcs220 | pcs220
        · refine h_ceq (tg := 1441) (pc' := 1350) rfl rfl rfl hr210 hr219 (fun c221 => ?_) (fun c221 => absurd c221 (by omega))
          exact kk _ Is220 (by first | exact h_jf j0 (by omega) (by omega) (by omega) | exact Or.inr ⟨by omega, by omega, by omega⟩) (by first | exact h_jf j1 (by omega) (by omega) (by omega) | exact Or.inr ⟨by omega, by omega, by omega⟩) (by first | exact h_jf j2 (by omega) (by omega) (by omega) | exact Or.inr ⟨by omega, by omega, by omega⟩) (by first | exact h_jf j3 (by omega) (by omega) (by omega) | exact Or.inr ⟨by omega, by omega, by omega⟩)
        · refine h_ceq (tg := 1441) (pc' := 1350) rfl rfl rfl hr210 hr219 (fun c222 => absurd c222 (by omega)) (fun c222 => ?_)
          refine h_iconst (pc' := 1351) (x := (Int32.ofInt 0)) rfl rfl rfl ?_
          exfalso
          unfold h_js at j0 j1 j2 j3
          omega
        · refine h_ceq (tg := 1441) (pc' := 1350) rfl rfl rfl hr210 hr219 (fun c223 => absurd c223 (by omega)) (fun c223 => ?_)
          refine h_iconst (pc' := 1351) (x := (Int32.ofInt 0)) rfl rfl rfl ?_
          exfalso
          unfold h_js at j0 j1 j2 j3
          omega
      · have qz213 : z213 = (Int32.ofInt 1) := h_lit (show z213.toInt = 1 by omega) ci_1
        subst qz213
        refine h_call (sp := false) (pc' := 1347) (M := [(0, .ref 98), (1, .int (Int32.ofInt 1)), (2, .int z215), (3, .int z217)]) rfl rfl rfl rfl rfl rfl rfl rfl ?_
        refine u_layM1 _ Is211  z215 _ hz215 z217 _ hz217 (fun r224 br224 hr224 s225 Is225 Gs225 tr224 pcs225 => h_Kv ?_)
        have Zs225 : ∀ i, s225 0 i = s0 0 i := fun i => (Gs225 0 i rfl).trans (Zs211 i)
        have es225_0 : s225 95 0 = s0 95 0 := (Gs225 95 0 rfl).trans es211_0
        have es225_1 : s225 95 1 = s0 95 1 := (Gs225 95 1 rfl).trans es211_1
        have es225_2 : s225 95 2 = s0 95 2 := (Gs225 95 2 rfl).trans es211_2
        have es225_3 : s225 95 3 = s0 95 3 := (Gs225 95 3 rfl).trans es211_3
        have es225_4 : s225 96 0 = s0 96 0 := (Gs225 96 0 rfl).trans es211_4
        have es225_5 : s225 96 1 = s0 96 1 := (Gs225 96 1 rfl).trans es211_5
        have es225_6 : s225 96 2 = s0 96 2 := (Gs225 96 2 rfl).trans es211_6
        have es225_7 : s225 96 3 = s0 96 3 := (Gs225 96 3 rfl).trans es211_7
        have es225_8 : s225 111 0 = s0 111 0 := (Gs225 111 0 rfl).trans es211_8
        have es225_9 : s225 111 1 = s0 111 1 := (Gs225 111 1 rfl).trans es211_9
        have es225_10 : s225 111 2 = s0 111 2 := (Gs225 111 2 rfl).trans es211_10
        have es225_11 : s225 111 3 = s0 111 3 := (Gs225 111 3 rfl).trans es211_11
        have es225_12 : s225 112 0 = s0 112 0 := (Gs225 112 0 rfl).trans es211_12
        have es225_13 : s225 112 1 = s0 112 1 := (Gs225 112 1 rfl).trans es211_13
        have es225_14 : s225 112 2 = s0 112 2 := (Gs225 112 2 rfl).trans es211_14
        have es225_15 : s225 112 3 = s0 112 3 := (Gs225 112 3 rfl).trans es211_15
        rcases pcs225 with pcs225 | pcs225 | pcs225
        · refine h_ceq (tg := 1441) (pc' := 1350) rfl rfl rfl hr210 hr224 (fun c226 => ?_) (fun c226 => absurd c226 (by omega))
          exact kk _ Is225 (by first | exact h_jf j0 (by omega) (by omega) (by omega) | exact Or.inr ⟨by omega, by omega, by omega⟩) (by first | exact h_jf j1 (by omega) (by omega) (by omega) | exact Or.inr ⟨by omega, by omega, by omega⟩) (by first | exact h_jf j2 (by omega) (by omega) (by omega) | exact Or.inr ⟨by omega, by omega, by omega⟩) (by first | exact h_jf j3 (by omega) (by omega) (by omega) | exact Or.inr ⟨by omega, by omega, by omega⟩)
        · refine h_ceq (tg := 1441) (pc' := 1350) rfl rfl rfl hr210 hr224 (fun c227 => absurd c227 (by omega)) (fun c227 => ?_)
          refine h_iconst (pc' := 1351) (x := (Int32.ofInt 0)) rfl rfl rfl ?_
          exfalso
          unfold h_js at j0 j1 j2 j3
          omega
        · refine h_ceq (tg := 1441) (pc' := 1350) rfl rfl rfl hr210 hr224 (fun c228 => absurd c228 (by omega)) (fun c228 => ?_)
          refine h_iconst (pc' := 1351) (x := (Int32.ofInt 0)) rfl rfl rfl ?_
          exfalso
          unfold h_js at j0 j1 j2 j3
          omega
      · have qz213 : z213 = (Int32.ofInt 2) := h_lit (show z213.toInt = 2 by omega) ci_2
        subst qz213
        refine h_call (sp := false) (pc' := 1347) (M := [(0, .ref 98), (1, .int (Int32.ofInt 2)), (2, .int z215), (3, .int z217)]) rfl rfl rfl rfl rfl rfl rfl rfl ?_
        refine u_layM2 _ Is211  z215 _ hz215 z217 _ hz217 (fun r229 br229 hr229 s230 Is230 Gs230 tr229 pcs230 => h_Kv ?_)
        have Zs230 : ∀ i, s230 0 i = s0 0 i := fun i => (Gs230 0 i rfl).trans (Zs211 i)
        have es230_0 : s230 95 0 = s0 95 0 := (Gs230 95 0 rfl).trans es211_0
        have es230_1 : s230 95 1 = s0 95 1 := (Gs230 95 1 rfl).trans es211_1
        have es230_2 : s230 95 2 = s0 95 2 := (Gs230 95 2 rfl).trans es211_2
        have es230_3 : s230 95 3 = s0 95 3 := (Gs230 95 3 rfl).trans es211_3
        have es230_4 : s230 96 0 = s0 96 0 := (Gs230 96 0 rfl).trans es211_4
        have es230_5 : s230 96 1 = s0 96 1 := (Gs230 96 1 rfl).trans es211_5
        have es230_6 : s230 96 2 = s0 96 2 := (Gs230 96 2 rfl).trans es211_6
        have es230_7 : s230 96 3 = s0 96 3 := (Gs230 96 3 rfl).trans es211_7
        have es230_8 : s230 111 0 = s0 111 0 := (Gs230 111 0 rfl).trans es211_8
        have es230_9 : s230 111 1 = s0 111 1 := (Gs230 111 1 rfl).trans es211_9
        have es230_10 : s230 111 2 = s0 111 2 := (Gs230 111 2 rfl).trans es211_10
        have es230_11 : s230 111 3 = s0 111 3 := (Gs230 111 3 rfl).trans es211_11
        have es230_12 : s230 112 0 = s0 112 0 := (Gs230 112 0 rfl).trans es211_12
        have es230_13 : s230 112 1 = s0 112 1 := (Gs230 112 1 rfl).trans es211_13
        have es230_14 : s230 112 2 = s0 112 2 := (Gs230 112 2 rfl).trans es211_14
        have es230_15 : s230 112 3 = s0 112 3 := (Gs230 112 3 rfl).trans es211_15
        rcases pcs230 with pcs230 | pcs230 | pcs230
        · refine h_ceq (tg := 1441) (pc' := 1350) rfl rfl rfl hr210 hr229 (fun c231 => ?_) (fun c231 => absurd c231 (by omega))
          exact kk _ Is230 (by first | exact h_jf j0 (by omega) (by omega) (by omega) | exact Or.inr ⟨by omega, by omega, by omega⟩) (by first | exact h_jf j1 (by omega) (by omega) (by omega) | exact Or.inr ⟨by omega, by omega, by omega⟩) (by first | exact h_jf j2 (by omega) (by omega) (by omega) | exact Or.inr ⟨by omega, by omega, by omega⟩) (by first | exact h_jf j3 (by omega) (by omega) (by omega) | exact Or.inr ⟨by omega, by omega, by omega⟩)
        · refine h_ceq (tg := 1441) (pc' := 1350) rfl rfl rfl hr210 hr229 (fun c232 => absurd c232 (by omega)) (fun c232 => ?_)
          refine h_iconst (pc' := 1351) (x := (Int32.ofInt 0)) rfl rfl rfl ?_
          exfalso
          unfold h_js at j0 j1 j2 j3
          omega
        · refine h_ceq (tg := 1441) (pc' := 1350) rfl rfl rfl hr210 hr229 (fun c233 => absurd c233 (by omega)) (fun c233 => ?_)
          refine h_iconst (pc' := 1351) (x := (Int32.ofInt 0)) rfl rfl rfl ?_
          exfalso
          unfold h_js at j0 j1 j2 j3
          omega
      · have qz213 : z213 = (Int32.ofInt 3) := h_lit (show z213.toInt = 3 by omega) ci_3
        subst qz213
        refine h_call (sp := false) (pc' := 1347) (M := [(0, .ref 98), (1, .int (Int32.ofInt 3)), (2, .int z215), (3, .int z217)]) rfl rfl rfl rfl rfl rfl rfl rfl ?_
        refine u_layM3 _ Is211  z215 _ hz215 z217 _ hz217 (fun r234 br234 hr234 s235 Is235 Gs235 tr234 pcs235 => h_Kv ?_)
        have Zs235 : ∀ i, s235 0 i = s0 0 i := fun i => (Gs235 0 i rfl).trans (Zs211 i)
        have es235_0 : s235 95 0 = s0 95 0 := (Gs235 95 0 rfl).trans es211_0
        have es235_1 : s235 95 1 = s0 95 1 := (Gs235 95 1 rfl).trans es211_1
        have es235_2 : s235 95 2 = s0 95 2 := (Gs235 95 2 rfl).trans es211_2
        have es235_3 : s235 95 3 = s0 95 3 := (Gs235 95 3 rfl).trans es211_3
        have es235_4 : s235 96 0 = s0 96 0 := (Gs235 96 0 rfl).trans es211_4
        have es235_5 : s235 96 1 = s0 96 1 := (Gs235 96 1 rfl).trans es211_5
        have es235_6 : s235 96 2 = s0 96 2 := (Gs235 96 2 rfl).trans es211_6
        have es235_7 : s235 96 3 = s0 96 3 := (Gs235 96 3 rfl).trans es211_7
        have es235_8 : s235 111 0 = s0 111 0 := (Gs235 111 0 rfl).trans es211_8
        have es235_9 : s235 111 1 = s0 111 1 := (Gs235 111 1 rfl).trans es211_9
        have es235_10 : s235 111 2 = s0 111 2 := (Gs235 111 2 rfl).trans es211_10
        have es235_11 : s235 111 3 = s0 111 3 := (Gs235 111 3 rfl).trans es211_11
        have es235_12 : s235 112 0 = s0 112 0 := (Gs235 112 0 rfl).trans es211_12
        have es235_13 : s235 112 1 = s0 112 1 := (Gs235 112 1 rfl).trans es211_13
        have es235_14 : s235 112 2 = s0 112 2 := (Gs235 112 2 rfl).trans es211_14
        have es235_15 : s235 112 3 = s0 112 3 := (Gs235 112 3 rfl).trans es211_15
        rcases pcs235 with pcs235 | pcs235 | pcs235
        · refine h_ceq (tg := 1441) (pc' := 1350) rfl rfl rfl hr210 hr234 (fun c236 => ?_) (fun c236 => absurd c236 (by omega))
          exact kk _ Is235 (by first | exact h_jf j0 (by omega) (by omega) (by omega) | exact Or.inr ⟨by omega, by omega, by omega⟩) (by first | exact h_jf j1 (by omega) (by omega) (by omega) | exact Or.inr ⟨by omega, by omega, by omega⟩) (by first | exact h_jf j2 (by omega) (by omega) (by omega) | exact Or.inr ⟨by omega, by omega, by omega⟩) (by first | exact h_jf j3 (by omega) (by omega) (by omega) | exact Or.inr ⟨by omega, by omega, by omega⟩)
        · refine h_ceq (tg := 1441) (pc' := 1350) rfl rfl rfl hr210 hr234 (fun c237 => absurd c237 (by omega)) (fun c237 => ?_)
          refine h_iconst (pc' := 1351) (x := (Int32.ofInt 0)) rfl rfl rfl ?_
          exfalso
          unfold h_js at j0 j1 j2 j3
          omega
        · refine h_ceq (tg := 1441) (pc' := 1350) rfl rfl rfl hr210 hr234 (fun c238 => absurd c238 (by omega)) (fun c238 => ?_)
          refine h_iconst (pc' := 1351) (x := (Int32.ofInt 0)) rfl rfl rfl ?_
          exfalso
          unfold h_js at j0 j1 j2 j3
          omega
      · refine h_call (sp := false) (pc' := 1347) (M := [(0, .ref 98), (1, .int z213), (2, .int z215), (3, .int z217)]) rfl rfl rfl rfl rfl rfl rfl rfl ?_
        refine u_layMn _ Is211 z213 _ hz213 (by omega) z215 _ hz215 z217 _ hz217 (fun r239 br239 hr239 s240 Is240 Gs240 tr239 pcs240 => h_Kv ?_)
        have Zs240 : ∀ i, s240 0 i = s0 0 i := fun i => (Gs240 0 i rfl).trans (Zs211 i)
        have es240_0 : s240 95 0 = s0 95 0 := (Gs240 95 0 rfl).trans es211_0
        have es240_1 : s240 95 1 = s0 95 1 := (Gs240 95 1 rfl).trans es211_1
        have es240_2 : s240 95 2 = s0 95 2 := (Gs240 95 2 rfl).trans es211_2
        have es240_3 : s240 95 3 = s0 95 3 := (Gs240 95 3 rfl).trans es211_3
        have es240_4 : s240 96 0 = s0 96 0 := (Gs240 96 0 rfl).trans es211_4
        have es240_5 : s240 96 1 = s0 96 1 := (Gs240 96 1 rfl).trans es211_5
        have es240_6 : s240 96 2 = s0 96 2 := (Gs240 96 2 rfl).trans es211_6
        have es240_7 : s240 96 3 = s0 96 3 := (Gs240 96 3 rfl).trans es211_7
        have es240_8 : s240 111 0 = s0 111 0 := (Gs240 111 0 rfl).trans es211_8
        have es240_9 : s240 111 1 = s0 111 1 := (Gs240 111 1 rfl).trans es211_9
        have es240_10 : s240 111 2 = s0 111 2 := (Gs240 111 2 rfl).trans es211_10
        have es240_11 : s240 111 3 = s0 111 3 := (Gs240 111 3 rfl).trans es211_11
        have es240_12 : s240 112 0 = s0 112 0 := (Gs240 112 0 rfl).trans es211_12
        have es240_13 : s240 112 1 = s0 112 1 := (Gs240 112 1 rfl).trans es211_13
        have es240_14 : s240 112 2 = s0 112 2 := (Gs240 112 2 rfl).trans es211_14
        have es240_15 : s240 112 3 = s0 112 3 := (Gs240 112 3 rfl).trans es211_15
        rcases pcs240 with pcs240
        · refine h_ceq (tg := 1441) (pc' := 1350) rfl rfl rfl hr210 hr239 (fun c241 => absurd c241 (by omega)) (fun c241 => ?_)
          refine h_iconst (pc' := 1351) (x := (Int32.ofInt 0)) rfl rfl rfl ?_
          exfalso
          unfold h_js at j0 j1 j2 j3
          omega
      · refine h_call (sp := false) (pc' := 1347) (M := [(0, .ref 98), (1, .int z213), (2, .int z215), (3, .int z217)]) rfl rfl rfl rfl rfl rfl rfl rfl ?_
        refine u_layMp _ Is211 z213 _ hz213 (by omega) z215 _ hz215 z217 _ hz217 (fun r242 br242 hr242 s243 Is243 Gs243 tr242 pcs243 => h_Kv ?_)
        have Zs243 : ∀ i, s243 0 i = s0 0 i := fun i => (Gs243 0 i rfl).trans (Zs211 i)
        have es243_0 : s243 95 0 = s0 95 0 := (Gs243 95 0 rfl).trans es211_0
        have es243_1 : s243 95 1 = s0 95 1 := (Gs243 95 1 rfl).trans es211_1
        have es243_2 : s243 95 2 = s0 95 2 := (Gs243 95 2 rfl).trans es211_2
        have es243_3 : s243 95 3 = s0 95 3 := (Gs243 95 3 rfl).trans es211_3
        have es243_4 : s243 96 0 = s0 96 0 := (Gs243 96 0 rfl).trans es211_4
        have es243_5 : s243 96 1 = s0 96 1 := (Gs243 96 1 rfl).trans es211_5
        have es243_6 : s243 96 2 = s0 96 2 := (Gs243 96 2 rfl).trans es211_6
        have es243_7 : s243 96 3 = s0 96 3 := (Gs243 96 3 rfl).trans es211_7
        have es243_8 : s243 111 0 = s0 111 0 := (Gs243 111 0 rfl).trans es211_8
        have es243_9 : s243 111 1 = s0 111 1 := (Gs243 111 1 rfl).trans es211_9
        have es243_10 : s243 111 2 = s0 111 2 := (Gs243 111 2 rfl).trans es211_10
        have es243_11 : s243 111 3 = s0 111 3 := (Gs243 111 3 rfl).trans es211_11
        have es243_12 : s243 112 0 = s0 112 0 := (Gs243 112 0 rfl).trans es211_12
        have es243_13 : s243 112 1 = s0 112 1 := (Gs243 112 1 rfl).trans es211_13
        have es243_14 : s243 112 2 = s0 112 2 := (Gs243 112 2 rfl).trans es211_14
        have es243_15 : s243 112 3 = s0 112 3 := (Gs243 112 3 rfl).trans es211_15
        rcases pcs243 with pcs243
        · refine h_ceq (tg := 1441) (pc' := 1350) rfl rfl rfl hr210 hr242 (fun c244 => absurd c244 (by omega)) (fun c244 => ?_)
          refine h_iconst (pc' := 1351) (x := (Int32.ofInt 0)) rfl rfl rfl ?_
          exfalso
          unfold h_js at j0 j1 j2 j3
          omega
    · refine h_aload_n (pc' := 1329) rfl rfl rfl ?_
      refine h_aload_n (pc' := 1330) rfl rfl rfl ?_
      refine h_iload_n (pc' := 1331) rfl rfl rfl ?_
      refine h_iconst (pc' := 1332) (x := (Int32.ofInt 1)) rfl rfl rfl ?_
      refine h_iadd (pc' := 1333) rfl rfl hy3 ci_1 rfl (by omega) (by omega) (fun z245 hz245 => ?_)
      refine h_iald (pc' := 1334) (v := s0 0 (b3 + 1)) rfl rfl rfl hz245 (by omega) (by omega) (Zs211 _) (fun z246 hz246 => ?_)
      have tz246 := h_rgv hz246
      refine h_aload_n (pc' := 1335) rfl rfl rfl ?_
      refine h_iload_n (pc' := 1336) rfl rfl rfl ?_
      refine h_iconst (pc' := 1337) (x := (Int32.ofInt 2)) rfl rfl rfl ?_
      refine h_iadd (pc' := 1338) rfl rfl hy3 ci_2 rfl (by omega) (by omega) (fun z247 hz247 => ?_)
      refine h_iald (pc' := 1339) (v := s0 0 (b3 + 2)) rfl rfl rfl hz247 (by omega) (by omega) (Zs211 _) (fun z248 hz248 => ?_)
      have tz248 := h_rgv hz248
      refine h_aload_n (pc' := 1340) rfl rfl rfl ?_
      refine h_iload_n (pc' := 1341) rfl rfl rfl ?_
      refine h_iconst (pc' := 1342) (x := (Int32.ofInt 3)) rfl rfl rfl ?_
      refine h_iadd (pc' := 1343) rfl rfl hy3 ci_3 rfl (by omega) (by omega) (fun z249 hz249 => ?_)
      refine h_iald (pc' := 1344) (v := s0 0 (b3 + 3)) rfl rfl rfl hz249 (by omega) (by omega) (Zs211 _) (fun z250 hz250 => ?_)
      have tz250 := h_rgv hz250
      rcases (show ((s0 0 (b3 + 1)) = 0) ∨ ((s0 0 (b3 + 1)) = 1) ∨ ((s0 0 (b3 + 1)) = 2) ∨ ((s0 0 (b3 + 1)) = 3) ∨ ((s0 0 (b3 + 1)) ≤ (-1)) ∨ (4 ≤ (s0 0 (b3 + 1))) by omega) with c251 | c251 | c251 | c251 | c251 | c251
      · have qz246 : z246 = (Int32.ofInt 0) := h_lit (show z246.toInt = 0 by omega) ci_0
        subst qz246
        refine h_call (sp := false) (pc' := 1347) (M := [(0, .ref 98), (1, .int (Int32.ofInt 0)), (2, .int z248), (3, .int z250)]) rfl rfl rfl rfl rfl rfl rfl rfl ?_
        refine u_layM0 _ Is211  z248 _ hz248 z250 _ hz250 (fun r252 br252 hr252 s253 Is253 Gs253 tr252 pcs253 => h_Kv ?_)
        have Zs253 : ∀ i, s253 0 i = s0 0 i := fun i => (Gs253 0 i rfl).trans (Zs211 i)
        have es253_0 : s253 95 0 = s0 95 0 := (Gs253 95 0 rfl).trans es211_0
        have es253_1 : s253 95 1 = s0 95 1 := (Gs253 95 1 rfl).trans es211_1
        have es253_2 : s253 95 2 = s0 95 2 := (Gs253 95 2 rfl).trans es211_2
        have es253_3 : s253 95 3 = s0 95 3 := (Gs253 95 3 rfl).trans es211_3
        have es253_4 : s253 96 0 = s0 96 0 := (Gs253 96 0 rfl).trans es211_4
        have es253_5 : s253 96 1 = s0 96 1 := (Gs253 96 1 rfl).trans es211_5
        have es253_6 : s253 96 2 = s0 96 2 := (Gs253 96 2 rfl).trans es211_6
        have es253_7 : s253 96 3 = s0 96 3 := (Gs253 96 3 rfl).trans es211_7
        have es253_8 : s253 111 0 = s0 111 0 := (Gs253 111 0 rfl).trans es211_8
        have es253_9 : s253 111 1 = s0 111 1 := (Gs253 111 1 rfl).trans es211_9
        have es253_10 : s253 111 2 = s0 111 2 := (Gs253 111 2 rfl).trans es211_10
        have es253_11 : s253 111 3 = s0 111 3 := (Gs253 111 3 rfl).trans es211_11
        have es253_12 : s253 112 0 = s0 112 0 := (Gs253 112 0 rfl).trans es211_12
        have es253_13 : s253 112 1 = s0 112 1 := (Gs253 112 1 rfl).trans es211_13
        have es253_14 : s253 112 2 = s0 112 2 := (Gs253 112 2 rfl).trans es211_14
        have es253_15 : s253 112 3 = s0 112 3 := (Gs253 112 3 rfl).trans es211_15
        rcases pcs253 with pcs253 | pcs253 | pcs253
        · refine h_ceq (tg := 1441) (pc' := 1350) rfl rfl rfl hr210 hr252 (fun c254 => absurd c254 (by omega)) (fun c254 => ?_)
          refine h_iconst (pc' := 1351) (x := (Int32.ofInt 0)) rfl rfl rfl ?_
          exfalso
          unfold h_js at j0 j1 j2 j3
          omega
        · refine h_ceq (tg := 1441) (pc' := 1350) rfl rfl rfl hr210 hr252 (fun c255 => ?_) (fun c255 => absurd c255 (by omega))
          exact kk _ Is253 (by first | exact h_jf j0 (by omega) (by omega) (by omega) | exact Or.inr ⟨by omega, by omega, by omega⟩) (by first | exact h_jf j1 (by omega) (by omega) (by omega) | exact Or.inr ⟨by omega, by omega, by omega⟩) (by first | exact h_jf j2 (by omega) (by omega) (by omega) | exact Or.inr ⟨by omega, by omega, by omega⟩) (by first | exact h_jf j3 (by omega) (by omega) (by omega) | exact Or.inr ⟨by omega, by omega, by omega⟩)
        · refine h_ceq (tg := 1441) (pc' := 1350) rfl rfl rfl hr210 hr252 (fun c256 => absurd c256 (by omega)) (fun c256 => ?_)
          refine h_iconst (pc' := 1351) (x := (Int32.ofInt 0)) rfl rfl rfl ?_
          exfalso
          unfold h_js at j0 j1 j2 j3
          omega
      · have qz246 : z246 = (Int32.ofInt 1) := h_lit (show z246.toInt = 1 by omega) ci_1
        subst qz246
        refine h_call (sp := false) (pc' := 1347) (M := [(0, .ref 98), (1, .int (Int32.ofInt 1)), (2, .int z248), (3, .int z250)]) rfl rfl rfl rfl rfl rfl rfl rfl ?_
        refine u_layM1 _ Is211  z248 _ hz248 z250 _ hz250 (fun r257 br257 hr257 s258 Is258 Gs258 tr257 pcs258 => h_Kv ?_)
        have Zs258 : ∀ i, s258 0 i = s0 0 i := fun i => (Gs258 0 i rfl).trans (Zs211 i)
        have es258_0 : s258 95 0 = s0 95 0 := (Gs258 95 0 rfl).trans es211_0
        have es258_1 : s258 95 1 = s0 95 1 := (Gs258 95 1 rfl).trans es211_1
        have es258_2 : s258 95 2 = s0 95 2 := (Gs258 95 2 rfl).trans es211_2
        have es258_3 : s258 95 3 = s0 95 3 := (Gs258 95 3 rfl).trans es211_3
        have es258_4 : s258 96 0 = s0 96 0 := (Gs258 96 0 rfl).trans es211_4
        have es258_5 : s258 96 1 = s0 96 1 := (Gs258 96 1 rfl).trans es211_5
        have es258_6 : s258 96 2 = s0 96 2 := (Gs258 96 2 rfl).trans es211_6
        have es258_7 : s258 96 3 = s0 96 3 := (Gs258 96 3 rfl).trans es211_7
        have es258_8 : s258 111 0 = s0 111 0 := (Gs258 111 0 rfl).trans es211_8
        have es258_9 : s258 111 1 = s0 111 1 := (Gs258 111 1 rfl).trans es211_9
        have es258_10 : s258 111 2 = s0 111 2 := (Gs258 111 2 rfl).trans es211_10
        have es258_11 : s258 111 3 = s0 111 3 := (Gs258 111 3 rfl).trans es211_11
        have es258_12 : s258 112 0 = s0 112 0 := (Gs258 112 0 rfl).trans es211_12
        have es258_13 : s258 112 1 = s0 112 1 := (Gs258 112 1 rfl).trans es211_13
        have es258_14 : s258 112 2 = s0 112 2 := (Gs258 112 2 rfl).trans es211_14
        have es258_15 : s258 112 3 = s0 112 3 := (Gs258 112 3 rfl).trans es211_15
        rcases pcs258 with pcs258 | pcs258 | pcs258
        · refine h_ceq (tg := 1441) (pc' := 1350) rfl rfl rfl hr210 hr257 (fun c259 => absurd c259 (by omega)) (fun c259 => ?_)
          refine h_iconst (pc' := 1351) (x := (Int32.ofInt 0)) rfl rfl rfl ?_
          exfalso
          unfold h_js at j0 j1 j2 j3
          omega
        · refine h_ceq (tg := 1441) (pc' := 1350) rfl rfl rfl hr210 hr257 (fun c260 => ?_) (fun c260 => absurd c260 (by omega))
          exact kk _ Is258 (by first | exact h_jf j0 (by omega) (by omega) (by omega) | exact Or.inr ⟨by omega, by omega, by omega⟩) (by first | exact h_jf j1 (by omega) (by omega) (by omega) | exact Or.inr ⟨by omega, by omega, by omega⟩) (by first | exact h_jf j2 (by omega) (by omega) (by omega) | exact Or.inr ⟨by omega, by omega, by omega⟩) (by first | exact h_jf j3 (by omega) (by omega) (by omega) | exact Or.inr ⟨by omega, by omega, by omega⟩)
        · refine h_ceq (tg := 1441) (pc' := 1350) rfl rfl rfl hr210 hr257 (fun c261 => absurd c261 (by omega)) (fun c261 => ?_)
          refine h_iconst (pc' := 1351) (x := (Int32.ofInt 0)) rfl rfl rfl ?_
          exfalso
          unfold h_js at j0 j1 j2 j3
          omega
      · have qz246 : z246 = (Int32.ofInt 2) := h_lit (show z246.toInt = 2 by omega) ci_2
        subst qz246
        refine h_call (sp := false) (pc' := 1347) (M := [(0, .ref 98), (1, .int (Int32.ofInt 2)), (2, .int z248), (3, .int z250)]) rfl rfl rfl rfl rfl rfl rfl rfl ?_
        refine u_layM2 _ Is211  z248 _ hz248 z250 _ hz250 (fun r262 br262 hr262 s263 Is263 Gs263 tr262 pcs263 => h_Kv ?_)
        have Zs263 : ∀ i, s263 0 i = s0 0 i := fun i => (Gs263 0 i rfl).trans (Zs211 i)
        have es263_0 : s263 95 0 = s0 95 0 := (Gs263 95 0 rfl).trans es211_0
        have es263_1 : s263 95 1 = s0 95 1 := (Gs263 95 1 rfl).trans es211_1
        have es263_2 : s263 95 2 = s0 95 2 := (Gs263 95 2 rfl).trans es211_2
        have es263_3 : s263 95 3 = s0 95 3 := (Gs263 95 3 rfl).trans es211_3
        have es263_4 : s263 96 0 = s0 96 0 := (Gs263 96 0 rfl).trans es211_4
        have es263_5 : s263 96 1 = s0 96 1 := (Gs263 96 1 rfl).trans es211_5
        have es263_6 : s263 96 2 = s0 96 2 := (Gs263 96 2 rfl).trans es211_6
        have es263_7 : s263 96 3 = s0 96 3 := (Gs263 96 3 rfl).trans es211_7
        have es263_8 : s263 111 0 = s0 111 0 := (Gs263 111 0 rfl).trans es211_8
        have es263_9 : s263 111 1 = s0 111 1 := (Gs263 111 1 rfl).trans es211_9
        have es263_10 : s263 111 2 = s0 111 2 := (Gs263 111 2 rfl).trans es211_10
        have es263_11 : s263 111 3 = s0 111 3 := (Gs263 111 3 rfl).trans es211_11
        have es263_12 : s263 112 0 = s0 112 0 := (Gs263 112 0 rfl).trans es211_12
        have es263_13 : s263 112 1 = s0 112 1 := (Gs263 112 1 rfl).trans es211_13
        have es263_14 : s263 112 2 = s0 112 2 := (Gs263 112 2 rfl).trans es211_14
        have es263_15 : s263 112 3 = s0 112 3 := (Gs263 112 3 rfl).trans es211_15
        rcases pcs263 with pcs263 | pcs263 | pcs263
        · refine h_ceq (tg := 1441) (pc' := 1350) rfl rfl rfl hr210 hr262 (fun c264 => absurd c264 (by omega)) (fun c264 => ?_)
          refine h_iconst (pc' := 1351) (x := (Int32.ofInt 0)) rfl rfl rfl ?_
          exfalso
          unfold h_js at j0 j1 j2 j3
          omega
        · refine h_ceq (tg := 1441) (pc' := 1350) rfl rfl rfl hr210 hr262 (fun c265 => ?_) (fun c265 => absurd c265 (by omega))
          exact kk _ Is263 (by first | exact h_jf j0 (by omega) (by omega) (by omega) | exact Or.inr ⟨by omega, by omega, by omega⟩) (by first | exact h_jf j1 (by omega) (by omega) (by omega) | exact Or.inr ⟨by omega, by omega, by omega⟩) (by first | exact h_jf j2 (by omega) (by omega) (by omega) | exact Or.inr ⟨by omega, by omega, by omega⟩) (by first | exact h_jf j3 (by omega) (by omega) (by omega) | exact Or.inr ⟨by omega, by omega, by omega⟩)
        · refine h_ceq (tg := 1441) (pc' := 1350) rfl rfl rfl hr210 hr262 (fun c266 => absurd c266 (by omega)) (fun c266 => ?_)
          refine h_iconst (pc' := 1351) (x := (Int32.ofInt 0)) rfl rfl rfl ?_
          exfalso
          unfold h_js at j0 j1 j2 j3
          omega
      · have qz246 : z246 = (Int32.ofInt 3) := h_lit (show z246.toInt = 3 by omega) ci_3
        subst qz246
        refine h_call (sp := false) (pc' := 1347) (M := [(0, .ref 98), (1, .int (Int32.ofInt 3)), (2, .int z248), (3, .int z250)]) rfl rfl rfl rfl rfl rfl rfl rfl ?_
        refine u_layM3 _ Is211  z248 _ hz248 z250 _ hz250 (fun r267 br267 hr267 s268 Is268 Gs268 tr267 pcs268 => h_Kv ?_)
        have Zs268 : ∀ i, s268 0 i = s0 0 i := fun i => (Gs268 0 i rfl).trans (Zs211 i)
        have es268_0 : s268 95 0 = s0 95 0 := (Gs268 95 0 rfl).trans es211_0
        have es268_1 : s268 95 1 = s0 95 1 := (Gs268 95 1 rfl).trans es211_1
        have es268_2 : s268 95 2 = s0 95 2 := (Gs268 95 2 rfl).trans es211_2
        have es268_3 : s268 95 3 = s0 95 3 := (Gs268 95 3 rfl).trans es211_3
        have es268_4 : s268 96 0 = s0 96 0 := (Gs268 96 0 rfl).trans es211_4
        have es268_5 : s268 96 1 = s0 96 1 := (Gs268 96 1 rfl).trans es211_5
        have es268_6 : s268 96 2 = s0 96 2 := (Gs268 96 2 rfl).trans es211_6
        have es268_7 : s268 96 3 = s0 96 3 := (Gs268 96 3 rfl).trans es211_7
        have es268_8 : s268 111 0 = s0 111 0 := (Gs268 111 0 rfl).trans es211_8
        have es268_9 : s268 111 1 = s0 111 1 := (Gs268 111 1 rfl).trans es211_9
        have es268_10 : s268 111 2 = s0 111 2 := (Gs268 111 2 rfl).trans es211_10
        have es268_11 : s268 111 3 = s0 111 3 := (Gs268 111 3 rfl).trans es211_11
        have es268_12 : s268 112 0 = s0 112 0 := (Gs268 112 0 rfl).trans es211_12
        have es268_13 : s268 112 1 = s0 112 1 := (Gs268 112 1 rfl).trans es211_13
        have es268_14 : s268 112 2 = s0 112 2 := (Gs268 112 2 rfl).trans es211_14
        have es268_15 : s268 112 3 = s0 112 3 := (Gs268 112 3 rfl).trans es211_15
        rcases pcs268 with pcs268 | pcs268 | pcs268
        · refine h_ceq (tg := 1441) (pc' := 1350) rfl rfl rfl hr210 hr267 (fun c269 => absurd c269 (by omega)) (fun c269 => ?_)
          refine h_iconst (pc' := 1351) (x := (Int32.ofInt 0)) rfl rfl rfl ?_
          exfalso
          unfold h_js at j0 j1 j2 j3
          omega
        · refine h_ceq (tg := 1441) (pc' := 1350) rfl rfl rfl hr210 hr267 (fun c270 => ?_) (fun c270 => absurd c270 (by omega))
          exact kk _ Is268 (by first | exact h_jf j0 (by omega) (by omega) (by omega) | exact Or.inr ⟨by omega, by omega, by omega⟩) (by first | exact h_jf j1 (by omega) (by omega) (by omega) | exact Or.inr ⟨by omega, by omega, by omega⟩) (by first | exact h_jf j2 (by omega) (by omega) (by omega) | exact Or.inr ⟨by omega, by omega, by omega⟩) (by first | exact h_jf j3 (by omega) (by omega) (by omega) | exact Or.inr ⟨by omega, by omega, by omega⟩)
        · refine h_ceq (tg := 1441) (pc' := 1350) rfl rfl rfl hr210 hr267 (fun c271 => absurd c271 (by omega)) (fun c271 => ?_)
          refine h_iconst (pc' := 1351) (x := (Int32.ofInt 0)) rfl rfl rfl ?_
          exfalso
          unfold h_js at j0 j1 j2 j3
          omega
      · refine h_call (sp := false) (pc' := 1347) (M := [(0, .ref 98), (1, .int z246), (2, .int z248), (3, .int z250)]) rfl rfl rfl rfl rfl rfl rfl rfl ?_
        refine u_layMn _ Is211 z246 _ hz246 (by omega) z248 _ hz248 z250 _ hz250 (fun r272 br272 hr272 s273 Is273 Gs273 tr272 pcs273 => h_Kv ?_)
        have Zs273 : ∀ i, s273 0 i = s0 0 i := fun i => (Gs273 0 i rfl).trans (Zs211 i)
        have es273_0 : s273 95 0 = s0 95 0 := (Gs273 95 0 rfl).trans es211_0
        have es273_1 : s273 95 1 = s0 95 1 := (Gs273 95 1 rfl).trans es211_1
        have es273_2 : s273 95 2 = s0 95 2 := (Gs273 95 2 rfl).trans es211_2
        have es273_3 : s273 95 3 = s0 95 3 := (Gs273 95 3 rfl).trans es211_3
        have es273_4 : s273 96 0 = s0 96 0 := (Gs273 96 0 rfl).trans es211_4
        have es273_5 : s273 96 1 = s0 96 1 := (Gs273 96 1 rfl).trans es211_5
        have es273_6 : s273 96 2 = s0 96 2 := (Gs273 96 2 rfl).trans es211_6
        have es273_7 : s273 96 3 = s0 96 3 := (Gs273 96 3 rfl).trans es211_7
        have es273_8 : s273 111 0 = s0 111 0 := (Gs273 111 0 rfl).trans es211_8
        have es273_9 : s273 111 1 = s0 111 1 := (Gs273 111 1 rfl).trans es211_9
        have es273_10 : s273 111 2 = s0 111 2 := (Gs273 111 2 rfl).trans es211_10
        have es273_11 : s273 111 3 = s0 111 3 := (Gs273 111 3 rfl).trans es211_11
        have es273_12 : s273 112 0 = s0 112 0 := (Gs273 112 0 rfl).trans es211_12
        have es273_13 : s273 112 1 = s0 112 1 := (Gs273 112 1 rfl).trans es211_13
        have es273_14 : s273 112 2 = s0 112 2 := (Gs273 112 2 rfl).trans es211_14
        have es273_15 : s273 112 3 = s0 112 3 := (Gs273 112 3 rfl).trans es211_15
        rcases pcs273 with pcs273
        · refine h_ceq (tg := 1441) (pc' := 1350) rfl rfl rfl hr210 hr272 (fun c274 => absurd c274 (by omega)) (fun c274 => ?_)
          refine h_iconst (pc' := 1351) (x := (Int32.ofInt 0)) rfl rfl rfl ?_
          exfalso
          unfold h_js at j0 j1 j2 j3
          omega
      · refine h_call (sp := false) (pc' := 1347) (M := [(0, .ref 98), (1, .int z246), (2, .int z248), (3, .int z250)]) rfl rfl rfl rfl rfl rfl rfl rfl ?_
        refine u_layMp _ Is211 z246 _ hz246 (by omega) z248 _ hz248 z250 _ hz250 (fun r275 br275 hr275 s276 Is276 Gs276 tr275 pcs276 => h_Kv ?_)
        have Zs276 : ∀ i, s276 0 i = s0 0 i := fun i => (Gs276 0 i rfl).trans (Zs211 i)
        have es276_0 : s276 95 0 = s0 95 0 := (Gs276 95 0 rfl).trans es211_0
        have es276_1 : s276 95 1 = s0 95 1 := (Gs276 95 1 rfl).trans es211_1
        have es276_2 : s276 95 2 = s0 95 2 := (Gs276 95 2 rfl).trans es211_2
        have es276_3 : s276 95 3 = s0 95 3 := (Gs276 95 3 rfl).trans es211_3
        have es276_4 : s276 96 0 = s0 96 0 := (Gs276 96 0 rfl).trans es211_4
        have es276_5 : s276 96 1 = s0 96 1 := (Gs276 96 1 rfl).trans es211_5
        have es276_6 : s276 96 2 = s0 96 2 := (Gs276 96 2 rfl).trans es211_6
        have es276_7 : s276 96 3 = s0 96 3 := (Gs276 96 3 rfl).trans es211_7
        have es276_8 : s276 111 0 = s0 111 0 := (Gs276 111 0 rfl).trans es211_8
        have es276_9 : s276 111 1 = s0 111 1 := (Gs276 111 1 rfl).trans es211_9
        have es276_10 : s276 111 2 = s0 111 2 := (Gs276 111 2 rfl).trans es211_10
        have es276_11 : s276 111 3 = s0 111 3 := (Gs276 111 3 rfl).trans es211_11
        have es276_12 : s276 112 0 = s0 112 0 := (Gs276 112 0 rfl).trans es211_12
        have es276_13 : s276 112 1 = s0 112 1 := (Gs276 112 1 rfl).trans es211_13
        have es276_14 : s276 112 2 = s0 112 2 := (Gs276 112 2 rfl).trans es211_14
        have es276_15 : s276 112 3 = s0 112 3 := (Gs276 112 3 rfl).trans es211_15
        rcases pcs276 with pcs276
        · refine h_ceq (tg := 1441) (pc' := 1350) rfl rfl rfl hr210 hr275 (fun c277 => absurd c277 (by omega)) (fun c277 => ?_)
          refine h_iconst (pc' := 1351) (x := (Int32.ofInt 0)) rfl rfl rfl ?_
          exfalso
          unfold h_js at j0 j1 j2 j3
          omega
    · refine h_aload_n (pc' := 1329) rfl rfl rfl ?_
      refine h_aload_n (pc' := 1330) rfl rfl rfl ?_
      refine h_iload_n (pc' := 1331) rfl rfl rfl ?_
      refine h_iconst (pc' := 1332) (x := (Int32.ofInt 1)) rfl rfl rfl ?_
      refine h_iadd (pc' := 1333) rfl rfl hy3 ci_1 rfl (by omega) (by omega) (fun z278 hz278 => ?_)
      refine h_iald (pc' := 1334) (v := s0 0 (b3 + 1)) rfl rfl rfl hz278 (by omega) (by omega) (Zs211 _) (fun z279 hz279 => ?_)
      have tz279 := h_rgv hz279
      refine h_aload_n (pc' := 1335) rfl rfl rfl ?_
      refine h_iload_n (pc' := 1336) rfl rfl rfl ?_
      refine h_iconst (pc' := 1337) (x := (Int32.ofInt 2)) rfl rfl rfl ?_
      refine h_iadd (pc' := 1338) rfl rfl hy3 ci_2 rfl (by omega) (by omega) (fun z280 hz280 => ?_)
      refine h_iald (pc' := 1339) (v := s0 0 (b3 + 2)) rfl rfl rfl hz280 (by omega) (by omega) (Zs211 _) (fun z281 hz281 => ?_)
      have tz281 := h_rgv hz281
      refine h_aload_n (pc' := 1340) rfl rfl rfl ?_
      refine h_iload_n (pc' := 1341) rfl rfl rfl ?_
      refine h_iconst (pc' := 1342) (x := (Int32.ofInt 3)) rfl rfl rfl ?_
      refine h_iadd (pc' := 1343) rfl rfl hy3 ci_3 rfl (by omega) (by omega) (fun z282 hz282 => ?_)
      refine h_iald (pc' := 1344) (v := s0 0 (b3 + 3)) rfl rfl rfl hz282 (by omega) (by omega) (Zs211 _) (fun z283 hz283 => ?_)
      have tz283 := h_rgv hz283
      rcases (show ((s0 0 (b3 + 1)) = 0) ∨ ((s0 0 (b3 + 1)) = 1) ∨ ((s0 0 (b3 + 1)) = 2) ∨ ((s0 0 (b3 + 1)) = 3) ∨ ((s0 0 (b3 + 1)) ≤ (-1)) ∨ (4 ≤ (s0 0 (b3 + 1))) by omega) with c284 | c284 | c284 | c284 | c284 | c284
      · have qz279 : z279 = (Int32.ofInt 0) := h_lit (show z279.toInt = 0 by omega) ci_0
        subst qz279
        refine h_call (sp := false) (pc' := 1347) (M := [(0, .ref 98), (1, .int (Int32.ofInt 0)), (2, .int z281), (3, .int z283)]) rfl rfl rfl rfl rfl rfl rfl rfl ?_
        refine u_layM0 _ Is211  z281 _ hz281 z283 _ hz283 (fun r285 br285 hr285 s286 Is286 Gs286 tr285 pcs286 => h_Kv ?_)
        have Zs286 : ∀ i, s286 0 i = s0 0 i := fun i => (Gs286 0 i rfl).trans (Zs211 i)
        have es286_0 : s286 95 0 = s0 95 0 := (Gs286 95 0 rfl).trans es211_0
        have es286_1 : s286 95 1 = s0 95 1 := (Gs286 95 1 rfl).trans es211_1
        have es286_2 : s286 95 2 = s0 95 2 := (Gs286 95 2 rfl).trans es211_2
        have es286_3 : s286 95 3 = s0 95 3 := (Gs286 95 3 rfl).trans es211_3
        have es286_4 : s286 96 0 = s0 96 0 := (Gs286 96 0 rfl).trans es211_4
        have es286_5 : s286 96 1 = s0 96 1 := (Gs286 96 1 rfl).trans es211_5
        have es286_6 : s286 96 2 = s0 96 2 := (Gs286 96 2 rfl).trans es211_6
        have es286_7 : s286 96 3 = s0 96 3 := (Gs286 96 3 rfl).trans es211_7
        have es286_8 : s286 111 0 = s0 111 0 := (Gs286 111 0 rfl).trans es211_8
        have es286_9 : s286 111 1 = s0 111 1 := (Gs286 111 1 rfl).trans es211_9
        have es286_10 : s286 111 2 = s0 111 2 := (Gs286 111 2 rfl).trans es211_10
        have es286_11 : s286 111 3 = s0 111 3 := (Gs286 111 3 rfl).trans es211_11
        have es286_12 : s286 112 0 = s0 112 0 := (Gs286 112 0 rfl).trans es211_12
        have es286_13 : s286 112 1 = s0 112 1 := (Gs286 112 1 rfl).trans es211_13
        have es286_14 : s286 112 2 = s0 112 2 := (Gs286 112 2 rfl).trans es211_14
        have es286_15 : s286 112 3 = s0 112 3 := (Gs286 112 3 rfl).trans es211_15
        rcases pcs286 with pcs286 | pcs286 | pcs286
        · refine h_ceq (tg := 1441) (pc' := 1350) rfl rfl rfl hr210 hr285 (fun c287 => absurd c287 (by omega)) (fun c287 => ?_)
          refine h_iconst (pc' := 1351) (x := (Int32.ofInt 0)) rfl rfl rfl ?_
          exfalso
          unfold h_js at j0 j1 j2 j3
          omega
        · refine h_ceq (tg := 1441) (pc' := 1350) rfl rfl rfl hr210 hr285 (fun c288 => absurd c288 (by omega)) (fun c288 => ?_)
          refine h_iconst (pc' := 1351) (x := (Int32.ofInt 0)) rfl rfl rfl ?_
          exfalso
          unfold h_js at j0 j1 j2 j3
          omega
        · refine h_ceq (tg := 1441) (pc' := 1350) rfl rfl rfl hr210 hr285 (fun c289 => ?_) (fun c289 => absurd c289 (by omega))
          exact kk _ Is286 (by first | exact h_jf j0 (by omega) (by omega) (by omega) | exact Or.inr ⟨by omega, by omega, by omega⟩) (by first | exact h_jf j1 (by omega) (by omega) (by omega) | exact Or.inr ⟨by omega, by omega, by omega⟩) (by first | exact h_jf j2 (by omega) (by omega) (by omega) | exact Or.inr ⟨by omega, by omega, by omega⟩) (by first | exact h_jf j3 (by omega) (by omega) (by omega) | exact Or.inr ⟨by omega, by omega, by omega⟩)
      · have qz279 : z279 = (Int32.ofInt 1) := h_lit (show z279.toInt = 1 by omega) ci_1
        subst qz279
        refine h_call (sp := false) (pc' := 1347) (M := [(0, .ref 98), (1, .int (Int32.ofInt 1)), (2, .int z281), (3, .int z283)]) rfl rfl rfl rfl rfl rfl rfl rfl ?_
        refine u_layM1 _ Is211  z281 _ hz281 z283 _ hz283 (fun r290 br290 hr290 s291 Is291 Gs291 tr290 pcs291 => h_Kv ?_)
        have Zs291 : ∀ i, s291 0 i = s0 0 i := fun i => (Gs291 0 i rfl).trans (Zs211 i)
        have es291_0 : s291 95 0 = s0 95 0 := (Gs291 95 0 rfl).trans es211_0
        have es291_1 : s291 95 1 = s0 95 1 := (Gs291 95 1 rfl).trans es211_1
        have es291_2 : s291 95 2 = s0 95 2 := (Gs291 95 2 rfl).trans es211_2
        have es291_3 : s291 95 3 = s0 95 3 := (Gs291 95 3 rfl).trans es211_3
        have es291_4 : s291 96 0 = s0 96 0 := (Gs291 96 0 rfl).trans es211_4
        have es291_5 : s291 96 1 = s0 96 1 := (Gs291 96 1 rfl).trans es211_5
        have es291_6 : s291 96 2 = s0 96 2 := (Gs291 96 2 rfl).trans es211_6
        have es291_7 : s291 96 3 = s0 96 3 := (Gs291 96 3 rfl).trans es211_7
        have es291_8 : s291 111 0 = s0 111 0 := (Gs291 111 0 rfl).trans es211_8
        have es291_9 : s291 111 1 = s0 111 1 := (Gs291 111 1 rfl).trans es211_9
        have es291_10 : s291 111 2 = s0 111 2 := (Gs291 111 2 rfl).trans es211_10
        have es291_11 : s291 111 3 = s0 111 3 := (Gs291 111 3 rfl).trans es211_11
        have es291_12 : s291 112 0 = s0 112 0 := (Gs291 112 0 rfl).trans es211_12
        have es291_13 : s291 112 1 = s0 112 1 := (Gs291 112 1 rfl).trans es211_13
        have es291_14 : s291 112 2 = s0 112 2 := (Gs291 112 2 rfl).trans es211_14
        have es291_15 : s291 112 3 = s0 112 3 := (Gs291 112 3 rfl).trans es211_15
        rcases pcs291 with pcs291 | pcs291 | pcs291
        · refine h_ceq (tg := 1441) (pc' := 1350) rfl rfl rfl hr210 hr290 (fun c292 => absurd c292 (by omega)) (fun c292 => ?_)
          refine h_iconst (pc' := 1351) (x := (Int32.ofInt 0)) rfl rfl rfl ?_
          exfalso
          unfold h_js at j0 j1 j2 j3
          omega
        · refine h_ceq (tg := 1441) (pc' := 1350) rfl rfl rfl hr210 hr290 (fun c293 => absurd c293 (by omega)) (fun c293 => ?_)
          refine h_iconst (pc' := 1351) (x := (Int32.ofInt 0)) rfl rfl rfl ?_
          exfalso
          unfold h_js at j0 j1 j2 j3
          omega
        · refine h_ceq (tg := 1441) (pc' := 1350) rfl rfl rfl hr210 hr290 (fun c294 => ?_) (fun c294 => absurd c294 (by omega))
          exact kk _ Is291 (by first | exact h_jf j0 (by omega) (by omega) (by omega) | exact Or.inr ⟨by omega, by omega, by omega⟩) (by first | exact h_jf j1 (by omega) (by omega) (by omega) | exact Or.inr ⟨by omega, by omega, by omega⟩) (by first | exact h_jf j2 (by omega) (by omega) (by omega) | exact Or.inr ⟨by omega, by omega, by omega⟩) (by first | exact h_jf j3 (by omega) (by omega) (by omega) | exact Or.inr ⟨by omega, by omega, by omega⟩)
      · have qz279 : z279 = (Int32.ofInt 2) := h_lit (show z279.toInt = 2 by omega) ci_2
        subst qz279
        refine h_call (sp := false) (pc' := 1347) (M := [(0, .ref 98), (1, .int (Int32.ofInt 2)), (2, .int z281), (3, .int z283)]) rfl rfl rfl rfl rfl rfl rfl rfl ?_
        refine u_layM2 _ Is211  z281 _ hz281 z283 _ hz283 (fun r295 br295 hr295 s296 Is296 Gs296 tr295 pcs296 => h_Kv ?_)
        have Zs296 : ∀ i, s296 0 i = s0 0 i := fun i => (Gs296 0 i rfl).trans (Zs211 i)
        have es296_0 : s296 95 0 = s0 95 0 := (Gs296 95 0 rfl).trans es211_0
        have es296_1 : s296 95 1 = s0 95 1 := (Gs296 95 1 rfl).trans es211_1
        have es296_2 : s296 95 2 = s0 95 2 := (Gs296 95 2 rfl).trans es211_2
        have es296_3 : s296 95 3 = s0 95 3 := (Gs296 95 3 rfl).trans es211_3
        have es296_4 : s296 96 0 = s0 96 0 := (Gs296 96 0 rfl).trans es211_4
        have es296_5 : s296 96 1 = s0 96 1 := (Gs296 96 1 rfl).trans es211_5
        have es296_6 : s296 96 2 = s0 96 2 := (Gs296 96 2 rfl).trans es211_6
        have es296_7 : s296 96 3 = s0 96 3 := (Gs296 96 3 rfl).trans es211_7
        have es296_8 : s296 111 0 = s0 111 0 := (Gs296 111 0 rfl).trans es211_8
        have es296_9 : s296 111 1 = s0 111 1 := (Gs296 111 1 rfl).trans es211_9
        have es296_10 : s296 111 2 = s0 111 2 := (Gs296 111 2 rfl).trans es211_10
        have es296_11 : s296 111 3 = s0 111 3 := (Gs296 111 3 rfl).trans es211_11
        have es296_12 : s296 112 0 = s0 112 0 := (Gs296 112 0 rfl).trans es211_12
        have es296_13 : s296 112 1 = s0 112 1 := (Gs296 112 1 rfl).trans es211_13
        have es296_14 : s296 112 2 = s0 112 2 := (Gs296 112 2 rfl).trans es211_14
        have es296_15 : s296 112 3 = s0 112 3 := (Gs296 112 3 rfl).trans es211_15
        rcases pcs296 with pcs296 | pcs296 | pcs296
        · refine h_ceq (tg := 1441) (pc' := 1350) rfl rfl rfl hr210 hr295 (fun c297 => absurd c297 (by omega)) (fun c297 => ?_)
          refine h_iconst (pc' := 1351) (x := (Int32.ofInt 0)) rfl rfl rfl ?_
          exfalso
          unfold h_js at j0 j1 j2 j3
          omega
        · refine h_ceq (tg := 1441) (pc' := 1350) rfl rfl rfl hr210 hr295 (fun c298 => absurd c298 (by omega)) (fun c298 => ?_)
          refine h_iconst (pc' := 1351) (x := (Int32.ofInt 0)) rfl rfl rfl ?_
          exfalso
          unfold h_js at j0 j1 j2 j3
          omega
        · refine h_ceq (tg := 1441) (pc' := 1350) rfl rfl rfl hr210 hr295 (fun c299 => ?_) (fun c299 => absurd c299 (by omega))
          exact kk _ Is296 (by first | exact h_jf j0 (by omega) (by omega) (by omega) | exact Or.inr ⟨by omega, by omega, by omega⟩) (by first | exact h_jf j1 (by omega) (by omega) (by omega) | exact Or.inr ⟨by omega, by omega, by omega⟩) (by first | exact h_jf j2 (by omega) (by omega) (by omega) | exact Or.inr ⟨by omega, by omega, by omega⟩) (by first | exact h_jf j3 (by omega) (by omega) (by omega) | exact Or.inr ⟨by omega, by omega, by omega⟩)
      · have qz279 : z279 = (Int32.ofInt 3) := h_lit (show z279.toInt = 3 by omega) ci_3
        subst qz279
        refine h_call (sp := false) (pc' := 1347) (M := [(0, .ref 98), (1, .int (Int32.ofInt 3)), (2, .int z281), (3, .int z283)]) rfl rfl rfl rfl rfl rfl rfl rfl ?_
        refine u_layM3 _ Is211  z281 _ hz281 z283 _ hz283 (fun r300 br300 hr300 s301 Is301 Gs301 tr300 pcs301 => h_Kv ?_)
        have Zs301 : ∀ i, s301 0 i = s0 0 i := fun i => (Gs301 0 i rfl).trans (Zs211 i)
        have es301_0 : s301 95 0 = s0 95 0 := (Gs301 95 0 rfl).trans es211_0
        have es301_1 : s301 95 1 = s0 95 1 := (Gs301 95 1 rfl).trans es211_1
        have es301_2 : s301 95 2 = s0 95 2 := (Gs301 95 2 rfl).trans es211_2
        have es301_3 : s301 95 3 = s0 95 3 := (Gs301 95 3 rfl).trans es211_3
        have es301_4 : s301 96 0 = s0 96 0 := (Gs301 96 0 rfl).trans es211_4
        have es301_5 : s301 96 1 = s0 96 1 := (Gs301 96 1 rfl).trans es211_5
        have es301_6 : s301 96 2 = s0 96 2 := (Gs301 96 2 rfl).trans es211_6
        have es301_7 : s301 96 3 = s0 96 3 := (Gs301 96 3 rfl).trans es211_7
        have es301_8 : s301 111 0 = s0 111 0 := (Gs301 111 0 rfl).trans es211_8
        have es301_9 : s301 111 1 = s0 111 1 := (Gs301 111 1 rfl).trans es211_9
        have es301_10 : s301 111 2 = s0 111 2 := (Gs301 111 2 rfl).trans es211_10
        have es301_11 : s301 111 3 = s0 111 3 := (Gs301 111 3 rfl).trans es211_11
        have es301_12 : s301 112 0 = s0 112 0 := (Gs301 112 0 rfl).trans es211_12
        have es301_13 : s301 112 1 = s0 112 1 := (Gs301 112 1 rfl).trans es211_13
        have es301_14 : s301 112 2 = s0 112 2 := (Gs301 112 2 rfl).trans es211_14
        have es301_15 : s301 112 3 = s0 112 3 := (Gs301 112 3 rfl).trans es211_15
        rcases pcs301 with pcs301 | pcs301 | pcs301
        · refine h_ceq (tg := 1441) (pc' := 1350) rfl rfl rfl hr210 hr300 (fun c302 => absurd c302 (by omega)) (fun c302 => ?_)
          refine h_iconst (pc' := 1351) (x := (Int32.ofInt 0)) rfl rfl rfl ?_
          exfalso
          unfold h_js at j0 j1 j2 j3
          omega
        · refine h_ceq (tg := 1441) (pc' := 1350) rfl rfl rfl hr210 hr300 (fun c303 => absurd c303 (by omega)) (fun c303 => ?_)
          refine h_iconst (pc' := 1351) (x := (Int32.ofInt 0)) rfl rfl rfl ?_
          exfalso
          unfold h_js at j0 j1 j2 j3
          omega
        · refine h_ceq (tg := 1441) (pc' := 1350) rfl rfl rfl hr210 hr300 (fun c304 => ?_) (fun c304 => absurd c304 (by omega))
          exact kk _ Is301 (by first | exact h_jf j0 (by omega) (by omega) (by omega) | exact Or.inr ⟨by omega, by omega, by omega⟩) (by first | exact h_jf j1 (by omega) (by omega) (by omega) | exact Or.inr ⟨by omega, by omega, by omega⟩) (by first | exact h_jf j2 (by omega) (by omega) (by omega) | exact Or.inr ⟨by omega, by omega, by omega⟩) (by first | exact h_jf j3 (by omega) (by omega) (by omega) | exact Or.inr ⟨by omega, by omega, by omega⟩)
      · refine h_call (sp := false) (pc' := 1347) (M := [(0, .ref 98), (1, .int z279), (2, .int z281), (3, .int z283)]) rfl rfl rfl rfl rfl rfl rfl rfl ?_
        refine u_layMn _ Is211 z279 _ hz279 (by omega) z281 _ hz281 z283 _ hz283 (fun r305 br305 hr305 s306 Is306 Gs306 tr305 pcs306 => h_Kv ?_)
        have Zs306 : ∀ i, s306 0 i = s0 0 i := fun i => (Gs306 0 i rfl).trans (Zs211 i)
        have es306_0 : s306 95 0 = s0 95 0 := (Gs306 95 0 rfl).trans es211_0
        have es306_1 : s306 95 1 = s0 95 1 := (Gs306 95 1 rfl).trans es211_1
        have es306_2 : s306 95 2 = s0 95 2 := (Gs306 95 2 rfl).trans es211_2
        have es306_3 : s306 95 3 = s0 95 3 := (Gs306 95 3 rfl).trans es211_3
        have es306_4 : s306 96 0 = s0 96 0 := (Gs306 96 0 rfl).trans es211_4
        have es306_5 : s306 96 1 = s0 96 1 := (Gs306 96 1 rfl).trans es211_5
        have es306_6 : s306 96 2 = s0 96 2 := (Gs306 96 2 rfl).trans es211_6
        have es306_7 : s306 96 3 = s0 96 3 := (Gs306 96 3 rfl).trans es211_7
        have es306_8 : s306 111 0 = s0 111 0 := (Gs306 111 0 rfl).trans es211_8
        have es306_9 : s306 111 1 = s0 111 1 := (Gs306 111 1 rfl).trans es211_9
        have es306_10 : s306 111 2 = s0 111 2 := (Gs306 111 2 rfl).trans es211_10
        have es306_11 : s306 111 3 = s0 111 3 := (Gs306 111 3 rfl).trans es211_11
        have es306_12 : s306 112 0 = s0 112 0 := (Gs306 112 0 rfl).trans es211_12
        have es306_13 : s306 112 1 = s0 112 1 := (Gs306 112 1 rfl).trans es211_13
        have es306_14 : s306 112 2 = s0 112 2 := (Gs306 112 2 rfl).trans es211_14
        have es306_15 : s306 112 3 = s0 112 3 := (Gs306 112 3 rfl).trans es211_15
        rcases pcs306 with pcs306
        · refine h_ceq (tg := 1441) (pc' := 1350) rfl rfl rfl hr210 hr305 (fun c307 => absurd c307 (by omega)) (fun c307 => ?_)
          refine h_iconst (pc' := 1351) (x := (Int32.ofInt 0)) rfl rfl rfl ?_
          exfalso
          unfold h_js at j0 j1 j2 j3
          omega
      · refine h_call (sp := false) (pc' := 1347) (M := [(0, .ref 98), (1, .int z279), (2, .int z281), (3, .int z283)]) rfl rfl rfl rfl rfl rfl rfl rfl ?_
        refine u_layMp _ Is211 z279 _ hz279 (by omega) z281 _ hz281 z283 _ hz283 (fun r308 br308 hr308 s309 Is309 Gs309 tr308 pcs309 => h_Kv ?_)
        have Zs309 : ∀ i, s309 0 i = s0 0 i := fun i => (Gs309 0 i rfl).trans (Zs211 i)
        have es309_0 : s309 95 0 = s0 95 0 := (Gs309 95 0 rfl).trans es211_0
        have es309_1 : s309 95 1 = s0 95 1 := (Gs309 95 1 rfl).trans es211_1
        have es309_2 : s309 95 2 = s0 95 2 := (Gs309 95 2 rfl).trans es211_2
        have es309_3 : s309 95 3 = s0 95 3 := (Gs309 95 3 rfl).trans es211_3
        have es309_4 : s309 96 0 = s0 96 0 := (Gs309 96 0 rfl).trans es211_4
        have es309_5 : s309 96 1 = s0 96 1 := (Gs309 96 1 rfl).trans es211_5
        have es309_6 : s309 96 2 = s0 96 2 := (Gs309 96 2 rfl).trans es211_6
        have es309_7 : s309 96 3 = s0 96 3 := (Gs309 96 3 rfl).trans es211_7
        have es309_8 : s309 111 0 = s0 111 0 := (Gs309 111 0 rfl).trans es211_8
        have es309_9 : s309 111 1 = s0 111 1 := (Gs309 111 1 rfl).trans es211_9
        have es309_10 : s309 111 2 = s0 111 2 := (Gs309 111 2 rfl).trans es211_10
        have es309_11 : s309 111 3 = s0 111 3 := (Gs309 111 3 rfl).trans es211_11
        have es309_12 : s309 112 0 = s0 112 0 := (Gs309 112 0 rfl).trans es211_12
        have es309_13 : s309 112 1 = s0 112 1 := (Gs309 112 1 rfl).trans es211_13
        have es309_14 : s309 112 2 = s0 112 2 := (Gs309 112 2 rfl).trans es211_14
        have es309_15 : s309 112 3 = s0 112 3 := (Gs309 112 3 rfl).trans es211_15
        rcases pcs309 with pcs309
        · refine h_ceq (tg := 1441) (pc' := 1350) rfl rfl rfl hr210 hr308 (fun c310 => absurd c310 (by omega)) (fun c310 => ?_)
          refine h_iconst (pc' := 1351) (x := (Int32.ofInt 0)) rfl rfl rfl ?_
          exfalso
          unfold h_js at j0 j1 j2 j3
          omega
  · have qz2 : z2 = (Int32.ofInt 3) := h_lit (show z2.toInt = 3 by omega) ci_3
    subst qz2
    refine h_call (sp := false) (pc' := 1328) (M := [(0, .ref 9), (1, .int (Int32.ofInt 3)), (2, .int z4), (3, .int z6)]) rfl rfl rfl rfl rfl rfl rfl rfl ?_
    refine u_layX3 _ I0  z4 _ hz4 z6 _ hz6 (fun r311 br311 hr311 s312 Is312 Gs312 tr311 pcs312 => h_Kv ?_)
    have Zs312 : ∀ i, s312 0 i = s0 0 i := fun i => (Gs312 0 i rfl).trans rfl
    have es312_0 : s312 95 0 = s0 95 0 := (Gs312 95 0 rfl).trans rfl
    have es312_1 : s312 95 1 = s0 95 1 := (Gs312 95 1 rfl).trans rfl
    have es312_2 : s312 95 2 = s0 95 2 := (Gs312 95 2 rfl).trans rfl
    have es312_3 : s312 95 3 = s0 95 3 := (Gs312 95 3 rfl).trans rfl
    have es312_4 : s312 96 0 = s0 96 0 := (Gs312 96 0 rfl).trans rfl
    have es312_5 : s312 96 1 = s0 96 1 := (Gs312 96 1 rfl).trans rfl
    have es312_6 : s312 96 2 = s0 96 2 := (Gs312 96 2 rfl).trans rfl
    have es312_7 : s312 96 3 = s0 96 3 := (Gs312 96 3 rfl).trans rfl
    have es312_8 : s312 111 0 = s0 111 0 := (Gs312 111 0 rfl).trans rfl
    have es312_9 : s312 111 1 = s0 111 1 := (Gs312 111 1 rfl).trans rfl
    have es312_10 : s312 111 2 = s0 111 2 := (Gs312 111 2 rfl).trans rfl
    have es312_11 : s312 111 3 = s0 111 3 := (Gs312 111 3 rfl).trans rfl
    have es312_12 : s312 112 0 = s0 112 0 := (Gs312 112 0 rfl).trans rfl
    have es312_13 : s312 112 1 = s0 112 1 := (Gs312 112 1 rfl).trans rfl
    have es312_14 : s312 112 2 = s0 112 2 := (Gs312 112 2 rfl).trans rfl
    have es312_15 : s312 112 3 = s0 112 3 := (Gs312 112 3 rfl).trans rfl
    rcases pcs312 with pcs312 | pcs312 | pcs312
    · refine h_aload_n (pc' := 1329) rfl rfl rfl ?_
      refine h_aload_n (pc' := 1330) rfl rfl rfl ?_
      refine h_iload_n (pc' := 1331) rfl rfl rfl ?_
      refine h_iconst (pc' := 1332) (x := (Int32.ofInt 1)) rfl rfl rfl ?_
      refine h_iadd (pc' := 1333) rfl rfl hy3 ci_1 rfl (by omega) (by omega) (fun z313 hz313 => ?_)
      refine h_iald (pc' := 1334) (v := s0 0 (b3 + 1)) rfl rfl rfl hz313 (by omega) (by omega) (Zs312 _) (fun z314 hz314 => ?_)
      have tz314 := h_rgv hz314
      refine h_aload_n (pc' := 1335) rfl rfl rfl ?_
      refine h_iload_n (pc' := 1336) rfl rfl rfl ?_
      refine h_iconst (pc' := 1337) (x := (Int32.ofInt 2)) rfl rfl rfl ?_
      refine h_iadd (pc' := 1338) rfl rfl hy3 ci_2 rfl (by omega) (by omega) (fun z315 hz315 => ?_)
      refine h_iald (pc' := 1339) (v := s0 0 (b3 + 2)) rfl rfl rfl hz315 (by omega) (by omega) (Zs312 _) (fun z316 hz316 => ?_)
      have tz316 := h_rgv hz316
      refine h_aload_n (pc' := 1340) rfl rfl rfl ?_
      refine h_iload_n (pc' := 1341) rfl rfl rfl ?_
      refine h_iconst (pc' := 1342) (x := (Int32.ofInt 3)) rfl rfl rfl ?_
      refine h_iadd (pc' := 1343) rfl rfl hy3 ci_3 rfl (by omega) (by omega) (fun z317 hz317 => ?_)
      refine h_iald (pc' := 1344) (v := s0 0 (b3 + 3)) rfl rfl rfl hz317 (by omega) (by omega) (Zs312 _) (fun z318 hz318 => ?_)
      have tz318 := h_rgv hz318
      rcases (show ((s0 0 (b3 + 1)) = 0) ∨ ((s0 0 (b3 + 1)) = 1) ∨ ((s0 0 (b3 + 1)) = 2) ∨ ((s0 0 (b3 + 1)) = 3) ∨ ((s0 0 (b3 + 1)) ≤ (-1)) ∨ (4 ≤ (s0 0 (b3 + 1))) by omega) with c319 | c319 | c319 | c319 | c319 | c319
      · have qz314 : z314 = (Int32.ofInt 0) := h_lit (show z314.toInt = 0 by omega) ci_0
        subst qz314
        refine h_call (sp := false) (pc' := 1347) (M := [(0, .ref 98), (1, .int (Int32.ofInt 0)), (2, .int z316), (3, .int z318)]) rfl rfl rfl rfl rfl rfl rfl rfl ?_
        refine u_layM0 _ Is312  z316 _ hz316 z318 _ hz318 (fun r320 br320 hr320 s321 Is321 Gs321 tr320 pcs321 => h_Kv ?_)
        have Zs321 : ∀ i, s321 0 i = s0 0 i := fun i => (Gs321 0 i rfl).trans (Zs312 i)
        have es321_0 : s321 95 0 = s0 95 0 := (Gs321 95 0 rfl).trans es312_0
        have es321_1 : s321 95 1 = s0 95 1 := (Gs321 95 1 rfl).trans es312_1
        have es321_2 : s321 95 2 = s0 95 2 := (Gs321 95 2 rfl).trans es312_2
        have es321_3 : s321 95 3 = s0 95 3 := (Gs321 95 3 rfl).trans es312_3
        have es321_4 : s321 96 0 = s0 96 0 := (Gs321 96 0 rfl).trans es312_4
        have es321_5 : s321 96 1 = s0 96 1 := (Gs321 96 1 rfl).trans es312_5
        have es321_6 : s321 96 2 = s0 96 2 := (Gs321 96 2 rfl).trans es312_6
        have es321_7 : s321 96 3 = s0 96 3 := (Gs321 96 3 rfl).trans es312_7
        have es321_8 : s321 111 0 = s0 111 0 := (Gs321 111 0 rfl).trans es312_8
        have es321_9 : s321 111 1 = s0 111 1 := (Gs321 111 1 rfl).trans es312_9
        have es321_10 : s321 111 2 = s0 111 2 := (Gs321 111 2 rfl).trans es312_10
        have es321_11 : s321 111 3 = s0 111 3 := (Gs321 111 3 rfl).trans es312_11
        have es321_12 : s321 112 0 = s0 112 0 := (Gs321 112 0 rfl).trans es312_12
        have es321_13 : s321 112 1 = s0 112 1 := (Gs321 112 1 rfl).trans es312_13
        have es321_14 : s321 112 2 = s0 112 2 := (Gs321 112 2 rfl).trans es312_14
        have es321_15 : s321 112 3 = s0 112 3 := (Gs321 112 3 rfl).trans es312_15
        rcases pcs321 with pcs321 | pcs321 | pcs321
        · refine h_ceq (tg := 1441) (pc' := 1350) rfl rfl rfl hr311 hr320 (fun c322 => ?_) (fun c322 => absurd c322 (by omega))
          exact kk _ Is321 (by first | exact h_jf j0 (by omega) (by omega) (by omega) | exact Or.inr ⟨by omega, by omega, by omega⟩) (by first | exact h_jf j1 (by omega) (by omega) (by omega) | exact Or.inr ⟨by omega, by omega, by omega⟩) (by first | exact h_jf j2 (by omega) (by omega) (by omega) | exact Or.inr ⟨by omega, by omega, by omega⟩) (by first | exact h_jf j3 (by omega) (by omega) (by omega) | exact Or.inr ⟨by omega, by omega, by omega⟩)
        · refine h_ceq (tg := 1441) (pc' := 1350) rfl rfl rfl hr311 hr320 (fun c323 => absurd c323 (by omega)) (fun c323 => ?_)
          refine h_iconst (pc' := 1351) (x := (Int32.ofInt 0)) rfl rfl rfl ?_
          exfalso
          unfold h_js at j0 j1 j2 j3
          omega
        · refine h_ceq (tg := 1441) (pc' := 1350) rfl rfl rfl hr311 hr320 (fun c324 => absurd c324 (by omega)) (fun c324 => ?_)
          refine h_iconst (pc' := 1351) (x := (Int32.ofInt 0)) rfl rfl rfl ?_
          exfalso
          unfold h_js at j0 j1 j2 j3
          omega
      · have qz314 : z314 = (Int32.ofInt 1) := h_lit (show z314.toInt = 1 by omega) ci_1
        subst qz314
        refine h_call (sp := false) (pc' := 1347) (M := [(0, .ref 98), (1, .int (Int32.ofInt 1)), (2, .int z316), (3, .int z318)]) rfl rfl rfl rfl rfl rfl rfl rfl ?_
        refine u_layM1 _ Is312  z316 _ hz316 z318 _ hz318 (fun r325 br325 hr325 s326 Is326 Gs326 tr325 pcs326 => h_Kv ?_)
        have Zs326 : ∀ i, s326 0 i = s0 0 i := fun i => (Gs326 0 i rfl).trans (Zs312 i)
        have es326_0 : s326 95 0 = s0 95 0 := (Gs326 95 0 rfl).trans es312_0
        have es326_1 : s326 95 1 = s0 95 1 := (Gs326 95 1 rfl).trans es312_1
        have es326_2 : s326 95 2 = s0 95 2 := (Gs326 95 2 rfl).trans es312_2
        have es326_3 : s326 95 3 = s0 95 3 := (Gs326 95 3 rfl).trans es312_3
        have es326_4 : s326 96 0 = s0 96 0 := (Gs326 96 0 rfl).trans es312_4
        have es326_5 : s326 96 1 = s0 96 1 := (Gs326 96 1 rfl).trans es312_5
        have es326_6 : s326 96 2 = s0 96 2 := (Gs326 96 2 rfl).trans es312_6
        have es326_7 : s326 96 3 = s0 96 3 := (Gs326 96 3 rfl).trans es312_7
        have es326_8 : s326 111 0 = s0 111 0 := (Gs326 111 0 rfl).trans es312_8
        have es326_9 : s326 111 1 = s0 111 1 := (Gs326 111 1 rfl).trans es312_9
        have es326_10 : s326 111 2 = s0 111 2 := (Gs326 111 2 rfl).trans es312_10
        have es326_11 : s326 111 3 = s0 111 3 := (Gs326 111 3 rfl).trans es312_11
        have es326_12 : s326 112 0 = s0 112 0 := (Gs326 112 0 rfl).trans es312_12
        have es326_13 : s326 112 1 = s0 112 1 := (Gs326 112 1 rfl).trans es312_13
        have es326_14 : s326 112 2 = s0 112 2 := (Gs326 112 2 rfl).trans es312_14
        have es326_15 : s326 112 3 = s0 112 3 := (Gs326 112 3 rfl).trans es312_15
        rcases pcs326 with pcs326 | pcs326 | pcs326
        · refine h_ceq (tg := 1441) (pc' := 1350) rfl rfl rfl hr311 hr325 (fun c327 => ?_) (fun c327 => absurd c327 (by omega))
          exact kk _ Is326 (by first | exact h_jf j0 (by omega) (by omega) (by omega) | exact Or.inr ⟨by omega, by omega, by omega⟩) (by first | exact h_jf j1 (by omega) (by omega) (by omega) | exact Or.inr ⟨by omega, by omega, by omega⟩) (by first | exact h_jf j2 (by omega) (by omega) (by omega) | exact Or.inr ⟨by omega, by omega, by omega⟩) (by first | exact h_jf j3 (by omega) (by omega) (by omega) | exact Or.inr ⟨by omega, by omega, by omega⟩)
        · refine h_ceq (tg := 1441) (pc' := 1350) rfl rfl rfl hr311 hr325 (fun c328 => absurd c328 (by omega)) (fun c328 => ?_)
          refine h_iconst (pc' := 1351) (x := (Int32.ofInt 0)) rfl rfl rfl ?_
          exfalso
          unfold h_js at j0 j1 j2 j3
          omega
        · refine h_ceq (tg := 1441) (pc' := 1350) rfl rfl rfl hr311 hr325 (fun c329 => absurd c329 (by omega)) (fun c329 => ?_)
          refine h_iconst (pc' := 1351) (x := (Int32.ofInt 0)) rfl rfl rfl ?_
          exfalso
          unfold h_js at j0 j1 j2 j3
          omega
      · have qz314 : z314 = (Int32.ofInt 2) := h_lit (show z314.toInt = 2 by omega) ci_2
        subst qz314
        refine h_call (sp := false) (pc' := 1347) (M := [(0, .ref 98), (1, .int (Int32.ofInt 2)), (2, .int z316), (3, .int z318)]) rfl rfl rfl rfl rfl rfl rfl rfl ?_
        refine u_layM2 _ Is312  z316 _ hz316 z318 _ hz318 (fun r330 br330 hr330 s331 Is331 Gs331 tr330 pcs331 => h_Kv ?_)
        have Zs331 : ∀ i, s331 0 i = s0 0 i := fun i => (Gs331 0 i rfl).trans (Zs312 i)
        have es331_0 : s331 95 0 = s0 95 0 := (Gs331 95 0 rfl).trans es312_0
        have es331_1 : s331 95 1 = s0 95 1 := (Gs331 95 1 rfl).trans es312_1
        have es331_2 : s331 95 2 = s0 95 2 := (Gs331 95 2 rfl).trans es312_2
        have es331_3 : s331 95 3 = s0 95 3 := (Gs331 95 3 rfl).trans es312_3
        have es331_4 : s331 96 0 = s0 96 0 := (Gs331 96 0 rfl).trans es312_4
        have es331_5 : s331 96 1 = s0 96 1 := (Gs331 96 1 rfl).trans es312_5
        have es331_6 : s331 96 2 = s0 96 2 := (Gs331 96 2 rfl).trans es312_6
        have es331_7 : s331 96 3 = s0 96 3 := (Gs331 96 3 rfl).trans es312_7
        have es331_8 : s331 111 0 = s0 111 0 := (Gs331 111 0 rfl).trans es312_8
        have es331_9 : s331 111 1 = s0 111 1 := (Gs331 111 1 rfl).trans es312_9
        have es331_10 : s331 111 2 = s0 111 2 := (Gs331 111 2 rfl).trans es312_10
        have es331_11 : s331 111 3 = s0 111 3 := (Gs331 111 3 rfl).trans es312_11
        have es331_12 : s331 112 0 = s0 112 0 := (Gs331 112 0 rfl).trans es312_12
        have es331_13 : s331 112 1 = s0 112 1 := (Gs331 112 1 rfl).trans es312_13
        have es331_14 : s331 112 2 = s0 112 2 := (Gs331 112 2 rfl).trans es312_14
        have es331_15 : s331 112 3 = s0 112 3 := (Gs331 112 3 rfl).trans es312_15
        rcases pcs331 with pcs331 | pcs331 | pcs331
        · refine h_ceq (tg := 1441) (pc' := 1350) rfl rfl rfl hr311 hr330 (fun c332 => ?_) (fun c332 => absurd c332 (by omega))
          exact kk _ Is331 (by first | exact h_jf j0 (by omega) (by omega) (by omega) | exact Or.inr ⟨by omega, by omega, by omega⟩) (by first | exact h_jf j1 (by omega) (by omega) (by omega) | exact Or.inr ⟨by omega, by omega, by omega⟩) (by first | exact h_jf j2 (by omega) (by omega) (by omega) | exact Or.inr ⟨by omega, by omega, by omega⟩) (by first | exact h_jf j3 (by omega) (by omega) (by omega) | exact Or.inr ⟨by omega, by omega, by omega⟩)
        · refine h_ceq (tg := 1441) (pc' := 1350) rfl rfl rfl hr311 hr330 (fun c333 => absurd c333 (by omega)) (fun c333 => ?_)
          refine h_iconst (pc' := 1351) (x := (Int32.ofInt 0)) rfl rfl rfl ?_
          exfalso
          unfold h_js at j0 j1 j2 j3
          omega
        · refine h_ceq (tg := 1441) (pc' := 1350) rfl rfl rfl hr311 hr330 (fun c334 => absurd c334 (by omega)) (fun c334 => ?_)
          refine h_iconst (pc' := 1351) (x := (Int32.ofInt 0)) rfl rfl rfl ?_
          exfalso
          unfold h_js at j0 j1 j2 j3
          omega
      · have qz314 : z314 = (Int32.ofInt 3) := h_lit (show z314.toInt = 3 by omega) ci_3
        subst qz314
        refine h_call (sp := false) (pc' := 1347) (M := [(0, .ref 98), (1, .int (Int32.ofInt 3)), (2, .int z316), (3, .int z318)]) rfl rfl rfl rfl rfl rfl rfl rfl ?_
        refine u_layM3 _ Is312  z316 _ hz316 z318 _ hz318 (fun r335 br335 hr335 s336 Is336 Gs336 tr335 pcs336 => h_Kv ?_)
        have Zs336 : ∀ i, s336 0 i = s0 0 i := fun i => (Gs336 0 i rfl).trans (Zs312 i)
        have es336_0 : s336 95 0 = s0 95 0 := (Gs336 95 0 rfl).trans es312_0
        have es336_1 : s336 95 1 = s0 95 1 := (Gs336 95 1 rfl).trans es312_1
        have es336_2 : s336 95 2 = s0 95 2 := (Gs336 95 2 rfl).trans es312_2
        have es336_3 : s336 95 3 = s0 95 3 := (Gs336 95 3 rfl).trans es312_3
        have es336_4 : s336 96 0 = s0 96 0 := (Gs336 96 0 rfl).trans es312_4
        have es336_5 : s336 96 1 = s0 96 1 := (Gs336 96 1 rfl).trans es312_5
        have es336_6 : s336 96 2 = s0 96 2 := (Gs336 96 2 rfl).trans es312_6
        have es336_7 : s336 96 3 = s0 96 3 := (Gs336 96 3 rfl).trans es312_7
        have es336_8 : s336 111 0 = s0 111 0 := (Gs336 111 0 rfl).trans es312_8
        have es336_9 : s336 111 1 = s0 111 1 := (Gs336 111 1 rfl).trans es312_9
        have es336_10 : s336 111 2 = s0 111 2 := (Gs336 111 2 rfl).trans es312_10
        have es336_11 : s336 111 3 = s0 111 3 := (Gs336 111 3 rfl).trans es312_11
        have es336_12 : s336 112 0 = s0 112 0 := (Gs336 112 0 rfl).trans es312_12
        have es336_13 : s336 112 1 = s0 112 1 := (Gs336 112 1 rfl).trans es312_13
        have es336_14 : s336 112 2 = s0 112 2 := (Gs336 112 2 rfl).trans es312_14
        have es336_15 : s336 112 3 = s0 112 3 := (Gs336 112 3 rfl).trans es312_15
        rcases pcs336 with pcs336 | pcs336 | pcs336
        · refine h_ceq (tg := 1441) (pc' := 1350) rfl rfl rfl hr311 hr335 (fun c337 => ?_) (fun c337 => absurd c337 (by omega))
          exact kk _ Is336 (by first | exact h_jf j0 (by omega) (by omega) (by omega) | exact Or.inr ⟨by omega, by omega, by omega⟩) (by first | exact h_jf j1 (by omega) (by omega) (by omega) | exact Or.inr ⟨by omega, by omega, by omega⟩) (by first | exact h_jf j2 (by omega) (by omega) (by omega) | exact Or.inr ⟨by omega, by omega, by omega⟩) (by first | exact h_jf j3 (by omega) (by omega) (by omega) | exact Or.inr ⟨by omega, by omega, by omega⟩)
        · refine h_ceq (tg := 1441) (pc' := 1350) rfl rfl rfl hr311 hr335 (fun c338 => absurd c338 (by omega)) (fun c338 => ?_)
          refine h_iconst (pc' := 1351) (x := (Int32.ofInt 0)) rfl rfl rfl ?_
          exfalso
          unfold h_js at j0 j1 j2 j3
          omega
        · refine h_ceq (tg := 1441) (pc' := 1350) rfl rfl rfl hr311 hr335 (fun c339 => absurd c339 (by omega)) (fun c339 => ?_)
          refine h_iconst (pc' := 1351) (x := (Int32.ofInt 0)) rfl rfl rfl ?_
          exfalso
          unfold h_js at j0 j1 j2 j3
          omega
      · refine h_call (sp := false) (pc' := 1347) (M := [(0, .ref 98), (1, .int z314), (2, .int z316), (3, .int z318)]) rfl rfl rfl rfl rfl rfl rfl rfl ?_
        refine u_layMn _ Is312 z314 _ hz314 (by omega) z316 _ hz316 z318 _ hz318 (fun r340 br340 hr340 s341 Is341 Gs341 tr340 pcs341 => h_Kv ?_)
        have Zs341 : ∀ i, s341 0 i = s0 0 i := fun i => (Gs341 0 i rfl).trans (Zs312 i)
        have es341_0 : s341 95 0 = s0 95 0 := (Gs341 95 0 rfl).trans es312_0
        have es341_1 : s341 95 1 = s0 95 1 := (Gs341 95 1 rfl).trans es312_1
        have es341_2 : s341 95 2 = s0 95 2 := (Gs341 95 2 rfl).trans es312_2
        have es341_3 : s341 95 3 = s0 95 3 := (Gs341 95 3 rfl).trans es312_3
        have es341_4 : s341 96 0 = s0 96 0 := (Gs341 96 0 rfl).trans es312_4
        have es341_5 : s341 96 1 = s0 96 1 := (Gs341 96 1 rfl).trans es312_5
        have es341_6 : s341 96 2 = s0 96 2 := (Gs341 96 2 rfl).trans es312_6
        have es341_7 : s341 96 3 = s0 96 3 := (Gs341 96 3 rfl).trans es312_7
        have es341_8 : s341 111 0 = s0 111 0 := (Gs341 111 0 rfl).trans es312_8
        have es341_9 : s341 111 1 = s0 111 1 := (Gs341 111 1 rfl).trans es312_9
        have es341_10 : s341 111 2 = s0 111 2 := (Gs341 111 2 rfl).trans es312_10
        have es341_11 : s341 111 3 = s0 111 3 := (Gs341 111 3 rfl).trans es312_11
        have es341_12 : s341 112 0 = s0 112 0 := (Gs341 112 0 rfl).trans es312_12
        have es341_13 : s341 112 1 = s0 112 1 := (Gs341 112 1 rfl).trans es312_13
        have es341_14 : s341 112 2 = s0 112 2 := (Gs341 112 2 rfl).trans es312_14
        have es341_15 : s341 112 3 = s0 112 3 := (Gs341 112 3 rfl).trans es312_15
        rcases pcs341 with pcs341
        · refine h_ceq (tg := 1441) (pc' := 1350) rfl rfl rfl hr311 hr340 (fun c342 => absurd c342 (by omega)) (fun c342 => ?_)
          refine h_iconst (pc' := 1351) (x := (Int32.ofInt 0)) rfl rfl rfl ?_
          exfalso
          unfold h_js at j0 j1 j2 j3
          omega
      · refine h_call (sp := false) (pc' := 1347) (M := [(0, .ref 98), (1, .int z314), (2, .int z316), (3, .int z318)]) rfl rfl rfl rfl rfl rfl rfl rfl ?_
        refine u_layMp _ Is312 z314 _ hz314 (by omega) z316 _ hz316 z318 _ hz318 (fun r343 br343 hr343 s344 Is344 Gs344 tr343 pcs344 => h_Kv ?_)
        have Zs344 : ∀ i, s344 0 i = s0 0 i := fun i => (Gs344 0 i rfl).trans (Zs312 i)
        have es344_0 : s344 95 0 = s0 95 0 := (Gs344 95 0 rfl).trans es312_0
        have es344_1 : s344 95 1 = s0 95 1 := (Gs344 95 1 rfl).trans es312_1
        have es344_2 : s344 95 2 = s0 95 2 := (Gs344 95 2 rfl).trans es312_2
        have es344_3 : s344 95 3 = s0 95 3 := (Gs344 95 3 rfl).trans es312_3
        have es344_4 : s344 96 0 = s0 96 0 := (Gs344 96 0 rfl).trans es312_4
        have es344_5 : s344 96 1 = s0 96 1 := (Gs344 96 1 rfl).trans es312_5
        have es344_6 : s344 96 2 = s0 96 2 := (Gs344 96 2 rfl).trans es312_6
        have es344_7 : s344 96 3 = s0 96 3 := (Gs344 96 3 rfl).trans es312_7
        have es344_8 : s344 111 0 = s0 111 0 := (Gs344 111 0 rfl).trans es312_8
        have es344_9 : s344 111 1 = s0 111 1 := (Gs344 111 1 rfl).trans es312_9
        have es344_10 : s344 111 2 = s0 111 2 := (Gs344 111 2 rfl).trans es312_10
        have es344_11 : s344 111 3 = s0 111 3 := (Gs344 111 3 rfl).trans es312_11
        have es344_12 : s344 112 0 = s0 112 0 := (Gs344 112 0 rfl).trans es312_12
        have es344_13 : s344 112 1 = s0 112 1 := (Gs344 112 1 rfl).trans es312_13
        have es344_14 : s344 112 2 = s0 112 2 := (Gs344 112 2 rfl).trans es312_14
        have es344_15 : s344 112 3 = s0 112 3 := (Gs344 112 3 rfl).trans es312_15
        rcases pcs344 with pcs344
        · refine h_ceq (tg := 1441) (pc' := 1350) rfl rfl rfl hr311 hr343 (fun c345 => absurd c345 (by omega)) (fun c345 => ?_)
          refine h_iconst (pc' := 1351) (x := (Int32.ofInt 0)) rfl rfl rfl ?_
          exfalso
          unfold h_js at j0 j1 j2 j3
          omega
    · refine h_aload_n (pc' := 1329) rfl rfl rfl ?_
      refine h_aload_n (pc' := 1330) rfl rfl rfl ?_
      refine h_iload_n (pc' := 1331) rfl rfl rfl ?_
      refine h_iconst (pc' := 1332) (x := (Int32.ofInt 1)) rfl rfl rfl ?_
      refine h_iadd (pc' := 1333) rfl rfl hy3 ci_1 rfl (by omega) (by omega) (fun z346 hz346 => ?_)
      refine h_iald (pc' := 1334) (v := s0 0 (b3 + 1)) rfl rfl rfl hz346 (by omega) (by omega) (Zs312 _) (fun z347 hz347 => ?_)
      have tz347 := h_rgv hz347
      refine h_aload_n (pc' := 1335) rfl rfl rfl ?_
      refine h_iload_n (pc' := 1336) rfl rfl rfl ?_
      refine h_iconst (pc' := 1337) (x := (Int32.ofInt 2)) rfl rfl rfl ?_
      refine h_iadd (pc' := 1338) rfl rfl hy3 ci_2 rfl (by omega) (by omega) (fun z348 hz348 => ?_)
      refine h_iald (pc' := 1339) (v := s0 0 (b3 + 2)) rfl rfl rfl hz348 (by omega) (by omega) (Zs312 _) (fun z349 hz349 => ?_)
      have tz349 := h_rgv hz349
      refine h_aload_n (pc' := 1340) rfl rfl rfl ?_
      refine h_iload_n (pc' := 1341) rfl rfl rfl ?_
      refine h_iconst (pc' := 1342) (x := (Int32.ofInt 3)) rfl rfl rfl ?_
      refine h_iadd (pc' := 1343) rfl rfl hy3 ci_3 rfl (by omega) (by omega) (fun z350 hz350 => ?_)
      refine h_iald (pc' := 1344) (v := s0 0 (b3 + 3)) rfl rfl rfl hz350 (by omega) (by omega) (Zs312 _) (fun z351 hz351 => ?_)
      have tz351 := h_rgv hz351
      rcases (show ((s0 0 (b3 + 1)) = 0) ∨ ((s0 0 (b3 + 1)) = 1) ∨ ((s0 0 (b3 + 1)) = 2) ∨ ((s0 0 (b3 + 1)) = 3) ∨ ((s0 0 (b3 + 1)) ≤ (-1)) ∨ (4 ≤ (s0 0 (b3 + 1))) by omega) with c352 | c352 | c352 | c352 | c352 | c352
      · have qz347 : z347 = (Int32.ofInt 0) := h_lit (show z347.toInt = 0 by omega) ci_0
        subst qz347
        refine h_call (sp := false) (pc' := 1347) (M := [(0, .ref 98), (1, .int (Int32.ofInt 0)), (2, .int z349), (3, .int z351)]) rfl rfl rfl rfl rfl rfl rfl rfl ?_
        refine u_layM0 _ Is312  z349 _ hz349 z351 _ hz351 (fun r353 br353 hr353 s354 Is354 Gs354 tr353 pcs354 => h_Kv ?_)
        have Zs354 : ∀ i, s354 0 i = s0 0 i := fun i => (Gs354 0 i rfl).trans (Zs312 i)
        have es354_0 : s354 95 0 = s0 95 0 := (Gs354 95 0 rfl).trans es312_0
        have es354_1 : s354 95 1 = s0 95 1 := (Gs354 95 1 rfl).trans es312_1
        have es354_2 : s354 95 2 = s0 95 2 := (Gs354 95 2 rfl).trans es312_2
        have es354_3 : s354 95 3 = s0 95 3 := (Gs354 95 3 rfl).trans es312_3
        have es354_4 : s354 96 0 = s0 96 0 := (Gs354 96 0 rfl).trans es312_4
        have es354_5 : s354 96 1 = s0 96 1 := (Gs354 96 1 rfl).trans es312_5
        have es354_6 : s354 96 2 = s0 96 2 := (Gs354 96 2 rfl).trans es312_6
        have es354_7 : s354 96 3 = s0 96 3 := (Gs354 96 3 rfl).trans es312_7
        have es354_8 : s354 111 0 = s0 111 0 := (Gs354 111 0 rfl).trans es312_8
        have es354_9 : s354 111 1 = s0 111 1 := (Gs354 111 1 rfl).trans es312_9
        have es354_10 : s354 111 2 = s0 111 2 := (Gs354 111 2 rfl).trans es312_10
        have es354_11 : s354 111 3 = s0 111 3 := (Gs354 111 3 rfl).trans es312_11
        have es354_12 : s354 112 0 = s0 112 0 := (Gs354 112 0 rfl).trans es312_12
        have es354_13 : s354 112 1 = s0 112 1 := (Gs354 112 1 rfl).trans es312_13
        have es354_14 : s354 112 2 = s0 112 2 := (Gs354 112 2 rfl).trans es312_14
        have es354_15 : s354 112 3 = s0 112 3 := (Gs354 112 3 rfl).trans es312_15
        rcases pcs354 with pcs354 | pcs354 | pcs354
        · refine h_ceq (tg := 1441) (pc' := 1350) rfl rfl rfl hr311 hr353 (fun c355 => absurd c355 (by omega)) (fun c355 => ?_)
          refine h_iconst (pc' := 1351) (x := (Int32.ofInt 0)) rfl rfl rfl ?_
          exfalso
          unfold h_js at j0 j1 j2 j3
          omega
        · refine h_ceq (tg := 1441) (pc' := 1350) rfl rfl rfl hr311 hr353 (fun c356 => ?_) (fun c356 => absurd c356 (by omega))
          exact kk _ Is354 (by first | exact h_jf j0 (by omega) (by omega) (by omega) | exact Or.inr ⟨by omega, by omega, by omega⟩) (by first | exact h_jf j1 (by omega) (by omega) (by omega) | exact Or.inr ⟨by omega, by omega, by omega⟩) (by first | exact h_jf j2 (by omega) (by omega) (by omega) | exact Or.inr ⟨by omega, by omega, by omega⟩) (by first | exact h_jf j3 (by omega) (by omega) (by omega) | exact Or.inr ⟨by omega, by omega, by omega⟩)
        · refine h_ceq (tg := 1441) (pc' := 1350) rfl rfl rfl hr311 hr353 (fun c357 => absurd c357 (by omega)) (fun c357 => ?_)
          refine h_iconst (pc' := 1351) (x := (Int32.ofInt 0)) rfl rfl rfl ?_
          exfalso
          unfold h_js at j0 j1 j2 j3
          omega
      · have qz347 : z347 = (Int32.ofInt 1) := h_lit (show z347.toInt = 1 by omega) ci_1
        subst qz347
        refine h_call (sp := false) (pc' := 1347) (M := [(0, .ref 98), (1, .int (Int32.ofInt 1)), (2, .int z349), (3, .int z351)]) rfl rfl rfl rfl rfl rfl rfl rfl ?_
        refine u_layM1 _ Is312  z349 _ hz349 z351 _ hz351 (fun r358 br358 hr358 s359 Is359 Gs359 tr358 pcs359 => h_Kv ?_)
        have Zs359 : ∀ i, s359 0 i = s0 0 i := fun i => (Gs359 0 i rfl).trans (Zs312 i)
        have es359_0 : s359 95 0 = s0 95 0 := (Gs359 95 0 rfl).trans es312_0
        have es359_1 : s359 95 1 = s0 95 1 := (Gs359 95 1 rfl).trans es312_1
        have es359_2 : s359 95 2 = s0 95 2 := (Gs359 95 2 rfl).trans es312_2
        have es359_3 : s359 95 3 = s0 95 3 := (Gs359 95 3 rfl).trans es312_3
        have es359_4 : s359 96 0 = s0 96 0 := (Gs359 96 0 rfl).trans es312_4
        have es359_5 : s359 96 1 = s0 96 1 := (Gs359 96 1 rfl).trans es312_5
        have es359_6 : s359 96 2 = s0 96 2 := (Gs359 96 2 rfl).trans es312_6
        have es359_7 : s359 96 3 = s0 96 3 := (Gs359 96 3 rfl).trans es312_7
        have es359_8 : s359 111 0 = s0 111 0 := (Gs359 111 0 rfl).trans es312_8
        have es359_9 : s359 111 1 = s0 111 1 := (Gs359 111 1 rfl).trans es312_9
        have es359_10 : s359 111 2 = s0 111 2 := (Gs359 111 2 rfl).trans es312_10
        have es359_11 : s359 111 3 = s0 111 3 := (Gs359 111 3 rfl).trans es312_11
        have es359_12 : s359 112 0 = s0 112 0 := (Gs359 112 0 rfl).trans es312_12
        have es359_13 : s359 112 1 = s0 112 1 := (Gs359 112 1 rfl).trans es312_13
        have es359_14 : s359 112 2 = s0 112 2 := (Gs359 112 2 rfl).trans es312_14
        have es359_15 : s359 112 3 = s0 112 3 := (Gs359 112 3 rfl).trans es312_15
        rcases pcs359 with pcs359 | pcs359 | pcs359
        · refine h_ceq (tg := 1441) (pc' := 1350) rfl rfl rfl hr311 hr358 (fun c360 => absurd c360 (by omega)) (fun c360 => ?_)
          refine h_iconst (pc' := 1351) (x := (Int32.ofInt 0)) rfl rfl rfl ?_
          exfalso
          unfold h_js at j0 j1 j2 j3
          omega
        · refine h_ceq (tg := 1441) (pc' := 1350) rfl rfl rfl hr311 hr358 (fun c361 => ?_) (fun c361 => absurd c361 (by omega))
          exact kk _ Is359 (by first | exact h_jf j0 (by omega) (by omega) (by omega) | exact Or.inr ⟨by omega, by omega, by omega⟩) (by first | exact h_jf j1 (by omega) (by omega) (by omega) | exact Or.inr ⟨by omega, by omega, by omega⟩) (by first | exact h_jf j2 (by omega) (by omega) (by omega) | exact Or.inr ⟨by omega, by omega, by omega⟩) (by first | exact h_jf j3 (by omega) (by omega) (by omega) | exact Or.inr ⟨by omega, by omega, by omega⟩)
        · refine h_ceq (tg := 1441) (pc' := 1350) rfl rfl rfl hr311 hr358 (fun c362 => absurd c362 (by omega)) (fun c362 => ?_)
          refine h_iconst (pc' := 1351) (x := (Int32.ofInt 0)) rfl rfl rfl ?_
          exfalso
          unfold h_js at j0 j1 j2 j3
          omega
      · have qz347 : z347 = (Int32.ofInt 2) := h_lit (show z347.toInt = 2 by omega) ci_2
        subst qz347
        refine h_call (sp := false) (pc' := 1347) (M := [(0, .ref 98), (1, .int (Int32.ofInt 2)), (2, .int z349), (3, .int z351)]) rfl rfl rfl rfl rfl rfl rfl rfl ?_
        refine u_layM2 _ Is312  z349 _ hz349 z351 _ hz351 (fun r363 br363 hr363 s364 Is364 Gs364 tr363 pcs364 => h_Kv ?_)
        have Zs364 : ∀ i, s364 0 i = s0 0 i := fun i => (Gs364 0 i rfl).trans (Zs312 i)
        have es364_0 : s364 95 0 = s0 95 0 := (Gs364 95 0 rfl).trans es312_0
        have es364_1 : s364 95 1 = s0 95 1 := (Gs364 95 1 rfl).trans es312_1
        have es364_2 : s364 95 2 = s0 95 2 := (Gs364 95 2 rfl).trans es312_2
        have es364_3 : s364 95 3 = s0 95 3 := (Gs364 95 3 rfl).trans es312_3
        have es364_4 : s364 96 0 = s0 96 0 := (Gs364 96 0 rfl).trans es312_4
        have es364_5 : s364 96 1 = s0 96 1 := (Gs364 96 1 rfl).trans es312_5
        have es364_6 : s364 96 2 = s0 96 2 := (Gs364 96 2 rfl).trans es312_6
        have es364_7 : s364 96 3 = s0 96 3 := (Gs364 96 3 rfl).trans es312_7
        have es364_8 : s364 111 0 = s0 111 0 := (Gs364 111 0 rfl).trans es312_8
        have es364_9 : s364 111 1 = s0 111 1 := (Gs364 111 1 rfl).trans es312_9
        have es364_10 : s364 111 2 = s0 111 2 := (Gs364 111 2 rfl).trans es312_10
        have es364_11 : s364 111 3 = s0 111 3 := (Gs364 111 3 rfl).trans es312_11
        have es364_12 : s364 112 0 = s0 112 0 := (Gs364 112 0 rfl).trans es312_12
        have es364_13 : s364 112 1 = s0 112 1 := (Gs364 112 1 rfl).trans es312_13
        have es364_14 : s364 112 2 = s0 112 2 := (Gs364 112 2 rfl).trans es312_14
        have es364_15 : s364 112 3 = s0 112 3 := (Gs364 112 3 rfl).trans es312_15
        rcases pcs364 with pcs364 | pcs364 | pcs364
        · refine h_ceq (tg := 1441) (pc' := 1350) rfl rfl rfl hr311 hr363 (fun c365 => absurd c365 (by omega)) (fun c365 => ?_)
          refine h_iconst (pc' := 1351) (x := (Int32.ofInt 0)) rfl rfl rfl ?_
          exfalso
          unfold h_js at j0 j1 j2 j3
          omega
        · refine h_ceq (tg := 1441) (pc' := 1350) rfl rfl rfl hr311 hr363 (fun c366 => ?_) (fun c366 => absurd c366 (by omega))
          exact kk _ Is364 (by first | exact h_jf j0 (by omega) (by omega) (by omega) | exact Or.inr ⟨by omega, by omega, by omega⟩) (by first | exact h_jf j1 (by omega) (by omega) (by omega) | exact Or.inr ⟨by omega, by omega, by omega⟩) (by first | exact h_jf j2 (by omega) (by omega) (by omega) | exact Or.inr ⟨by omega, by omega, by omega⟩) (by first | exact h_jf j3 (by omega) (by omega) (by omega) | exact Or.inr ⟨by omega, by omega, by omega⟩)
        · refine h_ceq (tg := 1441) (pc' := 1350) rfl rfl rfl hr311 hr363 (fun c367 => absurd c367 (by omega)) (fun c367 => ?_)
          refine h_iconst (pc' := 1351) (x := (Int32.ofInt 0)) rfl rfl rfl ?_
          exfalso
          unfold h_js at j0 j1 j2 j3
          omega
      · have qz347 : z347 = (Int32.ofInt 3) := h_lit (show z347.toInt = 3 by omega) ci_3
        subst qz347
        refine h_call (sp := false) (pc' := 1347) (M := [(0, .ref 98), (1, .int (Int32.ofInt 3)), (2, .int z349), (3, .int z351)]) rfl rfl rfl rfl rfl rfl rfl rfl ?_
        refine u_layM3 _ Is312  z349 _ hz349 z351 _ hz351 (fun r368 br368 hr368 s369 Is369 Gs369 tr368 pcs369 => h_Kv ?_)
        have Zs369 : ∀ i, s369 0 i = s0 0 i := fun i => (Gs369 0 i rfl).trans (Zs312 i)
        have es369_0 : s369 95 0 = s0 95 0 := (Gs369 95 0 rfl).trans es312_0
        have es369_1 : s369 95 1 = s0 95 1 := (Gs369 95 1 rfl).trans es312_1
        have es369_2 : s369 95 2 = s0 95 2 := (Gs369 95 2 rfl).trans es312_2
        have es369_3 : s369 95 3 = s0 95 3 := (Gs369 95 3 rfl).trans es312_3
        have es369_4 : s369 96 0 = s0 96 0 := (Gs369 96 0 rfl).trans es312_4
        have es369_5 : s369 96 1 = s0 96 1 := (Gs369 96 1 rfl).trans es312_5
        have es369_6 : s369 96 2 = s0 96 2 := (Gs369 96 2 rfl).trans es312_6
        have es369_7 : s369 96 3 = s0 96 3 := (Gs369 96 3 rfl).trans es312_7
        have es369_8 : s369 111 0 = s0 111 0 := (Gs369 111 0 rfl).trans es312_8
        have es369_9 : s369 111 1 = s0 111 1 := (Gs369 111 1 rfl).trans es312_9
        have es369_10 : s369 111 2 = s0 111 2 := (Gs369 111 2 rfl).trans es312_10
        have es369_11 : s369 111 3 = s0 111 3 := (Gs369 111 3 rfl).trans es312_11
        have es369_12 : s369 112 0 = s0 112 0 := (Gs369 112 0 rfl).trans es312_12
        have es369_13 : s369 112 1 = s0 112 1 := (Gs369 112 1 rfl).trans es312_13
        have es369_14 : s369 112 2 = s0 112 2 := (Gs369 112 2 rfl).trans es312_14
        have es369_15 : s369 112 3 = s0 112 3 := (Gs369 112 3 rfl).trans es312_15
        rcases pcs369 with pcs369 | pcs369 | pcs369
        · refine h_ceq (tg := 1441) (pc' := 1350) rfl rfl rfl hr311 hr368 (fun c370 => absurd c370 (by omega)) (fun c370 => ?_)
          refine h_iconst (pc' := 1351) (x := (Int32.ofInt 0)) rfl rfl rfl ?_
          exfalso
          unfold h_js at j0 j1 j2 j3
          omega
        · refine h_ceq (tg := 1441) (pc' := 1350) rfl rfl rfl hr311 hr368 (fun c371 => ?_) (fun c371 => absurd c371 (by omega))
          exact kk _ Is369 (by first | exact h_jf j0 (by omega) (by omega) (by omega) | exact Or.inr ⟨by omega, by omega, by omega⟩) (by first | exact h_jf j1 (by omega) (by omega) (by omega) | exact Or.inr ⟨by omega, by omega, by omega⟩) (by first | exact h_jf j2 (by omega) (by omega) (by omega) | exact Or.inr ⟨by omega, by omega, by omega⟩) (by first | exact h_jf j3 (by omega) (by omega) (by omega) | exact Or.inr ⟨by omega, by omega, by omega⟩)
        · refine h_ceq (tg := 1441) (pc' := 1350) rfl rfl rfl hr311 hr368 (fun c372 => absurd c372 (by omega)) (fun c372 => ?_)
          refine h_iconst (pc' := 1351) (x := (Int32.ofInt 0)) rfl rfl rfl ?_
          exfalso
          unfold h_js at j0 j1 j2 j3
          omega
      · refine h_call (sp := false) (pc' := 1347) (M := [(0, .ref 98), (1, .int z347), (2, .int z349), (3, .int z351)]) rfl rfl rfl rfl rfl rfl rfl rfl ?_
        refine u_layMn _ Is312 z347 _ hz347 (by omega) z349 _ hz349 z351 _ hz351 (fun r373 br373 hr373 s374 Is374 Gs374 tr373 pcs374 => h_Kv ?_)
        have Zs374 : ∀ i, s374 0 i = s0 0 i := fun i => (Gs374 0 i rfl).trans (Zs312 i)
        have es374_0 : s374 95 0 = s0 95 0 := (Gs374 95 0 rfl).trans es312_0
        have es374_1 : s374 95 1 = s0 95 1 := (Gs374 95 1 rfl).trans es312_1
        have es374_2 : s374 95 2 = s0 95 2 := (Gs374 95 2 rfl).trans es312_2
        have es374_3 : s374 95 3 = s0 95 3 := (Gs374 95 3 rfl).trans es312_3
        have es374_4 : s374 96 0 = s0 96 0 := (Gs374 96 0 rfl).trans es312_4
        have es374_5 : s374 96 1 = s0 96 1 := (Gs374 96 1 rfl).trans es312_5
        have es374_6 : s374 96 2 = s0 96 2 := (Gs374 96 2 rfl).trans es312_6
        have es374_7 : s374 96 3 = s0 96 3 := (Gs374 96 3 rfl).trans es312_7
        have es374_8 : s374 111 0 = s0 111 0 := (Gs374 111 0 rfl).trans es312_8
        have es374_9 : s374 111 1 = s0 111 1 := (Gs374 111 1 rfl).trans es312_9
        have es374_10 : s374 111 2 = s0 111 2 := (Gs374 111 2 rfl).trans es312_10
        have es374_11 : s374 111 3 = s0 111 3 := (Gs374 111 3 rfl).trans es312_11
        have es374_12 : s374 112 0 = s0 112 0 := (Gs374 112 0 rfl).trans es312_12
        have es374_13 : s374 112 1 = s0 112 1 := (Gs374 112 1 rfl).trans es312_13
        have es374_14 : s374 112 2 = s0 112 2 := (Gs374 112 2 rfl).trans es312_14
        have es374_15 : s374 112 3 = s0 112 3 := (Gs374 112 3 rfl).trans es312_15
        rcases pcs374 with pcs374
        · refine h_ceq (tg := 1441) (pc' := 1350) rfl rfl rfl hr311 hr373 (fun c375 => absurd c375 (by omega)) (fun c375 => ?_)
          refine h_iconst (pc' := 1351) (x := (Int32.ofInt 0)) rfl rfl rfl ?_
          exfalso
          unfold h_js at j0 j1 j2 j3
          omega
      · refine h_call (sp := false) (pc' := 1347) (M := [(0, .ref 98), (1, .int z347), (2, .int z349), (3, .int z351)]) rfl rfl rfl rfl rfl rfl rfl rfl ?_
        refine u_layMp _ Is312 z347 _ hz347 (by omega) z349 _ hz349 z351 _ hz351 (fun r376 br376 hr376 s377 Is377 Gs377 tr376 pcs377 => h_Kv ?_)
        have Zs377 : ∀ i, s377 0 i = s0 0 i := fun i => (Gs377 0 i rfl).trans (Zs312 i)
        have es377_0 : s377 95 0 = s0 95 0 := (Gs377 95 0 rfl).trans es312_0
        have es377_1 : s377 95 1 = s0 95 1 := (Gs377 95 1 rfl).trans es312_1
        have es377_2 : s377 95 2 = s0 95 2 := (Gs377 95 2 rfl).trans es312_2
        have es377_3 : s377 95 3 = s0 95 3 := (Gs377 95 3 rfl).trans es312_3
        have es377_4 : s377 96 0 = s0 96 0 := (Gs377 96 0 rfl).trans es312_4
        have es377_5 : s377 96 1 = s0 96 1 := (Gs377 96 1 rfl).trans es312_5
        have es377_6 : s377 96 2 = s0 96 2 := (Gs377 96 2 rfl).trans es312_6
        have es377_7 : s377 96 3 = s0 96 3 := (Gs377 96 3 rfl).trans es312_7
        have es377_8 : s377 111 0 = s0 111 0 := (Gs377 111 0 rfl).trans es312_8
        have es377_9 : s377 111 1 = s0 111 1 := (Gs377 111 1 rfl).trans es312_9
        have es377_10 : s377 111 2 = s0 111 2 := (Gs377 111 2 rfl).trans es312_10
        have es377_11 : s377 111 3 = s0 111 3 := (Gs377 111 3 rfl).trans es312_11
        have es377_12 : s377 112 0 = s0 112 0 := (Gs377 112 0 rfl).trans es312_12
        have es377_13 : s377 112 1 = s0 112 1 := (Gs377 112 1 rfl).trans es312_13
        have es377_14 : s377 112 2 = s0 112 2 := (Gs377 112 2 rfl).trans es312_14
        have es377_15 : s377 112 3 = s0 112 3 := (Gs377 112 3 rfl).trans es312_15
        rcases pcs377 with pcs377
        · refine h_ceq (tg := 1441) (pc' := 1350) rfl rfl rfl hr311 hr376 (fun c378 => absurd c378 (by omega)) (fun c378 => ?_)
          refine h_iconst (pc' := 1351) (x := (Int32.ofInt 0)) rfl rfl rfl ?_
          exfalso
          unfold h_js at j0 j1 j2 j3
          omega
    · refine h_aload_n (pc' := 1329) rfl rfl rfl ?_
      refine h_aload_n (pc' := 1330) rfl rfl rfl ?_
      refine h_iload_n (pc' := 1331) rfl rfl rfl ?_
      refine h_iconst (pc' := 1332) (x := (Int32.ofInt 1)) rfl rfl rfl ?_
      refine h_iadd (pc' := 1333) rfl rfl hy3 ci_1 rfl (by omega) (by omega) (fun z379 hz379 => ?_)
      refine h_iald (pc' := 1334) (v := s0 0 (b3 + 1)) rfl rfl rfl hz379 (by omega) (by omega) (Zs312 _) (fun z380 hz380 => ?_)
      have tz380 := h_rgv hz380
      refine h_aload_n (pc' := 1335) rfl rfl rfl ?_
      refine h_iload_n (pc' := 1336) rfl rfl rfl ?_
      refine h_iconst (pc' := 1337) (x := (Int32.ofInt 2)) rfl rfl rfl ?_
      refine h_iadd (pc' := 1338) rfl rfl hy3 ci_2 rfl (by omega) (by omega) (fun z381 hz381 => ?_)
      refine h_iald (pc' := 1339) (v := s0 0 (b3 + 2)) rfl rfl rfl hz381 (by omega) (by omega) (Zs312 _) (fun z382 hz382 => ?_)
      have tz382 := h_rgv hz382
      refine h_aload_n (pc' := 1340) rfl rfl rfl ?_
      refine h_iload_n (pc' := 1341) rfl rfl rfl ?_
      refine h_iconst (pc' := 1342) (x := (Int32.ofInt 3)) rfl rfl rfl ?_
      refine h_iadd (pc' := 1343) rfl rfl hy3 ci_3 rfl (by omega) (by omega) (fun z383 hz383 => ?_)
      refine h_iald (pc' := 1344) (v := s0 0 (b3 + 3)) rfl rfl rfl hz383 (by omega) (by omega) (Zs312 _) (fun z384 hz384 => ?_)
      have tz384 := h_rgv hz384
      rcases (show ((s0 0 (b3 + 1)) = 0) ∨ ((s0 0 (b3 + 1)) = 1) ∨ ((s0 0 (b3 + 1)) = 2) ∨ ((s0 0 (b3 + 1)) = 3) ∨ ((s0 0 (b3 + 1)) ≤ (-1)) ∨ (4 ≤ (s0 0 (b3 + 1))) by omega) with c385 | c385 | c385 | c385 | c385 | c385
      · have qz380 : z380 = (Int32.ofInt 0) := h_lit (show z380.toInt = 0 by omega) ci_0
        subst qz380
        refine h_call (sp := false) (pc' := 1347) (M := [(0, .ref 98), (1, .int (Int32.ofInt 0)), (2, .int z382), (3, .int z384)]) rfl rfl rfl rfl rfl rfl rfl rfl ?_
        refine u_layM0 _ Is312  z382 _ hz382 z384 _ hz384 (fun r386 br386 hr386 s387 Is387 Gs387 tr386 pcs387 => h_Kv ?_)
        have Zs387 : ∀ i, s387 0 i = s0 0 i := fun i => (Gs387 0 i rfl).trans (Zs312 i)
        have es387_0 : s387 95 0 = s0 95 0 := (Gs387 95 0 rfl).trans es312_0
        have es387_1 : s387 95 1 = s0 95 1 := (Gs387 95 1 rfl).trans es312_1
        have es387_2 : s387 95 2 = s0 95 2 := (Gs387 95 2 rfl).trans es312_2
        have es387_3 : s387 95 3 = s0 95 3 := (Gs387 95 3 rfl).trans es312_3
        have es387_4 : s387 96 0 = s0 96 0 := (Gs387 96 0 rfl).trans es312_4
        have es387_5 : s387 96 1 = s0 96 1 := (Gs387 96 1 rfl).trans es312_5
        have es387_6 : s387 96 2 = s0 96 2 := (Gs387 96 2 rfl).trans es312_6
        have es387_7 : s387 96 3 = s0 96 3 := (Gs387 96 3 rfl).trans es312_7
        have es387_8 : s387 111 0 = s0 111 0 := (Gs387 111 0 rfl).trans es312_8
        have es387_9 : s387 111 1 = s0 111 1 := (Gs387 111 1 rfl).trans es312_9
        have es387_10 : s387 111 2 = s0 111 2 := (Gs387 111 2 rfl).trans es312_10
        have es387_11 : s387 111 3 = s0 111 3 := (Gs387 111 3 rfl).trans es312_11
        have es387_12 : s387 112 0 = s0 112 0 := (Gs387 112 0 rfl).trans es312_12
        have es387_13 : s387 112 1 = s0 112 1 := (Gs387 112 1 rfl).trans es312_13
        have es387_14 : s387 112 2 = s0 112 2 := (Gs387 112 2 rfl).trans es312_14
        have es387_15 : s387 112 3 = s0 112 3 := (Gs387 112 3 rfl).trans es312_15
        rcases pcs387 with pcs387 | pcs387 | pcs387
        · refine h_ceq (tg := 1441) (pc' := 1350) rfl rfl rfl hr311 hr386 (fun c388 => absurd c388 (by omega)) (fun c388 => ?_)
          refine h_iconst (pc' := 1351) (x := (Int32.ofInt 0)) rfl rfl rfl ?_
          exfalso
          unfold h_js at j0 j1 j2 j3
          omega
        · refine h_ceq (tg := 1441) (pc' := 1350) rfl rfl rfl hr311 hr386 (fun c389 => absurd c389 (by omega)) (fun c389 => ?_)
          refine h_iconst (pc' := 1351) (x := (Int32.ofInt 0)) rfl rfl rfl ?_
          exfalso
          unfold h_js at j0 j1 j2 j3
          omega
        · refine h_ceq (tg := 1441) (pc' := 1350) rfl rfl rfl hr311 hr386 (fun c390 => ?_) (fun c390 => absurd c390 (by omega))
          exact kk _ Is387 (by first | exact h_jf j0 (by omega) (by omega) (by omega) | exact Or.inr ⟨by omega, by omega, by omega⟩) (by first | exact h_jf j1 (by omega) (by omega) (by omega) | exact Or.inr ⟨by omega, by omega, by omega⟩) (by first | exact h_jf j2 (by omega) (by omega) (by omega) | exact Or.inr ⟨by omega, by omega, by omega⟩) (by first | exact h_jf j3 (by omega) (by omega) (by omega) | exact Or.inr ⟨by omega, by omega, by omega⟩)
      · have qz380 : z380 = (Int32.ofInt 1) := h_lit (show z380.toInt = 1 by omega) ci_1
        subst qz380
        refine h_call (sp := false) (pc' := 1347) (M := [(0, .ref 98), (1, .int (Int32.ofInt 1)), (2, .int z382), (3, .int z384)]) rfl rfl rfl rfl rfl rfl rfl rfl ?_
        refine u_layM1 _ Is312  z382 _ hz382 z384 _ hz384 (fun r391 br391 hr391 s392 Is392 Gs392 tr391 pcs392 => h_Kv ?_)
        have Zs392 : ∀ i, s392 0 i = s0 0 i := fun i => (Gs392 0 i rfl).trans (Zs312 i)
        have es392_0 : s392 95 0 = s0 95 0 := (Gs392 95 0 rfl).trans es312_0
        have es392_1 : s392 95 1 = s0 95 1 := (Gs392 95 1 rfl).trans es312_1
        have es392_2 : s392 95 2 = s0 95 2 := (Gs392 95 2 rfl).trans es312_2
        have es392_3 : s392 95 3 = s0 95 3 := (Gs392 95 3 rfl).trans es312_3
        have es392_4 : s392 96 0 = s0 96 0 := (Gs392 96 0 rfl).trans es312_4
        have es392_5 : s392 96 1 = s0 96 1 := (Gs392 96 1 rfl).trans es312_5
        have es392_6 : s392 96 2 = s0 96 2 := (Gs392 96 2 rfl).trans es312_6
        have es392_7 : s392 96 3 = s0 96 3 := (Gs392 96 3 rfl).trans es312_7
        have es392_8 : s392 111 0 = s0 111 0 := (Gs392 111 0 rfl).trans es312_8
        have es392_9 : s392 111 1 = s0 111 1 := (Gs392 111 1 rfl).trans es312_9
        have es392_10 : s392 111 2 = s0 111 2 := (Gs392 111 2 rfl).trans es312_10
        have es392_11 : s392 111 3 = s0 111 3 := (Gs392 111 3 rfl).trans es312_11
        have es392_12 : s392 112 0 = s0 112 0 := (Gs392 112 0 rfl).trans es312_12
        have es392_13 : s392 112 1 = s0 112 1 := (Gs392 112 1 rfl).trans es312_13
        have es392_14 : s392 112 2 = s0 112 2 := (Gs392 112 2 rfl).trans es312_14
        have es392_15 : s392 112 3 = s0 112 3 := (Gs392 112 3 rfl).trans es312_15
        rcases pcs392 with pcs392 | pcs392 | pcs392
        · refine h_ceq (tg := 1441) (pc' := 1350) rfl rfl rfl hr311 hr391 (fun c393 => absurd c393 (by omega)) (fun c393 => ?_)
          refine h_iconst (pc' := 1351) (x := (Int32.ofInt 0)) rfl rfl rfl ?_
          exfalso
          unfold h_js at j0 j1 j2 j3
          omega
        · refine h_ceq (tg := 1441) (pc' := 1350) rfl rfl rfl hr311 hr391 (fun c394 => absurd c394 (by omega)) (fun c394 => ?_)
          refine h_iconst (pc' := 1351) (x := (Int32.ofInt 0)) rfl rfl rfl ?_
          exfalso
          unfold h_js at j0 j1 j2 j3
          omega
        · refine h_ceq (tg := 1441) (pc' := 1350) rfl rfl rfl hr311 hr391 (fun c395 => ?_) (fun c395 => absurd c395 (by omega))
          exact kk _ Is392 (by first | exact h_jf j0 (by omega) (by omega) (by omega) | exact Or.inr ⟨by omega, by omega, by omega⟩) (by first | exact h_jf j1 (by omega) (by omega) (by omega) | exact Or.inr ⟨by omega, by omega, by omega⟩) (by first | exact h_jf j2 (by omega) (by omega) (by omega) | exact Or.inr ⟨by omega, by omega, by omega⟩) (by first | exact h_jf j3 (by omega) (by omega) (by omega) | exact Or.inr ⟨by omega, by omega, by omega⟩)
      · have qz380 : z380 = (Int32.ofInt 2) := h_lit (show z380.toInt = 2 by omega) ci_2
        subst qz380
        refine h_call (sp := false) (pc' := 1347) (M := [(0, .ref 98), (1, .int (Int32.ofInt 2)), (2, .int z382), (3, .int z384)]) rfl rfl rfl rfl rfl rfl rfl rfl ?_
        refine u_layM2 _ Is312  z382 _ hz382 z384 _ hz384 (fun r396 br396 hr396 s397 Is397 Gs397 tr396 pcs397 => h_Kv ?_)
        have Zs397 : ∀ i, s397 0 i = s0 0 i := fun i => (Gs397 0 i rfl).trans (Zs312 i)
        have es397_0 : s397 95 0 = s0 95 0 := (Gs397 95 0 rfl).trans es312_0
        have es397_1 : s397 95 1 = s0 95 1 := (Gs397 95 1 rfl).trans es312_1
        have es397_2 : s397 95 2 = s0 95 2 := (Gs397 95 2 rfl).trans es312_2
        have es397_3 : s397 95 3 = s0 95 3 := (Gs397 95 3 rfl).trans es312_3
        have es397_4 : s397 96 0 = s0 96 0 := (Gs397 96 0 rfl).trans es312_4
        have es397_5 : s397 96 1 = s0 96 1 := (Gs397 96 1 rfl).trans es312_5
        have es397_6 : s397 96 2 = s0 96 2 := (Gs397 96 2 rfl).trans es312_6
        have es397_7 : s397 96 3 = s0 96 3 := (Gs397 96 3 rfl).trans es312_7
        have es397_8 : s397 111 0 = s0 111 0 := (Gs397 111 0 rfl).trans es312_8
        have es397_9 : s397 111 1 = s0 111 1 := (Gs397 111 1 rfl).trans es312_9
        have es397_10 : s397 111 2 = s0 111 2 := (Gs397 111 2 rfl).trans es312_10
        have es397_11 : s397 111 3 = s0 111 3 := (Gs397 111 3 rfl).trans es312_11
        have es397_12 : s397 112 0 = s0 112 0 := (Gs397 112 0 rfl).trans es312_12
        have es397_13 : s397 112 1 = s0 112 1 := (Gs397 112 1 rfl).trans es312_13
        have es397_14 : s397 112 2 = s0 112 2 := (Gs397 112 2 rfl).trans es312_14
        have es397_15 : s397 112 3 = s0 112 3 := (Gs397 112 3 rfl).trans es312_15
        rcases pcs397 with pcs397 | pcs397 | pcs397
        · refine h_ceq (tg := 1441) (pc' := 1350) rfl rfl rfl hr311 hr396 (fun c398 => absurd c398 (by omega)) (fun c398 => ?_)
          refine h_iconst (pc' := 1351) (x := (Int32.ofInt 0)) rfl rfl rfl ?_
          exfalso
          unfold h_js at j0 j1 j2 j3
          omega
        · refine h_ceq (tg := 1441) (pc' := 1350) rfl rfl rfl hr311 hr396 (fun c399 => absurd c399 (by omega)) (fun c399 => ?_)
          refine h_iconst (pc' := 1351) (x := (Int32.ofInt 0)) rfl rfl rfl ?_
          exfalso
          unfold h_js at j0 j1 j2 j3
          omega
        · refine h_ceq (tg := 1441) (pc' := 1350) rfl rfl rfl hr311 hr396 (fun c400 => ?_) (fun c400 => absurd c400 (by omega))
          exact kk _ Is397 (by first | exact h_jf j0 (by omega) (by omega) (by omega) | exact Or.inr ⟨by omega, by omega, by omega⟩) (by first | exact h_jf j1 (by omega) (by omega) (by omega) | exact Or.inr ⟨by omega, by omega, by omega⟩) (by first | exact h_jf j2 (by omega) (by omega) (by omega) | exact Or.inr ⟨by omega, by omega, by omega⟩) (by first | exact h_jf j3 (by omega) (by omega) (by omega) | exact Or.inr ⟨by omega, by omega, by omega⟩)
      · have qz380 : z380 = (Int32.ofInt 3) := h_lit (show z380.toInt = 3 by omega) ci_3
        subst qz380
        refine h_call (sp := false) (pc' := 1347) (M := [(0, .ref 98), (1, .int (Int32.ofInt 3)), (2, .int z382), (3, .int z384)]) rfl rfl rfl rfl rfl rfl rfl rfl ?_
        refine u_layM3 _ Is312  z382 _ hz382 z384 _ hz384 (fun r401 br401 hr401 s402 Is402 Gs402 tr401 pcs402 => h_Kv ?_)
        have Zs402 : ∀ i, s402 0 i = s0 0 i := fun i => (Gs402 0 i rfl).trans (Zs312 i)
        have es402_0 : s402 95 0 = s0 95 0 := (Gs402 95 0 rfl).trans es312_0
        have es402_1 : s402 95 1 = s0 95 1 := (Gs402 95 1 rfl).trans es312_1
        have es402_2 : s402 95 2 = s0 95 2 := (Gs402 95 2 rfl).trans es312_2
        have es402_3 : s402 95 3 = s0 95 3 := (Gs402 95 3 rfl).trans es312_3
        have es402_4 : s402 96 0 = s0 96 0 := (Gs402 96 0 rfl).trans es312_4
        have es402_5 : s402 96 1 = s0 96 1 := (Gs402 96 1 rfl).trans es312_5
        have es402_6 : s402 96 2 = s0 96 2 := (Gs402 96 2 rfl).trans es312_6
        have es402_7 : s402 96 3 = s0 96 3 := (Gs402 96 3 rfl).trans es312_7
        have es402_8 : s402 111 0 = s0 111 0 := (Gs402 111 0 rfl).trans es312_8
        have es402_9 : s402 111 1 = s0 111 1 := (Gs402 111 1 rfl).trans es312_9
        have es402_10 : s402 111 2 = s0 111 2 := (Gs402 111 2 rfl).trans es312_10
        have es402_11 : s402 111 3 = s0 111 3 := (Gs402 111 3 rfl).trans es312_11
        have es402_12 : s402 112 0 = s0 112 0 := (Gs402 112 0 rfl).trans es312_12
        have es402_13 : s402 112 1 = s0 112 1 := (Gs402 112 1 rfl).trans es312_13
        have es402_14 : s402 112 2 = s0 112 2 := (Gs402 112 2 rfl).trans es312_14
        have es402_15 : s402 112 3 = s0 112 3 := (Gs402 112 3 rfl).trans es312_15
        rcases pcs402 with pcs402 | pcs402 | pcs402
        · refine h_ceq (tg := 1441) (pc' := 1350) rfl rfl rfl hr311 hr401 (fun c403 => absurd c403 (by omega)) (fun c403 => ?_)
          refine h_iconst (pc' := 1351) (x := (Int32.ofInt 0)) rfl rfl rfl ?_
          exfalso
          unfold h_js at j0 j1 j2 j3
          omega
        · refine h_ceq (tg := 1441) (pc' := 1350) rfl rfl rfl hr311 hr401 (fun c404 => absurd c404 (by omega)) (fun c404 => ?_)
          refine h_iconst (pc' := 1351) (x := (Int32.ofInt 0)) rfl rfl rfl ?_
          exfalso
          unfold h_js at j0 j1 j2 j3
          omega
        · refine h_ceq (tg := 1441) (pc' := 1350) rfl rfl rfl hr311 hr401 (fun c405 => ?_) (fun c405 => absurd c405 (by omega))
          exact kk _ Is402 (by first | exact h_jf j0 (by omega) (by omega) (by omega) | exact Or.inr ⟨by omega, by omega, by omega⟩) (by first | exact h_jf j1 (by omega) (by omega) (by omega) | exact Or.inr ⟨by omega, by omega, by omega⟩) (by first | exact h_jf j2 (by omega) (by omega) (by omega) | exact Or.inr ⟨by omega, by omega, by omega⟩) (by first | exact h_jf j3 (by omega) (by omega) (by omega) | exact Or.inr ⟨by omega, by omega, by omega⟩)
      · refine h_call (sp := false) (pc' := 1347) (M := [(0, .ref 98), (1, .int z380), (2, .int z382), (3, .int z384)]) rfl rfl rfl rfl rfl rfl rfl rfl ?_
        refine u_layMn _ Is312 z380 _ hz380 (by omega) z382 _ hz382 z384 _ hz384 (fun r406 br406 hr406 s407 Is407 Gs407 tr406 pcs407 => h_Kv ?_)
        have Zs407 : ∀ i, s407 0 i = s0 0 i := fun i => (Gs407 0 i rfl).trans (Zs312 i)
        have es407_0 : s407 95 0 = s0 95 0 := (Gs407 95 0 rfl).trans es312_0
        have es407_1 : s407 95 1 = s0 95 1 := (Gs407 95 1 rfl).trans es312_1
        have es407_2 : s407 95 2 = s0 95 2 := (Gs407 95 2 rfl).trans es312_2
        have es407_3 : s407 95 3 = s0 95 3 := (Gs407 95 3 rfl).trans es312_3
        have es407_4 : s407 96 0 = s0 96 0 := (Gs407 96 0 rfl).trans es312_4
        have es407_5 : s407 96 1 = s0 96 1 := (Gs407 96 1 rfl).trans es312_5
        have es407_6 : s407 96 2 = s0 96 2 := (Gs407 96 2 rfl).trans es312_6
        have es407_7 : s407 96 3 = s0 96 3 := (Gs407 96 3 rfl).trans es312_7
        have es407_8 : s407 111 0 = s0 111 0 := (Gs407 111 0 rfl).trans es312_8
        have es407_9 : s407 111 1 = s0 111 1 := (Gs407 111 1 rfl).trans es312_9
        have es407_10 : s407 111 2 = s0 111 2 := (Gs407 111 2 rfl).trans es312_10
        have es407_11 : s407 111 3 = s0 111 3 := (Gs407 111 3 rfl).trans es312_11
        have es407_12 : s407 112 0 = s0 112 0 := (Gs407 112 0 rfl).trans es312_12
        have es407_13 : s407 112 1 = s0 112 1 := (Gs407 112 1 rfl).trans es312_13
        have es407_14 : s407 112 2 = s0 112 2 := (Gs407 112 2 rfl).trans es312_14
        have es407_15 : s407 112 3 = s0 112 3 := (Gs407 112 3 rfl).trans es312_15
        rcases pcs407 with pcs407
        · refine h_ceq (tg := 1441) (pc' := 1350) rfl rfl rfl hr311 hr406 (fun c408 => absurd c408 (by omega)) (fun c408 => ?_)
          refine h_iconst (pc' := 1351) (x := (Int32.ofInt 0)) rfl rfl rfl ?_
          exfalso
          unfold h_js at j0 j1 j2 j3
          omega
      · refine h_call (sp := false) (pc' := 1347) (M := [(0, .ref 98), (1, .int z380), (2, .int z382), (3, .int z384)]) rfl rfl rfl rfl rfl rfl rfl rfl ?_
        refine u_layMp _ Is312 z380 _ hz380 (by omega) z382 _ hz382 z384 _ hz384 (fun r409 br409 hr409 s410 Is410 Gs410 tr409 pcs410 => h_Kv ?_)
        have Zs410 : ∀ i, s410 0 i = s0 0 i := fun i => (Gs410 0 i rfl).trans (Zs312 i)
        have es410_0 : s410 95 0 = s0 95 0 := (Gs410 95 0 rfl).trans es312_0
        have es410_1 : s410 95 1 = s0 95 1 := (Gs410 95 1 rfl).trans es312_1
        have es410_2 : s410 95 2 = s0 95 2 := (Gs410 95 2 rfl).trans es312_2
        have es410_3 : s410 95 3 = s0 95 3 := (Gs410 95 3 rfl).trans es312_3
        have es410_4 : s410 96 0 = s0 96 0 := (Gs410 96 0 rfl).trans es312_4
        have es410_5 : s410 96 1 = s0 96 1 := (Gs410 96 1 rfl).trans es312_5
        have es410_6 : s410 96 2 = s0 96 2 := (Gs410 96 2 rfl).trans es312_6
        have es410_7 : s410 96 3 = s0 96 3 := (Gs410 96 3 rfl).trans es312_7
        have es410_8 : s410 111 0 = s0 111 0 := (Gs410 111 0 rfl).trans es312_8
        have es410_9 : s410 111 1 = s0 111 1 := (Gs410 111 1 rfl).trans es312_9
        have es410_10 : s410 111 2 = s0 111 2 := (Gs410 111 2 rfl).trans es312_10
        have es410_11 : s410 111 3 = s0 111 3 := (Gs410 111 3 rfl).trans es312_11
        have es410_12 : s410 112 0 = s0 112 0 := (Gs410 112 0 rfl).trans es312_12
        have es410_13 : s410 112 1 = s0 112 1 := (Gs410 112 1 rfl).trans es312_13
        have es410_14 : s410 112 2 = s0 112 2 := (Gs410 112 2 rfl).trans es312_14
        have es410_15 : s410 112 3 = s0 112 3 := (Gs410 112 3 rfl).trans es312_15
        rcases pcs410 with pcs410
        · refine h_ceq (tg := 1441) (pc' := 1350) rfl rfl rfl hr311 hr409 (fun c411 => absurd c411 (by omega)) (fun c411 => ?_)
          refine h_iconst (pc' := 1351) (x := (Int32.ofInt 0)) rfl rfl rfl ?_
          exfalso
          unfold h_js at j0 j1 j2 j3
          omega
  · refine h_call (sp := false) (pc' := 1328) (M := [(0, .ref 9), (1, .int z2), (2, .int z4), (3, .int z6)]) rfl rfl rfl rfl rfl rfl rfl rfl ?_
    refine u_layXn _ I0 z2 _ hz2 (by omega) z4 _ hz4 z6 _ hz6 (fun r412 br412 hr412 s413 Is413 Gs413 tr412 pcs413 => h_Kv ?_)
    have Zs413 : ∀ i, s413 0 i = s0 0 i := fun i => (Gs413 0 i rfl).trans rfl
    have es413_0 : s413 95 0 = s0 95 0 := (Gs413 95 0 rfl).trans rfl
    have es413_1 : s413 95 1 = s0 95 1 := (Gs413 95 1 rfl).trans rfl
    have es413_2 : s413 95 2 = s0 95 2 := (Gs413 95 2 rfl).trans rfl
    have es413_3 : s413 95 3 = s0 95 3 := (Gs413 95 3 rfl).trans rfl
    have es413_4 : s413 96 0 = s0 96 0 := (Gs413 96 0 rfl).trans rfl
    have es413_5 : s413 96 1 = s0 96 1 := (Gs413 96 1 rfl).trans rfl
    have es413_6 : s413 96 2 = s0 96 2 := (Gs413 96 2 rfl).trans rfl
    have es413_7 : s413 96 3 = s0 96 3 := (Gs413 96 3 rfl).trans rfl
    have es413_8 : s413 111 0 = s0 111 0 := (Gs413 111 0 rfl).trans rfl
    have es413_9 : s413 111 1 = s0 111 1 := (Gs413 111 1 rfl).trans rfl
    have es413_10 : s413 111 2 = s0 111 2 := (Gs413 111 2 rfl).trans rfl
    have es413_11 : s413 111 3 = s0 111 3 := (Gs413 111 3 rfl).trans rfl
    have es413_12 : s413 112 0 = s0 112 0 := (Gs413 112 0 rfl).trans rfl
    have es413_13 : s413 112 1 = s0 112 1 := (Gs413 112 1 rfl).trans rfl
    have es413_14 : s413 112 2 = s0 112 2 := (Gs413 112 2 rfl).trans rfl
    have es413_15 : s413 112 3 = s0 112 3 := (Gs413 112 3 rfl).trans rfl
    rcases pcs413 with pcs413
    · refine h_aload_n (pc' := 1329) rfl rfl rfl ?_
      refine h_aload_n (pc' := 1330) rfl rfl rfl ?_
      refine h_iload_n (pc' := 1331) rfl rfl rfl ?_
      refine h_iconst (pc' := 1332) (x := (Int32.ofInt 1)) rfl rfl rfl ?_
      refine h_iadd (pc' := 1333) rfl rfl hy3 ci_1 rfl (by omega) (by omega) (fun z414 hz414 => ?_)
      refine h_iald (pc' := 1334) (v := s0 0 (b3 + 1)) rfl rfl rfl hz414 (by omega) (by omega) (Zs413 _) (fun z415 hz415 => ?_)
      have tz415 := h_rgv hz415
      refine h_aload_n (pc' := 1335) rfl rfl rfl ?_
      refine h_iload_n (pc' := 1336) rfl rfl rfl ?_
      refine h_iconst (pc' := 1337) (x := (Int32.ofInt 2)) rfl rfl rfl ?_
      refine h_iadd (pc' := 1338) rfl rfl hy3 ci_2 rfl (by omega) (by omega) (fun z416 hz416 => ?_)
      refine h_iald (pc' := 1339) (v := s0 0 (b3 + 2)) rfl rfl rfl hz416 (by omega) (by omega) (Zs413 _) (fun z417 hz417 => ?_)
      have tz417 := h_rgv hz417
      refine h_aload_n (pc' := 1340) rfl rfl rfl ?_
      refine h_iload_n (pc' := 1341) rfl rfl rfl ?_
      refine h_iconst (pc' := 1342) (x := (Int32.ofInt 3)) rfl rfl rfl ?_
      refine h_iadd (pc' := 1343) rfl rfl hy3 ci_3 rfl (by omega) (by omega) (fun z418 hz418 => ?_)
      refine h_iald (pc' := 1344) (v := s0 0 (b3 + 3)) rfl rfl rfl hz418 (by omega) (by omega) (Zs413 _) (fun z419 hz419 => ?_)
      have tz419 := h_rgv hz419
      rcases (show ((s0 0 (b3 + 1)) = 0) ∨ ((s0 0 (b3 + 1)) = 1) ∨ ((s0 0 (b3 + 1)) = 2) ∨ ((s0 0 (b3 + 1)) = 3) ∨ ((s0 0 (b3 + 1)) ≤ (-1)) ∨ (4 ≤ (s0 0 (b3 + 1))) by omega) with c420 | c420 | c420 | c420 | c420 | c420
      · have qz415 : z415 = (Int32.ofInt 0) := h_lit (show z415.toInt = 0 by omega) ci_0
        subst qz415
        refine h_call (sp := false) (pc' := 1347) (M := [(0, .ref 98), (1, .int (Int32.ofInt 0)), (2, .int z417), (3, .int z419)]) rfl rfl rfl rfl rfl rfl rfl rfl ?_
        refine u_layM0 _ Is413  z417 _ hz417 z419 _ hz419 (fun r421 br421 hr421 s422 Is422 Gs422 tr421 pcs422 => h_Kv ?_)
        have Zs422 : ∀ i, s422 0 i = s0 0 i := fun i => (Gs422 0 i rfl).trans (Zs413 i)
        have es422_0 : s422 95 0 = s0 95 0 := (Gs422 95 0 rfl).trans es413_0
        have es422_1 : s422 95 1 = s0 95 1 := (Gs422 95 1 rfl).trans es413_1
        have es422_2 : s422 95 2 = s0 95 2 := (Gs422 95 2 rfl).trans es413_2
        have es422_3 : s422 95 3 = s0 95 3 := (Gs422 95 3 rfl).trans es413_3
        have es422_4 : s422 96 0 = s0 96 0 := (Gs422 96 0 rfl).trans es413_4
        have es422_5 : s422 96 1 = s0 96 1 := (Gs422 96 1 rfl).trans es413_5
        have es422_6 : s422 96 2 = s0 96 2 := (Gs422 96 2 rfl).trans es413_6
        have es422_7 : s422 96 3 = s0 96 3 := (Gs422 96 3 rfl).trans es413_7
        have es422_8 : s422 111 0 = s0 111 0 := (Gs422 111 0 rfl).trans es413_8
        have es422_9 : s422 111 1 = s0 111 1 := (Gs422 111 1 rfl).trans es413_9
        have es422_10 : s422 111 2 = s0 111 2 := (Gs422 111 2 rfl).trans es413_10
        have es422_11 : s422 111 3 = s0 111 3 := (Gs422 111 3 rfl).trans es413_11
        have es422_12 : s422 112 0 = s0 112 0 := (Gs422 112 0 rfl).trans es413_12
        have es422_13 : s422 112 1 = s0 112 1 := (Gs422 112 1 rfl).trans es413_13
        have es422_14 : s422 112 2 = s0 112 2 := (Gs422 112 2 rfl).trans es413_14
        have es422_15 : s422 112 3 = s0 112 3 := (Gs422 112 3 rfl).trans es413_15
        rcases pcs422 with pcs422 | pcs422 | pcs422
        · refine h_ceq (tg := 1441) (pc' := 1350) rfl rfl rfl hr412 hr421 (fun c423 => absurd c423 (by omega)) (fun c423 => ?_)
          refine h_iconst (pc' := 1351) (x := (Int32.ofInt 0)) rfl rfl rfl ?_
          exfalso
          unfold h_js at j0 j1 j2 j3
          omega
        · refine h_ceq (tg := 1441) (pc' := 1350) rfl rfl rfl hr412 hr421 (fun c424 => absurd c424 (by omega)) (fun c424 => ?_)
          refine h_iconst (pc' := 1351) (x := (Int32.ofInt 0)) rfl rfl rfl ?_
          exfalso
          unfold h_js at j0 j1 j2 j3
          omega
        · refine h_ceq (tg := 1441) (pc' := 1350) rfl rfl rfl hr412 hr421 (fun c425 => absurd c425 (by omega)) (fun c425 => ?_)
          refine h_iconst (pc' := 1351) (x := (Int32.ofInt 0)) rfl rfl rfl ?_
          exfalso
          unfold h_js at j0 j1 j2 j3
          omega
      · have qz415 : z415 = (Int32.ofInt 1) := h_lit (show z415.toInt = 1 by omega) ci_1
        subst qz415
        refine h_call (sp := false) (pc' := 1347) (M := [(0, .ref 98), (1, .int (Int32.ofInt 1)), (2, .int z417), (3, .int z419)]) rfl rfl rfl rfl rfl rfl rfl rfl ?_
        refine u_layM1 _ Is413  z417 _ hz417 z419 _ hz419 (fun r426 br426 hr426 s427 Is427 Gs427 tr426 pcs427 => h_Kv ?_)
        have Zs427 : ∀ i, s427 0 i = s0 0 i := fun i => (Gs427 0 i rfl).trans (Zs413 i)
        have es427_0 : s427 95 0 = s0 95 0 := (Gs427 95 0 rfl).trans es413_0
        have es427_1 : s427 95 1 = s0 95 1 := (Gs427 95 1 rfl).trans es413_1
        have es427_2 : s427 95 2 = s0 95 2 := (Gs427 95 2 rfl).trans es413_2
        have es427_3 : s427 95 3 = s0 95 3 := (Gs427 95 3 rfl).trans es413_3
        have es427_4 : s427 96 0 = s0 96 0 := (Gs427 96 0 rfl).trans es413_4
        have es427_5 : s427 96 1 = s0 96 1 := (Gs427 96 1 rfl).trans es413_5
        have es427_6 : s427 96 2 = s0 96 2 := (Gs427 96 2 rfl).trans es413_6
        have es427_7 : s427 96 3 = s0 96 3 := (Gs427 96 3 rfl).trans es413_7
        have es427_8 : s427 111 0 = s0 111 0 := (Gs427 111 0 rfl).trans es413_8
        have es427_9 : s427 111 1 = s0 111 1 := (Gs427 111 1 rfl).trans es413_9
        have es427_10 : s427 111 2 = s0 111 2 := (Gs427 111 2 rfl).trans es413_10
        have es427_11 : s427 111 3 = s0 111 3 := (Gs427 111 3 rfl).trans es413_11
        have es427_12 : s427 112 0 = s0 112 0 := (Gs427 112 0 rfl).trans es413_12
        have es427_13 : s427 112 1 = s0 112 1 := (Gs427 112 1 rfl).trans es413_13
        have es427_14 : s427 112 2 = s0 112 2 := (Gs427 112 2 rfl).trans es413_14
        have es427_15 : s427 112 3 = s0 112 3 := (Gs427 112 3 rfl).trans es413_15
        rcases pcs427 with pcs427 | pcs427 | pcs427
        · refine h_ceq (tg := 1441) (pc' := 1350) rfl rfl rfl hr412 hr426 (fun c428 => absurd c428 (by omega)) (fun c428 => ?_)
          refine h_iconst (pc' := 1351) (x := (Int32.ofInt 0)) rfl rfl rfl ?_
          exfalso
          unfold h_js at j0 j1 j2 j3
          omega
        · refine h_ceq (tg := 1441) (pc' := 1350) rfl rfl rfl hr412 hr426 (fun c429 => absurd c429 (by omega)) (fun c429 => ?_)
          refine h_iconst (pc' := 1351) (x := (Int32.ofInt 0)) rfl rfl rfl ?_
          exfalso
          unfold h_js at j0 j1 j2 j3
          omega
        · refine h_ceq (tg := 1441) (pc' := 1350) rfl rfl rfl hr412 hr426 (fun c430 => absurd c430 (by omega)) (fun c430 => ?_)
          refine h_iconst (pc' := 1351) (x := (Int32.ofInt 0)) rfl rfl rfl ?_
          exfalso
          unfold h_js at j0 j1 j2 j3
          omega
      · have qz415 : z415 = (Int32.ofInt 2) := h_lit (show z415.toInt = 2 by omega) ci_2
        subst qz415
        refine h_call (sp := false) (pc' := 1347) (M := [(0, .ref 98), (1, .int (Int32.ofInt 2)), (2, .int z417), (3, .int z419)]) rfl rfl rfl rfl rfl rfl rfl rfl ?_
        refine u_layM2 _ Is413  z417 _ hz417 z419 _ hz419 (fun r431 br431 hr431 s432 Is432 Gs432 tr431 pcs432 => h_Kv ?_)
        have Zs432 : ∀ i, s432 0 i = s0 0 i := fun i => (Gs432 0 i rfl).trans (Zs413 i)
        have es432_0 : s432 95 0 = s0 95 0 := (Gs432 95 0 rfl).trans es413_0
        have es432_1 : s432 95 1 = s0 95 1 := (Gs432 95 1 rfl).trans es413_1
        have es432_2 : s432 95 2 = s0 95 2 := (Gs432 95 2 rfl).trans es413_2
        have es432_3 : s432 95 3 = s0 95 3 := (Gs432 95 3 rfl).trans es413_3
        have es432_4 : s432 96 0 = s0 96 0 := (Gs432 96 0 rfl).trans es413_4
        have es432_5 : s432 96 1 = s0 96 1 := (Gs432 96 1 rfl).trans es413_5
        have es432_6 : s432 96 2 = s0 96 2 := (Gs432 96 2 rfl).trans es413_6
        have es432_7 : s432 96 3 = s0 96 3 := (Gs432 96 3 rfl).trans es413_7
        have es432_8 : s432 111 0 = s0 111 0 := (Gs432 111 0 rfl).trans es413_8
        have es432_9 : s432 111 1 = s0 111 1 := (Gs432 111 1 rfl).trans es413_9
        have es432_10 : s432 111 2 = s0 111 2 := (Gs432 111 2 rfl).trans es413_10
        have es432_11 : s432 111 3 = s0 111 3 := (Gs432 111 3 rfl).trans es413_11
        have es432_12 : s432 112 0 = s0 112 0 := (Gs432 112 0 rfl).trans es413_12
        have es432_13 : s432 112 1 = s0 112 1 := (Gs432 112 1 rfl).trans es413_13
        have es432_14 : s432 112 2 = s0 112 2 := (Gs432 112 2 rfl).trans es413_14
        have es432_15 : s432 112 3 = s0 112 3 := (Gs432 112 3 rfl).trans es413_15
        rcases pcs432 with pcs432 | pcs432 | pcs432
        · refine h_ceq (tg := 1441) (pc' := 1350) rfl rfl rfl hr412 hr431 (fun c433 => absurd c433 (by omega)) (fun c433 => ?_)
          refine h_iconst (pc' := 1351) (x := (Int32.ofInt 0)) rfl rfl rfl ?_
          exfalso
          unfold h_js at j0 j1 j2 j3
          omega
        · refine h_ceq (tg := 1441) (pc' := 1350) rfl rfl rfl hr412 hr431 (fun c434 => absurd c434 (by omega)) (fun c434 => ?_)
          refine h_iconst (pc' := 1351) (x := (Int32.ofInt 0)) rfl rfl rfl ?_
          exfalso
          unfold h_js at j0 j1 j2 j3
          omega
        · refine h_ceq (tg := 1441) (pc' := 1350) rfl rfl rfl hr412 hr431 (fun c435 => absurd c435 (by omega)) (fun c435 => ?_)
          refine h_iconst (pc' := 1351) (x := (Int32.ofInt 0)) rfl rfl rfl ?_
          exfalso
          unfold h_js at j0 j1 j2 j3
          omega
      · have qz415 : z415 = (Int32.ofInt 3) := h_lit (show z415.toInt = 3 by omega) ci_3
        subst qz415
        refine h_call (sp := false) (pc' := 1347) (M := [(0, .ref 98), (1, .int (Int32.ofInt 3)), (2, .int z417), (3, .int z419)]) rfl rfl rfl rfl rfl rfl rfl rfl ?_
        refine u_layM3 _ Is413  z417 _ hz417 z419 _ hz419 (fun r436 br436 hr436 s437 Is437 Gs437 tr436 pcs437 => h_Kv ?_)
        have Zs437 : ∀ i, s437 0 i = s0 0 i := fun i => (Gs437 0 i rfl).trans (Zs413 i)
        have es437_0 : s437 95 0 = s0 95 0 := (Gs437 95 0 rfl).trans es413_0
        have es437_1 : s437 95 1 = s0 95 1 := (Gs437 95 1 rfl).trans es413_1
        have es437_2 : s437 95 2 = s0 95 2 := (Gs437 95 2 rfl).trans es413_2
        have es437_3 : s437 95 3 = s0 95 3 := (Gs437 95 3 rfl).trans es413_3
        have es437_4 : s437 96 0 = s0 96 0 := (Gs437 96 0 rfl).trans es413_4
        have es437_5 : s437 96 1 = s0 96 1 := (Gs437 96 1 rfl).trans es413_5
        have es437_6 : s437 96 2 = s0 96 2 := (Gs437 96 2 rfl).trans es413_6
        have es437_7 : s437 96 3 = s0 96 3 := (Gs437 96 3 rfl).trans es413_7
        have es437_8 : s437 111 0 = s0 111 0 := (Gs437 111 0 rfl).trans es413_8
        have es437_9 : s437 111 1 = s0 111 1 := (Gs437 111 1 rfl).trans es413_9
        have es437_10 : s437 111 2 = s0 111 2 := (Gs437 111 2 rfl).trans es413_10
        have es437_11 : s437 111 3 = s0 111 3 := (Gs437 111 3 rfl).trans es413_11
        have es437_12 : s437 112 0 = s0 112 0 := (Gs437 112 0 rfl).trans es413_12
        have es437_13 : s437 112 1 = s0 112 1 := (Gs437 112 1 rfl).trans es413_13
        have es437_14 : s437 112 2 = s0 112 2 := (Gs437 112 2 rfl).trans es413_14
        have es437_15 : s437 112 3 = s0 112 3 := (Gs437 112 3 rfl).trans es413_15
        rcases pcs437 with pcs437 | pcs437 | pcs437
        · refine h_ceq (tg := 1441) (pc' := 1350) rfl rfl rfl hr412 hr436 (fun c438 => absurd c438 (by omega)) (fun c438 => ?_)
          refine h_iconst (pc' := 1351) (x := (Int32.ofInt 0)) rfl rfl rfl ?_
          exfalso
          unfold h_js at j0 j1 j2 j3
          omega
        · refine h_ceq (tg := 1441) (pc' := 1350) rfl rfl rfl hr412 hr436 (fun c439 => absurd c439 (by omega)) (fun c439 => ?_)
          refine h_iconst (pc' := 1351) (x := (Int32.ofInt 0)) rfl rfl rfl ?_
          exfalso
          unfold h_js at j0 j1 j2 j3
          omega
        · refine h_ceq (tg := 1441) (pc' := 1350) rfl rfl rfl hr412 hr436 (fun c440 => absurd c440 (by omega)) (fun c440 => ?_)
          refine h_iconst (pc' := 1351) (x := (Int32.ofInt 0)) rfl rfl rfl ?_
          exfalso
          unfold h_js at j0 j1 j2 j3
          omega
      · refine h_call (sp := false) (pc' := 1347) (M := [(0, .ref 98), (1, .int z415), (2, .int z417), (3, .int z419)]) rfl rfl rfl rfl rfl rfl rfl rfl ?_
        refine u_layMn _ Is413 z415 _ hz415 (by omega) z417 _ hz417 z419 _ hz419 (fun r441 br441 hr441 s442 Is442 Gs442 tr441 pcs442 => h_Kv ?_)
        have Zs442 : ∀ i, s442 0 i = s0 0 i := fun i => (Gs442 0 i rfl).trans (Zs413 i)
        have es442_0 : s442 95 0 = s0 95 0 := (Gs442 95 0 rfl).trans es413_0
        have es442_1 : s442 95 1 = s0 95 1 := (Gs442 95 1 rfl).trans es413_1
        have es442_2 : s442 95 2 = s0 95 2 := (Gs442 95 2 rfl).trans es413_2
        have es442_3 : s442 95 3 = s0 95 3 := (Gs442 95 3 rfl).trans es413_3
        have es442_4 : s442 96 0 = s0 96 0 := (Gs442 96 0 rfl).trans es413_4
        have es442_5 : s442 96 1 = s0 96 1 := (Gs442 96 1 rfl).trans es413_5
        have es442_6 : s442 96 2 = s0 96 2 := (Gs442 96 2 rfl).trans es413_6
        have es442_7 : s442 96 3 = s0 96 3 := (Gs442 96 3 rfl).trans es413_7
        have es442_8 : s442 111 0 = s0 111 0 := (Gs442 111 0 rfl).trans es413_8
        have es442_9 : s442 111 1 = s0 111 1 := (Gs442 111 1 rfl).trans es413_9
        have es442_10 : s442 111 2 = s0 111 2 := (Gs442 111 2 rfl).trans es413_10
        have es442_11 : s442 111 3 = s0 111 3 := (Gs442 111 3 rfl).trans es413_11
        have es442_12 : s442 112 0 = s0 112 0 := (Gs442 112 0 rfl).trans es413_12
        have es442_13 : s442 112 1 = s0 112 1 := (Gs442 112 1 rfl).trans es413_13
        have es442_14 : s442 112 2 = s0 112 2 := (Gs442 112 2 rfl).trans es413_14
        have es442_15 : s442 112 3 = s0 112 3 := (Gs442 112 3 rfl).trans es413_15
        rcases pcs442 with pcs442
        · refine h_ceq (tg := 1441) (pc' := 1350) rfl rfl rfl hr412 hr441 (fun c443 => ?_) (fun c443 => absurd c443 (by omega))
          exact kk _ Is442 (by first | exact h_jf j0 (by omega) (by omega) (by omega) | exact Or.inr ⟨by omega, by omega, by omega⟩) (by first | exact h_jf j1 (by omega) (by omega) (by omega) | exact Or.inr ⟨by omega, by omega, by omega⟩) (by first | exact h_jf j2 (by omega) (by omega) (by omega) | exact Or.inr ⟨by omega, by omega, by omega⟩) (by first | exact h_jf j3 (by omega) (by omega) (by omega) | exact Or.inr ⟨by omega, by omega, by omega⟩)
      · refine h_call (sp := false) (pc' := 1347) (M := [(0, .ref 98), (1, .int z415), (2, .int z417), (3, .int z419)]) rfl rfl rfl rfl rfl rfl rfl rfl ?_
        refine u_layMp _ Is413 z415 _ hz415 (by omega) z417 _ hz417 z419 _ hz419 (fun r444 br444 hr444 s445 Is445 Gs445 tr444 pcs445 => h_Kv ?_)
        have Zs445 : ∀ i, s445 0 i = s0 0 i := fun i => (Gs445 0 i rfl).trans (Zs413 i)
        have es445_0 : s445 95 0 = s0 95 0 := (Gs445 95 0 rfl).trans es413_0
        have es445_1 : s445 95 1 = s0 95 1 := (Gs445 95 1 rfl).trans es413_1
        have es445_2 : s445 95 2 = s0 95 2 := (Gs445 95 2 rfl).trans es413_2
        have es445_3 : s445 95 3 = s0 95 3 := (Gs445 95 3 rfl).trans es413_3
        have es445_4 : s445 96 0 = s0 96 0 := (Gs445 96 0 rfl).trans es413_4
        have es445_5 : s445 96 1 = s0 96 1 := (Gs445 96 1 rfl).trans es413_5
        have es445_6 : s445 96 2 = s0 96 2 := (Gs445 96 2 rfl).trans es413_6
        have es445_7 : s445 96 3 = s0 96 3 := (Gs445 96 3 rfl).trans es413_7
        have es445_8 : s445 111 0 = s0 111 0 := (Gs445 111 0 rfl).trans es413_8
        have es445_9 : s445 111 1 = s0 111 1 := (Gs445 111 1 rfl).trans es413_9
        have es445_10 : s445 111 2 = s0 111 2 := (Gs445 111 2 rfl).trans es413_10
        have es445_11 : s445 111 3 = s0 111 3 := (Gs445 111 3 rfl).trans es413_11
        have es445_12 : s445 112 0 = s0 112 0 := (Gs445 112 0 rfl).trans es413_12
        have es445_13 : s445 112 1 = s0 112 1 := (Gs445 112 1 rfl).trans es413_13
        have es445_14 : s445 112 2 = s0 112 2 := (Gs445 112 2 rfl).trans es413_14
        have es445_15 : s445 112 3 = s0 112 3 := (Gs445 112 3 rfl).trans es413_15
        rcases pcs445 with pcs445
        · refine h_ceq (tg := 1441) (pc' := 1350) rfl rfl rfl hr412 hr444 (fun c446 => ?_) (fun c446 => absurd c446 (by omega))
          exact kk _ Is445 (by first | exact h_jf j0 (by omega) (by omega) (by omega) | exact Or.inr ⟨by omega, by omega, by omega⟩) (by first | exact h_jf j1 (by omega) (by omega) (by omega) | exact Or.inr ⟨by omega, by omega, by omega⟩) (by first | exact h_jf j2 (by omega) (by omega) (by omega) | exact Or.inr ⟨by omega, by omega, by omega⟩) (by first | exact h_jf j3 (by omega) (by omega) (by omega) | exact Or.inr ⟨by omega, by omega, by omega⟩)
  · refine h_call (sp := false) (pc' := 1328) (M := [(0, .ref 9), (1, .int z2), (2, .int z4), (3, .int z6)]) rfl rfl rfl rfl rfl rfl rfl rfl ?_
    refine u_layXp _ I0 z2 _ hz2 (by omega) z4 _ hz4 z6 _ hz6 (fun r447 br447 hr447 s448 Is448 Gs448 tr447 pcs448 => h_Kv ?_)
    have Zs448 : ∀ i, s448 0 i = s0 0 i := fun i => (Gs448 0 i rfl).trans rfl
    have es448_0 : s448 95 0 = s0 95 0 := (Gs448 95 0 rfl).trans rfl
    have es448_1 : s448 95 1 = s0 95 1 := (Gs448 95 1 rfl).trans rfl
    have es448_2 : s448 95 2 = s0 95 2 := (Gs448 95 2 rfl).trans rfl
    have es448_3 : s448 95 3 = s0 95 3 := (Gs448 95 3 rfl).trans rfl
    have es448_4 : s448 96 0 = s0 96 0 := (Gs448 96 0 rfl).trans rfl
    have es448_5 : s448 96 1 = s0 96 1 := (Gs448 96 1 rfl).trans rfl
    have es448_6 : s448 96 2 = s0 96 2 := (Gs448 96 2 rfl).trans rfl
    have es448_7 : s448 96 3 = s0 96 3 := (Gs448 96 3 rfl).trans rfl
    have es448_8 : s448 111 0 = s0 111 0 := (Gs448 111 0 rfl).trans rfl
    have es448_9 : s448 111 1 = s0 111 1 := (Gs448 111 1 rfl).trans rfl
    have es448_10 : s448 111 2 = s0 111 2 := (Gs448 111 2 rfl).trans rfl
    have es448_11 : s448 111 3 = s0 111 3 := (Gs448 111 3 rfl).trans rfl
    have es448_12 : s448 112 0 = s0 112 0 := (Gs448 112 0 rfl).trans rfl
    have es448_13 : s448 112 1 = s0 112 1 := (Gs448 112 1 rfl).trans rfl
    have es448_14 : s448 112 2 = s0 112 2 := (Gs448 112 2 rfl).trans rfl
    have es448_15 : s448 112 3 = s0 112 3 := (Gs448 112 3 rfl).trans rfl
    rcases pcs448 with pcs448
    · refine h_aload_n (pc' := 1329) rfl rfl rfl ?_
      refine h_aload_n (pc' := 1330) rfl rfl rfl ?_
      refine h_iload_n (pc' := 1331) rfl rfl rfl ?_
      refine h_iconst (pc' := 1332) (x := (Int32.ofInt 1)) rfl rfl rfl ?_
      refine h_iadd (pc' := 1333) rfl rfl hy3 ci_1 rfl (by omega) (by omega) (fun z449 hz449 => ?_)
      refine h_iald (pc' := 1334) (v := s0 0 (b3 + 1)) rfl rfl rfl hz449 (by omega) (by omega) (Zs448 _) (fun z450 hz450 => ?_)
      have tz450 := h_rgv hz450
      refine h_aload_n (pc' := 1335) rfl rfl rfl ?_
      refine h_iload_n (pc' := 1336) rfl rfl rfl ?_
      refine h_iconst (pc' := 1337) (x := (Int32.ofInt 2)) rfl rfl rfl ?_
      refine h_iadd (pc' := 1338) rfl rfl hy3 ci_2 rfl (by omega) (by omega) (fun z451 hz451 => ?_)
      refine h_iald (pc' := 1339) (v := s0 0 (b3 + 2)) rfl rfl rfl hz451 (by omega) (by omega) (Zs448 _) (fun z452 hz452 => ?_)
      have tz452 := h_rgv hz452
      refine h_aload_n (pc' := 1340) rfl rfl rfl ?_
      refine h_iload_n (pc' := 1341) rfl rfl rfl ?_
      refine h_iconst (pc' := 1342) (x := (Int32.ofInt 3)) rfl rfl rfl ?_
      refine h_iadd (pc' := 1343) rfl rfl hy3 ci_3 rfl (by omega) (by omega) (fun z453 hz453 => ?_)
      refine h_iald (pc' := 1344) (v := s0 0 (b3 + 3)) rfl rfl rfl hz453 (by omega) (by omega) (Zs448 _) (fun z454 hz454 => ?_)
      have tz454 := h_rgv hz454
      rcases (show ((s0 0 (b3 + 1)) = 0) ∨ ((s0 0 (b3 + 1)) = 1) ∨ ((s0 0 (b3 + 1)) = 2) ∨ ((s0 0 (b3 + 1)) = 3) ∨ ((s0 0 (b3 + 1)) ≤ (-1)) ∨ (4 ≤ (s0 0 (b3 + 1))) by omega) with c455 | c455 | c455 | c455 | c455 | c455
      · have qz450 : z450 = (Int32.ofInt 0) := h_lit (show z450.toInt = 0 by omega) ci_0
        subst qz450
        refine h_call (sp := false) (pc' := 1347) (M := [(0, .ref 98), (1, .int (Int32.ofInt 0)), (2, .int z452), (3, .int z454)]) rfl rfl rfl rfl rfl rfl rfl rfl ?_
        refine u_layM0 _ Is448  z452 _ hz452 z454 _ hz454 (fun r456 br456 hr456 s457 Is457 Gs457 tr456 pcs457 => h_Kv ?_)
        have Zs457 : ∀ i, s457 0 i = s0 0 i := fun i => (Gs457 0 i rfl).trans (Zs448 i)
        have es457_0 : s457 95 0 = s0 95 0 := (Gs457 95 0 rfl).trans es448_0
        have es457_1 : s457 95 1 = s0 95 1 := (Gs457 95 1 rfl).trans es448_1
        have es457_2 : s457 95 2 = s0 95 2 := (Gs457 95 2 rfl).trans es448_2
        have es457_3 : s457 95 3 = s0 95 3 := (Gs457 95 3 rfl).trans es448_3
        have es457_4 : s457 96 0 = s0 96 0 := (Gs457 96 0 rfl).trans es448_4
        have es457_5 : s457 96 1 = s0 96 1 := (Gs457 96 1 rfl).trans es448_5
        have es457_6 : s457 96 2 = s0 96 2 := (Gs457 96 2 rfl).trans es448_6
        have es457_7 : s457 96 3 = s0 96 3 := (Gs457 96 3 rfl).trans es448_7
        have es457_8 : s457 111 0 = s0 111 0 := (Gs457 111 0 rfl).trans es448_8
        have es457_9 : s457 111 1 = s0 111 1 := (Gs457 111 1 rfl).trans es448_9
        have es457_10 : s457 111 2 = s0 111 2 := (Gs457 111 2 rfl).trans es448_10
        have es457_11 : s457 111 3 = s0 111 3 := (Gs457 111 3 rfl).trans es448_11
        have es457_12 : s457 112 0 = s0 112 0 := (Gs457 112 0 rfl).trans es448_12
        have es457_13 : s457 112 1 = s0 112 1 := (Gs457 112 1 rfl).trans es448_13
        have es457_14 : s457 112 2 = s0 112 2 := (Gs457 112 2 rfl).trans es448_14
        have es457_15 : s457 112 3 = s0 112 3 := (Gs457 112 3 rfl).trans es448_15
        rcases pcs457 with pcs457 | pcs457 | pcs457
        · refine h_ceq (tg := 1441) (pc' := 1350) rfl rfl rfl hr447 hr456 (fun c458 => absurd c458 (by omega)) (fun c458 => ?_)
          refine h_iconst (pc' := 1351) (x := (Int32.ofInt 0)) rfl rfl rfl ?_
          exfalso
          unfold h_js at j0 j1 j2 j3
          omega
        · refine h_ceq (tg := 1441) (pc' := 1350) rfl rfl rfl hr447 hr456 (fun c459 => absurd c459 (by omega)) (fun c459 => ?_)
          refine h_iconst (pc' := 1351) (x := (Int32.ofInt 0)) rfl rfl rfl ?_
          exfalso
          unfold h_js at j0 j1 j2 j3
          omega
        · refine h_ceq (tg := 1441) (pc' := 1350) rfl rfl rfl hr447 hr456 (fun c460 => absurd c460 (by omega)) (fun c460 => ?_)
          refine h_iconst (pc' := 1351) (x := (Int32.ofInt 0)) rfl rfl rfl ?_
          exfalso
          unfold h_js at j0 j1 j2 j3
          omega
      · have qz450 : z450 = (Int32.ofInt 1) := h_lit (show z450.toInt = 1 by omega) ci_1
        subst qz450
        refine h_call (sp := false) (pc' := 1347) (M := [(0, .ref 98), (1, .int (Int32.ofInt 1)), (2, .int z452), (3, .int z454)]) rfl rfl rfl rfl rfl rfl rfl rfl ?_
        refine u_layM1 _ Is448  z452 _ hz452 z454 _ hz454 (fun r461 br461 hr461 s462 Is462 Gs462 tr461 pcs462 => h_Kv ?_)
        have Zs462 : ∀ i, s462 0 i = s0 0 i := fun i => (Gs462 0 i rfl).trans (Zs448 i)
        have es462_0 : s462 95 0 = s0 95 0 := (Gs462 95 0 rfl).trans es448_0
        have es462_1 : s462 95 1 = s0 95 1 := (Gs462 95 1 rfl).trans es448_1
        have es462_2 : s462 95 2 = s0 95 2 := (Gs462 95 2 rfl).trans es448_2
        have es462_3 : s462 95 3 = s0 95 3 := (Gs462 95 3 rfl).trans es448_3
        have es462_4 : s462 96 0 = s0 96 0 := (Gs462 96 0 rfl).trans es448_4
        have es462_5 : s462 96 1 = s0 96 1 := (Gs462 96 1 rfl).trans es448_5
        have es462_6 : s462 96 2 = s0 96 2 := (Gs462 96 2 rfl).trans es448_6
        have es462_7 : s462 96 3 = s0 96 3 := (Gs462 96 3 rfl).trans es448_7
        have es462_8 : s462 111 0 = s0 111 0 := (Gs462 111 0 rfl).trans es448_8
        have es462_9 : s462 111 1 = s0 111 1 := (Gs462 111 1 rfl).trans es448_9
        have es462_10 : s462 111 2 = s0 111 2 := (Gs462 111 2 rfl).trans es448_10
        have es462_11 : s462 111 3 = s0 111 3 := (Gs462 111 3 rfl).trans es448_11
        have es462_12 : s462 112 0 = s0 112 0 := (Gs462 112 0 rfl).trans es448_12
        have es462_13 : s462 112 1 = s0 112 1 := (Gs462 112 1 rfl).trans es448_13
        have es462_14 : s462 112 2 = s0 112 2 := (Gs462 112 2 rfl).trans es448_14
        have es462_15 : s462 112 3 = s0 112 3 := (Gs462 112 3 rfl).trans es448_15
        rcases pcs462 with pcs462 | pcs462 | pcs462
        · refine h_ceq (tg := 1441) (pc' := 1350) rfl rfl rfl hr447 hr461 (fun c463 => absurd c463 (by omega)) (fun c463 => ?_)
          refine h_iconst (pc' := 1351) (x := (Int32.ofInt 0)) rfl rfl rfl ?_
          exfalso
          unfold h_js at j0 j1 j2 j3
          omega
        · refine h_ceq (tg := 1441) (pc' := 1350) rfl rfl rfl hr447 hr461 (fun c464 => absurd c464 (by omega)) (fun c464 => ?_)
          refine h_iconst (pc' := 1351) (x := (Int32.ofInt 0)) rfl rfl rfl ?_
          exfalso
          unfold h_js at j0 j1 j2 j3
          omega
        · refine h_ceq (tg := 1441) (pc' := 1350) rfl rfl rfl hr447 hr461 (fun c465 => absurd c465 (by omega)) (fun c465 => ?_)
          refine h_iconst (pc' := 1351) (x := (Int32.ofInt 0)) rfl rfl rfl ?_
          exfalso
          unfold h_js at j0 j1 j2 j3
          omega
      · have qz450 : z450 = (Int32.ofInt 2) := h_lit (show z450.toInt = 2 by omega) ci_2
        subst qz450
        refine h_call (sp := false) (pc' := 1347) (M := [(0, .ref 98), (1, .int (Int32.ofInt 2)), (2, .int z452), (3, .int z454)]) rfl rfl rfl rfl rfl rfl rfl rfl ?_
        refine u_layM2 _ Is448  z452 _ hz452 z454 _ hz454 (fun r466 br466 hr466 s467 Is467 Gs467 tr466 pcs467 => h_Kv ?_)
        have Zs467 : ∀ i, s467 0 i = s0 0 i := fun i => (Gs467 0 i rfl).trans (Zs448 i)
        have es467_0 : s467 95 0 = s0 95 0 := (Gs467 95 0 rfl).trans es448_0
        have es467_1 : s467 95 1 = s0 95 1 := (Gs467 95 1 rfl).trans es448_1
        have es467_2 : s467 95 2 = s0 95 2 := (Gs467 95 2 rfl).trans es448_2
        have es467_3 : s467 95 3 = s0 95 3 := (Gs467 95 3 rfl).trans es448_3
        have es467_4 : s467 96 0 = s0 96 0 := (Gs467 96 0 rfl).trans es448_4
        have es467_5 : s467 96 1 = s0 96 1 := (Gs467 96 1 rfl).trans es448_5
        have es467_6 : s467 96 2 = s0 96 2 := (Gs467 96 2 rfl).trans es448_6
        have es467_7 : s467 96 3 = s0 96 3 := (Gs467 96 3 rfl).trans es448_7
        have es467_8 : s467 111 0 = s0 111 0 := (Gs467 111 0 rfl).trans es448_8
        have es467_9 : s467 111 1 = s0 111 1 := (Gs467 111 1 rfl).trans es448_9
        have es467_10 : s467 111 2 = s0 111 2 := (Gs467 111 2 rfl).trans es448_10
        have es467_11 : s467 111 3 = s0 111 3 := (Gs467 111 3 rfl).trans es448_11
        have es467_12 : s467 112 0 = s0 112 0 := (Gs467 112 0 rfl).trans es448_12
        have es467_13 : s467 112 1 = s0 112 1 := (Gs467 112 1 rfl).trans es448_13
        have es467_14 : s467 112 2 = s0 112 2 := (Gs467 112 2 rfl).trans es448_14
        have es467_15 : s467 112 3 = s0 112 3 := (Gs467 112 3 rfl).trans es448_15
        rcases pcs467 with pcs467 | pcs467 | pcs467
        · refine h_ceq (tg := 1441) (pc' := 1350) rfl rfl rfl hr447 hr466 (fun c468 => absurd c468 (by omega)) (fun c468 => ?_)
          refine h_iconst (pc' := 1351) (x := (Int32.ofInt 0)) rfl rfl rfl ?_
          exfalso
          unfold h_js at j0 j1 j2 j3
          omega
        · refine h_ceq (tg := 1441) (pc' := 1350) rfl rfl rfl hr447 hr466 (fun c469 => absurd c469 (by omega)) (fun c469 => ?_)
          refine h_iconst (pc' := 1351) (x := (Int32.ofInt 0)) rfl rfl rfl ?_
          exfalso
          unfold h_js at j0 j1 j2 j3
          omega
        · refine h_ceq (tg := 1441) (pc' := 1350) rfl rfl rfl hr447 hr466 (fun c470 => absurd c470 (by omega)) (fun c470 => ?_)
          refine h_iconst (pc' := 1351) (x := (Int32.ofInt 0)) rfl rfl rfl ?_
          exfalso
          unfold h_js at j0 j1 j2 j3
          omega
      · have qz450 : z450 = (Int32.ofInt 3) := h_lit (show z450.toInt = 3 by omega) ci_3
        subst qz450
        refine h_call (sp := false) (pc' := 1347) (M := [(0, .ref 98), (1, .int (Int32.ofInt 3)), (2, .int z452), (3, .int z454)]) rfl rfl rfl rfl rfl rfl rfl rfl ?_
        refine u_layM3 _ Is448  z452 _ hz452 z454 _ hz454 (fun r471 br471 hr471 s472 Is472 Gs472 tr471 pcs472 => h_Kv ?_)
        have Zs472 : ∀ i, s472 0 i = s0 0 i := fun i => (Gs472 0 i rfl).trans (Zs448 i)
        have es472_0 : s472 95 0 = s0 95 0 := (Gs472 95 0 rfl).trans es448_0
        have es472_1 : s472 95 1 = s0 95 1 := (Gs472 95 1 rfl).trans es448_1
        have es472_2 : s472 95 2 = s0 95 2 := (Gs472 95 2 rfl).trans es448_2
        have es472_3 : s472 95 3 = s0 95 3 := (Gs472 95 3 rfl).trans es448_3
        have es472_4 : s472 96 0 = s0 96 0 := (Gs472 96 0 rfl).trans es448_4
        have es472_5 : s472 96 1 = s0 96 1 := (Gs472 96 1 rfl).trans es448_5
        have es472_6 : s472 96 2 = s0 96 2 := (Gs472 96 2 rfl).trans es448_6
        have es472_7 : s472 96 3 = s0 96 3 := (Gs472 96 3 rfl).trans es448_7
        have es472_8 : s472 111 0 = s0 111 0 := (Gs472 111 0 rfl).trans es448_8
        have es472_9 : s472 111 1 = s0 111 1 := (Gs472 111 1 rfl).trans es448_9
        have es472_10 : s472 111 2 = s0 111 2 := (Gs472 111 2 rfl).trans es448_10
        have es472_11 : s472 111 3 = s0 111 3 := (Gs472 111 3 rfl).trans es448_11
        have es472_12 : s472 112 0 = s0 112 0 := (Gs472 112 0 rfl).trans es448_12
        have es472_13 : s472 112 1 = s0 112 1 := (Gs472 112 1 rfl).trans es448_13
        have es472_14 : s472 112 2 = s0 112 2 := (Gs472 112 2 rfl).trans es448_14
        have es472_15 : s472 112 3 = s0 112 3 := (Gs472 112 3 rfl).trans es448_15
        rcases pcs472 with pcs472 | pcs472 | pcs472
        · refine h_ceq (tg := 1441) (pc' := 1350) rfl rfl rfl hr447 hr471 (fun c473 => absurd c473 (by omega)) (fun c473 => ?_)
          refine h_iconst (pc' := 1351) (x := (Int32.ofInt 0)) rfl rfl rfl ?_
          exfalso
          unfold h_js at j0 j1 j2 j3
          omega
        · refine h_ceq (tg := 1441) (pc' := 1350) rfl rfl rfl hr447 hr471 (fun c474 => absurd c474 (by omega)) (fun c474 => ?_)
          refine h_iconst (pc' := 1351) (x := (Int32.ofInt 0)) rfl rfl rfl ?_
          exfalso
          unfold h_js at j0 j1 j2 j3
          omega
        · refine h_ceq (tg := 1441) (pc' := 1350) rfl rfl rfl hr447 hr471 (fun c475 => absurd c475 (by omega)) (fun c475 => ?_)
          refine h_iconst (pc' := 1351) (x := (Int32.ofInt 0)) rfl rfl rfl ?_
          exfalso
          unfold h_js at j0 j1 j2 j3
          omega
      · refine h_call (sp := false) (pc' := 1347) (M := [(0, .ref 98), (1, .int z450), (2, .int z452), (3, .int z454)]) rfl rfl rfl rfl rfl rfl rfl rfl ?_
        refine u_layMn _ Is448 z450 _ hz450 (by omega) z452 _ hz452 z454 _ hz454 (fun r476 br476 hr476 s477 Is477 Gs477 tr476 pcs477 => h_Kv ?_)
        have Zs477 : ∀ i, s477 0 i = s0 0 i := fun i => (Gs477 0 i rfl).trans (Zs448 i)
        have es477_0 : s477 95 0 = s0 95 0 := (Gs477 95 0 rfl).trans es448_0
        have es477_1 : s477 95 1 = s0 95 1 := (Gs477 95 1 rfl).trans es448_1
        have es477_2 : s477 95 2 = s0 95 2 := (Gs477 95 2 rfl).trans es448_2
        have es477_3 : s477 95 3 = s0 95 3 := (Gs477 95 3 rfl).trans es448_3
        have es477_4 : s477 96 0 = s0 96 0 := (Gs477 96 0 rfl).trans es448_4
        have es477_5 : s477 96 1 = s0 96 1 := (Gs477 96 1 rfl).trans es448_5
        have es477_6 : s477 96 2 = s0 96 2 := (Gs477 96 2 rfl).trans es448_6
        have es477_7 : s477 96 3 = s0 96 3 := (Gs477 96 3 rfl).trans es448_7
        have es477_8 : s477 111 0 = s0 111 0 := (Gs477 111 0 rfl).trans es448_8
        have es477_9 : s477 111 1 = s0 111 1 := (Gs477 111 1 rfl).trans es448_9
        have es477_10 : s477 111 2 = s0 111 2 := (Gs477 111 2 rfl).trans es448_10
        have es477_11 : s477 111 3 = s0 111 3 := (Gs477 111 3 rfl).trans es448_11
        have es477_12 : s477 112 0 = s0 112 0 := (Gs477 112 0 rfl).trans es448_12
        have es477_13 : s477 112 1 = s0 112 1 := (Gs477 112 1 rfl).trans es448_13
        have es477_14 : s477 112 2 = s0 112 2 := (Gs477 112 2 rfl).trans es448_14
        have es477_15 : s477 112 3 = s0 112 3 := (Gs477 112 3 rfl).trans es448_15
        rcases pcs477 with pcs477
        · refine h_ceq (tg := 1441) (pc' := 1350) rfl rfl rfl hr447 hr476 (fun c478 => ?_) (fun c478 => absurd c478 (by omega))
          exact kk _ Is477 (by first | exact h_jf j0 (by omega) (by omega) (by omega) | exact Or.inr ⟨by omega, by omega, by omega⟩) (by first | exact h_jf j1 (by omega) (by omega) (by omega) | exact Or.inr ⟨by omega, by omega, by omega⟩) (by first | exact h_jf j2 (by omega) (by omega) (by omega) | exact Or.inr ⟨by omega, by omega, by omega⟩) (by first | exact h_jf j3 (by omega) (by omega) (by omega) | exact Or.inr ⟨by omega, by omega, by omega⟩)
      · refine h_call (sp := false) (pc' := 1347) (M := [(0, .ref 98), (1, .int z450), (2, .int z452), (3, .int z454)]) rfl rfl rfl rfl rfl rfl rfl rfl ?_
        refine u_layMp _ Is448 z450 _ hz450 (by omega) z452 _ hz452 z454 _ hz454 (fun r479 br479 hr479 s480 Is480 Gs480 tr479 pcs480 => h_Kv ?_)
        have Zs480 : ∀ i, s480 0 i = s0 0 i := fun i => (Gs480 0 i rfl).trans (Zs448 i)
        have es480_0 : s480 95 0 = s0 95 0 := (Gs480 95 0 rfl).trans es448_0
        have es480_1 : s480 95 1 = s0 95 1 := (Gs480 95 1 rfl).trans es448_1
        have es480_2 : s480 95 2 = s0 95 2 := (Gs480 95 2 rfl).trans es448_2
        have es480_3 : s480 95 3 = s0 95 3 := (Gs480 95 3 rfl).trans es448_3
        have es480_4 : s480 96 0 = s0 96 0 := (Gs480 96 0 rfl).trans es448_4
        have es480_5 : s480 96 1 = s0 96 1 := (Gs480 96 1 rfl).trans es448_5
        have es480_6 : s480 96 2 = s0 96 2 := (Gs480 96 2 rfl).trans es448_6
        have es480_7 : s480 96 3 = s0 96 3 := (Gs480 96 3 rfl).trans es448_7
        have es480_8 : s480 111 0 = s0 111 0 := (Gs480 111 0 rfl).trans es448_8
        have es480_9 : s480 111 1 = s0 111 1 := (Gs480 111 1 rfl).trans es448_9
        have es480_10 : s480 111 2 = s0 111 2 := (Gs480 111 2 rfl).trans es448_10
        have es480_11 : s480 111 3 = s0 111 3 := (Gs480 111 3 rfl).trans es448_11
        have es480_12 : s480 112 0 = s0 112 0 := (Gs480 112 0 rfl).trans es448_12
        have es480_13 : s480 112 1 = s0 112 1 := (Gs480 112 1 rfl).trans es448_13
        have es480_14 : s480 112 2 = s0 112 2 := (Gs480 112 2 rfl).trans es448_14
        have es480_15 : s480 112 3 = s0 112 3 := (Gs480 112 3 rfl).trans es448_15
        rcases pcs480 with pcs480
        · refine h_ceq (tg := 1441) (pc' := 1350) rfl rfl rfl hr447 hr479 (fun c481 => ?_) (fun c481 => absurd c481 (by omega))
          exact kk _ Is480 (by first | exact h_jf j0 (by omega) (by omega) (by omega) | exact Or.inr ⟨by omega, by omega, by omega⟩) (by first | exact h_jf j1 (by omega) (by omega) (by omega) | exact Or.inr ⟨by omega, by omega, by omega⟩) (by first | exact h_jf j2 (by omega) (by omega) (by omega) | exact Or.inr ⟨by omega, by omega, by omega⟩) (by first | exact h_jf j3 (by omega) (by omega) (by omega) | exact Or.inr ⟨by omega, by omega, by omega⟩)
theorem g_case_1352 {ns : Nat} (hns : ns ≤ 320) (s0 : h_S) (I0 : h_I s0) (j0 : h_js (s0 96 0) (s0 111 0) (s0 112 0)) (j1 : h_js (s0 96 1) (s0 111 1) (s0 112 1)) (j2 : h_js (s0 96 2) (s0 111 2) (s0 112 2)) (j3 : h_js (s0 96 3) (s0 111 3) (s0 112 3)) (y3 : Int32) (b3 : Int) (hy3 : y3.toInt = b3) (hr : 0 ≤ b3 ∧ b3 + 5 ≤ ns) {Q : Option Value → h_S → Prop} (kk : ∀ τ, h_I τ → h_js (τ 96 0) (τ 111 0) (τ 112 0) → h_js (τ 96 1) (τ 111 1) (τ 112 1) → h_js (τ 96 2) (τ 111 2) (τ 112 2) → h_js (τ 96 3) (τ 111 3) (τ 112 3) → h_T g_P (g_Y ns) 225 1441 [(0, .ref 0), (1, .ref 9), (2, .ref 98), (3, .int y3)] [] τ Q) : h_T g_P (g_Y ns) 225 1352 [(0, .ref 0), (1, .ref 9), (2, .ref 98), (3, .int y3)] [] s0 Q := by
  refine h_aload_n (pc' := 1353) rfl rfl rfl ?_
  refine h_aload_n (pc' := 1354) rfl rfl rfl ?_
  refine h_iload_n (pc' := 1355) rfl rfl rfl ?_
  refine h_iconst (pc' := 1356) (x := (Int32.ofInt 1)) rfl rfl rfl ?_
  refine h_iadd (pc' := 1357) rfl rfl hy3 ci_1 rfl (by omega) (by omega) (fun z1 hz1 => ?_)
  refine h_iald (pc' := 1358) (v := s0 0 (b3 + 1)) rfl rfl rfl hz1 (by omega) (by omega) rfl (fun z2 hz2 => ?_)
  have tz2 := h_rgv hz2
  refine h_aload_n (pc' := 1359) rfl rfl rfl ?_
  refine h_iload_n (pc' := 1360) rfl rfl rfl ?_
  refine h_iconst (pc' := 1361) (x := (Int32.ofInt 2)) rfl rfl rfl ?_
  refine h_iadd (pc' := 1362) rfl rfl hy3 ci_2 rfl (by omega) (by omega) (fun z3 hz3 => ?_)
  refine h_iald (pc' := 1363) (v := s0 0 (b3 + 2)) rfl rfl rfl hz3 (by omega) (by omega) rfl (fun z4 hz4 => ?_)
  have tz4 := h_rgv hz4
  refine h_aload_n (pc' := 1364) rfl rfl rfl ?_
  refine h_iload_n (pc' := 1365) rfl rfl rfl ?_
  refine h_iconst (pc' := 1366) (x := (Int32.ofInt 3)) rfl rfl rfl ?_
  refine h_iadd (pc' := 1367) rfl rfl hy3 ci_3 rfl (by omega) (by omega) (fun z5 hz5 => ?_)
  refine h_iald (pc' := 1368) (v := s0 0 (b3 + 3)) rfl rfl rfl hz5 (by omega) (by omega) rfl (fun z6 hz6 => ?_)
  have tz6 := h_rgv hz6
  refine h_aload_n (pc' := 1369) rfl rfl rfl ?_
  refine h_iload_n (pc' := 1370) rfl rfl rfl ?_
  refine h_iconst (pc' := 1371) (x := (Int32.ofInt 4)) rfl rfl rfl ?_
  refine h_iadd (pc' := 1372) rfl rfl hy3 ci_4 rfl (by omega) (by omega) (fun z7 hz7 => ?_)
  refine h_iald (pc' := 1373) (v := s0 0 (b3 + 4)) rfl rfl rfl hz7 (by omega) (by omega) rfl (fun z8 hz8 => ?_)
  have tz8 := h_rgv hz8
  refine h_call (sp := false) (pc' := 1376) (M := [(0, .ref 9), (1, .int z2), (2, .int z4), (3, .int z6), (4, .int z8)]) rfl rfl rfl rfl rfl rfl rfl rfl ?_
  refine w_120_9 _ I0 z2 _ hz2 z4 _ hz4 z6 _ hz6 z8 _ hz8 (fun r9 br9 hr9 s10 Is10 Gs10 tr9 => h_Kv ?_)
  have Zs10 : ∀ i, s10 0 i = s0 0 i := fun i => (Gs10 0 i rfl).trans rfl
  have es10_0 : s10 95 0 = s0 95 0 := (Gs10 95 0 rfl).trans rfl
  have es10_1 : s10 95 1 = s0 95 1 := (Gs10 95 1 rfl).trans rfl
  have es10_2 : s10 95 2 = s0 95 2 := (Gs10 95 2 rfl).trans rfl
  have es10_3 : s10 95 3 = s0 95 3 := (Gs10 95 3 rfl).trans rfl
  have es10_4 : s10 96 0 = s0 96 0 := (Gs10 96 0 rfl).trans rfl
  have es10_5 : s10 96 1 = s0 96 1 := (Gs10 96 1 rfl).trans rfl
  have es10_6 : s10 96 2 = s0 96 2 := (Gs10 96 2 rfl).trans rfl
  have es10_7 : s10 96 3 = s0 96 3 := (Gs10 96 3 rfl).trans rfl
  have es10_8 : s10 111 0 = s0 111 0 := (Gs10 111 0 rfl).trans rfl
  have es10_9 : s10 111 1 = s0 111 1 := (Gs10 111 1 rfl).trans rfl
  have es10_10 : s10 111 2 = s0 111 2 := (Gs10 111 2 rfl).trans rfl
  have es10_11 : s10 111 3 = s0 111 3 := (Gs10 111 3 rfl).trans rfl
  have es10_12 : s10 112 0 = s0 112 0 := (Gs10 112 0 rfl).trans rfl
  have es10_13 : s10 112 1 = s0 112 1 := (Gs10 112 1 rfl).trans rfl
  have es10_14 : s10 112 2 = s0 112 2 := (Gs10 112 2 rfl).trans rfl
  have es10_15 : s10 112 3 = s0 112 3 := (Gs10 112 3 rfl).trans rfl
  refine h_pop (pc' := 1377) rfl rfl rfl ?_
  refine h_aload_n (pc' := 1378) rfl rfl rfl ?_
  refine h_aload_n (pc' := 1379) rfl rfl rfl ?_
  refine h_iload_n (pc' := 1380) rfl rfl rfl ?_
  refine h_iconst (pc' := 1381) (x := (Int32.ofInt 1)) rfl rfl rfl ?_
  refine h_iadd (pc' := 1382) rfl rfl hy3 ci_1 rfl (by omega) (by omega) (fun z11 hz11 => ?_)
  refine h_iald (pc' := 1383) (v := s0 0 (b3 + 1)) rfl rfl rfl hz11 (by omega) (by omega) (Zs10 _) (fun z12 hz12 => ?_)
  have tz12 := h_rgv hz12
  refine h_aload_n (pc' := 1384) rfl rfl rfl ?_
  refine h_iload_n (pc' := 1385) rfl rfl rfl ?_
  refine h_iconst (pc' := 1386) (x := (Int32.ofInt 2)) rfl rfl rfl ?_
  refine h_iadd (pc' := 1387) rfl rfl hy3 ci_2 rfl (by omega) (by omega) (fun z13 hz13 => ?_)
  refine h_iald (pc' := 1388) (v := s0 0 (b3 + 2)) rfl rfl rfl hz13 (by omega) (by omega) (Zs10 _) (fun z14 hz14 => ?_)
  have tz14 := h_rgv hz14
  refine h_aload_n (pc' := 1389) rfl rfl rfl ?_
  refine h_iload_n (pc' := 1390) rfl rfl rfl ?_
  refine h_iconst (pc' := 1391) (x := (Int32.ofInt 3)) rfl rfl rfl ?_
  refine h_iadd (pc' := 1392) rfl rfl hy3 ci_3 rfl (by omega) (by omega) (fun z15 hz15 => ?_)
  refine h_iald (pc' := 1393) (v := s0 0 (b3 + 3)) rfl rfl rfl hz15 (by omega) (by omega) (Zs10 _) (fun z16 hz16 => ?_)
  have tz16 := h_rgv hz16
  refine h_aload_n (pc' := 1394) rfl rfl rfl ?_
  refine h_iload_n (pc' := 1395) rfl rfl rfl ?_
  refine h_iconst (pc' := 1396) (x := (Int32.ofInt 4)) rfl rfl rfl ?_
  refine h_iadd (pc' := 1397) rfl rfl hy3 ci_4 rfl (by omega) (by omega) (fun z17 hz17 => ?_)
  refine h_iald (pc' := 1398) (v := s0 0 (b3 + 4)) rfl rfl rfl hz17 (by omega) (by omega) (Zs10 _) (fun z18 hz18 => ?_)
  have tz18 := h_rgv hz18
  refine h_call (sp := false) (pc' := 1401) (M := [(0, .ref 98), (1, .int z12), (2, .int z14), (3, .int z16), (4, .int z18)]) rfl rfl rfl rfl rfl rfl rfl rfl ?_
  refine w_222_98 _ Is10 z12 _ hz12 z14 _ hz14 z16 _ hz16 z18 _ hz18 (fun r19 br19 hr19 s20 Is20 Gs20 tr19 => h_Kv ?_)
  have Zs20 : ∀ i, s20 0 i = s0 0 i := fun i => (Gs20 0 i rfl).trans (Zs10 i)
  have es20_0 : s20 95 0 = s0 95 0 := (Gs20 95 0 rfl).trans es10_0
  have es20_1 : s20 95 1 = s0 95 1 := (Gs20 95 1 rfl).trans es10_1
  have es20_2 : s20 95 2 = s0 95 2 := (Gs20 95 2 rfl).trans es10_2
  have es20_3 : s20 95 3 = s0 95 3 := (Gs20 95 3 rfl).trans es10_3
  have es20_4 : s20 96 0 = s0 96 0 := (Gs20 96 0 rfl).trans es10_4
  have es20_5 : s20 96 1 = s0 96 1 := (Gs20 96 1 rfl).trans es10_5
  have es20_6 : s20 96 2 = s0 96 2 := (Gs20 96 2 rfl).trans es10_6
  have es20_7 : s20 96 3 = s0 96 3 := (Gs20 96 3 rfl).trans es10_7
  have es20_8 : s20 111 0 = s0 111 0 := (Gs20 111 0 rfl).trans es10_8
  have es20_9 : s20 111 1 = s0 111 1 := (Gs20 111 1 rfl).trans es10_9
  have es20_10 : s20 111 2 = s0 111 2 := (Gs20 111 2 rfl).trans es10_10
  have es20_11 : s20 111 3 = s0 111 3 := (Gs20 111 3 rfl).trans es10_11
  have es20_12 : s20 112 0 = s0 112 0 := (Gs20 112 0 rfl).trans es10_12
  have es20_13 : s20 112 1 = s0 112 1 := (Gs20 112 1 rfl).trans es10_13
  have es20_14 : s20 112 2 = s0 112 2 := (Gs20 112 2 rfl).trans es10_14
  have es20_15 : s20 112 3 = s0 112 3 := (Gs20 112 3 rfl).trans es10_15
  clear es10_0 es10_1 es10_10 es10_11 es10_12 es10_13 es10_14 es10_15 es10_2 es10_3 es10_4 es10_5 es10_6 es10_7 es10_8 es10_9
  refine h_pop (pc' := 1402) rfl rfl rfl ?_
  refine h_goto (pc' := 1441) rfl rfl ?_
  exact kk _ Is20 (by first | exact h_jf j0 (by omega) (by omega) (by omega) | exact Or.inr ⟨by omega, by omega, by omega⟩) (by first | exact h_jf j1 (by omega) (by omega) (by omega) | exact Or.inr ⟨by omega, by omega, by omega⟩) (by first | exact h_jf j2 (by omega) (by omega) (by omega) | exact Or.inr ⟨by omega, by omega, by omega⟩) (by first | exact h_jf j3 (by omega) (by omega) (by omega) | exact Or.inr ⟨by omega, by omega, by omega⟩)
theorem g_case_1405 {ns : Nat} (hns : ns ≤ 320) (s0 : h_S) (I0 : h_I s0) (j0 : h_js (s0 96 0) (s0 111 0) (s0 112 0)) (j1 : h_js (s0 96 1) (s0 111 1) (s0 112 1)) (j2 : h_js (s0 96 2) (s0 111 2) (s0 112 2)) (j3 : h_js (s0 96 3) (s0 111 3) (s0 112 3)) (y3 : Int32) (b3 : Int) (hy3 : y3.toInt = b3) (hr : 0 ≤ b3 ∧ b3 + 5 ≤ ns) {Q : Option Value → h_S → Prop} (kk : ∀ τ, h_I τ → h_js (τ 96 0) (τ 111 0) (τ 112 0) → h_js (τ 96 1) (τ 111 1) (τ 112 1) → h_js (τ 96 2) (τ 111 2) (τ 112 2) → h_js (τ 96 3) (τ 111 3) (τ 112 3) → h_T g_P (g_Y ns) 225 1441 [(0, .ref 0), (1, .ref 9), (2, .ref 98), (3, .int y3)] [] τ Q) : h_T g_P (g_Y ns) 225 1405 [(0, .ref 0), (1, .ref 9), (2, .ref 98), (3, .int y3)] [] s0 Q := by
  refine h_aload_n (pc' := 1406) rfl rfl rfl ?_
  refine h_call (sp := false) (pc' := 1409) (M := [(0, .ref 9)]) rfl rfl rfl rfl rfl rfl rfl rfl ?_
  refine w_121_9 _ I0  (fun r1 br1 hr1 s2 Is2 Gs2 => h_Kv ?_)
  have Zs2 : ∀ i, s2 0 i = s0 0 i := fun i => (Gs2 0 i rfl).trans rfl
  have es2_0 : s2 95 0 = s0 95 0 := (Gs2 95 0 rfl).trans rfl
  have es2_1 : s2 95 1 = s0 95 1 := (Gs2 95 1 rfl).trans rfl
  have es2_2 : s2 95 2 = s0 95 2 := (Gs2 95 2 rfl).trans rfl
  have es2_3 : s2 95 3 = s0 95 3 := (Gs2 95 3 rfl).trans rfl
  have es2_4 : s2 96 0 = s0 96 0 := (Gs2 96 0 rfl).trans rfl
  have es2_5 : s2 96 1 = s0 96 1 := (Gs2 96 1 rfl).trans rfl
  have es2_6 : s2 96 2 = s0 96 2 := (Gs2 96 2 rfl).trans rfl
  have es2_7 : s2 96 3 = s0 96 3 := (Gs2 96 3 rfl).trans rfl
  have es2_8 : s2 111 0 = s0 111 0 := (Gs2 111 0 rfl).trans rfl
  have es2_9 : s2 111 1 = s0 111 1 := (Gs2 111 1 rfl).trans rfl
  have es2_10 : s2 111 2 = s0 111 2 := (Gs2 111 2 rfl).trans rfl
  have es2_11 : s2 111 3 = s0 111 3 := (Gs2 111 3 rfl).trans rfl
  have es2_12 : s2 112 0 = s0 112 0 := (Gs2 112 0 rfl).trans rfl
  have es2_13 : s2 112 1 = s0 112 1 := (Gs2 112 1 rfl).trans rfl
  have es2_14 : s2 112 2 = s0 112 2 := (Gs2 112 2 rfl).trans rfl
  have es2_15 : s2 112 3 = s0 112 3 := (Gs2 112 3 rfl).trans rfl
  refine h_pop (pc' := 1410) rfl rfl rfl ?_
  refine h_aload_n (pc' := 1411) rfl rfl rfl ?_
  refine h_call (sp := false) (pc' := 1414) (M := [(0, .ref 98)]) rfl rfl rfl rfl rfl rfl rfl rfl ?_
  refine w_223_98 _ Is2  (fun r3 br3 hr3 s4 Is4 Gs4 => h_Kv ?_)
  have Zs4 : ∀ i, s4 0 i = s0 0 i := fun i => (Gs4 0 i rfl).trans (Zs2 i)
  have es4_0 : s4 95 0 = s0 95 0 := (Gs4 95 0 rfl).trans es2_0
  have es4_1 : s4 95 1 = s0 95 1 := (Gs4 95 1 rfl).trans es2_1
  have es4_2 : s4 95 2 = s0 95 2 := (Gs4 95 2 rfl).trans es2_2
  have es4_3 : s4 95 3 = s0 95 3 := (Gs4 95 3 rfl).trans es2_3
  have es4_4 : s4 96 0 = s0 96 0 := (Gs4 96 0 rfl).trans es2_4
  have es4_5 : s4 96 1 = s0 96 1 := (Gs4 96 1 rfl).trans es2_5
  have es4_6 : s4 96 2 = s0 96 2 := (Gs4 96 2 rfl).trans es2_6
  have es4_7 : s4 96 3 = s0 96 3 := (Gs4 96 3 rfl).trans es2_7
  have es4_8 : s4 111 0 = s0 111 0 := (Gs4 111 0 rfl).trans es2_8
  have es4_9 : s4 111 1 = s0 111 1 := (Gs4 111 1 rfl).trans es2_9
  have es4_10 : s4 111 2 = s0 111 2 := (Gs4 111 2 rfl).trans es2_10
  have es4_11 : s4 111 3 = s0 111 3 := (Gs4 111 3 rfl).trans es2_11
  have es4_12 : s4 112 0 = s0 112 0 := (Gs4 112 0 rfl).trans es2_12
  have es4_13 : s4 112 1 = s0 112 1 := (Gs4 112 1 rfl).trans es2_13
  have es4_14 : s4 112 2 = s0 112 2 := (Gs4 112 2 rfl).trans es2_14
  have es4_15 : s4 112 3 = s0 112 3 := (Gs4 112 3 rfl).trans es2_15
  clear es2_0 es2_1 es2_10 es2_11 es2_12 es2_13 es2_14 es2_15 es2_2 es2_3 es2_4 es2_5 es2_6 es2_7 es2_8 es2_9
  refine h_pop (pc' := 1415) rfl rfl rfl ?_
  refine h_goto (pc' := 1441) rfl rfl ?_
  exact kk _ Is4 (by first | exact h_jf j0 (by omega) (by omega) (by omega) | exact Or.inr ⟨by omega, by omega, by omega⟩) (by first | exact h_jf j1 (by omega) (by omega) (by omega) | exact Or.inr ⟨by omega, by omega, by omega⟩) (by first | exact h_jf j2 (by omega) (by omega) (by omega) | exact Or.inr ⟨by omega, by omega, by omega⟩) (by first | exact h_jf j3 (by omega) (by omega) (by omega) | exact Or.inr ⟨by omega, by omega, by omega⟩)
theorem g_case_1418 {ns : Nat} (hns : ns ≤ 320) (s0 : h_S) (I0 : h_I s0) (j0 : h_js (s0 96 0) (s0 111 0) (s0 112 0)) (j1 : h_js (s0 96 1) (s0 111 1) (s0 112 1)) (j2 : h_js (s0 96 2) (s0 111 2) (s0 112 2)) (j3 : h_js (s0 96 3) (s0 111 3) (s0 112 3)) (y3 : Int32) (b3 : Int) (hy3 : y3.toInt = b3) (hr : 0 ≤ b3 ∧ b3 + 5 ≤ ns) {Q : Option Value → h_S → Prop} (kk : ∀ τ, h_I τ → h_js (τ 96 0) (τ 111 0) (τ 112 0) → h_js (τ 96 1) (τ 111 1) (τ 112 1) → h_js (τ 96 2) (τ 111 2) (τ 112 2) → h_js (τ 96 3) (τ 111 3) (τ 112 3) → h_T g_P (g_Y ns) 225 1441 [(0, .ref 0), (1, .ref 9), (2, .ref 98), (3, .int y3)] [] τ Q) : h_T g_P (g_Y ns) 225 1418 [(0, .ref 0), (1, .ref 9), (2, .ref 98), (3, .int y3)] [] s0 Q := by
  refine h_aload_n (pc' := 1419) rfl rfl rfl ?_
  refine h_aload_n (pc' := 1420) rfl rfl rfl ?_
  refine h_iload_n (pc' := 1421) rfl rfl rfl ?_
  refine h_iconst (pc' := 1422) (x := (Int32.ofInt 1)) rfl rfl rfl ?_
  refine h_iadd (pc' := 1423) rfl rfl hy3 ci_1 rfl (by omega) (by omega) (fun z1 hz1 => ?_)
  refine h_iald (pc' := 1424) (v := s0 0 (b3 + 1)) rfl rfl rfl hz1 (by omega) (by omega) rfl (fun z2 hz2 => ?_)
  have tz2 := h_rgv hz2
  refine h_call (sp := false) (pc' := 1427) (M := [(0, .ref 9), (1, .int z2)]) rfl rfl rfl rfl rfl rfl rfl rfl ?_
  refine w_122_9 _ I0 z2 _ hz2 (fun r3 br3 hr3 s4 Is4 Gs4 => h_Kv ?_)
  have Zs4 : ∀ i, s4 0 i = s0 0 i := fun i => (Gs4 0 i rfl).trans rfl
  have es4_0 : s4 95 0 = s0 95 0 := (Gs4 95 0 rfl).trans rfl
  have es4_1 : s4 95 1 = s0 95 1 := (Gs4 95 1 rfl).trans rfl
  have es4_2 : s4 95 2 = s0 95 2 := (Gs4 95 2 rfl).trans rfl
  have es4_3 : s4 95 3 = s0 95 3 := (Gs4 95 3 rfl).trans rfl
  have es4_4 : s4 96 0 = s0 96 0 := (Gs4 96 0 rfl).trans rfl
  have es4_5 : s4 96 1 = s0 96 1 := (Gs4 96 1 rfl).trans rfl
  have es4_6 : s4 96 2 = s0 96 2 := (Gs4 96 2 rfl).trans rfl
  have es4_7 : s4 96 3 = s0 96 3 := (Gs4 96 3 rfl).trans rfl
  have es4_8 : s4 111 0 = s0 111 0 := (Gs4 111 0 rfl).trans rfl
  have es4_9 : s4 111 1 = s0 111 1 := (Gs4 111 1 rfl).trans rfl
  have es4_10 : s4 111 2 = s0 111 2 := (Gs4 111 2 rfl).trans rfl
  have es4_11 : s4 111 3 = s0 111 3 := (Gs4 111 3 rfl).trans rfl
  have es4_12 : s4 112 0 = s0 112 0 := (Gs4 112 0 rfl).trans rfl
  have es4_13 : s4 112 1 = s0 112 1 := (Gs4 112 1 rfl).trans rfl
  have es4_14 : s4 112 2 = s0 112 2 := (Gs4 112 2 rfl).trans rfl
  have es4_15 : s4 112 3 = s0 112 3 := (Gs4 112 3 rfl).trans rfl
  refine h_pop (pc' := 1428) rfl rfl rfl ?_
  refine h_aload_n (pc' := 1429) rfl rfl rfl ?_
  refine h_aload_n (pc' := 1430) rfl rfl rfl ?_
  refine h_iload_n (pc' := 1431) rfl rfl rfl ?_
  refine h_iconst (pc' := 1432) (x := (Int32.ofInt 1)) rfl rfl rfl ?_
  refine h_iadd (pc' := 1433) rfl rfl hy3 ci_1 rfl (by omega) (by omega) (fun z5 hz5 => ?_)
  refine h_iald (pc' := 1434) (v := s0 0 (b3 + 1)) rfl rfl rfl hz5 (by omega) (by omega) (Zs4 _) (fun z6 hz6 => ?_)
  have tz6 := h_rgv hz6
  refine h_call (sp := false) (pc' := 1437) (M := [(0, .ref 98), (1, .int z6)]) rfl rfl rfl rfl rfl rfl rfl rfl ?_
  refine w_224_98 _ Is4 z6 _ hz6 (fun r7 br7 hr7 s8 Is8 Gs8 => h_Kv ?_)
  have Zs8 : ∀ i, s8 0 i = s0 0 i := fun i => (Gs8 0 i rfl).trans (Zs4 i)
  have es8_0 : s8 95 0 = s0 95 0 := (Gs8 95 0 rfl).trans es4_0
  have es8_1 : s8 95 1 = s0 95 1 := (Gs8 95 1 rfl).trans es4_1
  have es8_2 : s8 95 2 = s0 95 2 := (Gs8 95 2 rfl).trans es4_2
  have es8_3 : s8 95 3 = s0 95 3 := (Gs8 95 3 rfl).trans es4_3
  have es8_4 : s8 96 0 = s0 96 0 := (Gs8 96 0 rfl).trans es4_4
  have es8_5 : s8 96 1 = s0 96 1 := (Gs8 96 1 rfl).trans es4_5
  have es8_6 : s8 96 2 = s0 96 2 := (Gs8 96 2 rfl).trans es4_6
  have es8_7 : s8 96 3 = s0 96 3 := (Gs8 96 3 rfl).trans es4_7
  have es8_8 : s8 111 0 = s0 111 0 := (Gs8 111 0 rfl).trans es4_8
  have es8_9 : s8 111 1 = s0 111 1 := (Gs8 111 1 rfl).trans es4_9
  have es8_10 : s8 111 2 = s0 111 2 := (Gs8 111 2 rfl).trans es4_10
  have es8_11 : s8 111 3 = s0 111 3 := (Gs8 111 3 rfl).trans es4_11
  have es8_12 : s8 112 0 = s0 112 0 := (Gs8 112 0 rfl).trans es4_12
  have es8_13 : s8 112 1 = s0 112 1 := (Gs8 112 1 rfl).trans es4_13
  have es8_14 : s8 112 2 = s0 112 2 := (Gs8 112 2 rfl).trans es4_14
  have es8_15 : s8 112 3 = s0 112 3 := (Gs8 112 3 rfl).trans es4_15
  clear es4_0 es4_1 es4_10 es4_11 es4_12 es4_13 es4_14 es4_15 es4_2 es4_3 es4_4 es4_5 es4_6 es4_7 es4_8 es4_9
  refine h_pop (pc' := 1438) rfl rfl rfl ?_
  refine h_goto (pc' := 1441) rfl rfl ?_
  exact kk _ Is8 (by first | exact h_jf j0 (by omega) (by omega) (by omega) | exact Or.inr ⟨by omega, by omega, by omega⟩) (by first | exact h_jf j1 (by omega) (by omega) (by omega) | exact Or.inr ⟨by omega, by omega, by omega⟩) (by first | exact h_jf j2 (by omega) (by omega) (by omega) | exact Or.inr ⟨by omega, by omega, by omega⟩) (by first | exact h_jf j3 (by omega) (by omega) (by omega) | exact Or.inr ⟨by omega, by omega, by omega⟩)
theorem g_loop {ns : Nat} (hns : ns ≤ 320) : ∀ (n : Nat) (s0 : h_S), h_I s0 → h_js (s0 96 0) (s0 111 0) (s0 112 0) → h_js (s0 96 1) (s0 111 1) (s0 112 1) → h_js (s0 96 2) (s0 111 2) (s0 112 2) → h_js (s0 96 3) (s0 111 3) (s0 112 3) → ∀ (y3 : Int32) (b3 : Int), y3.toInt = b3 → (0 ≤ b3 ∧ b3 ≤ 320) → 321 - b3 ≤ (n : Int) → h_T g_P (g_Y ns) 225 18 [(0, .ref 0), (1, .ref 9), (2, .ref 98), (3, .int y3)] [] s0 (fun r _ => r = some (.int 1)) := by
  have hnn : (Int32.ofNat ns).toInt = (ns : Int) := nI_toInt (by omega)
  intro n
  induction n with
  | zero => intro s0 I0 j0 j1 j2 j3 y3 b3 hy3 hr hm; exfalso; omega
  | succ n ih =>
    intro s0 I0 j0 j1 j2 j3 y3 b3 hy3 hr hm
    have nx : ∀ τ, h_I τ → h_js (τ 96 0) (τ 111 0) (τ 112 0) → h_js (τ 96 1) (τ 111 1) (τ 112 1) → h_js (τ 96 2) (τ 111 2) (τ 112 2) → h_js (τ 96 3) (τ 111 3) (τ 112 3) → b3 + 5 ≤ 320 → h_T g_P (g_Y ns) 225 1441 [(0, .ref 0), (1, .ref 9), (2, .ref 98), (3, .int y3)] [] τ (fun r _ => r = some (.int 1)) := by
      intro τ I1 k0 k1 k2 k3 h5
      refine h_iinc (pc' := 1444) (M := fun z => [(3, .int z), (0, .ref 0), (1, .ref 9), (2, .ref 98)]) rfl rfl rfl rfl hy3 ci_5 rfl (by omega) (by omega) (fun _ => rfl) (fun z hz => ?_)
      refine h_goto (pc' := 18) rfl rfl ?_
      exact h_wk [(0, .ref 0), (1, .ref 9), (2, .ref 98), (3, .int z)] ⟨rfl, rfl, rfl, rfl, trivial⟩ (ih _ I1 k0 k1 k2 k3 z _ hz (by omega) (by omega))
    refine h_iload_n (pc' := 19) rfl rfl rfl ?_
    refine h_aload_n (pc' := 20) rfl rfl rfl ?_
    refine h_alen (pc' := 21) (n := (ns : Int)) rfl rfl rfl hnn (fun z1 hz1 => ?_)
    refine h_iconst (pc' := 22) (x := (Int32.ofInt 5)) rfl rfl rfl ?_
    refine h_isub (pc' := 23) rfl rfl hz1 ci_5 rfl (by omega) (by omega) (fun z2 hz2 => ?_)
    refine h_cgt (tg := 1447) (pc' := 26) rfl rfl rfl hy3 hz2 (fun c3 => ?_) (fun c3 => ?_)
    · refine h_iconst (pc' := 1448) (x := (Int32.ofInt 1)) rfl rfl rfl ?_
      exact h_zret rfl rfl ci_1 (by omega) rfl
    · refine h_aload_n (pc' := 27) rfl rfl rfl ?_
      refine h_iload_n (pc' := 28) rfl rfl rfl ?_
      refine h_iald (pc' := 29) (v := s0 0 b3) rfl rfl rfl hy3 (by omega) (by omega) rfl (fun z4 hz4 => ?_)
      have tz4 := h_rgv hz4
      refine h_bipush (pc' := 31) (x := (Int32.ofInt 63)) rfl rfl cb_63 ?_
      refine h_iand (pc' := 32) rfl rfl (fun z5 hz5 uz5 vz5 => ?_)
      clear uz5
      rw [ci_63] at vz5
      have yz5 := vz5 (by omega)
      refine h_tsw (dt := 1441) (ts := [212, 235, 258, 271, 284, 307, 340, 373, 406, 429, 462, 495, 538, 571, 604, 637, 680, 703, 726, 759, 782, 805, 838, 881, 914, 927, 950, 983, 1026, 1075, 1098, 1121, 1144, 1177, 1220, 1243, 1266, 1309, 1352, 1405, 1418]) rfl rfl rfl rfl rfl (fun c6 => ?_) ⟨fun c6 => ?_, fun c6 => ?_, fun c6 => ?_, fun c6 => ?_, fun c6 => ?_, fun c6 => ?_, fun c6 => ?_, fun c6 => ?_, fun c6 => ?_, fun c6 => ?_, fun c6 => ?_, fun c6 => ?_, fun c6 => ?_, fun c6 => ?_, fun c6 => ?_, fun c6 => ?_, fun c6 => ?_, fun c6 => ?_, fun c6 => ?_, fun c6 => ?_, fun c6 => ?_, fun c6 => ?_, fun c6 => ?_, fun c6 => ?_, fun c6 => ?_, fun c6 => ?_, fun c6 => ?_, fun c6 => ?_, fun c6 => ?_, fun c6 => ?_, fun c6 => ?_, fun c6 => ?_, fun c6 => ?_, fun c6 => ?_, fun c6 => ?_, fun c6 => ?_, fun c6 => ?_, fun c6 => ?_, fun c6 => ?_, fun c6 => ?_, fun c6 => ?_, trivial⟩
      · exact nx _ I0 j0 j1 j2 j3 (by omega)
      · exact g_case_212 hns _ I0 j0 j1 j2 j3 y3 b3 hy3 (by omega) (fun τ I1 k0 k1 k2 k3 => nx τ I1 k0 k1 k2 k3 (by omega))
      · exact g_case_235 hns _ I0 j0 j1 j2 j3 y3 b3 hy3 (by omega) (fun τ I1 k0 k1 k2 k3 => nx τ I1 k0 k1 k2 k3 (by omega))
      · exact g_case_258 hns _ I0 j0 j1 j2 j3 y3 b3 hy3 (by omega) (fun τ I1 k0 k1 k2 k3 => nx τ I1 k0 k1 k2 k3 (by omega))
      · exact g_case_271 hns _ I0 j0 j1 j2 j3 y3 b3 hy3 (by omega) (fun τ I1 k0 k1 k2 k3 => nx τ I1 k0 k1 k2 k3 (by omega))
      · exact g_case_284 hns _ I0 j0 j1 j2 j3 y3 b3 hy3 (by omega) (fun τ I1 k0 k1 k2 k3 => nx τ I1 k0 k1 k2 k3 (by omega))
      · exact g_case_307 hns _ I0 j0 j1 j2 j3 y3 b3 hy3 (by omega) (fun τ I1 k0 k1 k2 k3 => nx τ I1 k0 k1 k2 k3 (by omega))
      · exact g_case_340 hns _ I0 j0 j1 j2 j3 y3 b3 hy3 (by omega) (fun τ I1 k0 k1 k2 k3 => nx τ I1 k0 k1 k2 k3 (by omega))
      · exact g_case_373 hns _ I0 j0 j1 j2 j3 y3 b3 hy3 (by omega) (fun τ I1 k0 k1 k2 k3 => nx τ I1 k0 k1 k2 k3 (by omega))
      · exact g_case_406 hns _ I0 j0 j1 j2 j3 y3 b3 hy3 (by omega) (fun τ I1 k0 k1 k2 k3 => nx τ I1 k0 k1 k2 k3 (by omega))
      · exact g_case_429 hns _ I0 j0 j1 j2 j3 y3 b3 hy3 (by omega) (fun τ I1 k0 k1 k2 k3 => nx τ I1 k0 k1 k2 k3 (by omega))
      · exact g_case_462 hns _ I0 j0 j1 j2 j3 y3 b3 hy3 (by omega) (fun τ I1 k0 k1 k2 k3 => nx τ I1 k0 k1 k2 k3 (by omega))
      · exact g_case_495 hns _ I0 j0 j1 j2 j3 y3 b3 hy3 (by omega) (fun τ I1 k0 k1 k2 k3 => nx τ I1 k0 k1 k2 k3 (by omega))
      · exact g_case_538 hns _ I0 j0 j1 j2 j3 y3 b3 hy3 (by omega) (fun τ I1 k0 k1 k2 k3 => nx τ I1 k0 k1 k2 k3 (by omega))
      · exact g_case_571 hns _ I0 j0 j1 j2 j3 y3 b3 hy3 (by omega) (fun τ I1 k0 k1 k2 k3 => nx τ I1 k0 k1 k2 k3 (by omega))
      · exact g_case_604 hns _ I0 j0 j1 j2 j3 y3 b3 hy3 (by omega) (fun τ I1 k0 k1 k2 k3 => nx τ I1 k0 k1 k2 k3 (by omega))
      · exact g_case_637 hns _ I0 j0 j1 j2 j3 y3 b3 hy3 (by omega) (fun τ I1 k0 k1 k2 k3 => nx τ I1 k0 k1 k2 k3 (by omega))
      · exact g_case_680 hns _ I0 j0 j1 j2 j3 y3 b3 hy3 (by omega) (fun τ I1 k0 k1 k2 k3 => nx τ I1 k0 k1 k2 k3 (by omega))
      · exact g_case_703 hns _ I0 j0 j1 j2 j3 y3 b3 hy3 (by omega) (fun τ I1 k0 k1 k2 k3 => nx τ I1 k0 k1 k2 k3 (by omega))
      · exact g_case_726 hns _ I0 j0 j1 j2 j3 y3 b3 hy3 (by omega) (fun τ I1 k0 k1 k2 k3 => nx τ I1 k0 k1 k2 k3 (by omega))
      · exact g_case_759 hns _ I0 j0 j1 j2 j3 y3 b3 hy3 (by omega) (fun τ I1 k0 k1 k2 k3 => nx τ I1 k0 k1 k2 k3 (by omega))
      · exact g_case_782 hns _ I0 j0 j1 j2 j3 y3 b3 hy3 (by omega) (fun τ I1 k0 k1 k2 k3 => nx τ I1 k0 k1 k2 k3 (by omega))
      · exact g_case_805 hns _ I0 j0 j1 j2 j3 y3 b3 hy3 (by omega) (fun τ I1 k0 k1 k2 k3 => nx τ I1 k0 k1 k2 k3 (by omega))
      · exact g_case_838 hns _ I0 j0 j1 j2 j3 y3 b3 hy3 (by omega) (fun τ I1 k0 k1 k2 k3 => nx τ I1 k0 k1 k2 k3 (by omega))
      · exact g_case_881 hns _ I0 j0 j1 j2 j3 y3 b3 hy3 (by omega) (fun τ I1 k0 k1 k2 k3 => nx τ I1 k0 k1 k2 k3 (by omega))
      · exact g_case_914 hns _ I0 j0 j1 j2 j3 y3 b3 hy3 (by omega) (fun τ I1 k0 k1 k2 k3 => nx τ I1 k0 k1 k2 k3 (by omega))
      · exact g_case_927 hns _ I0 j0 j1 j2 j3 y3 b3 hy3 (by omega) (fun τ I1 k0 k1 k2 k3 => nx τ I1 k0 k1 k2 k3 (by omega))
      · exact g_case_950 hns _ I0 j0 j1 j2 j3 y3 b3 hy3 (by omega) (fun τ I1 k0 k1 k2 k3 => nx τ I1 k0 k1 k2 k3 (by omega))
      · exact g_case_983 hns _ I0 j0 j1 j2 j3 y3 b3 hy3 (by omega) (fun τ I1 k0 k1 k2 k3 => nx τ I1 k0 k1 k2 k3 (by omega))
      · exact g_case_1026 hns _ I0 j0 j1 j2 j3 y3 b3 hy3 (by omega) (fun τ I1 k0 k1 k2 k3 => nx τ I1 k0 k1 k2 k3 (by omega))
      · exact g_case_1075 hns _ I0 j0 j1 j2 j3 y3 b3 hy3 (by omega) (fun τ I1 k0 k1 k2 k3 => nx τ I1 k0 k1 k2 k3 (by omega))
      · exact g_case_1098 hns _ I0 j0 j1 j2 j3 y3 b3 hy3 (by omega) (fun τ I1 k0 k1 k2 k3 => nx τ I1 k0 k1 k2 k3 (by omega))
      · exact g_case_1121 hns _ I0 j0 j1 j2 j3 y3 b3 hy3 (by omega) (fun τ I1 k0 k1 k2 k3 => nx τ I1 k0 k1 k2 k3 (by omega))
      · exact g_case_1144 hns _ I0 j0 j1 j2 j3 y3 b3 hy3 (by omega) (fun τ I1 k0 k1 k2 k3 => nx τ I1 k0 k1 k2 k3 (by omega))
      · exact g_case_1177 hns _ I0 j0 j1 j2 j3 y3 b3 hy3 (by omega) (fun τ I1 k0 k1 k2 k3 => nx τ I1 k0 k1 k2 k3 (by omega))
      · exact g_case_1220 hns _ I0 j0 j1 j2 j3 y3 b3 hy3 (by omega) (fun τ I1 k0 k1 k2 k3 => nx τ I1 k0 k1 k2 k3 (by omega))
      · exact g_case_1243 hns _ I0 j0 j1 j2 j3 y3 b3 hy3 (by omega) (fun τ I1 k0 k1 k2 k3 => nx τ I1 k0 k1 k2 k3 (by omega))
      · exact g_case_1266 hns _ I0 j0 j1 j2 j3 y3 b3 hy3 (by omega) (fun τ I1 k0 k1 k2 k3 => nx τ I1 k0 k1 k2 k3 (by omega))
      · exact g_case_1309 hns _ I0 j0 j1 j2 j3 y3 b3 hy3 (by omega) (fun τ I1 k0 k1 k2 k3 => nx τ I1 k0 k1 k2 k3 (by omega))
      · exact g_case_1352 hns _ I0 j0 j1 j2 j3 y3 b3 hy3 (by omega) (fun τ I1 k0 k1 k2 k3 => nx τ I1 k0 k1 k2 k3 (by omega))
      · exact g_case_1405 hns _ I0 j0 j1 j2 j3 y3 b3 hy3 (by omega) (fun τ I1 k0 k1 k2 k3 => nx τ I1 k0 k1 k2 k3 (by omega))
      · exact g_case_1418 hns _ I0 j0 j1 j2 j3 y3 b3 hy3 (by omega) (fun τ I1 k0 k1 k2 k3 => nx τ I1 k0 k1 k2 k3 (by omega))
theorem x_lv_ok : h_loc [(0, .ref 0), (1, .ref 9), (2, .ref 98), (3, .int 0)] x_lv := by
  intro p hp
  simp only [List.mem_cons, List.not_mem_nil, or_false] at hp
  rcases hp with rfl | rfl | rfl | rfl <;> rfl
theorem f_at {l : List Int32} {q : Nat} {j : Int} (h : (q == 0) = false) : f_σ l q j = (f_v q).getD j.toNat 0 := by
  unfold f_σ
  rw [h]
  rfl
theorem x_j0 (l : List Int32) : h_js (f_σ l 96 0) (f_σ l 111 0) (f_σ l 112 0) := by
  unfold h_js
  rw [f_at (q := 111) (j := 0) rfl, f_at (q := 112) (j := 0) rfl, f_at (q := 96) (j := 0) rfl]
  decide
theorem x_j1 (l : List Int32) : h_js (f_σ l 96 1) (f_σ l 111 1) (f_σ l 112 1) := by
  unfold h_js
  rw [f_at (q := 111) (j := 1) rfl, f_at (q := 112) (j := 1) rfl, f_at (q := 96) (j := 1) rfl]
  decide
theorem x_j2 (l : List Int32) : h_js (f_σ l 96 2) (f_σ l 111 2) (f_σ l 112 2) := by
  unfold h_js
  rw [f_at (q := 111) (j := 2) rfl, f_at (q := 112) (j := 2) rfl, f_at (q := 96) (j := 2) rfl]
  decide
theorem x_j3 (l : List Int32) : h_js (f_σ l 96 3) (f_σ l 111 3) (f_σ l 112 3) := by
  unfold h_js
  rw [f_at (q := 111) (j := 3) rfl, f_at (q := 112) (j := 3) rfl, f_at (q := 96) (j := 3) rfl]
  decide
set_option maxRecDepth 1000000 in
theorem g_law_run (l : List Int32) (hl : l.length ≤ 320) : ∃ (n : Nat) (mem' : List e_C), e_run g_P n g_law 0 [(0, .ref 0)] [] (.inl (false, l) :: x_t8) = some (some (.int 1), mem') ∧ mem'.length = 114 ∧ e_sl mem' = 2414 + l.length := by
  obtain ⟨y, τ, h1, h2, h3⟩ := g_loop hl 400 (f_σ l) (f_I0 l) (x_j0 l) (x_j1 l) (x_j2 l) (x_j3 l) 0 0 rfl (by omega) (by omega) x_lv (.inl (false, l) :: x_full) x_lv_ok (f_R0 l)
  obtain ⟨n, hn⟩ := f_law _ h1
  obtain ⟨r, mem'⟩ := y
  have h3 : r = some (.int 1) := h3
  subst h3
  exact ⟨n, mem', hn, h2.1, h2.2.1⟩
