/-! NAMES -/
def g_nm0 (f : Int → Int) (p l : Int) : Prop := l = 5 ∧ f (p + 0) = 112 ∧ f (p + 1) = 108 ∧ f (p + 2) = 97 ∧ f (p + 3) = 105 ∧ f (p + 4) = 110
def g_nm1 (f : Int → Int) (p l : Int) : Prop := l = 7 ∧ f (p + 0) = 97 ∧ f (p + 1) = 100 ∧ f (p + 2) = 111 ∧ f (p + 3) = 112 ∧ f (p + 4) = 116 ∧ f (p + 5) = 101 ∧ f (p + 6) = 100
def g_nm2 (f : Int → Int) (p l : Int) : Prop := l = 7 ∧ f (p + 0) = 98 ∧ f (p + 1) = 97 ∧ f (p + 2) = 115 ∧ f (p + 3) = 116 ∧ f (p + 4) = 97 ∧ f (p + 5) = 114 ∧ f (p + 6) = 100
def g_nm3 (f : Int → Int) (p l : Int) : Prop := l = 8 ∧ f (p + 0) = 101 ∧ f (p + 1) = 115 ∧ f (p + 2) = 116 ∧ f (p + 3) = 114 ∧ f (p + 4) = 97 ∧ f (p + 5) = 110 ∧ f (p + 6) = 103 ∧ f (p + 7) = 101
def g_nm4 (f : Int → Int) (p l : Int) : Prop := l = 5 ∧ f (p + 0) = 109 ∧ f (p + 1) = 97 ∧ f (p + 2) = 114 ∧ f (p + 3) = 114 ∧ f (p + 4) = 121
def g_nm5 (f : Int → Int) (p l : Int) : Prop := l = 4 ∧ f (p + 0) = 102 ∧ f (p + 1) = 101 ∧ f (p + 2) = 117 ∧ f (p + 3) = 100
def g_nm6 (f : Int → Int) (p l : Int) : Prop := l = 4 ∧ f (p + 0) = 103 ∧ f (p + 1) = 97 ∧ f (p + 2) = 116 ∧ f (p + 3) = 101
def g_nm7 (f : Int → Int) (p l : Int) : Prop := l = 4 ∧ f (p + 0) = 112 ∧ f (p + 1) = 108 ∧ f (p + 2) = 97 ∧ f (p + 3) = 110
def g_fst (f : Int → Int) (p l r : Int) : Prop := (r = -4 ∧ ¬ g_nm0 f p l ∧ ¬ g_nm1 f p l ∧ ¬ g_nm2 f p l ∧ ¬ g_nm3 f p l ∧ ¬ g_nm4 f p l ∧ ¬ g_nm5 f p l ∧ ¬ g_nm6 f p l ∧ ¬ g_nm7 f p l) ∨ (r = 0 ∧ g_nm0 f p l) ∨ (r = 1 ∧ ¬ g_nm0 f p l ∧ g_nm1 f p l) ∨ (r = 2 ∧ ¬ g_nm0 f p l ∧ ¬ g_nm1 f p l ∧ g_nm2 f p l) ∨ (r = 3 ∧ ¬ g_nm0 f p l ∧ ¬ g_nm1 f p l ∧ ¬ g_nm2 f p l ∧ g_nm3 f p l) ∨ (r = 4 ∧ ¬ g_nm0 f p l ∧ ¬ g_nm1 f p l ∧ ¬ g_nm2 f p l ∧ ¬ g_nm3 f p l ∧ g_nm4 f p l) ∨ (r = 5 ∧ ¬ g_nm0 f p l ∧ ¬ g_nm1 f p l ∧ ¬ g_nm2 f p l ∧ ¬ g_nm3 f p l ∧ ¬ g_nm4 f p l ∧ g_nm5 f p l) ∨ (r = 6 ∧ ¬ g_nm0 f p l ∧ ¬ g_nm1 f p l ∧ ¬ g_nm2 f p l ∧ ¬ g_nm3 f p l ∧ ¬ g_nm4 f p l ∧ ¬ g_nm5 f p l ∧ g_nm6 f p l) ∨ (r = 7 ∧ ¬ g_nm0 f p l ∧ ¬ g_nm1 f p l ∧ ¬ g_nm2 f p l ∧ ¬ g_nm3 f p l ∧ ¬ g_nm4 f p l ∧ ¬ g_nm5 f p l ∧ ¬ g_nm6 f p l ∧ g_nm7 f p l)
theorem g_n1 {b : Int} {N : Prop} (h : (b = 1 ∧ N) ∨ (b = 0 ∧ ¬ N)) (hb : ¬ b = 0) : N := h.elim (fun x => x.2) (fun x => absurd x.1 hb)
theorem g_n0 {b : Int} {N : Prop} (h : (b = 1 ∧ N) ∨ (b = 0 ∧ ¬ N)) (hb : b = 0) : ¬ N := h.elim (fun x => by omega) (fun x => x.2)
theorem g_nmc0 {f g : Int → Int} {p l : Int} (h : ∀ i, p ≤ i → i < p + l → f i = g i) (hn : g_nm0 f p l) : g_nm0 g p l := ⟨hn.1, (h (p + 0) (by omega) (by have := hn.1; omega)).symm.trans hn.2.1, (h (p + 1) (by omega) (by have := hn.1; omega)).symm.trans hn.2.2.1, (h (p + 2) (by omega) (by have := hn.1; omega)).symm.trans hn.2.2.2.1, (h (p + 3) (by omega) (by have := hn.1; omega)).symm.trans hn.2.2.2.2.1, (h (p + 4) (by omega) (by have := hn.1; omega)).symm.trans hn.2.2.2.2.2⟩
theorem g_nmc1 {f g : Int → Int} {p l : Int} (h : ∀ i, p ≤ i → i < p + l → f i = g i) (hn : g_nm1 f p l) : g_nm1 g p l := ⟨hn.1, (h (p + 0) (by omega) (by have := hn.1; omega)).symm.trans hn.2.1, (h (p + 1) (by omega) (by have := hn.1; omega)).symm.trans hn.2.2.1, (h (p + 2) (by omega) (by have := hn.1; omega)).symm.trans hn.2.2.2.1, (h (p + 3) (by omega) (by have := hn.1; omega)).symm.trans hn.2.2.2.2.1, (h (p + 4) (by omega) (by have := hn.1; omega)).symm.trans hn.2.2.2.2.2.1, (h (p + 5) (by omega) (by have := hn.1; omega)).symm.trans hn.2.2.2.2.2.2.1, (h (p + 6) (by omega) (by have := hn.1; omega)).symm.trans hn.2.2.2.2.2.2.2⟩
theorem g_nmc2 {f g : Int → Int} {p l : Int} (h : ∀ i, p ≤ i → i < p + l → f i = g i) (hn : g_nm2 f p l) : g_nm2 g p l := ⟨hn.1, (h (p + 0) (by omega) (by have := hn.1; omega)).symm.trans hn.2.1, (h (p + 1) (by omega) (by have := hn.1; omega)).symm.trans hn.2.2.1, (h (p + 2) (by omega) (by have := hn.1; omega)).symm.trans hn.2.2.2.1, (h (p + 3) (by omega) (by have := hn.1; omega)).symm.trans hn.2.2.2.2.1, (h (p + 4) (by omega) (by have := hn.1; omega)).symm.trans hn.2.2.2.2.2.1, (h (p + 5) (by omega) (by have := hn.1; omega)).symm.trans hn.2.2.2.2.2.2.1, (h (p + 6) (by omega) (by have := hn.1; omega)).symm.trans hn.2.2.2.2.2.2.2⟩
theorem g_nmc3 {f g : Int → Int} {p l : Int} (h : ∀ i, p ≤ i → i < p + l → f i = g i) (hn : g_nm3 f p l) : g_nm3 g p l := ⟨hn.1, (h (p + 0) (by omega) (by have := hn.1; omega)).symm.trans hn.2.1, (h (p + 1) (by omega) (by have := hn.1; omega)).symm.trans hn.2.2.1, (h (p + 2) (by omega) (by have := hn.1; omega)).symm.trans hn.2.2.2.1, (h (p + 3) (by omega) (by have := hn.1; omega)).symm.trans hn.2.2.2.2.1, (h (p + 4) (by omega) (by have := hn.1; omega)).symm.trans hn.2.2.2.2.2.1, (h (p + 5) (by omega) (by have := hn.1; omega)).symm.trans hn.2.2.2.2.2.2.1, (h (p + 6) (by omega) (by have := hn.1; omega)).symm.trans hn.2.2.2.2.2.2.2.1, (h (p + 7) (by omega) (by have := hn.1; omega)).symm.trans hn.2.2.2.2.2.2.2.2⟩
theorem g_nmc4 {f g : Int → Int} {p l : Int} (h : ∀ i, p ≤ i → i < p + l → f i = g i) (hn : g_nm4 f p l) : g_nm4 g p l := ⟨hn.1, (h (p + 0) (by omega) (by have := hn.1; omega)).symm.trans hn.2.1, (h (p + 1) (by omega) (by have := hn.1; omega)).symm.trans hn.2.2.1, (h (p + 2) (by omega) (by have := hn.1; omega)).symm.trans hn.2.2.2.1, (h (p + 3) (by omega) (by have := hn.1; omega)).symm.trans hn.2.2.2.2.1, (h (p + 4) (by omega) (by have := hn.1; omega)).symm.trans hn.2.2.2.2.2⟩
theorem g_nmc5 {f g : Int → Int} {p l : Int} (h : ∀ i, p ≤ i → i < p + l → f i = g i) (hn : g_nm5 f p l) : g_nm5 g p l := ⟨hn.1, (h (p + 0) (by omega) (by have := hn.1; omega)).symm.trans hn.2.1, (h (p + 1) (by omega) (by have := hn.1; omega)).symm.trans hn.2.2.1, (h (p + 2) (by omega) (by have := hn.1; omega)).symm.trans hn.2.2.2.1, (h (p + 3) (by omega) (by have := hn.1; omega)).symm.trans hn.2.2.2.2⟩
theorem g_nmc6 {f g : Int → Int} {p l : Int} (h : ∀ i, p ≤ i → i < p + l → f i = g i) (hn : g_nm6 f p l) : g_nm6 g p l := ⟨hn.1, (h (p + 0) (by omega) (by have := hn.1; omega)).symm.trans hn.2.1, (h (p + 1) (by omega) (by have := hn.1; omega)).symm.trans hn.2.2.1, (h (p + 2) (by omega) (by have := hn.1; omega)).symm.trans hn.2.2.2.1, (h (p + 3) (by omega) (by have := hn.1; omega)).symm.trans hn.2.2.2.2⟩
theorem g_nmc7 {f g : Int → Int} {p l : Int} (h : ∀ i, p ≤ i → i < p + l → f i = g i) (hn : g_nm7 f p l) : g_nm7 g p l := ⟨hn.1, (h (p + 0) (by omega) (by have := hn.1; omega)).symm.trans hn.2.1, (h (p + 1) (by omega) (by have := hn.1; omega)).symm.trans hn.2.2.1, (h (p + 2) (by omega) (by have := hn.1; omega)).symm.trans hn.2.2.2.1, (h (p + 3) (by omega) (by have := hn.1; omega)).symm.trans hn.2.2.2.2⟩
theorem g_fst_uni {f g : Int → Int} {p l r r2 : Int} (h : ∀ i, p ≤ i → i < p + l → f i = g i) (h1 : g_fst f p l r) (h2 : g_fst g p l r2) : r = r2 := by
  have h3 : ∀ i, p ≤ i → i < p + l → g i = f i := fun i a b => (h i a b).symm
  have e0 : g_nm0 f p l ↔ g_nm0 g p l := ⟨g_nmc0 h, g_nmc0 h3⟩
  have e1 : g_nm1 f p l ↔ g_nm1 g p l := ⟨g_nmc1 h, g_nmc1 h3⟩
  have e2 : g_nm2 f p l ↔ g_nm2 g p l := ⟨g_nmc2 h, g_nmc2 h3⟩
  have e3 : g_nm3 f p l ↔ g_nm3 g p l := ⟨g_nmc3 h, g_nmc3 h3⟩
  have e4 : g_nm4 f p l ↔ g_nm4 g p l := ⟨g_nmc4 h, g_nmc4 h3⟩
  have e5 : g_nm5 f p l ↔ g_nm5 g p l := ⟨g_nmc5 h, g_nmc5 h3⟩
  have e6 : g_nm6 f p l ↔ g_nm6 g p l := ⟨g_nmc6 h, g_nmc6 h3⟩
  have e7 : g_nm7 f p l ↔ g_nm7 g p l := ⟨g_nmc7 h, g_nmc7 h3⟩
  unfold g_fst at h1 h2
  simp only [e0, e1, e2, e3, e4, e5, e6, e7] at h1
  rcases h1 with h1 | h1 | h1 | h1 | h1 | h1 | h1 | h1 | h1 <;> rcases h2 with h2 | h2 | h2 | h2 | h2 | h2 | h2 | h2 | h2 <;> first | (rw [h1.1, h2.1]; done) | (exfalso; simp_all; done)
theorem n_isName0 {ns : Nat} (σ : h_S) (hI : h_I σ) {Q : Option Value → h_S → Prop} (kk : ∀ (r : Int32) (b : Int) (hb : r.toInt = b), (0 ≤ b ∧ b ≤ 1) → ((b = 1 ∧ g_nm0 (σ 65) (σ 64 4) (σ 64 2 - σ 64 4)) ∨ (b = 0 ∧ ¬ g_nm0 (σ 65) (σ 64 4) (σ 64 2 - σ 64 4))) → Q (some (.int r)) σ) : h_T g_P (g_Y ns) 77 0 [(0, .ref 64), (1, .ref 1)] [] σ Q := by
  have ge0 := tf_64_2 hI
  have ge1 := tf_64_4 hI
  refine h_aload_n (pc' := 1) rfl rfl rfl ?_
  refine h_getI (pc' := 4) (v := σ 64 2) rfl rfl rfl rfl rfl rfl (fun z1 hz1 => ?_)
  have tz1 := tf_64_2 hI
  refine h_aload_n (pc' := 5) rfl rfl rfl ?_
  refine h_getI (pc' := 8) (v := σ 64 4) rfl rfl rfl rfl rfl rfl (fun z2 hz2 => ?_)
  have tz2 := tf_64_4 hI
  refine h_isub (pc' := 9) rfl rfl hz1 hz2 rfl (by omega) (by omega) (fun z3 hz3 => ?_)
  refine h_aload_n (pc' := 10) rfl rfl rfl ?_
  refine h_str (pc' := 13) (x := (Int32.ofInt 5)) rfl rfl rfl rfl rfl ?_
  refine h_ceq (tg := 18) (pc' := 16) rfl rfl rfl hz3 ci_5 (fun c4 => ?_) (fun c4 => ?_)
  · refine h_iconst (pc' := 19) (x := (Int32.ofInt 0)) rfl rfl rfl ?_
    refine h_istore_n (pc' := 20) (M := [(2, .int (Int32.ofInt 0)), (0, .ref 64), (1, .ref 1)]) rfl rfl rfl rfl ?_
    refine h_iload_n (pc' := 21) rfl rfl rfl ?_
    refine h_aload_n (pc' := 22) rfl rfl rfl ?_
    refine h_str (pc' := 25) (x := (Int32.ofInt 5)) rfl rfl rfl rfl rfl ?_
    refine h_cge (tg := 55) (pc' := 28) rfl rfl rfl ci_0 ci_5 (fun c5 => absurd c5 (by omega)) (fun c5 => ?_)
    refine h_aload_n (pc' := 29) rfl rfl rfl ?_
    refine h_getR (pc' := 32) rfl rfl rfl rfl rfl ?_
    refine h_aload_n (pc' := 33) rfl rfl rfl ?_
    refine h_getI (pc' := 36) (v := σ 64 4) rfl rfl rfl rfl rfl rfl (fun z6 hz6 => ?_)
    have tz6 := tf_64_4 hI
    refine h_iload_n (pc' := 37) rfl rfl rfl ?_
    refine h_iadd (pc' := 38) rfl rfl hz6 ci_0 rfl (by omega) (by omega) (fun z7 hz7 => ?_)
    refine h_iald (pc' := 39) (v := σ 65 ((σ 64 4) + 0)) rfl rfl rfl hz7 (by omega) (by omega) rfl (fun z8 hz8 => ?_)
    have tz8 := ty_65 hI ((σ 64 4) + 0)
    refine h_aload_n (pc' := 40) rfl rfl rfl ?_
    refine h_iload_n (pc' := 41) rfl rfl rfl ?_
    refine h_str (pc' := 44) (x := (Int32.ofInt 112)) rfl rfl rfl rfl rfl ?_
    refine h_ceq (tg := 49) (pc' := 47) rfl rfl rfl hz8 ci_112 (fun c9 => ?_) (fun c9 => ?_)
    · refine h_iinc (pc' := 52) (b := 1) (M := fun z10 => [(2, .int z10), (0, .ref 64), (1, .ref 1)]) rfl rfl rfl rfl ci_0 ci_1 rfl (by omega) (by omega) (fun _ => rfl) (fun z10 hz10 => ?_)
      refine h_goto (pc' := 20) rfl rfl ?_
      refine h_iload_n (pc' := 21) rfl rfl rfl ?_
      refine h_aload_n (pc' := 22) rfl rfl rfl ?_
      refine h_str (pc' := 25) (x := (Int32.ofInt 5)) rfl rfl rfl rfl rfl ?_
      refine h_cge (tg := 55) (pc' := 28) rfl rfl rfl hz10 ci_5 (fun c11 => absurd c11 (by omega)) (fun c11 => ?_)
      refine h_aload_n (pc' := 29) rfl rfl rfl ?_
      refine h_getR (pc' := 32) rfl rfl rfl rfl rfl ?_
      refine h_aload_n (pc' := 33) rfl rfl rfl ?_
      refine h_getI (pc' := 36) (v := σ 64 4) rfl rfl rfl rfl rfl rfl (fun z12 hz12 => ?_)
      have tz12 := tf_64_4 hI
      refine h_iload_n (pc' := 37) rfl rfl rfl ?_
      refine h_iadd (pc' := 38) rfl rfl hz12 hz10 rfl (by omega) (by omega) (fun z13 hz13 => ?_)
      refine h_iald (pc' := 39) (v := σ 65 ((σ 64 4) + 1)) rfl rfl rfl hz13 (by omega) (by omega) rfl (fun z14 hz14 => ?_)
      have tz14 := ty_65 hI ((σ 64 4) + 1)
      refine h_aload_n (pc' := 40) rfl rfl rfl ?_
      refine h_iload_n (pc' := 41) rfl rfl rfl ?_
      have qz10 : z10 = (Int32.ofInt 1) := h_lit hz10 ci_1
      subst qz10
      refine h_str (pc' := 44) (x := (Int32.ofInt 108)) rfl rfl rfl rfl rfl ?_
      refine h_ceq (tg := 49) (pc' := 47) rfl rfl rfl hz14 ci_108 (fun c15 => ?_) (fun c15 => ?_)
      · refine h_iinc (pc' := 52) (b := 2) (M := fun z16 => [(2, .int z16), (0, .ref 64), (1, .ref 1)]) rfl rfl rfl rfl ci_1 ci_1 rfl (by omega) (by omega) (fun _ => rfl) (fun z16 hz16 => ?_)
        refine h_goto (pc' := 20) rfl rfl ?_
        refine h_iload_n (pc' := 21) rfl rfl rfl ?_
        refine h_aload_n (pc' := 22) rfl rfl rfl ?_
        refine h_str (pc' := 25) (x := (Int32.ofInt 5)) rfl rfl rfl rfl rfl ?_
        refine h_cge (tg := 55) (pc' := 28) rfl rfl rfl hz16 ci_5 (fun c17 => absurd c17 (by omega)) (fun c17 => ?_)
        refine h_aload_n (pc' := 29) rfl rfl rfl ?_
        refine h_getR (pc' := 32) rfl rfl rfl rfl rfl ?_
        refine h_aload_n (pc' := 33) rfl rfl rfl ?_
        refine h_getI (pc' := 36) (v := σ 64 4) rfl rfl rfl rfl rfl rfl (fun z18 hz18 => ?_)
        have tz18 := tf_64_4 hI
        refine h_iload_n (pc' := 37) rfl rfl rfl ?_
        refine h_iadd (pc' := 38) rfl rfl hz18 hz16 rfl (by omega) (by omega) (fun z19 hz19 => ?_)
        refine h_iald (pc' := 39) (v := σ 65 ((σ 64 4) + 2)) rfl rfl rfl hz19 (by omega) (by omega) rfl (fun z20 hz20 => ?_)
        have tz20 := ty_65 hI ((σ 64 4) + 2)
        refine h_aload_n (pc' := 40) rfl rfl rfl ?_
        refine h_iload_n (pc' := 41) rfl rfl rfl ?_
        have qz16 : z16 = (Int32.ofInt 2) := h_lit hz16 ci_2
        subst qz16
        refine h_str (pc' := 44) (x := (Int32.ofInt 97)) rfl rfl rfl rfl rfl ?_
        refine h_ceq (tg := 49) (pc' := 47) rfl rfl rfl hz20 ci_97 (fun c21 => ?_) (fun c21 => ?_)
        · refine h_iinc (pc' := 52) (b := 3) (M := fun z22 => [(2, .int z22), (0, .ref 64), (1, .ref 1)]) rfl rfl rfl rfl ci_2 ci_1 rfl (by omega) (by omega) (fun _ => rfl) (fun z22 hz22 => ?_)
          refine h_goto (pc' := 20) rfl rfl ?_
          refine h_iload_n (pc' := 21) rfl rfl rfl ?_
          refine h_aload_n (pc' := 22) rfl rfl rfl ?_
          refine h_str (pc' := 25) (x := (Int32.ofInt 5)) rfl rfl rfl rfl rfl ?_
          refine h_cge (tg := 55) (pc' := 28) rfl rfl rfl hz22 ci_5 (fun c23 => absurd c23 (by omega)) (fun c23 => ?_)
          refine h_aload_n (pc' := 29) rfl rfl rfl ?_
          refine h_getR (pc' := 32) rfl rfl rfl rfl rfl ?_
          refine h_aload_n (pc' := 33) rfl rfl rfl ?_
          refine h_getI (pc' := 36) (v := σ 64 4) rfl rfl rfl rfl rfl rfl (fun z24 hz24 => ?_)
          have tz24 := tf_64_4 hI
          refine h_iload_n (pc' := 37) rfl rfl rfl ?_
          refine h_iadd (pc' := 38) rfl rfl hz24 hz22 rfl (by omega) (by omega) (fun z25 hz25 => ?_)
          refine h_iald (pc' := 39) (v := σ 65 ((σ 64 4) + 3)) rfl rfl rfl hz25 (by omega) (by omega) rfl (fun z26 hz26 => ?_)
          have tz26 := ty_65 hI ((σ 64 4) + 3)
          refine h_aload_n (pc' := 40) rfl rfl rfl ?_
          refine h_iload_n (pc' := 41) rfl rfl rfl ?_
          have qz22 : z22 = (Int32.ofInt 3) := h_lit hz22 ci_3
          subst qz22
          refine h_str (pc' := 44) (x := (Int32.ofInt 105)) rfl rfl rfl rfl rfl ?_
          refine h_ceq (tg := 49) (pc' := 47) rfl rfl rfl hz26 ci_105 (fun c27 => ?_) (fun c27 => ?_)
          · refine h_iinc (pc' := 52) (b := 4) (M := fun z28 => [(2, .int z28), (0, .ref 64), (1, .ref 1)]) rfl rfl rfl rfl ci_3 ci_1 rfl (by omega) (by omega) (fun _ => rfl) (fun z28 hz28 => ?_)
            refine h_goto (pc' := 20) rfl rfl ?_
            refine h_iload_n (pc' := 21) rfl rfl rfl ?_
            refine h_aload_n (pc' := 22) rfl rfl rfl ?_
            refine h_str (pc' := 25) (x := (Int32.ofInt 5)) rfl rfl rfl rfl rfl ?_
            refine h_cge (tg := 55) (pc' := 28) rfl rfl rfl hz28 ci_5 (fun c29 => absurd c29 (by omega)) (fun c29 => ?_)
            refine h_aload_n (pc' := 29) rfl rfl rfl ?_
            refine h_getR (pc' := 32) rfl rfl rfl rfl rfl ?_
            refine h_aload_n (pc' := 33) rfl rfl rfl ?_
            refine h_getI (pc' := 36) (v := σ 64 4) rfl rfl rfl rfl rfl rfl (fun z30 hz30 => ?_)
            have tz30 := tf_64_4 hI
            refine h_iload_n (pc' := 37) rfl rfl rfl ?_
            refine h_iadd (pc' := 38) rfl rfl hz30 hz28 rfl (by omega) (by omega) (fun z31 hz31 => ?_)
            refine h_iald (pc' := 39) (v := σ 65 ((σ 64 4) + 4)) rfl rfl rfl hz31 (by omega) (by omega) rfl (fun z32 hz32 => ?_)
            have tz32 := ty_65 hI ((σ 64 4) + 4)
            refine h_aload_n (pc' := 40) rfl rfl rfl ?_
            refine h_iload_n (pc' := 41) rfl rfl rfl ?_
            have qz28 : z28 = (Int32.ofInt 4) := h_lit hz28 ci_4
            subst qz28
            refine h_str (pc' := 44) (x := (Int32.ofInt 110)) rfl rfl rfl rfl rfl ?_
            refine h_ceq (tg := 49) (pc' := 47) rfl rfl rfl hz32 ci_110 (fun c33 => ?_) (fun c33 => ?_)
            · refine h_iinc (pc' := 52) (b := 5) (M := fun z34 => [(2, .int z34), (0, .ref 64), (1, .ref 1)]) rfl rfl rfl rfl ci_4 ci_1 rfl (by omega) (by omega) (fun _ => rfl) (fun z34 hz34 => ?_)
              refine h_goto (pc' := 20) rfl rfl ?_
              refine h_iload_n (pc' := 21) rfl rfl rfl ?_
              refine h_aload_n (pc' := 22) rfl rfl rfl ?_
              refine h_str (pc' := 25) (x := (Int32.ofInt 5)) rfl rfl rfl rfl rfl ?_
              refine h_cge (tg := 55) (pc' := 28) rfl rfl rfl hz34 ci_5 (fun c35 => ?_) (fun c35 => absurd c35 (by omega))
              refine h_iconst (pc' := 56) (x := (Int32.ofInt 1)) rfl rfl rfl ?_
              exact h_zret rfl rfl ci_1 (by omega) (kk _ _ ci_1 (by omega) (Or.inl ⟨rfl, by omega, by omega, by omega, by omega, by omega, by omega⟩))
            · refine h_iconst (pc' := 48) (x := (Int32.ofInt 0)) rfl rfl rfl ?_
              exact h_zret rfl rfl ci_0 (by omega) (kk _ _ ci_0 (by omega) (Or.inr ⟨rfl, fun h => by unfold g_nm0 at h; omega⟩))
          · refine h_iconst (pc' := 48) (x := (Int32.ofInt 0)) rfl rfl rfl ?_
            exact h_zret rfl rfl ci_0 (by omega) (kk _ _ ci_0 (by omega) (Or.inr ⟨rfl, fun h => by unfold g_nm0 at h; omega⟩))
        · refine h_iconst (pc' := 48) (x := (Int32.ofInt 0)) rfl rfl rfl ?_
          exact h_zret rfl rfl ci_0 (by omega) (kk _ _ ci_0 (by omega) (Or.inr ⟨rfl, fun h => by unfold g_nm0 at h; omega⟩))
      · refine h_iconst (pc' := 48) (x := (Int32.ofInt 0)) rfl rfl rfl ?_
        exact h_zret rfl rfl ci_0 (by omega) (kk _ _ ci_0 (by omega) (Or.inr ⟨rfl, fun h => by unfold g_nm0 at h; omega⟩))
    · refine h_iconst (pc' := 48) (x := (Int32.ofInt 0)) rfl rfl rfl ?_
      exact h_zret rfl rfl ci_0 (by omega) (kk _ _ ci_0 (by omega) (Or.inr ⟨rfl, fun h => by unfold g_nm0 at h; omega⟩))
  · refine h_iconst (pc' := 17) (x := (Int32.ofInt 0)) rfl rfl rfl ?_
    exact h_zret rfl rfl ci_0 (by omega) (kk _ _ ci_0 (by omega) (Or.inr ⟨rfl, fun h => by unfold g_nm0 at h; omega⟩))
theorem n_isName1 {ns : Nat} (σ : h_S) (hI : h_I σ) {Q : Option Value → h_S → Prop} (kk : ∀ (r : Int32) (b : Int) (hb : r.toInt = b), (0 ≤ b ∧ b ≤ 1) → ((b = 1 ∧ g_nm1 (σ 65) (σ 64 4) (σ 64 2 - σ 64 4)) ∨ (b = 0 ∧ ¬ g_nm1 (σ 65) (σ 64 4) (σ 64 2 - σ 64 4))) → Q (some (.int r)) σ) : h_T g_P (g_Y ns) 77 0 [(0, .ref 64), (1, .ref 2)] [] σ Q := by
  have ge0 := tf_64_2 hI
  have ge1 := tf_64_4 hI
  refine h_aload_n (pc' := 1) rfl rfl rfl ?_
  refine h_getI (pc' := 4) (v := σ 64 2) rfl rfl rfl rfl rfl rfl (fun z1 hz1 => ?_)
  have tz1 := tf_64_2 hI
  refine h_aload_n (pc' := 5) rfl rfl rfl ?_
  refine h_getI (pc' := 8) (v := σ 64 4) rfl rfl rfl rfl rfl rfl (fun z2 hz2 => ?_)
  have tz2 := tf_64_4 hI
  refine h_isub (pc' := 9) rfl rfl hz1 hz2 rfl (by omega) (by omega) (fun z3 hz3 => ?_)
  refine h_aload_n (pc' := 10) rfl rfl rfl ?_
  refine h_str (pc' := 13) (x := (Int32.ofInt 7)) rfl rfl rfl rfl rfl ?_
  refine h_ceq (tg := 18) (pc' := 16) rfl rfl rfl hz3 ci_7 (fun c4 => ?_) (fun c4 => ?_)
  · refine h_iconst (pc' := 19) (x := (Int32.ofInt 0)) rfl rfl rfl ?_
    refine h_istore_n (pc' := 20) (M := [(2, .int (Int32.ofInt 0)), (0, .ref 64), (1, .ref 2)]) rfl rfl rfl rfl ?_
    refine h_iload_n (pc' := 21) rfl rfl rfl ?_
    refine h_aload_n (pc' := 22) rfl rfl rfl ?_
    refine h_str (pc' := 25) (x := (Int32.ofInt 7)) rfl rfl rfl rfl rfl ?_
    refine h_cge (tg := 55) (pc' := 28) rfl rfl rfl ci_0 ci_7 (fun c5 => absurd c5 (by omega)) (fun c5 => ?_)
    refine h_aload_n (pc' := 29) rfl rfl rfl ?_
    refine h_getR (pc' := 32) rfl rfl rfl rfl rfl ?_
    refine h_aload_n (pc' := 33) rfl rfl rfl ?_
    refine h_getI (pc' := 36) (v := σ 64 4) rfl rfl rfl rfl rfl rfl (fun z6 hz6 => ?_)
    have tz6 := tf_64_4 hI
    refine h_iload_n (pc' := 37) rfl rfl rfl ?_
    refine h_iadd (pc' := 38) rfl rfl hz6 ci_0 rfl (by omega) (by omega) (fun z7 hz7 => ?_)
    refine h_iald (pc' := 39) (v := σ 65 ((σ 64 4) + 0)) rfl rfl rfl hz7 (by omega) (by omega) rfl (fun z8 hz8 => ?_)
    have tz8 := ty_65 hI ((σ 64 4) + 0)
    refine h_aload_n (pc' := 40) rfl rfl rfl ?_
    refine h_iload_n (pc' := 41) rfl rfl rfl ?_
    refine h_str (pc' := 44) (x := (Int32.ofInt 97)) rfl rfl rfl rfl rfl ?_
    refine h_ceq (tg := 49) (pc' := 47) rfl rfl rfl hz8 ci_97 (fun c9 => ?_) (fun c9 => ?_)
    · refine h_iinc (pc' := 52) (b := 1) (M := fun z10 => [(2, .int z10), (0, .ref 64), (1, .ref 2)]) rfl rfl rfl rfl ci_0 ci_1 rfl (by omega) (by omega) (fun _ => rfl) (fun z10 hz10 => ?_)
      refine h_goto (pc' := 20) rfl rfl ?_
      refine h_iload_n (pc' := 21) rfl rfl rfl ?_
      refine h_aload_n (pc' := 22) rfl rfl rfl ?_
      refine h_str (pc' := 25) (x := (Int32.ofInt 7)) rfl rfl rfl rfl rfl ?_
      refine h_cge (tg := 55) (pc' := 28) rfl rfl rfl hz10 ci_7 (fun c11 => absurd c11 (by omega)) (fun c11 => ?_)
      refine h_aload_n (pc' := 29) rfl rfl rfl ?_
      refine h_getR (pc' := 32) rfl rfl rfl rfl rfl ?_
      refine h_aload_n (pc' := 33) rfl rfl rfl ?_
      refine h_getI (pc' := 36) (v := σ 64 4) rfl rfl rfl rfl rfl rfl (fun z12 hz12 => ?_)
      have tz12 := tf_64_4 hI
      refine h_iload_n (pc' := 37) rfl rfl rfl ?_
      refine h_iadd (pc' := 38) rfl rfl hz12 hz10 rfl (by omega) (by omega) (fun z13 hz13 => ?_)
      refine h_iald (pc' := 39) (v := σ 65 ((σ 64 4) + 1)) rfl rfl rfl hz13 (by omega) (by omega) rfl (fun z14 hz14 => ?_)
      have tz14 := ty_65 hI ((σ 64 4) + 1)
      refine h_aload_n (pc' := 40) rfl rfl rfl ?_
      refine h_iload_n (pc' := 41) rfl rfl rfl ?_
      have qz10 : z10 = (Int32.ofInt 1) := h_lit hz10 ci_1
      subst qz10
      refine h_str (pc' := 44) (x := (Int32.ofInt 100)) rfl rfl rfl rfl rfl ?_
      refine h_ceq (tg := 49) (pc' := 47) rfl rfl rfl hz14 ci_100 (fun c15 => ?_) (fun c15 => ?_)
      · refine h_iinc (pc' := 52) (b := 2) (M := fun z16 => [(2, .int z16), (0, .ref 64), (1, .ref 2)]) rfl rfl rfl rfl ci_1 ci_1 rfl (by omega) (by omega) (fun _ => rfl) (fun z16 hz16 => ?_)
        refine h_goto (pc' := 20) rfl rfl ?_
        refine h_iload_n (pc' := 21) rfl rfl rfl ?_
        refine h_aload_n (pc' := 22) rfl rfl rfl ?_
        refine h_str (pc' := 25) (x := (Int32.ofInt 7)) rfl rfl rfl rfl rfl ?_
        refine h_cge (tg := 55) (pc' := 28) rfl rfl rfl hz16 ci_7 (fun c17 => absurd c17 (by omega)) (fun c17 => ?_)
        refine h_aload_n (pc' := 29) rfl rfl rfl ?_
        refine h_getR (pc' := 32) rfl rfl rfl rfl rfl ?_
        refine h_aload_n (pc' := 33) rfl rfl rfl ?_
        refine h_getI (pc' := 36) (v := σ 64 4) rfl rfl rfl rfl rfl rfl (fun z18 hz18 => ?_)
        have tz18 := tf_64_4 hI
        refine h_iload_n (pc' := 37) rfl rfl rfl ?_
        refine h_iadd (pc' := 38) rfl rfl hz18 hz16 rfl (by omega) (by omega) (fun z19 hz19 => ?_)
        refine h_iald (pc' := 39) (v := σ 65 ((σ 64 4) + 2)) rfl rfl rfl hz19 (by omega) (by omega) rfl (fun z20 hz20 => ?_)
        have tz20 := ty_65 hI ((σ 64 4) + 2)
        refine h_aload_n (pc' := 40) rfl rfl rfl ?_
        refine h_iload_n (pc' := 41) rfl rfl rfl ?_
        have qz16 : z16 = (Int32.ofInt 2) := h_lit hz16 ci_2
        subst qz16
        refine h_str (pc' := 44) (x := (Int32.ofInt 111)) rfl rfl rfl rfl rfl ?_
        refine h_ceq (tg := 49) (pc' := 47) rfl rfl rfl hz20 ci_111 (fun c21 => ?_) (fun c21 => ?_)
        · refine h_iinc (pc' := 52) (b := 3) (M := fun z22 => [(2, .int z22), (0, .ref 64), (1, .ref 2)]) rfl rfl rfl rfl ci_2 ci_1 rfl (by omega) (by omega) (fun _ => rfl) (fun z22 hz22 => ?_)
          refine h_goto (pc' := 20) rfl rfl ?_
          refine h_iload_n (pc' := 21) rfl rfl rfl ?_
          refine h_aload_n (pc' := 22) rfl rfl rfl ?_
          refine h_str (pc' := 25) (x := (Int32.ofInt 7)) rfl rfl rfl rfl rfl ?_
          refine h_cge (tg := 55) (pc' := 28) rfl rfl rfl hz22 ci_7 (fun c23 => absurd c23 (by omega)) (fun c23 => ?_)
          refine h_aload_n (pc' := 29) rfl rfl rfl ?_
          refine h_getR (pc' := 32) rfl rfl rfl rfl rfl ?_
          refine h_aload_n (pc' := 33) rfl rfl rfl ?_
          refine h_getI (pc' := 36) (v := σ 64 4) rfl rfl rfl rfl rfl rfl (fun z24 hz24 => ?_)
          have tz24 := tf_64_4 hI
          refine h_iload_n (pc' := 37) rfl rfl rfl ?_
          refine h_iadd (pc' := 38) rfl rfl hz24 hz22 rfl (by omega) (by omega) (fun z25 hz25 => ?_)
          refine h_iald (pc' := 39) (v := σ 65 ((σ 64 4) + 3)) rfl rfl rfl hz25 (by omega) (by omega) rfl (fun z26 hz26 => ?_)
          have tz26 := ty_65 hI ((σ 64 4) + 3)
          refine h_aload_n (pc' := 40) rfl rfl rfl ?_
          refine h_iload_n (pc' := 41) rfl rfl rfl ?_
          have qz22 : z22 = (Int32.ofInt 3) := h_lit hz22 ci_3
          subst qz22
          refine h_str (pc' := 44) (x := (Int32.ofInt 112)) rfl rfl rfl rfl rfl ?_
          refine h_ceq (tg := 49) (pc' := 47) rfl rfl rfl hz26 ci_112 (fun c27 => ?_) (fun c27 => ?_)
          · refine h_iinc (pc' := 52) (b := 4) (M := fun z28 => [(2, .int z28), (0, .ref 64), (1, .ref 2)]) rfl rfl rfl rfl ci_3 ci_1 rfl (by omega) (by omega) (fun _ => rfl) (fun z28 hz28 => ?_)
            refine h_goto (pc' := 20) rfl rfl ?_
            refine h_iload_n (pc' := 21) rfl rfl rfl ?_
            refine h_aload_n (pc' := 22) rfl rfl rfl ?_
            refine h_str (pc' := 25) (x := (Int32.ofInt 7)) rfl rfl rfl rfl rfl ?_
            refine h_cge (tg := 55) (pc' := 28) rfl rfl rfl hz28 ci_7 (fun c29 => absurd c29 (by omega)) (fun c29 => ?_)
            refine h_aload_n (pc' := 29) rfl rfl rfl ?_
            refine h_getR (pc' := 32) rfl rfl rfl rfl rfl ?_
            refine h_aload_n (pc' := 33) rfl rfl rfl ?_
            refine h_getI (pc' := 36) (v := σ 64 4) rfl rfl rfl rfl rfl rfl (fun z30 hz30 => ?_)
            have tz30 := tf_64_4 hI
            refine h_iload_n (pc' := 37) rfl rfl rfl ?_
            refine h_iadd (pc' := 38) rfl rfl hz30 hz28 rfl (by omega) (by omega) (fun z31 hz31 => ?_)
            refine h_iald (pc' := 39) (v := σ 65 ((σ 64 4) + 4)) rfl rfl rfl hz31 (by omega) (by omega) rfl (fun z32 hz32 => ?_)
            have tz32 := ty_65 hI ((σ 64 4) + 4)
            refine h_aload_n (pc' := 40) rfl rfl rfl ?_
            refine h_iload_n (pc' := 41) rfl rfl rfl ?_
            have qz28 : z28 = (Int32.ofInt 4) := h_lit hz28 ci_4
            subst qz28
            refine h_str (pc' := 44) (x := (Int32.ofInt 116)) rfl rfl rfl rfl rfl ?_
            refine h_ceq (tg := 49) (pc' := 47) rfl rfl rfl hz32 ci_116 (fun c33 => ?_) (fun c33 => ?_)
            · refine h_iinc (pc' := 52) (b := 5) (M := fun z34 => [(2, .int z34), (0, .ref 64), (1, .ref 2)]) rfl rfl rfl rfl ci_4 ci_1 rfl (by omega) (by omega) (fun _ => rfl) (fun z34 hz34 => ?_)
              refine h_goto (pc' := 20) rfl rfl ?_
              refine h_iload_n (pc' := 21) rfl rfl rfl ?_
              refine h_aload_n (pc' := 22) rfl rfl rfl ?_
              refine h_str (pc' := 25) (x := (Int32.ofInt 7)) rfl rfl rfl rfl rfl ?_
              refine h_cge (tg := 55) (pc' := 28) rfl rfl rfl hz34 ci_7 (fun c35 => absurd c35 (by omega)) (fun c35 => ?_)
              refine h_aload_n (pc' := 29) rfl rfl rfl ?_
              refine h_getR (pc' := 32) rfl rfl rfl rfl rfl ?_
              refine h_aload_n (pc' := 33) rfl rfl rfl ?_
              refine h_getI (pc' := 36) (v := σ 64 4) rfl rfl rfl rfl rfl rfl (fun z36 hz36 => ?_)
              have tz36 := tf_64_4 hI
              refine h_iload_n (pc' := 37) rfl rfl rfl ?_
              refine h_iadd (pc' := 38) rfl rfl hz36 hz34 rfl (by omega) (by omega) (fun z37 hz37 => ?_)
              refine h_iald (pc' := 39) (v := σ 65 ((σ 64 4) + 5)) rfl rfl rfl hz37 (by omega) (by omega) rfl (fun z38 hz38 => ?_)
              have tz38 := ty_65 hI ((σ 64 4) + 5)
              refine h_aload_n (pc' := 40) rfl rfl rfl ?_
              refine h_iload_n (pc' := 41) rfl rfl rfl ?_
              have qz34 : z34 = (Int32.ofInt 5) := h_lit hz34 ci_5
              subst qz34
              refine h_str (pc' := 44) (x := (Int32.ofInt 101)) rfl rfl rfl rfl rfl ?_
              refine h_ceq (tg := 49) (pc' := 47) rfl rfl rfl hz38 ci_101 (fun c39 => ?_) (fun c39 => ?_)
              · refine h_iinc (pc' := 52) (b := 6) (M := fun z40 => [(2, .int z40), (0, .ref 64), (1, .ref 2)]) rfl rfl rfl rfl ci_5 ci_1 rfl (by omega) (by omega) (fun _ => rfl) (fun z40 hz40 => ?_)
                refine h_goto (pc' := 20) rfl rfl ?_
                refine h_iload_n (pc' := 21) rfl rfl rfl ?_
                refine h_aload_n (pc' := 22) rfl rfl rfl ?_
                refine h_str (pc' := 25) (x := (Int32.ofInt 7)) rfl rfl rfl rfl rfl ?_
                refine h_cge (tg := 55) (pc' := 28) rfl rfl rfl hz40 ci_7 (fun c41 => absurd c41 (by omega)) (fun c41 => ?_)
                refine h_aload_n (pc' := 29) rfl rfl rfl ?_
                refine h_getR (pc' := 32) rfl rfl rfl rfl rfl ?_
                refine h_aload_n (pc' := 33) rfl rfl rfl ?_
                refine h_getI (pc' := 36) (v := σ 64 4) rfl rfl rfl rfl rfl rfl (fun z42 hz42 => ?_)
                have tz42 := tf_64_4 hI
                refine h_iload_n (pc' := 37) rfl rfl rfl ?_
                refine h_iadd (pc' := 38) rfl rfl hz42 hz40 rfl (by omega) (by omega) (fun z43 hz43 => ?_)
                refine h_iald (pc' := 39) (v := σ 65 ((σ 64 4) + 6)) rfl rfl rfl hz43 (by omega) (by omega) rfl (fun z44 hz44 => ?_)
                have tz44 := ty_65 hI ((σ 64 4) + 6)
                refine h_aload_n (pc' := 40) rfl rfl rfl ?_
                refine h_iload_n (pc' := 41) rfl rfl rfl ?_
                have qz40 : z40 = (Int32.ofInt 6) := h_lit hz40 ci_6
                subst qz40
                refine h_str (pc' := 44) (x := (Int32.ofInt 100)) rfl rfl rfl rfl rfl ?_
                refine h_ceq (tg := 49) (pc' := 47) rfl rfl rfl hz44 ci_100 (fun c45 => ?_) (fun c45 => ?_)
                · refine h_iinc (pc' := 52) (b := 7) (M := fun z46 => [(2, .int z46), (0, .ref 64), (1, .ref 2)]) rfl rfl rfl rfl ci_6 ci_1 rfl (by omega) (by omega) (fun _ => rfl) (fun z46 hz46 => ?_)
                  refine h_goto (pc' := 20) rfl rfl ?_
                  refine h_iload_n (pc' := 21) rfl rfl rfl ?_
                  refine h_aload_n (pc' := 22) rfl rfl rfl ?_
                  refine h_str (pc' := 25) (x := (Int32.ofInt 7)) rfl rfl rfl rfl rfl ?_
                  refine h_cge (tg := 55) (pc' := 28) rfl rfl rfl hz46 ci_7 (fun c47 => ?_) (fun c47 => absurd c47 (by omega))
                  refine h_iconst (pc' := 56) (x := (Int32.ofInt 1)) rfl rfl rfl ?_
                  exact h_zret rfl rfl ci_1 (by omega) (kk _ _ ci_1 (by omega) (Or.inl ⟨rfl, by omega, by omega, by omega, by omega, by omega, by omega, by omega, by omega⟩))
                · refine h_iconst (pc' := 48) (x := (Int32.ofInt 0)) rfl rfl rfl ?_
                  exact h_zret rfl rfl ci_0 (by omega) (kk _ _ ci_0 (by omega) (Or.inr ⟨rfl, fun h => by unfold g_nm1 at h; omega⟩))
              · refine h_iconst (pc' := 48) (x := (Int32.ofInt 0)) rfl rfl rfl ?_
                exact h_zret rfl rfl ci_0 (by omega) (kk _ _ ci_0 (by omega) (Or.inr ⟨rfl, fun h => by unfold g_nm1 at h; omega⟩))
            · refine h_iconst (pc' := 48) (x := (Int32.ofInt 0)) rfl rfl rfl ?_
              exact h_zret rfl rfl ci_0 (by omega) (kk _ _ ci_0 (by omega) (Or.inr ⟨rfl, fun h => by unfold g_nm1 at h; omega⟩))
          · refine h_iconst (pc' := 48) (x := (Int32.ofInt 0)) rfl rfl rfl ?_
            exact h_zret rfl rfl ci_0 (by omega) (kk _ _ ci_0 (by omega) (Or.inr ⟨rfl, fun h => by unfold g_nm1 at h; omega⟩))
        · refine h_iconst (pc' := 48) (x := (Int32.ofInt 0)) rfl rfl rfl ?_
          exact h_zret rfl rfl ci_0 (by omega) (kk _ _ ci_0 (by omega) (Or.inr ⟨rfl, fun h => by unfold g_nm1 at h; omega⟩))
      · refine h_iconst (pc' := 48) (x := (Int32.ofInt 0)) rfl rfl rfl ?_
        exact h_zret rfl rfl ci_0 (by omega) (kk _ _ ci_0 (by omega) (Or.inr ⟨rfl, fun h => by unfold g_nm1 at h; omega⟩))
    · refine h_iconst (pc' := 48) (x := (Int32.ofInt 0)) rfl rfl rfl ?_
      exact h_zret rfl rfl ci_0 (by omega) (kk _ _ ci_0 (by omega) (Or.inr ⟨rfl, fun h => by unfold g_nm1 at h; omega⟩))
  · refine h_iconst (pc' := 17) (x := (Int32.ofInt 0)) rfl rfl rfl ?_
    exact h_zret rfl rfl ci_0 (by omega) (kk _ _ ci_0 (by omega) (Or.inr ⟨rfl, fun h => by unfold g_nm1 at h; omega⟩))
theorem n_isName2 {ns : Nat} (σ : h_S) (hI : h_I σ) {Q : Option Value → h_S → Prop} (kk : ∀ (r : Int32) (b : Int) (hb : r.toInt = b), (0 ≤ b ∧ b ≤ 1) → ((b = 1 ∧ g_nm2 (σ 65) (σ 64 4) (σ 64 2 - σ 64 4)) ∨ (b = 0 ∧ ¬ g_nm2 (σ 65) (σ 64 4) (σ 64 2 - σ 64 4))) → Q (some (.int r)) σ) : h_T g_P (g_Y ns) 77 0 [(0, .ref 64), (1, .ref 3)] [] σ Q := by
  have ge0 := tf_64_2 hI
  have ge1 := tf_64_4 hI
  refine h_aload_n (pc' := 1) rfl rfl rfl ?_
  refine h_getI (pc' := 4) (v := σ 64 2) rfl rfl rfl rfl rfl rfl (fun z1 hz1 => ?_)
  have tz1 := tf_64_2 hI
  refine h_aload_n (pc' := 5) rfl rfl rfl ?_
  refine h_getI (pc' := 8) (v := σ 64 4) rfl rfl rfl rfl rfl rfl (fun z2 hz2 => ?_)
  have tz2 := tf_64_4 hI
  refine h_isub (pc' := 9) rfl rfl hz1 hz2 rfl (by omega) (by omega) (fun z3 hz3 => ?_)
  refine h_aload_n (pc' := 10) rfl rfl rfl ?_
  refine h_str (pc' := 13) (x := (Int32.ofInt 7)) rfl rfl rfl rfl rfl ?_
  refine h_ceq (tg := 18) (pc' := 16) rfl rfl rfl hz3 ci_7 (fun c4 => ?_) (fun c4 => ?_)
  · refine h_iconst (pc' := 19) (x := (Int32.ofInt 0)) rfl rfl rfl ?_
    refine h_istore_n (pc' := 20) (M := [(2, .int (Int32.ofInt 0)), (0, .ref 64), (1, .ref 3)]) rfl rfl rfl rfl ?_
    refine h_iload_n (pc' := 21) rfl rfl rfl ?_
    refine h_aload_n (pc' := 22) rfl rfl rfl ?_
    refine h_str (pc' := 25) (x := (Int32.ofInt 7)) rfl rfl rfl rfl rfl ?_
    refine h_cge (tg := 55) (pc' := 28) rfl rfl rfl ci_0 ci_7 (fun c5 => absurd c5 (by omega)) (fun c5 => ?_)
    refine h_aload_n (pc' := 29) rfl rfl rfl ?_
    refine h_getR (pc' := 32) rfl rfl rfl rfl rfl ?_
    refine h_aload_n (pc' := 33) rfl rfl rfl ?_
    refine h_getI (pc' := 36) (v := σ 64 4) rfl rfl rfl rfl rfl rfl (fun z6 hz6 => ?_)
    have tz6 := tf_64_4 hI
    refine h_iload_n (pc' := 37) rfl rfl rfl ?_
    refine h_iadd (pc' := 38) rfl rfl hz6 ci_0 rfl (by omega) (by omega) (fun z7 hz7 => ?_)
    refine h_iald (pc' := 39) (v := σ 65 ((σ 64 4) + 0)) rfl rfl rfl hz7 (by omega) (by omega) rfl (fun z8 hz8 => ?_)
    have tz8 := ty_65 hI ((σ 64 4) + 0)
    refine h_aload_n (pc' := 40) rfl rfl rfl ?_
    refine h_iload_n (pc' := 41) rfl rfl rfl ?_
    refine h_str (pc' := 44) (x := (Int32.ofInt 98)) rfl rfl rfl rfl rfl ?_
    refine h_ceq (tg := 49) (pc' := 47) rfl rfl rfl hz8 ci_98 (fun c9 => ?_) (fun c9 => ?_)
    · refine h_iinc (pc' := 52) (b := 1) (M := fun z10 => [(2, .int z10), (0, .ref 64), (1, .ref 3)]) rfl rfl rfl rfl ci_0 ci_1 rfl (by omega) (by omega) (fun _ => rfl) (fun z10 hz10 => ?_)
      refine h_goto (pc' := 20) rfl rfl ?_
      refine h_iload_n (pc' := 21) rfl rfl rfl ?_
      refine h_aload_n (pc' := 22) rfl rfl rfl ?_
      refine h_str (pc' := 25) (x := (Int32.ofInt 7)) rfl rfl rfl rfl rfl ?_
      refine h_cge (tg := 55) (pc' := 28) rfl rfl rfl hz10 ci_7 (fun c11 => absurd c11 (by omega)) (fun c11 => ?_)
      refine h_aload_n (pc' := 29) rfl rfl rfl ?_
      refine h_getR (pc' := 32) rfl rfl rfl rfl rfl ?_
      refine h_aload_n (pc' := 33) rfl rfl rfl ?_
      refine h_getI (pc' := 36) (v := σ 64 4) rfl rfl rfl rfl rfl rfl (fun z12 hz12 => ?_)
      have tz12 := tf_64_4 hI
      refine h_iload_n (pc' := 37) rfl rfl rfl ?_
      refine h_iadd (pc' := 38) rfl rfl hz12 hz10 rfl (by omega) (by omega) (fun z13 hz13 => ?_)
      refine h_iald (pc' := 39) (v := σ 65 ((σ 64 4) + 1)) rfl rfl rfl hz13 (by omega) (by omega) rfl (fun z14 hz14 => ?_)
      have tz14 := ty_65 hI ((σ 64 4) + 1)
      refine h_aload_n (pc' := 40) rfl rfl rfl ?_
      refine h_iload_n (pc' := 41) rfl rfl rfl ?_
      have qz10 : z10 = (Int32.ofInt 1) := h_lit hz10 ci_1
      subst qz10
      refine h_str (pc' := 44) (x := (Int32.ofInt 97)) rfl rfl rfl rfl rfl ?_
      refine h_ceq (tg := 49) (pc' := 47) rfl rfl rfl hz14 ci_97 (fun c15 => ?_) (fun c15 => ?_)
      · refine h_iinc (pc' := 52) (b := 2) (M := fun z16 => [(2, .int z16), (0, .ref 64), (1, .ref 3)]) rfl rfl rfl rfl ci_1 ci_1 rfl (by omega) (by omega) (fun _ => rfl) (fun z16 hz16 => ?_)
        refine h_goto (pc' := 20) rfl rfl ?_
        refine h_iload_n (pc' := 21) rfl rfl rfl ?_
        refine h_aload_n (pc' := 22) rfl rfl rfl ?_
        refine h_str (pc' := 25) (x := (Int32.ofInt 7)) rfl rfl rfl rfl rfl ?_
        refine h_cge (tg := 55) (pc' := 28) rfl rfl rfl hz16 ci_7 (fun c17 => absurd c17 (by omega)) (fun c17 => ?_)
        refine h_aload_n (pc' := 29) rfl rfl rfl ?_
        refine h_getR (pc' := 32) rfl rfl rfl rfl rfl ?_
        refine h_aload_n (pc' := 33) rfl rfl rfl ?_
        refine h_getI (pc' := 36) (v := σ 64 4) rfl rfl rfl rfl rfl rfl (fun z18 hz18 => ?_)
        have tz18 := tf_64_4 hI
        refine h_iload_n (pc' := 37) rfl rfl rfl ?_
        refine h_iadd (pc' := 38) rfl rfl hz18 hz16 rfl (by omega) (by omega) (fun z19 hz19 => ?_)
        refine h_iald (pc' := 39) (v := σ 65 ((σ 64 4) + 2)) rfl rfl rfl hz19 (by omega) (by omega) rfl (fun z20 hz20 => ?_)
        have tz20 := ty_65 hI ((σ 64 4) + 2)
        refine h_aload_n (pc' := 40) rfl rfl rfl ?_
        refine h_iload_n (pc' := 41) rfl rfl rfl ?_
        have qz16 : z16 = (Int32.ofInt 2) := h_lit hz16 ci_2
        subst qz16
        refine h_str (pc' := 44) (x := (Int32.ofInt 115)) rfl rfl rfl rfl rfl ?_
        refine h_ceq (tg := 49) (pc' := 47) rfl rfl rfl hz20 ci_115 (fun c21 => ?_) (fun c21 => ?_)
        · refine h_iinc (pc' := 52) (b := 3) (M := fun z22 => [(2, .int z22), (0, .ref 64), (1, .ref 3)]) rfl rfl rfl rfl ci_2 ci_1 rfl (by omega) (by omega) (fun _ => rfl) (fun z22 hz22 => ?_)
          refine h_goto (pc' := 20) rfl rfl ?_
          refine h_iload_n (pc' := 21) rfl rfl rfl ?_
          refine h_aload_n (pc' := 22) rfl rfl rfl ?_
          refine h_str (pc' := 25) (x := (Int32.ofInt 7)) rfl rfl rfl rfl rfl ?_
          refine h_cge (tg := 55) (pc' := 28) rfl rfl rfl hz22 ci_7 (fun c23 => absurd c23 (by omega)) (fun c23 => ?_)
          refine h_aload_n (pc' := 29) rfl rfl rfl ?_
          refine h_getR (pc' := 32) rfl rfl rfl rfl rfl ?_
          refine h_aload_n (pc' := 33) rfl rfl rfl ?_
          refine h_getI (pc' := 36) (v := σ 64 4) rfl rfl rfl rfl rfl rfl (fun z24 hz24 => ?_)
          have tz24 := tf_64_4 hI
          refine h_iload_n (pc' := 37) rfl rfl rfl ?_
          refine h_iadd (pc' := 38) rfl rfl hz24 hz22 rfl (by omega) (by omega) (fun z25 hz25 => ?_)
          refine h_iald (pc' := 39) (v := σ 65 ((σ 64 4) + 3)) rfl rfl rfl hz25 (by omega) (by omega) rfl (fun z26 hz26 => ?_)
          have tz26 := ty_65 hI ((σ 64 4) + 3)
          refine h_aload_n (pc' := 40) rfl rfl rfl ?_
          refine h_iload_n (pc' := 41) rfl rfl rfl ?_
          have qz22 : z22 = (Int32.ofInt 3) := h_lit hz22 ci_3
          subst qz22
          refine h_str (pc' := 44) (x := (Int32.ofInt 116)) rfl rfl rfl rfl rfl ?_
          refine h_ceq (tg := 49) (pc' := 47) rfl rfl rfl hz26 ci_116 (fun c27 => ?_) (fun c27 => ?_)
          · refine h_iinc (pc' := 52) (b := 4) (M := fun z28 => [(2, .int z28), (0, .ref 64), (1, .ref 3)]) rfl rfl rfl rfl ci_3 ci_1 rfl (by omega) (by omega) (fun _ => rfl) (fun z28 hz28 => ?_)
            refine h_goto (pc' := 20) rfl rfl ?_
            refine h_iload_n (pc' := 21) rfl rfl rfl ?_
            refine h_aload_n (pc' := 22) rfl rfl rfl ?_
            refine h_str (pc' := 25) (x := (Int32.ofInt 7)) rfl rfl rfl rfl rfl ?_
            refine h_cge (tg := 55) (pc' := 28) rfl rfl rfl hz28 ci_7 (fun c29 => absurd c29 (by omega)) (fun c29 => ?_)
            refine h_aload_n (pc' := 29) rfl rfl rfl ?_
            refine h_getR (pc' := 32) rfl rfl rfl rfl rfl ?_
            refine h_aload_n (pc' := 33) rfl rfl rfl ?_
            refine h_getI (pc' := 36) (v := σ 64 4) rfl rfl rfl rfl rfl rfl (fun z30 hz30 => ?_)
            have tz30 := tf_64_4 hI
            refine h_iload_n (pc' := 37) rfl rfl rfl ?_
            refine h_iadd (pc' := 38) rfl rfl hz30 hz28 rfl (by omega) (by omega) (fun z31 hz31 => ?_)
            refine h_iald (pc' := 39) (v := σ 65 ((σ 64 4) + 4)) rfl rfl rfl hz31 (by omega) (by omega) rfl (fun z32 hz32 => ?_)
            have tz32 := ty_65 hI ((σ 64 4) + 4)
            refine h_aload_n (pc' := 40) rfl rfl rfl ?_
            refine h_iload_n (pc' := 41) rfl rfl rfl ?_
            have qz28 : z28 = (Int32.ofInt 4) := h_lit hz28 ci_4
            subst qz28
            refine h_str (pc' := 44) (x := (Int32.ofInt 97)) rfl rfl rfl rfl rfl ?_
            refine h_ceq (tg := 49) (pc' := 47) rfl rfl rfl hz32 ci_97 (fun c33 => ?_) (fun c33 => ?_)
            · refine h_iinc (pc' := 52) (b := 5) (M := fun z34 => [(2, .int z34), (0, .ref 64), (1, .ref 3)]) rfl rfl rfl rfl ci_4 ci_1 rfl (by omega) (by omega) (fun _ => rfl) (fun z34 hz34 => ?_)
              refine h_goto (pc' := 20) rfl rfl ?_
              refine h_iload_n (pc' := 21) rfl rfl rfl ?_
              refine h_aload_n (pc' := 22) rfl rfl rfl ?_
              refine h_str (pc' := 25) (x := (Int32.ofInt 7)) rfl rfl rfl rfl rfl ?_
              refine h_cge (tg := 55) (pc' := 28) rfl rfl rfl hz34 ci_7 (fun c35 => absurd c35 (by omega)) (fun c35 => ?_)
              refine h_aload_n (pc' := 29) rfl rfl rfl ?_
              refine h_getR (pc' := 32) rfl rfl rfl rfl rfl ?_
              refine h_aload_n (pc' := 33) rfl rfl rfl ?_
              refine h_getI (pc' := 36) (v := σ 64 4) rfl rfl rfl rfl rfl rfl (fun z36 hz36 => ?_)
              have tz36 := tf_64_4 hI
              refine h_iload_n (pc' := 37) rfl rfl rfl ?_
              refine h_iadd (pc' := 38) rfl rfl hz36 hz34 rfl (by omega) (by omega) (fun z37 hz37 => ?_)
              refine h_iald (pc' := 39) (v := σ 65 ((σ 64 4) + 5)) rfl rfl rfl hz37 (by omega) (by omega) rfl (fun z38 hz38 => ?_)
              have tz38 := ty_65 hI ((σ 64 4) + 5)
              refine h_aload_n (pc' := 40) rfl rfl rfl ?_
              refine h_iload_n (pc' := 41) rfl rfl rfl ?_
              have qz34 : z34 = (Int32.ofInt 5) := h_lit hz34 ci_5
              subst qz34
              refine h_str (pc' := 44) (x := (Int32.ofInt 114)) rfl rfl rfl rfl rfl ?_
              refine h_ceq (tg := 49) (pc' := 47) rfl rfl rfl hz38 ci_114 (fun c39 => ?_) (fun c39 => ?_)
              · refine h_iinc (pc' := 52) (b := 6) (M := fun z40 => [(2, .int z40), (0, .ref 64), (1, .ref 3)]) rfl rfl rfl rfl ci_5 ci_1 rfl (by omega) (by omega) (fun _ => rfl) (fun z40 hz40 => ?_)
                refine h_goto (pc' := 20) rfl rfl ?_
                refine h_iload_n (pc' := 21) rfl rfl rfl ?_
                refine h_aload_n (pc' := 22) rfl rfl rfl ?_
                refine h_str (pc' := 25) (x := (Int32.ofInt 7)) rfl rfl rfl rfl rfl ?_
                refine h_cge (tg := 55) (pc' := 28) rfl rfl rfl hz40 ci_7 (fun c41 => absurd c41 (by omega)) (fun c41 => ?_)
                refine h_aload_n (pc' := 29) rfl rfl rfl ?_
                refine h_getR (pc' := 32) rfl rfl rfl rfl rfl ?_
                refine h_aload_n (pc' := 33) rfl rfl rfl ?_
                refine h_getI (pc' := 36) (v := σ 64 4) rfl rfl rfl rfl rfl rfl (fun z42 hz42 => ?_)
                have tz42 := tf_64_4 hI
                refine h_iload_n (pc' := 37) rfl rfl rfl ?_
                refine h_iadd (pc' := 38) rfl rfl hz42 hz40 rfl (by omega) (by omega) (fun z43 hz43 => ?_)
                refine h_iald (pc' := 39) (v := σ 65 ((σ 64 4) + 6)) rfl rfl rfl hz43 (by omega) (by omega) rfl (fun z44 hz44 => ?_)
                have tz44 := ty_65 hI ((σ 64 4) + 6)
                refine h_aload_n (pc' := 40) rfl rfl rfl ?_
                refine h_iload_n (pc' := 41) rfl rfl rfl ?_
                have qz40 : z40 = (Int32.ofInt 6) := h_lit hz40 ci_6
                subst qz40
                refine h_str (pc' := 44) (x := (Int32.ofInt 100)) rfl rfl rfl rfl rfl ?_
                refine h_ceq (tg := 49) (pc' := 47) rfl rfl rfl hz44 ci_100 (fun c45 => ?_) (fun c45 => ?_)
                · refine h_iinc (pc' := 52) (b := 7) (M := fun z46 => [(2, .int z46), (0, .ref 64), (1, .ref 3)]) rfl rfl rfl rfl ci_6 ci_1 rfl (by omega) (by omega) (fun _ => rfl) (fun z46 hz46 => ?_)
                  refine h_goto (pc' := 20) rfl rfl ?_
                  refine h_iload_n (pc' := 21) rfl rfl rfl ?_
                  refine h_aload_n (pc' := 22) rfl rfl rfl ?_
                  refine h_str (pc' := 25) (x := (Int32.ofInt 7)) rfl rfl rfl rfl rfl ?_
                  refine h_cge (tg := 55) (pc' := 28) rfl rfl rfl hz46 ci_7 (fun c47 => ?_) (fun c47 => absurd c47 (by omega))
                  refine h_iconst (pc' := 56) (x := (Int32.ofInt 1)) rfl rfl rfl ?_
                  exact h_zret rfl rfl ci_1 (by omega) (kk _ _ ci_1 (by omega) (Or.inl ⟨rfl, by omega, by omega, by omega, by omega, by omega, by omega, by omega, by omega⟩))
                · refine h_iconst (pc' := 48) (x := (Int32.ofInt 0)) rfl rfl rfl ?_
                  exact h_zret rfl rfl ci_0 (by omega) (kk _ _ ci_0 (by omega) (Or.inr ⟨rfl, fun h => by unfold g_nm2 at h; omega⟩))
              · refine h_iconst (pc' := 48) (x := (Int32.ofInt 0)) rfl rfl rfl ?_
                exact h_zret rfl rfl ci_0 (by omega) (kk _ _ ci_0 (by omega) (Or.inr ⟨rfl, fun h => by unfold g_nm2 at h; omega⟩))
            · refine h_iconst (pc' := 48) (x := (Int32.ofInt 0)) rfl rfl rfl ?_
              exact h_zret rfl rfl ci_0 (by omega) (kk _ _ ci_0 (by omega) (Or.inr ⟨rfl, fun h => by unfold g_nm2 at h; omega⟩))
          · refine h_iconst (pc' := 48) (x := (Int32.ofInt 0)) rfl rfl rfl ?_
            exact h_zret rfl rfl ci_0 (by omega) (kk _ _ ci_0 (by omega) (Or.inr ⟨rfl, fun h => by unfold g_nm2 at h; omega⟩))
        · refine h_iconst (pc' := 48) (x := (Int32.ofInt 0)) rfl rfl rfl ?_
          exact h_zret rfl rfl ci_0 (by omega) (kk _ _ ci_0 (by omega) (Or.inr ⟨rfl, fun h => by unfold g_nm2 at h; omega⟩))
      · refine h_iconst (pc' := 48) (x := (Int32.ofInt 0)) rfl rfl rfl ?_
        exact h_zret rfl rfl ci_0 (by omega) (kk _ _ ci_0 (by omega) (Or.inr ⟨rfl, fun h => by unfold g_nm2 at h; omega⟩))
    · refine h_iconst (pc' := 48) (x := (Int32.ofInt 0)) rfl rfl rfl ?_
      exact h_zret rfl rfl ci_0 (by omega) (kk _ _ ci_0 (by omega) (Or.inr ⟨rfl, fun h => by unfold g_nm2 at h; omega⟩))
  · refine h_iconst (pc' := 17) (x := (Int32.ofInt 0)) rfl rfl rfl ?_
    exact h_zret rfl rfl ci_0 (by omega) (kk _ _ ci_0 (by omega) (Or.inr ⟨rfl, fun h => by unfold g_nm2 at h; omega⟩))
theorem n_isName3 {ns : Nat} (σ : h_S) (hI : h_I σ) {Q : Option Value → h_S → Prop} (kk : ∀ (r : Int32) (b : Int) (hb : r.toInt = b), (0 ≤ b ∧ b ≤ 1) → ((b = 1 ∧ g_nm3 (σ 65) (σ 64 4) (σ 64 2 - σ 64 4)) ∨ (b = 0 ∧ ¬ g_nm3 (σ 65) (σ 64 4) (σ 64 2 - σ 64 4))) → Q (some (.int r)) σ) : h_T g_P (g_Y ns) 77 0 [(0, .ref 64), (1, .ref 4)] [] σ Q := by
  have ge0 := tf_64_2 hI
  have ge1 := tf_64_4 hI
  refine h_aload_n (pc' := 1) rfl rfl rfl ?_
  refine h_getI (pc' := 4) (v := σ 64 2) rfl rfl rfl rfl rfl rfl (fun z1 hz1 => ?_)
  have tz1 := tf_64_2 hI
  refine h_aload_n (pc' := 5) rfl rfl rfl ?_
  refine h_getI (pc' := 8) (v := σ 64 4) rfl rfl rfl rfl rfl rfl (fun z2 hz2 => ?_)
  have tz2 := tf_64_4 hI
  refine h_isub (pc' := 9) rfl rfl hz1 hz2 rfl (by omega) (by omega) (fun z3 hz3 => ?_)
  refine h_aload_n (pc' := 10) rfl rfl rfl ?_
  refine h_str (pc' := 13) (x := (Int32.ofInt 8)) rfl rfl rfl rfl rfl ?_
  refine h_ceq (tg := 18) (pc' := 16) rfl rfl rfl hz3 ci_8 (fun c4 => ?_) (fun c4 => ?_)
  · refine h_iconst (pc' := 19) (x := (Int32.ofInt 0)) rfl rfl rfl ?_
    refine h_istore_n (pc' := 20) (M := [(2, .int (Int32.ofInt 0)), (0, .ref 64), (1, .ref 4)]) rfl rfl rfl rfl ?_
    refine h_iload_n (pc' := 21) rfl rfl rfl ?_
    refine h_aload_n (pc' := 22) rfl rfl rfl ?_
    refine h_str (pc' := 25) (x := (Int32.ofInt 8)) rfl rfl rfl rfl rfl ?_
    refine h_cge (tg := 55) (pc' := 28) rfl rfl rfl ci_0 ci_8 (fun c5 => absurd c5 (by omega)) (fun c5 => ?_)
    refine h_aload_n (pc' := 29) rfl rfl rfl ?_
    refine h_getR (pc' := 32) rfl rfl rfl rfl rfl ?_
    refine h_aload_n (pc' := 33) rfl rfl rfl ?_
    refine h_getI (pc' := 36) (v := σ 64 4) rfl rfl rfl rfl rfl rfl (fun z6 hz6 => ?_)
    have tz6 := tf_64_4 hI
    refine h_iload_n (pc' := 37) rfl rfl rfl ?_
    refine h_iadd (pc' := 38) rfl rfl hz6 ci_0 rfl (by omega) (by omega) (fun z7 hz7 => ?_)
    refine h_iald (pc' := 39) (v := σ 65 ((σ 64 4) + 0)) rfl rfl rfl hz7 (by omega) (by omega) rfl (fun z8 hz8 => ?_)
    have tz8 := ty_65 hI ((σ 64 4) + 0)
    refine h_aload_n (pc' := 40) rfl rfl rfl ?_
    refine h_iload_n (pc' := 41) rfl rfl rfl ?_
    refine h_str (pc' := 44) (x := (Int32.ofInt 101)) rfl rfl rfl rfl rfl ?_
    refine h_ceq (tg := 49) (pc' := 47) rfl rfl rfl hz8 ci_101 (fun c9 => ?_) (fun c9 => ?_)
    · refine h_iinc (pc' := 52) (b := 1) (M := fun z10 => [(2, .int z10), (0, .ref 64), (1, .ref 4)]) rfl rfl rfl rfl ci_0 ci_1 rfl (by omega) (by omega) (fun _ => rfl) (fun z10 hz10 => ?_)
      refine h_goto (pc' := 20) rfl rfl ?_
      refine h_iload_n (pc' := 21) rfl rfl rfl ?_
      refine h_aload_n (pc' := 22) rfl rfl rfl ?_
      refine h_str (pc' := 25) (x := (Int32.ofInt 8)) rfl rfl rfl rfl rfl ?_
      refine h_cge (tg := 55) (pc' := 28) rfl rfl rfl hz10 ci_8 (fun c11 => absurd c11 (by omega)) (fun c11 => ?_)
      refine h_aload_n (pc' := 29) rfl rfl rfl ?_
      refine h_getR (pc' := 32) rfl rfl rfl rfl rfl ?_
      refine h_aload_n (pc' := 33) rfl rfl rfl ?_
      refine h_getI (pc' := 36) (v := σ 64 4) rfl rfl rfl rfl rfl rfl (fun z12 hz12 => ?_)
      have tz12 := tf_64_4 hI
      refine h_iload_n (pc' := 37) rfl rfl rfl ?_
      refine h_iadd (pc' := 38) rfl rfl hz12 hz10 rfl (by omega) (by omega) (fun z13 hz13 => ?_)
      refine h_iald (pc' := 39) (v := σ 65 ((σ 64 4) + 1)) rfl rfl rfl hz13 (by omega) (by omega) rfl (fun z14 hz14 => ?_)
      have tz14 := ty_65 hI ((σ 64 4) + 1)
      refine h_aload_n (pc' := 40) rfl rfl rfl ?_
      refine h_iload_n (pc' := 41) rfl rfl rfl ?_
      have qz10 : z10 = (Int32.ofInt 1) := h_lit hz10 ci_1
      subst qz10
      refine h_str (pc' := 44) (x := (Int32.ofInt 115)) rfl rfl rfl rfl rfl ?_
      refine h_ceq (tg := 49) (pc' := 47) rfl rfl rfl hz14 ci_115 (fun c15 => ?_) (fun c15 => ?_)
      · refine h_iinc (pc' := 52) (b := 2) (M := fun z16 => [(2, .int z16), (0, .ref 64), (1, .ref 4)]) rfl rfl rfl rfl ci_1 ci_1 rfl (by omega) (by omega) (fun _ => rfl) (fun z16 hz16 => ?_)
        refine h_goto (pc' := 20) rfl rfl ?_
        refine h_iload_n (pc' := 21) rfl rfl rfl ?_
        refine h_aload_n (pc' := 22) rfl rfl rfl ?_
        refine h_str (pc' := 25) (x := (Int32.ofInt 8)) rfl rfl rfl rfl rfl ?_
        refine h_cge (tg := 55) (pc' := 28) rfl rfl rfl hz16 ci_8 (fun c17 => absurd c17 (by omega)) (fun c17 => ?_)
        refine h_aload_n (pc' := 29) rfl rfl rfl ?_
        refine h_getR (pc' := 32) rfl rfl rfl rfl rfl ?_
        refine h_aload_n (pc' := 33) rfl rfl rfl ?_
        refine h_getI (pc' := 36) (v := σ 64 4) rfl rfl rfl rfl rfl rfl (fun z18 hz18 => ?_)
        have tz18 := tf_64_4 hI
        refine h_iload_n (pc' := 37) rfl rfl rfl ?_
        refine h_iadd (pc' := 38) rfl rfl hz18 hz16 rfl (by omega) (by omega) (fun z19 hz19 => ?_)
        refine h_iald (pc' := 39) (v := σ 65 ((σ 64 4) + 2)) rfl rfl rfl hz19 (by omega) (by omega) rfl (fun z20 hz20 => ?_)
        have tz20 := ty_65 hI ((σ 64 4) + 2)
        refine h_aload_n (pc' := 40) rfl rfl rfl ?_
        refine h_iload_n (pc' := 41) rfl rfl rfl ?_
        have qz16 : z16 = (Int32.ofInt 2) := h_lit hz16 ci_2
        subst qz16
        refine h_str (pc' := 44) (x := (Int32.ofInt 116)) rfl rfl rfl rfl rfl ?_
        refine h_ceq (tg := 49) (pc' := 47) rfl rfl rfl hz20 ci_116 (fun c21 => ?_) (fun c21 => ?_)
        · refine h_iinc (pc' := 52) (b := 3) (M := fun z22 => [(2, .int z22), (0, .ref 64), (1, .ref 4)]) rfl rfl rfl rfl ci_2 ci_1 rfl (by omega) (by omega) (fun _ => rfl) (fun z22 hz22 => ?_)
          refine h_goto (pc' := 20) rfl rfl ?_
          refine h_iload_n (pc' := 21) rfl rfl rfl ?_
          refine h_aload_n (pc' := 22) rfl rfl rfl ?_
          refine h_str (pc' := 25) (x := (Int32.ofInt 8)) rfl rfl rfl rfl rfl ?_
          refine h_cge (tg := 55) (pc' := 28) rfl rfl rfl hz22 ci_8 (fun c23 => absurd c23 (by omega)) (fun c23 => ?_)
          refine h_aload_n (pc' := 29) rfl rfl rfl ?_
          refine h_getR (pc' := 32) rfl rfl rfl rfl rfl ?_
          refine h_aload_n (pc' := 33) rfl rfl rfl ?_
          refine h_getI (pc' := 36) (v := σ 64 4) rfl rfl rfl rfl rfl rfl (fun z24 hz24 => ?_)
          have tz24 := tf_64_4 hI
          refine h_iload_n (pc' := 37) rfl rfl rfl ?_
          refine h_iadd (pc' := 38) rfl rfl hz24 hz22 rfl (by omega) (by omega) (fun z25 hz25 => ?_)
          refine h_iald (pc' := 39) (v := σ 65 ((σ 64 4) + 3)) rfl rfl rfl hz25 (by omega) (by omega) rfl (fun z26 hz26 => ?_)
          have tz26 := ty_65 hI ((σ 64 4) + 3)
          refine h_aload_n (pc' := 40) rfl rfl rfl ?_
          refine h_iload_n (pc' := 41) rfl rfl rfl ?_
          have qz22 : z22 = (Int32.ofInt 3) := h_lit hz22 ci_3
          subst qz22
          refine h_str (pc' := 44) (x := (Int32.ofInt 114)) rfl rfl rfl rfl rfl ?_
          refine h_ceq (tg := 49) (pc' := 47) rfl rfl rfl hz26 ci_114 (fun c27 => ?_) (fun c27 => ?_)
          · refine h_iinc (pc' := 52) (b := 4) (M := fun z28 => [(2, .int z28), (0, .ref 64), (1, .ref 4)]) rfl rfl rfl rfl ci_3 ci_1 rfl (by omega) (by omega) (fun _ => rfl) (fun z28 hz28 => ?_)
            refine h_goto (pc' := 20) rfl rfl ?_
            refine h_iload_n (pc' := 21) rfl rfl rfl ?_
            refine h_aload_n (pc' := 22) rfl rfl rfl ?_
            refine h_str (pc' := 25) (x := (Int32.ofInt 8)) rfl rfl rfl rfl rfl ?_
            refine h_cge (tg := 55) (pc' := 28) rfl rfl rfl hz28 ci_8 (fun c29 => absurd c29 (by omega)) (fun c29 => ?_)
            refine h_aload_n (pc' := 29) rfl rfl rfl ?_
            refine h_getR (pc' := 32) rfl rfl rfl rfl rfl ?_
            refine h_aload_n (pc' := 33) rfl rfl rfl ?_
            refine h_getI (pc' := 36) (v := σ 64 4) rfl rfl rfl rfl rfl rfl (fun z30 hz30 => ?_)
            have tz30 := tf_64_4 hI
            refine h_iload_n (pc' := 37) rfl rfl rfl ?_
            refine h_iadd (pc' := 38) rfl rfl hz30 hz28 rfl (by omega) (by omega) (fun z31 hz31 => ?_)
            refine h_iald (pc' := 39) (v := σ 65 ((σ 64 4) + 4)) rfl rfl rfl hz31 (by omega) (by omega) rfl (fun z32 hz32 => ?_)
            have tz32 := ty_65 hI ((σ 64 4) + 4)
            refine h_aload_n (pc' := 40) rfl rfl rfl ?_
            refine h_iload_n (pc' := 41) rfl rfl rfl ?_
            have qz28 : z28 = (Int32.ofInt 4) := h_lit hz28 ci_4
            subst qz28
            refine h_str (pc' := 44) (x := (Int32.ofInt 97)) rfl rfl rfl rfl rfl ?_
            refine h_ceq (tg := 49) (pc' := 47) rfl rfl rfl hz32 ci_97 (fun c33 => ?_) (fun c33 => ?_)
            · refine h_iinc (pc' := 52) (b := 5) (M := fun z34 => [(2, .int z34), (0, .ref 64), (1, .ref 4)]) rfl rfl rfl rfl ci_4 ci_1 rfl (by omega) (by omega) (fun _ => rfl) (fun z34 hz34 => ?_)
              refine h_goto (pc' := 20) rfl rfl ?_
              refine h_iload_n (pc' := 21) rfl rfl rfl ?_
              refine h_aload_n (pc' := 22) rfl rfl rfl ?_
              refine h_str (pc' := 25) (x := (Int32.ofInt 8)) rfl rfl rfl rfl rfl ?_
              refine h_cge (tg := 55) (pc' := 28) rfl rfl rfl hz34 ci_8 (fun c35 => absurd c35 (by omega)) (fun c35 => ?_)
              refine h_aload_n (pc' := 29) rfl rfl rfl ?_
              refine h_getR (pc' := 32) rfl rfl rfl rfl rfl ?_
              refine h_aload_n (pc' := 33) rfl rfl rfl ?_
              refine h_getI (pc' := 36) (v := σ 64 4) rfl rfl rfl rfl rfl rfl (fun z36 hz36 => ?_)
              have tz36 := tf_64_4 hI
              refine h_iload_n (pc' := 37) rfl rfl rfl ?_
              refine h_iadd (pc' := 38) rfl rfl hz36 hz34 rfl (by omega) (by omega) (fun z37 hz37 => ?_)
              refine h_iald (pc' := 39) (v := σ 65 ((σ 64 4) + 5)) rfl rfl rfl hz37 (by omega) (by omega) rfl (fun z38 hz38 => ?_)
              have tz38 := ty_65 hI ((σ 64 4) + 5)
              refine h_aload_n (pc' := 40) rfl rfl rfl ?_
              refine h_iload_n (pc' := 41) rfl rfl rfl ?_
              have qz34 : z34 = (Int32.ofInt 5) := h_lit hz34 ci_5
              subst qz34
              refine h_str (pc' := 44) (x := (Int32.ofInt 110)) rfl rfl rfl rfl rfl ?_
              refine h_ceq (tg := 49) (pc' := 47) rfl rfl rfl hz38 ci_110 (fun c39 => ?_) (fun c39 => ?_)
              · refine h_iinc (pc' := 52) (b := 6) (M := fun z40 => [(2, .int z40), (0, .ref 64), (1, .ref 4)]) rfl rfl rfl rfl ci_5 ci_1 rfl (by omega) (by omega) (fun _ => rfl) (fun z40 hz40 => ?_)
                refine h_goto (pc' := 20) rfl rfl ?_
                refine h_iload_n (pc' := 21) rfl rfl rfl ?_
                refine h_aload_n (pc' := 22) rfl rfl rfl ?_
                refine h_str (pc' := 25) (x := (Int32.ofInt 8)) rfl rfl rfl rfl rfl ?_
                refine h_cge (tg := 55) (pc' := 28) rfl rfl rfl hz40 ci_8 (fun c41 => absurd c41 (by omega)) (fun c41 => ?_)
                refine h_aload_n (pc' := 29) rfl rfl rfl ?_
                refine h_getR (pc' := 32) rfl rfl rfl rfl rfl ?_
                refine h_aload_n (pc' := 33) rfl rfl rfl ?_
                refine h_getI (pc' := 36) (v := σ 64 4) rfl rfl rfl rfl rfl rfl (fun z42 hz42 => ?_)
                have tz42 := tf_64_4 hI
                refine h_iload_n (pc' := 37) rfl rfl rfl ?_
                refine h_iadd (pc' := 38) rfl rfl hz42 hz40 rfl (by omega) (by omega) (fun z43 hz43 => ?_)
                refine h_iald (pc' := 39) (v := σ 65 ((σ 64 4) + 6)) rfl rfl rfl hz43 (by omega) (by omega) rfl (fun z44 hz44 => ?_)
                have tz44 := ty_65 hI ((σ 64 4) + 6)
                refine h_aload_n (pc' := 40) rfl rfl rfl ?_
                refine h_iload_n (pc' := 41) rfl rfl rfl ?_
                have qz40 : z40 = (Int32.ofInt 6) := h_lit hz40 ci_6
                subst qz40
                refine h_str (pc' := 44) (x := (Int32.ofInt 103)) rfl rfl rfl rfl rfl ?_
                refine h_ceq (tg := 49) (pc' := 47) rfl rfl rfl hz44 ci_103 (fun c45 => ?_) (fun c45 => ?_)
                · refine h_iinc (pc' := 52) (b := 7) (M := fun z46 => [(2, .int z46), (0, .ref 64), (1, .ref 4)]) rfl rfl rfl rfl ci_6 ci_1 rfl (by omega) (by omega) (fun _ => rfl) (fun z46 hz46 => ?_)
                  refine h_goto (pc' := 20) rfl rfl ?_
                  refine h_iload_n (pc' := 21) rfl rfl rfl ?_
                  refine h_aload_n (pc' := 22) rfl rfl rfl ?_
                  refine h_str (pc' := 25) (x := (Int32.ofInt 8)) rfl rfl rfl rfl rfl ?_
                  refine h_cge (tg := 55) (pc' := 28) rfl rfl rfl hz46 ci_8 (fun c47 => absurd c47 (by omega)) (fun c47 => ?_)
                  refine h_aload_n (pc' := 29) rfl rfl rfl ?_
                  refine h_getR (pc' := 32) rfl rfl rfl rfl rfl ?_
                  refine h_aload_n (pc' := 33) rfl rfl rfl ?_
                  refine h_getI (pc' := 36) (v := σ 64 4) rfl rfl rfl rfl rfl rfl (fun z48 hz48 => ?_)
                  have tz48 := tf_64_4 hI
                  refine h_iload_n (pc' := 37) rfl rfl rfl ?_
                  refine h_iadd (pc' := 38) rfl rfl hz48 hz46 rfl (by omega) (by omega) (fun z49 hz49 => ?_)
                  refine h_iald (pc' := 39) (v := σ 65 ((σ 64 4) + 7)) rfl rfl rfl hz49 (by omega) (by omega) rfl (fun z50 hz50 => ?_)
                  have tz50 := ty_65 hI ((σ 64 4) + 7)
                  refine h_aload_n (pc' := 40) rfl rfl rfl ?_
                  refine h_iload_n (pc' := 41) rfl rfl rfl ?_
                  have qz46 : z46 = (Int32.ofInt 7) := h_lit hz46 ci_7
                  subst qz46
                  refine h_str (pc' := 44) (x := (Int32.ofInt 101)) rfl rfl rfl rfl rfl ?_
                  refine h_ceq (tg := 49) (pc' := 47) rfl rfl rfl hz50 ci_101 (fun c51 => ?_) (fun c51 => ?_)
                  · refine h_iinc (pc' := 52) (b := 8) (M := fun z52 => [(2, .int z52), (0, .ref 64), (1, .ref 4)]) rfl rfl rfl rfl ci_7 ci_1 rfl (by omega) (by omega) (fun _ => rfl) (fun z52 hz52 => ?_)
                    refine h_goto (pc' := 20) rfl rfl ?_
                    refine h_iload_n (pc' := 21) rfl rfl rfl ?_
                    refine h_aload_n (pc' := 22) rfl rfl rfl ?_
                    refine h_str (pc' := 25) (x := (Int32.ofInt 8)) rfl rfl rfl rfl rfl ?_
                    refine h_cge (tg := 55) (pc' := 28) rfl rfl rfl hz52 ci_8 (fun c53 => ?_) (fun c53 => absurd c53 (by omega))
                    refine h_iconst (pc' := 56) (x := (Int32.ofInt 1)) rfl rfl rfl ?_
                    exact h_zret rfl rfl ci_1 (by omega) (kk _ _ ci_1 (by omega) (Or.inl ⟨rfl, by omega, by omega, by omega, by omega, by omega, by omega, by omega, by omega, by omega⟩))
                  · refine h_iconst (pc' := 48) (x := (Int32.ofInt 0)) rfl rfl rfl ?_
                    exact h_zret rfl rfl ci_0 (by omega) (kk _ _ ci_0 (by omega) (Or.inr ⟨rfl, fun h => by unfold g_nm3 at h; omega⟩))
                · refine h_iconst (pc' := 48) (x := (Int32.ofInt 0)) rfl rfl rfl ?_
                  exact h_zret rfl rfl ci_0 (by omega) (kk _ _ ci_0 (by omega) (Or.inr ⟨rfl, fun h => by unfold g_nm3 at h; omega⟩))
              · refine h_iconst (pc' := 48) (x := (Int32.ofInt 0)) rfl rfl rfl ?_
                exact h_zret rfl rfl ci_0 (by omega) (kk _ _ ci_0 (by omega) (Or.inr ⟨rfl, fun h => by unfold g_nm3 at h; omega⟩))
            · refine h_iconst (pc' := 48) (x := (Int32.ofInt 0)) rfl rfl rfl ?_
              exact h_zret rfl rfl ci_0 (by omega) (kk _ _ ci_0 (by omega) (Or.inr ⟨rfl, fun h => by unfold g_nm3 at h; omega⟩))
          · refine h_iconst (pc' := 48) (x := (Int32.ofInt 0)) rfl rfl rfl ?_
            exact h_zret rfl rfl ci_0 (by omega) (kk _ _ ci_0 (by omega) (Or.inr ⟨rfl, fun h => by unfold g_nm3 at h; omega⟩))
        · refine h_iconst (pc' := 48) (x := (Int32.ofInt 0)) rfl rfl rfl ?_
          exact h_zret rfl rfl ci_0 (by omega) (kk _ _ ci_0 (by omega) (Or.inr ⟨rfl, fun h => by unfold g_nm3 at h; omega⟩))
      · refine h_iconst (pc' := 48) (x := (Int32.ofInt 0)) rfl rfl rfl ?_
        exact h_zret rfl rfl ci_0 (by omega) (kk _ _ ci_0 (by omega) (Or.inr ⟨rfl, fun h => by unfold g_nm3 at h; omega⟩))
    · refine h_iconst (pc' := 48) (x := (Int32.ofInt 0)) rfl rfl rfl ?_
      exact h_zret rfl rfl ci_0 (by omega) (kk _ _ ci_0 (by omega) (Or.inr ⟨rfl, fun h => by unfold g_nm3 at h; omega⟩))
  · refine h_iconst (pc' := 17) (x := (Int32.ofInt 0)) rfl rfl rfl ?_
    exact h_zret rfl rfl ci_0 (by omega) (kk _ _ ci_0 (by omega) (Or.inr ⟨rfl, fun h => by unfold g_nm3 at h; omega⟩))
theorem n_isName4 {ns : Nat} (σ : h_S) (hI : h_I σ) {Q : Option Value → h_S → Prop} (kk : ∀ (r : Int32) (b : Int) (hb : r.toInt = b), (0 ≤ b ∧ b ≤ 1) → ((b = 1 ∧ g_nm4 (σ 65) (σ 64 4) (σ 64 2 - σ 64 4)) ∨ (b = 0 ∧ ¬ g_nm4 (σ 65) (σ 64 4) (σ 64 2 - σ 64 4))) → Q (some (.int r)) σ) : h_T g_P (g_Y ns) 77 0 [(0, .ref 64), (1, .ref 5)] [] σ Q := by
  have ge0 := tf_64_2 hI
  have ge1 := tf_64_4 hI
  refine h_aload_n (pc' := 1) rfl rfl rfl ?_
  refine h_getI (pc' := 4) (v := σ 64 2) rfl rfl rfl rfl rfl rfl (fun z1 hz1 => ?_)
  have tz1 := tf_64_2 hI
  refine h_aload_n (pc' := 5) rfl rfl rfl ?_
  refine h_getI (pc' := 8) (v := σ 64 4) rfl rfl rfl rfl rfl rfl (fun z2 hz2 => ?_)
  have tz2 := tf_64_4 hI
  refine h_isub (pc' := 9) rfl rfl hz1 hz2 rfl (by omega) (by omega) (fun z3 hz3 => ?_)
  refine h_aload_n (pc' := 10) rfl rfl rfl ?_
  refine h_str (pc' := 13) (x := (Int32.ofInt 5)) rfl rfl rfl rfl rfl ?_
  refine h_ceq (tg := 18) (pc' := 16) rfl rfl rfl hz3 ci_5 (fun c4 => ?_) (fun c4 => ?_)
  · refine h_iconst (pc' := 19) (x := (Int32.ofInt 0)) rfl rfl rfl ?_
    refine h_istore_n (pc' := 20) (M := [(2, .int (Int32.ofInt 0)), (0, .ref 64), (1, .ref 5)]) rfl rfl rfl rfl ?_
    refine h_iload_n (pc' := 21) rfl rfl rfl ?_
    refine h_aload_n (pc' := 22) rfl rfl rfl ?_
    refine h_str (pc' := 25) (x := (Int32.ofInt 5)) rfl rfl rfl rfl rfl ?_
    refine h_cge (tg := 55) (pc' := 28) rfl rfl rfl ci_0 ci_5 (fun c5 => absurd c5 (by omega)) (fun c5 => ?_)
    refine h_aload_n (pc' := 29) rfl rfl rfl ?_
    refine h_getR (pc' := 32) rfl rfl rfl rfl rfl ?_
    refine h_aload_n (pc' := 33) rfl rfl rfl ?_
    refine h_getI (pc' := 36) (v := σ 64 4) rfl rfl rfl rfl rfl rfl (fun z6 hz6 => ?_)
    have tz6 := tf_64_4 hI
    refine h_iload_n (pc' := 37) rfl rfl rfl ?_
    refine h_iadd (pc' := 38) rfl rfl hz6 ci_0 rfl (by omega) (by omega) (fun z7 hz7 => ?_)
    refine h_iald (pc' := 39) (v := σ 65 ((σ 64 4) + 0)) rfl rfl rfl hz7 (by omega) (by omega) rfl (fun z8 hz8 => ?_)
    have tz8 := ty_65 hI ((σ 64 4) + 0)
    refine h_aload_n (pc' := 40) rfl rfl rfl ?_
    refine h_iload_n (pc' := 41) rfl rfl rfl ?_
    refine h_str (pc' := 44) (x := (Int32.ofInt 109)) rfl rfl rfl rfl rfl ?_
    refine h_ceq (tg := 49) (pc' := 47) rfl rfl rfl hz8 ci_109 (fun c9 => ?_) (fun c9 => ?_)
    · refine h_iinc (pc' := 52) (b := 1) (M := fun z10 => [(2, .int z10), (0, .ref 64), (1, .ref 5)]) rfl rfl rfl rfl ci_0 ci_1 rfl (by omega) (by omega) (fun _ => rfl) (fun z10 hz10 => ?_)
      refine h_goto (pc' := 20) rfl rfl ?_
      refine h_iload_n (pc' := 21) rfl rfl rfl ?_
      refine h_aload_n (pc' := 22) rfl rfl rfl ?_
      refine h_str (pc' := 25) (x := (Int32.ofInt 5)) rfl rfl rfl rfl rfl ?_
      refine h_cge (tg := 55) (pc' := 28) rfl rfl rfl hz10 ci_5 (fun c11 => absurd c11 (by omega)) (fun c11 => ?_)
      refine h_aload_n (pc' := 29) rfl rfl rfl ?_
      refine h_getR (pc' := 32) rfl rfl rfl rfl rfl ?_
      refine h_aload_n (pc' := 33) rfl rfl rfl ?_
      refine h_getI (pc' := 36) (v := σ 64 4) rfl rfl rfl rfl rfl rfl (fun z12 hz12 => ?_)
      have tz12 := tf_64_4 hI
      refine h_iload_n (pc' := 37) rfl rfl rfl ?_
      refine h_iadd (pc' := 38) rfl rfl hz12 hz10 rfl (by omega) (by omega) (fun z13 hz13 => ?_)
      refine h_iald (pc' := 39) (v := σ 65 ((σ 64 4) + 1)) rfl rfl rfl hz13 (by omega) (by omega) rfl (fun z14 hz14 => ?_)
      have tz14 := ty_65 hI ((σ 64 4) + 1)
      refine h_aload_n (pc' := 40) rfl rfl rfl ?_
      refine h_iload_n (pc' := 41) rfl rfl rfl ?_
      have qz10 : z10 = (Int32.ofInt 1) := h_lit hz10 ci_1
      subst qz10
      refine h_str (pc' := 44) (x := (Int32.ofInt 97)) rfl rfl rfl rfl rfl ?_
      refine h_ceq (tg := 49) (pc' := 47) rfl rfl rfl hz14 ci_97 (fun c15 => ?_) (fun c15 => ?_)
      · refine h_iinc (pc' := 52) (b := 2) (M := fun z16 => [(2, .int z16), (0, .ref 64), (1, .ref 5)]) rfl rfl rfl rfl ci_1 ci_1 rfl (by omega) (by omega) (fun _ => rfl) (fun z16 hz16 => ?_)
        refine h_goto (pc' := 20) rfl rfl ?_
        refine h_iload_n (pc' := 21) rfl rfl rfl ?_
        refine h_aload_n (pc' := 22) rfl rfl rfl ?_
        refine h_str (pc' := 25) (x := (Int32.ofInt 5)) rfl rfl rfl rfl rfl ?_
        refine h_cge (tg := 55) (pc' := 28) rfl rfl rfl hz16 ci_5 (fun c17 => absurd c17 (by omega)) (fun c17 => ?_)
        refine h_aload_n (pc' := 29) rfl rfl rfl ?_
        refine h_getR (pc' := 32) rfl rfl rfl rfl rfl ?_
        refine h_aload_n (pc' := 33) rfl rfl rfl ?_
        refine h_getI (pc' := 36) (v := σ 64 4) rfl rfl rfl rfl rfl rfl (fun z18 hz18 => ?_)
        have tz18 := tf_64_4 hI
        refine h_iload_n (pc' := 37) rfl rfl rfl ?_
        refine h_iadd (pc' := 38) rfl rfl hz18 hz16 rfl (by omega) (by omega) (fun z19 hz19 => ?_)
        refine h_iald (pc' := 39) (v := σ 65 ((σ 64 4) + 2)) rfl rfl rfl hz19 (by omega) (by omega) rfl (fun z20 hz20 => ?_)
        have tz20 := ty_65 hI ((σ 64 4) + 2)
        refine h_aload_n (pc' := 40) rfl rfl rfl ?_
        refine h_iload_n (pc' := 41) rfl rfl rfl ?_
        have qz16 : z16 = (Int32.ofInt 2) := h_lit hz16 ci_2
        subst qz16
        refine h_str (pc' := 44) (x := (Int32.ofInt 114)) rfl rfl rfl rfl rfl ?_
        refine h_ceq (tg := 49) (pc' := 47) rfl rfl rfl hz20 ci_114 (fun c21 => ?_) (fun c21 => ?_)
        · refine h_iinc (pc' := 52) (b := 3) (M := fun z22 => [(2, .int z22), (0, .ref 64), (1, .ref 5)]) rfl rfl rfl rfl ci_2 ci_1 rfl (by omega) (by omega) (fun _ => rfl) (fun z22 hz22 => ?_)
          refine h_goto (pc' := 20) rfl rfl ?_
          refine h_iload_n (pc' := 21) rfl rfl rfl ?_
          refine h_aload_n (pc' := 22) rfl rfl rfl ?_
          refine h_str (pc' := 25) (x := (Int32.ofInt 5)) rfl rfl rfl rfl rfl ?_
          refine h_cge (tg := 55) (pc' := 28) rfl rfl rfl hz22 ci_5 (fun c23 => absurd c23 (by omega)) (fun c23 => ?_)
          refine h_aload_n (pc' := 29) rfl rfl rfl ?_
          refine h_getR (pc' := 32) rfl rfl rfl rfl rfl ?_
          refine h_aload_n (pc' := 33) rfl rfl rfl ?_
          refine h_getI (pc' := 36) (v := σ 64 4) rfl rfl rfl rfl rfl rfl (fun z24 hz24 => ?_)
          have tz24 := tf_64_4 hI
          refine h_iload_n (pc' := 37) rfl rfl rfl ?_
          refine h_iadd (pc' := 38) rfl rfl hz24 hz22 rfl (by omega) (by omega) (fun z25 hz25 => ?_)
          refine h_iald (pc' := 39) (v := σ 65 ((σ 64 4) + 3)) rfl rfl rfl hz25 (by omega) (by omega) rfl (fun z26 hz26 => ?_)
          have tz26 := ty_65 hI ((σ 64 4) + 3)
          refine h_aload_n (pc' := 40) rfl rfl rfl ?_
          refine h_iload_n (pc' := 41) rfl rfl rfl ?_
          have qz22 : z22 = (Int32.ofInt 3) := h_lit hz22 ci_3
          subst qz22
          refine h_str (pc' := 44) (x := (Int32.ofInt 114)) rfl rfl rfl rfl rfl ?_
          refine h_ceq (tg := 49) (pc' := 47) rfl rfl rfl hz26 ci_114 (fun c27 => ?_) (fun c27 => ?_)
          · refine h_iinc (pc' := 52) (b := 4) (M := fun z28 => [(2, .int z28), (0, .ref 64), (1, .ref 5)]) rfl rfl rfl rfl ci_3 ci_1 rfl (by omega) (by omega) (fun _ => rfl) (fun z28 hz28 => ?_)
            refine h_goto (pc' := 20) rfl rfl ?_
            refine h_iload_n (pc' := 21) rfl rfl rfl ?_
            refine h_aload_n (pc' := 22) rfl rfl rfl ?_
            refine h_str (pc' := 25) (x := (Int32.ofInt 5)) rfl rfl rfl rfl rfl ?_
            refine h_cge (tg := 55) (pc' := 28) rfl rfl rfl hz28 ci_5 (fun c29 => absurd c29 (by omega)) (fun c29 => ?_)
            refine h_aload_n (pc' := 29) rfl rfl rfl ?_
            refine h_getR (pc' := 32) rfl rfl rfl rfl rfl ?_
            refine h_aload_n (pc' := 33) rfl rfl rfl ?_
            refine h_getI (pc' := 36) (v := σ 64 4) rfl rfl rfl rfl rfl rfl (fun z30 hz30 => ?_)
            have tz30 := tf_64_4 hI
            refine h_iload_n (pc' := 37) rfl rfl rfl ?_
            refine h_iadd (pc' := 38) rfl rfl hz30 hz28 rfl (by omega) (by omega) (fun z31 hz31 => ?_)
            refine h_iald (pc' := 39) (v := σ 65 ((σ 64 4) + 4)) rfl rfl rfl hz31 (by omega) (by omega) rfl (fun z32 hz32 => ?_)
            have tz32 := ty_65 hI ((σ 64 4) + 4)
            refine h_aload_n (pc' := 40) rfl rfl rfl ?_
            refine h_iload_n (pc' := 41) rfl rfl rfl ?_
            have qz28 : z28 = (Int32.ofInt 4) := h_lit hz28 ci_4
            subst qz28
            refine h_str (pc' := 44) (x := (Int32.ofInt 121)) rfl rfl rfl rfl rfl ?_
            refine h_ceq (tg := 49) (pc' := 47) rfl rfl rfl hz32 ci_121 (fun c33 => ?_) (fun c33 => ?_)
            · refine h_iinc (pc' := 52) (b := 5) (M := fun z34 => [(2, .int z34), (0, .ref 64), (1, .ref 5)]) rfl rfl rfl rfl ci_4 ci_1 rfl (by omega) (by omega) (fun _ => rfl) (fun z34 hz34 => ?_)
              refine h_goto (pc' := 20) rfl rfl ?_
              refine h_iload_n (pc' := 21) rfl rfl rfl ?_
              refine h_aload_n (pc' := 22) rfl rfl rfl ?_
              refine h_str (pc' := 25) (x := (Int32.ofInt 5)) rfl rfl rfl rfl rfl ?_
              refine h_cge (tg := 55) (pc' := 28) rfl rfl rfl hz34 ci_5 (fun c35 => ?_) (fun c35 => absurd c35 (by omega))
              refine h_iconst (pc' := 56) (x := (Int32.ofInt 1)) rfl rfl rfl ?_
              exact h_zret rfl rfl ci_1 (by omega) (kk _ _ ci_1 (by omega) (Or.inl ⟨rfl, by omega, by omega, by omega, by omega, by omega, by omega⟩))
            · refine h_iconst (pc' := 48) (x := (Int32.ofInt 0)) rfl rfl rfl ?_
              exact h_zret rfl rfl ci_0 (by omega) (kk _ _ ci_0 (by omega) (Or.inr ⟨rfl, fun h => by unfold g_nm4 at h; omega⟩))
          · refine h_iconst (pc' := 48) (x := (Int32.ofInt 0)) rfl rfl rfl ?_
            exact h_zret rfl rfl ci_0 (by omega) (kk _ _ ci_0 (by omega) (Or.inr ⟨rfl, fun h => by unfold g_nm4 at h; omega⟩))
        · refine h_iconst (pc' := 48) (x := (Int32.ofInt 0)) rfl rfl rfl ?_
          exact h_zret rfl rfl ci_0 (by omega) (kk _ _ ci_0 (by omega) (Or.inr ⟨rfl, fun h => by unfold g_nm4 at h; omega⟩))
      · refine h_iconst (pc' := 48) (x := (Int32.ofInt 0)) rfl rfl rfl ?_
        exact h_zret rfl rfl ci_0 (by omega) (kk _ _ ci_0 (by omega) (Or.inr ⟨rfl, fun h => by unfold g_nm4 at h; omega⟩))
    · refine h_iconst (pc' := 48) (x := (Int32.ofInt 0)) rfl rfl rfl ?_
      exact h_zret rfl rfl ci_0 (by omega) (kk _ _ ci_0 (by omega) (Or.inr ⟨rfl, fun h => by unfold g_nm4 at h; omega⟩))
  · refine h_iconst (pc' := 17) (x := (Int32.ofInt 0)) rfl rfl rfl ?_
    exact h_zret rfl rfl ci_0 (by omega) (kk _ _ ci_0 (by omega) (Or.inr ⟨rfl, fun h => by unfold g_nm4 at h; omega⟩))
theorem n_isName5 {ns : Nat} (σ : h_S) (hI : h_I σ) {Q : Option Value → h_S → Prop} (kk : ∀ (r : Int32) (b : Int) (hb : r.toInt = b), (0 ≤ b ∧ b ≤ 1) → ((b = 1 ∧ g_nm5 (σ 65) (σ 64 4) (σ 64 2 - σ 64 4)) ∨ (b = 0 ∧ ¬ g_nm5 (σ 65) (σ 64 4) (σ 64 2 - σ 64 4))) → Q (some (.int r)) σ) : h_T g_P (g_Y ns) 77 0 [(0, .ref 64), (1, .ref 6)] [] σ Q := by
  have ge0 := tf_64_2 hI
  have ge1 := tf_64_4 hI
  refine h_aload_n (pc' := 1) rfl rfl rfl ?_
  refine h_getI (pc' := 4) (v := σ 64 2) rfl rfl rfl rfl rfl rfl (fun z1 hz1 => ?_)
  have tz1 := tf_64_2 hI
  refine h_aload_n (pc' := 5) rfl rfl rfl ?_
  refine h_getI (pc' := 8) (v := σ 64 4) rfl rfl rfl rfl rfl rfl (fun z2 hz2 => ?_)
  have tz2 := tf_64_4 hI
  refine h_isub (pc' := 9) rfl rfl hz1 hz2 rfl (by omega) (by omega) (fun z3 hz3 => ?_)
  refine h_aload_n (pc' := 10) rfl rfl rfl ?_
  refine h_str (pc' := 13) (x := (Int32.ofInt 4)) rfl rfl rfl rfl rfl ?_
  refine h_ceq (tg := 18) (pc' := 16) rfl rfl rfl hz3 ci_4 (fun c4 => ?_) (fun c4 => ?_)
  · refine h_iconst (pc' := 19) (x := (Int32.ofInt 0)) rfl rfl rfl ?_
    refine h_istore_n (pc' := 20) (M := [(2, .int (Int32.ofInt 0)), (0, .ref 64), (1, .ref 6)]) rfl rfl rfl rfl ?_
    refine h_iload_n (pc' := 21) rfl rfl rfl ?_
    refine h_aload_n (pc' := 22) rfl rfl rfl ?_
    refine h_str (pc' := 25) (x := (Int32.ofInt 4)) rfl rfl rfl rfl rfl ?_
    refine h_cge (tg := 55) (pc' := 28) rfl rfl rfl ci_0 ci_4 (fun c5 => absurd c5 (by omega)) (fun c5 => ?_)
    refine h_aload_n (pc' := 29) rfl rfl rfl ?_
    refine h_getR (pc' := 32) rfl rfl rfl rfl rfl ?_
    refine h_aload_n (pc' := 33) rfl rfl rfl ?_
    refine h_getI (pc' := 36) (v := σ 64 4) rfl rfl rfl rfl rfl rfl (fun z6 hz6 => ?_)
    have tz6 := tf_64_4 hI
    refine h_iload_n (pc' := 37) rfl rfl rfl ?_
    refine h_iadd (pc' := 38) rfl rfl hz6 ci_0 rfl (by omega) (by omega) (fun z7 hz7 => ?_)
    refine h_iald (pc' := 39) (v := σ 65 ((σ 64 4) + 0)) rfl rfl rfl hz7 (by omega) (by omega) rfl (fun z8 hz8 => ?_)
    have tz8 := ty_65 hI ((σ 64 4) + 0)
    refine h_aload_n (pc' := 40) rfl rfl rfl ?_
    refine h_iload_n (pc' := 41) rfl rfl rfl ?_
    refine h_str (pc' := 44) (x := (Int32.ofInt 102)) rfl rfl rfl rfl rfl ?_
    refine h_ceq (tg := 49) (pc' := 47) rfl rfl rfl hz8 ci_102 (fun c9 => ?_) (fun c9 => ?_)
    · refine h_iinc (pc' := 52) (b := 1) (M := fun z10 => [(2, .int z10), (0, .ref 64), (1, .ref 6)]) rfl rfl rfl rfl ci_0 ci_1 rfl (by omega) (by omega) (fun _ => rfl) (fun z10 hz10 => ?_)
      refine h_goto (pc' := 20) rfl rfl ?_
      refine h_iload_n (pc' := 21) rfl rfl rfl ?_
      refine h_aload_n (pc' := 22) rfl rfl rfl ?_
      refine h_str (pc' := 25) (x := (Int32.ofInt 4)) rfl rfl rfl rfl rfl ?_
      refine h_cge (tg := 55) (pc' := 28) rfl rfl rfl hz10 ci_4 (fun c11 => absurd c11 (by omega)) (fun c11 => ?_)
      refine h_aload_n (pc' := 29) rfl rfl rfl ?_
      refine h_getR (pc' := 32) rfl rfl rfl rfl rfl ?_
      refine h_aload_n (pc' := 33) rfl rfl rfl ?_
      refine h_getI (pc' := 36) (v := σ 64 4) rfl rfl rfl rfl rfl rfl (fun z12 hz12 => ?_)
      have tz12 := tf_64_4 hI
      refine h_iload_n (pc' := 37) rfl rfl rfl ?_
      refine h_iadd (pc' := 38) rfl rfl hz12 hz10 rfl (by omega) (by omega) (fun z13 hz13 => ?_)
      refine h_iald (pc' := 39) (v := σ 65 ((σ 64 4) + 1)) rfl rfl rfl hz13 (by omega) (by omega) rfl (fun z14 hz14 => ?_)
      have tz14 := ty_65 hI ((σ 64 4) + 1)
      refine h_aload_n (pc' := 40) rfl rfl rfl ?_
      refine h_iload_n (pc' := 41) rfl rfl rfl ?_
      have qz10 : z10 = (Int32.ofInt 1) := h_lit hz10 ci_1
      subst qz10
      refine h_str (pc' := 44) (x := (Int32.ofInt 101)) rfl rfl rfl rfl rfl ?_
      refine h_ceq (tg := 49) (pc' := 47) rfl rfl rfl hz14 ci_101 (fun c15 => ?_) (fun c15 => ?_)
      · refine h_iinc (pc' := 52) (b := 2) (M := fun z16 => [(2, .int z16), (0, .ref 64), (1, .ref 6)]) rfl rfl rfl rfl ci_1 ci_1 rfl (by omega) (by omega) (fun _ => rfl) (fun z16 hz16 => ?_)
        refine h_goto (pc' := 20) rfl rfl ?_
        refine h_iload_n (pc' := 21) rfl rfl rfl ?_
        refine h_aload_n (pc' := 22) rfl rfl rfl ?_
        refine h_str (pc' := 25) (x := (Int32.ofInt 4)) rfl rfl rfl rfl rfl ?_
        refine h_cge (tg := 55) (pc' := 28) rfl rfl rfl hz16 ci_4 (fun c17 => absurd c17 (by omega)) (fun c17 => ?_)
        refine h_aload_n (pc' := 29) rfl rfl rfl ?_
        refine h_getR (pc' := 32) rfl rfl rfl rfl rfl ?_
        refine h_aload_n (pc' := 33) rfl rfl rfl ?_
        refine h_getI (pc' := 36) (v := σ 64 4) rfl rfl rfl rfl rfl rfl (fun z18 hz18 => ?_)
        have tz18 := tf_64_4 hI
        refine h_iload_n (pc' := 37) rfl rfl rfl ?_
        refine h_iadd (pc' := 38) rfl rfl hz18 hz16 rfl (by omega) (by omega) (fun z19 hz19 => ?_)
        refine h_iald (pc' := 39) (v := σ 65 ((σ 64 4) + 2)) rfl rfl rfl hz19 (by omega) (by omega) rfl (fun z20 hz20 => ?_)
        have tz20 := ty_65 hI ((σ 64 4) + 2)
        refine h_aload_n (pc' := 40) rfl rfl rfl ?_
        refine h_iload_n (pc' := 41) rfl rfl rfl ?_
        have qz16 : z16 = (Int32.ofInt 2) := h_lit hz16 ci_2
        subst qz16
        refine h_str (pc' := 44) (x := (Int32.ofInt 117)) rfl rfl rfl rfl rfl ?_
        refine h_ceq (tg := 49) (pc' := 47) rfl rfl rfl hz20 ci_117 (fun c21 => ?_) (fun c21 => ?_)
        · refine h_iinc (pc' := 52) (b := 3) (M := fun z22 => [(2, .int z22), (0, .ref 64), (1, .ref 6)]) rfl rfl rfl rfl ci_2 ci_1 rfl (by omega) (by omega) (fun _ => rfl) (fun z22 hz22 => ?_)
          refine h_goto (pc' := 20) rfl rfl ?_
          refine h_iload_n (pc' := 21) rfl rfl rfl ?_
          refine h_aload_n (pc' := 22) rfl rfl rfl ?_
          refine h_str (pc' := 25) (x := (Int32.ofInt 4)) rfl rfl rfl rfl rfl ?_
          refine h_cge (tg := 55) (pc' := 28) rfl rfl rfl hz22 ci_4 (fun c23 => absurd c23 (by omega)) (fun c23 => ?_)
          refine h_aload_n (pc' := 29) rfl rfl rfl ?_
          refine h_getR (pc' := 32) rfl rfl rfl rfl rfl ?_
          refine h_aload_n (pc' := 33) rfl rfl rfl ?_
          refine h_getI (pc' := 36) (v := σ 64 4) rfl rfl rfl rfl rfl rfl (fun z24 hz24 => ?_)
          have tz24 := tf_64_4 hI
          refine h_iload_n (pc' := 37) rfl rfl rfl ?_
          refine h_iadd (pc' := 38) rfl rfl hz24 hz22 rfl (by omega) (by omega) (fun z25 hz25 => ?_)
          refine h_iald (pc' := 39) (v := σ 65 ((σ 64 4) + 3)) rfl rfl rfl hz25 (by omega) (by omega) rfl (fun z26 hz26 => ?_)
          have tz26 := ty_65 hI ((σ 64 4) + 3)
          refine h_aload_n (pc' := 40) rfl rfl rfl ?_
          refine h_iload_n (pc' := 41) rfl rfl rfl ?_
          have qz22 : z22 = (Int32.ofInt 3) := h_lit hz22 ci_3
          subst qz22
          refine h_str (pc' := 44) (x := (Int32.ofInt 100)) rfl rfl rfl rfl rfl ?_
          refine h_ceq (tg := 49) (pc' := 47) rfl rfl rfl hz26 ci_100 (fun c27 => ?_) (fun c27 => ?_)
          · refine h_iinc (pc' := 52) (b := 4) (M := fun z28 => [(2, .int z28), (0, .ref 64), (1, .ref 6)]) rfl rfl rfl rfl ci_3 ci_1 rfl (by omega) (by omega) (fun _ => rfl) (fun z28 hz28 => ?_)
            refine h_goto (pc' := 20) rfl rfl ?_
            refine h_iload_n (pc' := 21) rfl rfl rfl ?_
            refine h_aload_n (pc' := 22) rfl rfl rfl ?_
            refine h_str (pc' := 25) (x := (Int32.ofInt 4)) rfl rfl rfl rfl rfl ?_
            refine h_cge (tg := 55) (pc' := 28) rfl rfl rfl hz28 ci_4 (fun c29 => ?_) (fun c29 => absurd c29 (by omega))
            refine h_iconst (pc' := 56) (x := (Int32.ofInt 1)) rfl rfl rfl ?_
            exact h_zret rfl rfl ci_1 (by omega) (kk _ _ ci_1 (by omega) (Or.inl ⟨rfl, by omega, by omega, by omega, by omega, by omega⟩))
          · refine h_iconst (pc' := 48) (x := (Int32.ofInt 0)) rfl rfl rfl ?_
            exact h_zret rfl rfl ci_0 (by omega) (kk _ _ ci_0 (by omega) (Or.inr ⟨rfl, fun h => by unfold g_nm5 at h; omega⟩))
        · refine h_iconst (pc' := 48) (x := (Int32.ofInt 0)) rfl rfl rfl ?_
          exact h_zret rfl rfl ci_0 (by omega) (kk _ _ ci_0 (by omega) (Or.inr ⟨rfl, fun h => by unfold g_nm5 at h; omega⟩))
      · refine h_iconst (pc' := 48) (x := (Int32.ofInt 0)) rfl rfl rfl ?_
        exact h_zret rfl rfl ci_0 (by omega) (kk _ _ ci_0 (by omega) (Or.inr ⟨rfl, fun h => by unfold g_nm5 at h; omega⟩))
    · refine h_iconst (pc' := 48) (x := (Int32.ofInt 0)) rfl rfl rfl ?_
      exact h_zret rfl rfl ci_0 (by omega) (kk _ _ ci_0 (by omega) (Or.inr ⟨rfl, fun h => by unfold g_nm5 at h; omega⟩))
  · refine h_iconst (pc' := 17) (x := (Int32.ofInt 0)) rfl rfl rfl ?_
    exact h_zret rfl rfl ci_0 (by omega) (kk _ _ ci_0 (by omega) (Or.inr ⟨rfl, fun h => by unfold g_nm5 at h; omega⟩))
theorem n_isName6 {ns : Nat} (σ : h_S) (hI : h_I σ) {Q : Option Value → h_S → Prop} (kk : ∀ (r : Int32) (b : Int) (hb : r.toInt = b), (0 ≤ b ∧ b ≤ 1) → ((b = 1 ∧ g_nm6 (σ 65) (σ 64 4) (σ 64 2 - σ 64 4)) ∨ (b = 0 ∧ ¬ g_nm6 (σ 65) (σ 64 4) (σ 64 2 - σ 64 4))) → Q (some (.int r)) σ) : h_T g_P (g_Y ns) 77 0 [(0, .ref 64), (1, .ref 7)] [] σ Q := by
  have ge0 := tf_64_2 hI
  have ge1 := tf_64_4 hI
  refine h_aload_n (pc' := 1) rfl rfl rfl ?_
  refine h_getI (pc' := 4) (v := σ 64 2) rfl rfl rfl rfl rfl rfl (fun z1 hz1 => ?_)
  have tz1 := tf_64_2 hI
  refine h_aload_n (pc' := 5) rfl rfl rfl ?_
  refine h_getI (pc' := 8) (v := σ 64 4) rfl rfl rfl rfl rfl rfl (fun z2 hz2 => ?_)
  have tz2 := tf_64_4 hI
  refine h_isub (pc' := 9) rfl rfl hz1 hz2 rfl (by omega) (by omega) (fun z3 hz3 => ?_)
  refine h_aload_n (pc' := 10) rfl rfl rfl ?_
  refine h_str (pc' := 13) (x := (Int32.ofInt 4)) rfl rfl rfl rfl rfl ?_
  refine h_ceq (tg := 18) (pc' := 16) rfl rfl rfl hz3 ci_4 (fun c4 => ?_) (fun c4 => ?_)
  · refine h_iconst (pc' := 19) (x := (Int32.ofInt 0)) rfl rfl rfl ?_
    refine h_istore_n (pc' := 20) (M := [(2, .int (Int32.ofInt 0)), (0, .ref 64), (1, .ref 7)]) rfl rfl rfl rfl ?_
    refine h_iload_n (pc' := 21) rfl rfl rfl ?_
    refine h_aload_n (pc' := 22) rfl rfl rfl ?_
    refine h_str (pc' := 25) (x := (Int32.ofInt 4)) rfl rfl rfl rfl rfl ?_
    refine h_cge (tg := 55) (pc' := 28) rfl rfl rfl ci_0 ci_4 (fun c5 => absurd c5 (by omega)) (fun c5 => ?_)
    refine h_aload_n (pc' := 29) rfl rfl rfl ?_
    refine h_getR (pc' := 32) rfl rfl rfl rfl rfl ?_
    refine h_aload_n (pc' := 33) rfl rfl rfl ?_
    refine h_getI (pc' := 36) (v := σ 64 4) rfl rfl rfl rfl rfl rfl (fun z6 hz6 => ?_)
    have tz6 := tf_64_4 hI
    refine h_iload_n (pc' := 37) rfl rfl rfl ?_
    refine h_iadd (pc' := 38) rfl rfl hz6 ci_0 rfl (by omega) (by omega) (fun z7 hz7 => ?_)
    refine h_iald (pc' := 39) (v := σ 65 ((σ 64 4) + 0)) rfl rfl rfl hz7 (by omega) (by omega) rfl (fun z8 hz8 => ?_)
    have tz8 := ty_65 hI ((σ 64 4) + 0)
    refine h_aload_n (pc' := 40) rfl rfl rfl ?_
    refine h_iload_n (pc' := 41) rfl rfl rfl ?_
    refine h_str (pc' := 44) (x := (Int32.ofInt 103)) rfl rfl rfl rfl rfl ?_
    refine h_ceq (tg := 49) (pc' := 47) rfl rfl rfl hz8 ci_103 (fun c9 => ?_) (fun c9 => ?_)
    · refine h_iinc (pc' := 52) (b := 1) (M := fun z10 => [(2, .int z10), (0, .ref 64), (1, .ref 7)]) rfl rfl rfl rfl ci_0 ci_1 rfl (by omega) (by omega) (fun _ => rfl) (fun z10 hz10 => ?_)
      refine h_goto (pc' := 20) rfl rfl ?_
      refine h_iload_n (pc' := 21) rfl rfl rfl ?_
      refine h_aload_n (pc' := 22) rfl rfl rfl ?_
      refine h_str (pc' := 25) (x := (Int32.ofInt 4)) rfl rfl rfl rfl rfl ?_
      refine h_cge (tg := 55) (pc' := 28) rfl rfl rfl hz10 ci_4 (fun c11 => absurd c11 (by omega)) (fun c11 => ?_)
      refine h_aload_n (pc' := 29) rfl rfl rfl ?_
      refine h_getR (pc' := 32) rfl rfl rfl rfl rfl ?_
      refine h_aload_n (pc' := 33) rfl rfl rfl ?_
      refine h_getI (pc' := 36) (v := σ 64 4) rfl rfl rfl rfl rfl rfl (fun z12 hz12 => ?_)
      have tz12 := tf_64_4 hI
      refine h_iload_n (pc' := 37) rfl rfl rfl ?_
      refine h_iadd (pc' := 38) rfl rfl hz12 hz10 rfl (by omega) (by omega) (fun z13 hz13 => ?_)
      refine h_iald (pc' := 39) (v := σ 65 ((σ 64 4) + 1)) rfl rfl rfl hz13 (by omega) (by omega) rfl (fun z14 hz14 => ?_)
      have tz14 := ty_65 hI ((σ 64 4) + 1)
      refine h_aload_n (pc' := 40) rfl rfl rfl ?_
      refine h_iload_n (pc' := 41) rfl rfl rfl ?_
      have qz10 : z10 = (Int32.ofInt 1) := h_lit hz10 ci_1
      subst qz10
      refine h_str (pc' := 44) (x := (Int32.ofInt 97)) rfl rfl rfl rfl rfl ?_
      refine h_ceq (tg := 49) (pc' := 47) rfl rfl rfl hz14 ci_97 (fun c15 => ?_) (fun c15 => ?_)
      · refine h_iinc (pc' := 52) (b := 2) (M := fun z16 => [(2, .int z16), (0, .ref 64), (1, .ref 7)]) rfl rfl rfl rfl ci_1 ci_1 rfl (by omega) (by omega) (fun _ => rfl) (fun z16 hz16 => ?_)
        refine h_goto (pc' := 20) rfl rfl ?_
        refine h_iload_n (pc' := 21) rfl rfl rfl ?_
        refine h_aload_n (pc' := 22) rfl rfl rfl ?_
        refine h_str (pc' := 25) (x := (Int32.ofInt 4)) rfl rfl rfl rfl rfl ?_
        refine h_cge (tg := 55) (pc' := 28) rfl rfl rfl hz16 ci_4 (fun c17 => absurd c17 (by omega)) (fun c17 => ?_)
        refine h_aload_n (pc' := 29) rfl rfl rfl ?_
        refine h_getR (pc' := 32) rfl rfl rfl rfl rfl ?_
        refine h_aload_n (pc' := 33) rfl rfl rfl ?_
        refine h_getI (pc' := 36) (v := σ 64 4) rfl rfl rfl rfl rfl rfl (fun z18 hz18 => ?_)
        have tz18 := tf_64_4 hI
        refine h_iload_n (pc' := 37) rfl rfl rfl ?_
        refine h_iadd (pc' := 38) rfl rfl hz18 hz16 rfl (by omega) (by omega) (fun z19 hz19 => ?_)
        refine h_iald (pc' := 39) (v := σ 65 ((σ 64 4) + 2)) rfl rfl rfl hz19 (by omega) (by omega) rfl (fun z20 hz20 => ?_)
        have tz20 := ty_65 hI ((σ 64 4) + 2)
        refine h_aload_n (pc' := 40) rfl rfl rfl ?_
        refine h_iload_n (pc' := 41) rfl rfl rfl ?_
        have qz16 : z16 = (Int32.ofInt 2) := h_lit hz16 ci_2
        subst qz16
        refine h_str (pc' := 44) (x := (Int32.ofInt 116)) rfl rfl rfl rfl rfl ?_
        refine h_ceq (tg := 49) (pc' := 47) rfl rfl rfl hz20 ci_116 (fun c21 => ?_) (fun c21 => ?_)
        · refine h_iinc (pc' := 52) (b := 3) (M := fun z22 => [(2, .int z22), (0, .ref 64), (1, .ref 7)]) rfl rfl rfl rfl ci_2 ci_1 rfl (by omega) (by omega) (fun _ => rfl) (fun z22 hz22 => ?_)
          refine h_goto (pc' := 20) rfl rfl ?_
          refine h_iload_n (pc' := 21) rfl rfl rfl ?_
          refine h_aload_n (pc' := 22) rfl rfl rfl ?_
          refine h_str (pc' := 25) (x := (Int32.ofInt 4)) rfl rfl rfl rfl rfl ?_
          refine h_cge (tg := 55) (pc' := 28) rfl rfl rfl hz22 ci_4 (fun c23 => absurd c23 (by omega)) (fun c23 => ?_)
          refine h_aload_n (pc' := 29) rfl rfl rfl ?_
          refine h_getR (pc' := 32) rfl rfl rfl rfl rfl ?_
          refine h_aload_n (pc' := 33) rfl rfl rfl ?_
          refine h_getI (pc' := 36) (v := σ 64 4) rfl rfl rfl rfl rfl rfl (fun z24 hz24 => ?_)
          have tz24 := tf_64_4 hI
          refine h_iload_n (pc' := 37) rfl rfl rfl ?_
          refine h_iadd (pc' := 38) rfl rfl hz24 hz22 rfl (by omega) (by omega) (fun z25 hz25 => ?_)
          refine h_iald (pc' := 39) (v := σ 65 ((σ 64 4) + 3)) rfl rfl rfl hz25 (by omega) (by omega) rfl (fun z26 hz26 => ?_)
          have tz26 := ty_65 hI ((σ 64 4) + 3)
          refine h_aload_n (pc' := 40) rfl rfl rfl ?_
          refine h_iload_n (pc' := 41) rfl rfl rfl ?_
          have qz22 : z22 = (Int32.ofInt 3) := h_lit hz22 ci_3
          subst qz22
          refine h_str (pc' := 44) (x := (Int32.ofInt 101)) rfl rfl rfl rfl rfl ?_
          refine h_ceq (tg := 49) (pc' := 47) rfl rfl rfl hz26 ci_101 (fun c27 => ?_) (fun c27 => ?_)
          · refine h_iinc (pc' := 52) (b := 4) (M := fun z28 => [(2, .int z28), (0, .ref 64), (1, .ref 7)]) rfl rfl rfl rfl ci_3 ci_1 rfl (by omega) (by omega) (fun _ => rfl) (fun z28 hz28 => ?_)
            refine h_goto (pc' := 20) rfl rfl ?_
            refine h_iload_n (pc' := 21) rfl rfl rfl ?_
            refine h_aload_n (pc' := 22) rfl rfl rfl ?_
            refine h_str (pc' := 25) (x := (Int32.ofInt 4)) rfl rfl rfl rfl rfl ?_
            refine h_cge (tg := 55) (pc' := 28) rfl rfl rfl hz28 ci_4 (fun c29 => ?_) (fun c29 => absurd c29 (by omega))
            refine h_iconst (pc' := 56) (x := (Int32.ofInt 1)) rfl rfl rfl ?_
            exact h_zret rfl rfl ci_1 (by omega) (kk _ _ ci_1 (by omega) (Or.inl ⟨rfl, by omega, by omega, by omega, by omega, by omega⟩))
          · refine h_iconst (pc' := 48) (x := (Int32.ofInt 0)) rfl rfl rfl ?_
            exact h_zret rfl rfl ci_0 (by omega) (kk _ _ ci_0 (by omega) (Or.inr ⟨rfl, fun h => by unfold g_nm6 at h; omega⟩))
        · refine h_iconst (pc' := 48) (x := (Int32.ofInt 0)) rfl rfl rfl ?_
          exact h_zret rfl rfl ci_0 (by omega) (kk _ _ ci_0 (by omega) (Or.inr ⟨rfl, fun h => by unfold g_nm6 at h; omega⟩))
      · refine h_iconst (pc' := 48) (x := (Int32.ofInt 0)) rfl rfl rfl ?_
        exact h_zret rfl rfl ci_0 (by omega) (kk _ _ ci_0 (by omega) (Or.inr ⟨rfl, fun h => by unfold g_nm6 at h; omega⟩))
    · refine h_iconst (pc' := 48) (x := (Int32.ofInt 0)) rfl rfl rfl ?_
      exact h_zret rfl rfl ci_0 (by omega) (kk _ _ ci_0 (by omega) (Or.inr ⟨rfl, fun h => by unfold g_nm6 at h; omega⟩))
  · refine h_iconst (pc' := 17) (x := (Int32.ofInt 0)) rfl rfl rfl ?_
    exact h_zret rfl rfl ci_0 (by omega) (kk _ _ ci_0 (by omega) (Or.inr ⟨rfl, fun h => by unfold g_nm6 at h; omega⟩))
theorem n_isName7 {ns : Nat} (σ : h_S) (hI : h_I σ) {Q : Option Value → h_S → Prop} (kk : ∀ (r : Int32) (b : Int) (hb : r.toInt = b), (0 ≤ b ∧ b ≤ 1) → ((b = 1 ∧ g_nm7 (σ 65) (σ 64 4) (σ 64 2 - σ 64 4)) ∨ (b = 0 ∧ ¬ g_nm7 (σ 65) (σ 64 4) (σ 64 2 - σ 64 4))) → Q (some (.int r)) σ) : h_T g_P (g_Y ns) 77 0 [(0, .ref 64), (1, .ref 8)] [] σ Q := by
  have ge0 := tf_64_2 hI
  have ge1 := tf_64_4 hI
  refine h_aload_n (pc' := 1) rfl rfl rfl ?_
  refine h_getI (pc' := 4) (v := σ 64 2) rfl rfl rfl rfl rfl rfl (fun z1 hz1 => ?_)
  have tz1 := tf_64_2 hI
  refine h_aload_n (pc' := 5) rfl rfl rfl ?_
  refine h_getI (pc' := 8) (v := σ 64 4) rfl rfl rfl rfl rfl rfl (fun z2 hz2 => ?_)
  have tz2 := tf_64_4 hI
  refine h_isub (pc' := 9) rfl rfl hz1 hz2 rfl (by omega) (by omega) (fun z3 hz3 => ?_)
  refine h_aload_n (pc' := 10) rfl rfl rfl ?_
  refine h_str (pc' := 13) (x := (Int32.ofInt 4)) rfl rfl rfl rfl rfl ?_
  refine h_ceq (tg := 18) (pc' := 16) rfl rfl rfl hz3 ci_4 (fun c4 => ?_) (fun c4 => ?_)
  · refine h_iconst (pc' := 19) (x := (Int32.ofInt 0)) rfl rfl rfl ?_
    refine h_istore_n (pc' := 20) (M := [(2, .int (Int32.ofInt 0)), (0, .ref 64), (1, .ref 8)]) rfl rfl rfl rfl ?_
    refine h_iload_n (pc' := 21) rfl rfl rfl ?_
    refine h_aload_n (pc' := 22) rfl rfl rfl ?_
    refine h_str (pc' := 25) (x := (Int32.ofInt 4)) rfl rfl rfl rfl rfl ?_
    refine h_cge (tg := 55) (pc' := 28) rfl rfl rfl ci_0 ci_4 (fun c5 => absurd c5 (by omega)) (fun c5 => ?_)
    refine h_aload_n (pc' := 29) rfl rfl rfl ?_
    refine h_getR (pc' := 32) rfl rfl rfl rfl rfl ?_
    refine h_aload_n (pc' := 33) rfl rfl rfl ?_
    refine h_getI (pc' := 36) (v := σ 64 4) rfl rfl rfl rfl rfl rfl (fun z6 hz6 => ?_)
    have tz6 := tf_64_4 hI
    refine h_iload_n (pc' := 37) rfl rfl rfl ?_
    refine h_iadd (pc' := 38) rfl rfl hz6 ci_0 rfl (by omega) (by omega) (fun z7 hz7 => ?_)
    refine h_iald (pc' := 39) (v := σ 65 ((σ 64 4) + 0)) rfl rfl rfl hz7 (by omega) (by omega) rfl (fun z8 hz8 => ?_)
    have tz8 := ty_65 hI ((σ 64 4) + 0)
    refine h_aload_n (pc' := 40) rfl rfl rfl ?_
    refine h_iload_n (pc' := 41) rfl rfl rfl ?_
    refine h_str (pc' := 44) (x := (Int32.ofInt 112)) rfl rfl rfl rfl rfl ?_
    refine h_ceq (tg := 49) (pc' := 47) rfl rfl rfl hz8 ci_112 (fun c9 => ?_) (fun c9 => ?_)
    · refine h_iinc (pc' := 52) (b := 1) (M := fun z10 => [(2, .int z10), (0, .ref 64), (1, .ref 8)]) rfl rfl rfl rfl ci_0 ci_1 rfl (by omega) (by omega) (fun _ => rfl) (fun z10 hz10 => ?_)
      refine h_goto (pc' := 20) rfl rfl ?_
      refine h_iload_n (pc' := 21) rfl rfl rfl ?_
      refine h_aload_n (pc' := 22) rfl rfl rfl ?_
      refine h_str (pc' := 25) (x := (Int32.ofInt 4)) rfl rfl rfl rfl rfl ?_
      refine h_cge (tg := 55) (pc' := 28) rfl rfl rfl hz10 ci_4 (fun c11 => absurd c11 (by omega)) (fun c11 => ?_)
      refine h_aload_n (pc' := 29) rfl rfl rfl ?_
      refine h_getR (pc' := 32) rfl rfl rfl rfl rfl ?_
      refine h_aload_n (pc' := 33) rfl rfl rfl ?_
      refine h_getI (pc' := 36) (v := σ 64 4) rfl rfl rfl rfl rfl rfl (fun z12 hz12 => ?_)
      have tz12 := tf_64_4 hI
      refine h_iload_n (pc' := 37) rfl rfl rfl ?_
      refine h_iadd (pc' := 38) rfl rfl hz12 hz10 rfl (by omega) (by omega) (fun z13 hz13 => ?_)
      refine h_iald (pc' := 39) (v := σ 65 ((σ 64 4) + 1)) rfl rfl rfl hz13 (by omega) (by omega) rfl (fun z14 hz14 => ?_)
      have tz14 := ty_65 hI ((σ 64 4) + 1)
      refine h_aload_n (pc' := 40) rfl rfl rfl ?_
      refine h_iload_n (pc' := 41) rfl rfl rfl ?_
      have qz10 : z10 = (Int32.ofInt 1) := h_lit hz10 ci_1
      subst qz10
      refine h_str (pc' := 44) (x := (Int32.ofInt 108)) rfl rfl rfl rfl rfl ?_
      refine h_ceq (tg := 49) (pc' := 47) rfl rfl rfl hz14 ci_108 (fun c15 => ?_) (fun c15 => ?_)
      · refine h_iinc (pc' := 52) (b := 2) (M := fun z16 => [(2, .int z16), (0, .ref 64), (1, .ref 8)]) rfl rfl rfl rfl ci_1 ci_1 rfl (by omega) (by omega) (fun _ => rfl) (fun z16 hz16 => ?_)
        refine h_goto (pc' := 20) rfl rfl ?_
        refine h_iload_n (pc' := 21) rfl rfl rfl ?_
        refine h_aload_n (pc' := 22) rfl rfl rfl ?_
        refine h_str (pc' := 25) (x := (Int32.ofInt 4)) rfl rfl rfl rfl rfl ?_
        refine h_cge (tg := 55) (pc' := 28) rfl rfl rfl hz16 ci_4 (fun c17 => absurd c17 (by omega)) (fun c17 => ?_)
        refine h_aload_n (pc' := 29) rfl rfl rfl ?_
        refine h_getR (pc' := 32) rfl rfl rfl rfl rfl ?_
        refine h_aload_n (pc' := 33) rfl rfl rfl ?_
        refine h_getI (pc' := 36) (v := σ 64 4) rfl rfl rfl rfl rfl rfl (fun z18 hz18 => ?_)
        have tz18 := tf_64_4 hI
        refine h_iload_n (pc' := 37) rfl rfl rfl ?_
        refine h_iadd (pc' := 38) rfl rfl hz18 hz16 rfl (by omega) (by omega) (fun z19 hz19 => ?_)
        refine h_iald (pc' := 39) (v := σ 65 ((σ 64 4) + 2)) rfl rfl rfl hz19 (by omega) (by omega) rfl (fun z20 hz20 => ?_)
        have tz20 := ty_65 hI ((σ 64 4) + 2)
        refine h_aload_n (pc' := 40) rfl rfl rfl ?_
        refine h_iload_n (pc' := 41) rfl rfl rfl ?_
        have qz16 : z16 = (Int32.ofInt 2) := h_lit hz16 ci_2
        subst qz16
        refine h_str (pc' := 44) (x := (Int32.ofInt 97)) rfl rfl rfl rfl rfl ?_
        refine h_ceq (tg := 49) (pc' := 47) rfl rfl rfl hz20 ci_97 (fun c21 => ?_) (fun c21 => ?_)
        · refine h_iinc (pc' := 52) (b := 3) (M := fun z22 => [(2, .int z22), (0, .ref 64), (1, .ref 8)]) rfl rfl rfl rfl ci_2 ci_1 rfl (by omega) (by omega) (fun _ => rfl) (fun z22 hz22 => ?_)
          refine h_goto (pc' := 20) rfl rfl ?_
          refine h_iload_n (pc' := 21) rfl rfl rfl ?_
          refine h_aload_n (pc' := 22) rfl rfl rfl ?_
          refine h_str (pc' := 25) (x := (Int32.ofInt 4)) rfl rfl rfl rfl rfl ?_
          refine h_cge (tg := 55) (pc' := 28) rfl rfl rfl hz22 ci_4 (fun c23 => absurd c23 (by omega)) (fun c23 => ?_)
          refine h_aload_n (pc' := 29) rfl rfl rfl ?_
          refine h_getR (pc' := 32) rfl rfl rfl rfl rfl ?_
          refine h_aload_n (pc' := 33) rfl rfl rfl ?_
          refine h_getI (pc' := 36) (v := σ 64 4) rfl rfl rfl rfl rfl rfl (fun z24 hz24 => ?_)
          have tz24 := tf_64_4 hI
          refine h_iload_n (pc' := 37) rfl rfl rfl ?_
          refine h_iadd (pc' := 38) rfl rfl hz24 hz22 rfl (by omega) (by omega) (fun z25 hz25 => ?_)
          refine h_iald (pc' := 39) (v := σ 65 ((σ 64 4) + 3)) rfl rfl rfl hz25 (by omega) (by omega) rfl (fun z26 hz26 => ?_)
          have tz26 := ty_65 hI ((σ 64 4) + 3)
          refine h_aload_n (pc' := 40) rfl rfl rfl ?_
          refine h_iload_n (pc' := 41) rfl rfl rfl ?_
          have qz22 : z22 = (Int32.ofInt 3) := h_lit hz22 ci_3
          subst qz22
          refine h_str (pc' := 44) (x := (Int32.ofInt 110)) rfl rfl rfl rfl rfl ?_
          refine h_ceq (tg := 49) (pc' := 47) rfl rfl rfl hz26 ci_110 (fun c27 => ?_) (fun c27 => ?_)
          · refine h_iinc (pc' := 52) (b := 4) (M := fun z28 => [(2, .int z28), (0, .ref 64), (1, .ref 8)]) rfl rfl rfl rfl ci_3 ci_1 rfl (by omega) (by omega) (fun _ => rfl) (fun z28 hz28 => ?_)
            refine h_goto (pc' := 20) rfl rfl ?_
            refine h_iload_n (pc' := 21) rfl rfl rfl ?_
            refine h_aload_n (pc' := 22) rfl rfl rfl ?_
            refine h_str (pc' := 25) (x := (Int32.ofInt 4)) rfl rfl rfl rfl rfl ?_
            refine h_cge (tg := 55) (pc' := 28) rfl rfl rfl hz28 ci_4 (fun c29 => ?_) (fun c29 => absurd c29 (by omega))
            refine h_iconst (pc' := 56) (x := (Int32.ofInt 1)) rfl rfl rfl ?_
            exact h_zret rfl rfl ci_1 (by omega) (kk _ _ ci_1 (by omega) (Or.inl ⟨rfl, by omega, by omega, by omega, by omega, by omega⟩))
          · refine h_iconst (pc' := 48) (x := (Int32.ofInt 0)) rfl rfl rfl ?_
            exact h_zret rfl rfl ci_0 (by omega) (kk _ _ ci_0 (by omega) (Or.inr ⟨rfl, fun h => by unfold g_nm7 at h; omega⟩))
        · refine h_iconst (pc' := 48) (x := (Int32.ofInt 0)) rfl rfl rfl ?_
          exact h_zret rfl rfl ci_0 (by omega) (kk _ _ ci_0 (by omega) (Or.inr ⟨rfl, fun h => by unfold g_nm7 at h; omega⟩))
      · refine h_iconst (pc' := 48) (x := (Int32.ofInt 0)) rfl rfl rfl ?_
        exact h_zret rfl rfl ci_0 (by omega) (kk _ _ ci_0 (by omega) (Or.inr ⟨rfl, fun h => by unfold g_nm7 at h; omega⟩))
    · refine h_iconst (pc' := 48) (x := (Int32.ofInt 0)) rfl rfl rfl ?_
      exact h_zret rfl rfl ci_0 (by omega) (kk _ _ ci_0 (by omega) (Or.inr ⟨rfl, fun h => by unfold g_nm7 at h; omega⟩))
  · refine h_iconst (pc' := 17) (x := (Int32.ofInt 0)) rfl rfl rfl ?_
    exact h_zret rfl rfl ci_0 (by omega) (kk _ _ ci_0 (by omega) (Or.inr ⟨rfl, fun h => by unfold g_nm7 at h; omega⟩))
theorem n_whichName {ns : Nat} (σ : h_S) (hI : h_I σ) {Q : Option Value → h_S → Prop} (kk : ∀ (r : Int32) (b : Int) (hb : r.toInt = b), ((-4) ≤ b ∧ b ≤ 7) → (g_fst (σ 65) (σ 64 4) (σ 64 2 - σ 64 4) b) → Q (some (.int r)) σ) : h_T g_P (g_Y ns) 76 0 [(0, .ref 64)] [] σ Q := by
  refine h_aload_n (pc' := 1) rfl rfl rfl ?_
  refine h_ldcS (pc' := 3) (q := 1) rfl rfl rfl ?_
  refine h_call (sp := false) (pc' := 6) (M := [(0, .ref 64), (1, .ref 1)]) rfl rfl rfl rfl rfl rfl rfl rfl ?_
  refine n_isName0 _ hI  (fun r1 br1 hr1 tr1 ps2_0 => h_Kv ?_)
  refine h_zeq (tg := 11) (pc' := 9) rfl rfl rfl hr1 (fun c3 => ?_) (fun c3 => ?_)
  · refine h_aload_n (pc' := 12) rfl rfl rfl ?_
    refine h_ldcS (pc' := 14) (q := 2) rfl rfl rfl ?_
    refine h_call (sp := false) (pc' := 17) (M := [(0, .ref 64), (1, .ref 2)]) rfl rfl rfl rfl rfl rfl rfl rfl ?_
    refine n_isName1 _ hI  (fun r4 br4 hr4 tr4 ps5_0 => h_Kv ?_)
    refine h_zeq (tg := 22) (pc' := 20) rfl rfl rfl hr4 (fun c6 => ?_) (fun c6 => ?_)
    · refine h_aload_n (pc' := 23) rfl rfl rfl ?_
      refine h_ldcS (pc' := 25) (q := 3) rfl rfl rfl ?_
      refine h_call (sp := false) (pc' := 28) (M := [(0, .ref 64), (1, .ref 3)]) rfl rfl rfl rfl rfl rfl rfl rfl ?_
      refine n_isName2 _ hI  (fun r7 br7 hr7 tr7 ps8_0 => h_Kv ?_)
      refine h_zeq (tg := 33) (pc' := 31) rfl rfl rfl hr7 (fun c9 => ?_) (fun c9 => ?_)
      · refine h_aload_n (pc' := 34) rfl rfl rfl ?_
        refine h_ldcS (pc' := 36) (q := 4) rfl rfl rfl ?_
        refine h_call (sp := false) (pc' := 39) (M := [(0, .ref 64), (1, .ref 4)]) rfl rfl rfl rfl rfl rfl rfl rfl ?_
        refine n_isName3 _ hI  (fun r10 br10 hr10 tr10 ps11_0 => h_Kv ?_)
        refine h_zeq (tg := 44) (pc' := 42) rfl rfl rfl hr10 (fun c12 => ?_) (fun c12 => ?_)
        · refine h_aload_n (pc' := 45) rfl rfl rfl ?_
          refine h_ldcS (pc' := 47) (q := 5) rfl rfl rfl ?_
          refine h_call (sp := false) (pc' := 50) (M := [(0, .ref 64), (1, .ref 5)]) rfl rfl rfl rfl rfl rfl rfl rfl ?_
          refine n_isName4 _ hI  (fun r13 br13 hr13 tr13 ps14_0 => h_Kv ?_)
          refine h_zeq (tg := 55) (pc' := 53) rfl rfl rfl hr13 (fun c15 => ?_) (fun c15 => ?_)
          · refine h_aload_n (pc' := 56) rfl rfl rfl ?_
            refine h_ldcS (pc' := 58) (q := 6) rfl rfl rfl ?_
            refine h_call (sp := false) (pc' := 61) (M := [(0, .ref 64), (1, .ref 6)]) rfl rfl rfl rfl rfl rfl rfl rfl ?_
            refine n_isName5 _ hI  (fun r16 br16 hr16 tr16 ps17_0 => h_Kv ?_)
            refine h_zeq (tg := 66) (pc' := 64) rfl rfl rfl hr16 (fun c18 => ?_) (fun c18 => ?_)
            · refine h_aload_n (pc' := 67) rfl rfl rfl ?_
              refine h_ldcS (pc' := 69) (q := 7) rfl rfl rfl ?_
              refine h_call (sp := false) (pc' := 72) (M := [(0, .ref 64), (1, .ref 7)]) rfl rfl rfl rfl rfl rfl rfl rfl ?_
              refine n_isName6 _ hI  (fun r19 br19 hr19 tr19 ps20_0 => h_Kv ?_)
              refine h_zeq (tg := 78) (pc' := 75) rfl rfl rfl hr19 (fun c21 => ?_) (fun c21 => ?_)
              · refine h_aload_n (pc' := 79) rfl rfl rfl ?_
                refine h_ldcS (pc' := 81) (q := 8) rfl rfl rfl ?_
                refine h_call (sp := false) (pc' := 84) (M := [(0, .ref 64), (1, .ref 8)]) rfl rfl rfl rfl rfl rfl rfl rfl ?_
                refine n_isName7 _ hI  (fun r22 br22 hr22 tr22 ps23_0 => h_Kv ?_)
                refine h_zeq (tg := 92) (pc' := 87) rfl rfl rfl hr22 (fun c24 => ?_) (fun c24 => ?_)
                · refine h_bipush (pc' := 94) (x := (Int32.ofInt (-4))) rfl rfl cb_m4 ?_
                  exact h_iret rfl rfl (kk _ _ ci_m4 (by omega) (Or.inl ⟨rfl, g_n0 ps2_0 (by omega), g_n0 ps5_0 (by omega), g_n0 ps8_0 (by omega), g_n0 ps11_0 (by omega), g_n0 ps14_0 (by omega), g_n0 ps17_0 (by omega), g_n0 ps20_0 (by omega), g_n0 ps23_0 (by omega)⟩))
                · refine h_bipush (pc' := 89) (x := (Int32.ofInt 7)) rfl rfl cb_7 ?_
                  refine h_goto (pc' := 94) rfl rfl ?_
                  exact h_iret rfl rfl (kk _ _ ci_7 (by omega) (Or.inr (Or.inr (Or.inr (Or.inr (Or.inr (Or.inr (Or.inr (Or.inr ⟨rfl, g_n0 ps2_0 (by omega), g_n0 ps5_0 (by omega), g_n0 ps8_0 (by omega), g_n0 ps11_0 (by omega), g_n0 ps14_0 (by omega), g_n0 ps17_0 (by omega), g_n0 ps20_0 (by omega), g_n1 ps23_0 (by omega)⟩)))))))))
              · refine h_bipush (pc' := 77) (x := (Int32.ofInt 6)) rfl rfl cb_6 ?_
                exact h_iret rfl rfl (kk _ _ ci_6 (by omega) (Or.inr (Or.inr (Or.inr (Or.inr (Or.inr (Or.inr (Or.inr (Or.inl ⟨rfl, g_n0 ps2_0 (by omega), g_n0 ps5_0 (by omega), g_n0 ps8_0 (by omega), g_n0 ps11_0 (by omega), g_n0 ps14_0 (by omega), g_n0 ps17_0 (by omega), g_n1 ps20_0 (by omega)⟩)))))))))
            · refine h_iconst (pc' := 65) (x := (Int32.ofInt 5)) rfl rfl rfl ?_
              exact h_iret rfl rfl (kk _ _ ci_5 (by omega) (Or.inr (Or.inr (Or.inr (Or.inr (Or.inr (Or.inr (Or.inl ⟨rfl, g_n0 ps2_0 (by omega), g_n0 ps5_0 (by omega), g_n0 ps8_0 (by omega), g_n0 ps11_0 (by omega), g_n0 ps14_0 (by omega), g_n1 ps17_0 (by omega)⟩))))))))
          · refine h_iconst (pc' := 54) (x := (Int32.ofInt 4)) rfl rfl rfl ?_
            exact h_iret rfl rfl (kk _ _ ci_4 (by omega) (Or.inr (Or.inr (Or.inr (Or.inr (Or.inr (Or.inl ⟨rfl, g_n0 ps2_0 (by omega), g_n0 ps5_0 (by omega), g_n0 ps8_0 (by omega), g_n0 ps11_0 (by omega), g_n1 ps14_0 (by omega)⟩)))))))
        · refine h_iconst (pc' := 43) (x := (Int32.ofInt 3)) rfl rfl rfl ?_
          exact h_iret rfl rfl (kk _ _ ci_3 (by omega) (Or.inr (Or.inr (Or.inr (Or.inr (Or.inl ⟨rfl, g_n0 ps2_0 (by omega), g_n0 ps5_0 (by omega), g_n0 ps8_0 (by omega), g_n1 ps11_0 (by omega)⟩))))))
      · refine h_iconst (pc' := 32) (x := (Int32.ofInt 2)) rfl rfl rfl ?_
        exact h_iret rfl rfl (kk _ _ ci_2 (by omega) (Or.inr (Or.inr (Or.inr (Or.inl ⟨rfl, g_n0 ps2_0 (by omega), g_n0 ps5_0 (by omega), g_n1 ps8_0 (by omega)⟩)))))
    · refine h_iconst (pc' := 21) (x := (Int32.ofInt 1)) rfl rfl rfl ?_
      exact h_iret rfl rfl (kk _ _ ci_1 (by omega) (Or.inr (Or.inr (Or.inl ⟨rfl, g_n0 ps2_0 (by omega), g_n1 ps5_0 (by omega)⟩))))
  · refine h_iconst (pc' := 10) (x := (Int32.ofInt 0)) rfl rfl rfl ?_
    exact h_iret rfl rfl (kk _ _ ci_0 (by omega) (Or.inr (Or.inl ⟨rfl, g_n1 ps2_0 (by omega)⟩)))
theorem n_nameHere_l (ns : Nat) (σ : h_S) (hI : h_I σ) (pr0 : σ 98 15 ≤ σ 98 11) (pr1 : σ 98 16 ≤ σ 98 15) {Q : Option Value → h_S → Prop} (kk : ∀ (r : Int32) (b : Int) (hb : r.toInt = b), ((-4) ≤ b ∧ b ≤ 7) → (σ 98 17 = 1 → g_fst (σ 102) (σ 98 16) (σ 98 15 - σ 98 16) b) → (σ 98 17 = 1 ∨ b = -4) → Q (some (.int r)) σ) : ∀ n : Nat, (100000 ≤ (n : Int) → h_T g_P (g_Y ns) 147 2 [(0, .ref 98), (1, .int (Int32.ofInt 0))] [] σ Q) ∧ (∀ (y2 : Int32) (b2 : Int), y2.toInt = b2 → (0 ≤ b2 ∧ b2 ≤ 0) → ∀ (y3 : Int32) (b3 : Int), y3.toInt = b3 → (0 ≤ b3 ∧ b3 ≤ 5) → (¬ g_nm0 (σ 102) (σ 98 16) (σ 98 15 - σ 98 16)) → 99000 ≤ (n : Int) → h_T g_P (g_Y ns) 147 2 [(0, .ref 98), (1, .int (Int32.ofInt 1)), (2, .int y2), (3, .int y3)] [] σ Q) ∧ (∀ (y2 : Int32) (b2 : Int), y2.toInt = b2 → (0 ≤ b2 ∧ b2 ≤ 0) → ∀ (y3 : Int32) (b3 : Int), y3.toInt = b3 → (0 ≤ b3 ∧ b3 ≤ 7) → (¬ g_nm0 (σ 102) (σ 98 16) (σ 98 15 - σ 98 16)) → (¬ g_nm1 (σ 102) (σ 98 16) (σ 98 15 - σ 98 16)) → 98000 ≤ (n : Int) → h_T g_P (g_Y ns) 147 2 [(0, .ref 98), (1, .int (Int32.ofInt 2)), (2, .int y2), (3, .int y3)] [] σ Q) ∧ (∀ (y2 : Int32) (b2 : Int), y2.toInt = b2 → (0 ≤ b2 ∧ b2 ≤ 0) → ∀ (y3 : Int32) (b3 : Int), y3.toInt = b3 → (0 ≤ b3 ∧ b3 ≤ 7) → (¬ g_nm0 (σ 102) (σ 98 16) (σ 98 15 - σ 98 16)) → (¬ g_nm1 (σ 102) (σ 98 16) (σ 98 15 - σ 98 16)) → (¬ g_nm2 (σ 102) (σ 98 16) (σ 98 15 - σ 98 16)) → 97000 ≤ (n : Int) → h_T g_P (g_Y ns) 147 2 [(0, .ref 98), (1, .int (Int32.ofInt 3)), (2, .int y2), (3, .int y3)] [] σ Q) ∧ (∀ (y2 : Int32) (b2 : Int), y2.toInt = b2 → (0 ≤ b2 ∧ b2 ≤ 0) → ∀ (y3 : Int32) (b3 : Int), y3.toInt = b3 → (0 ≤ b3 ∧ b3 ≤ 8) → (¬ g_nm0 (σ 102) (σ 98 16) (σ 98 15 - σ 98 16)) → (¬ g_nm1 (σ 102) (σ 98 16) (σ 98 15 - σ 98 16)) → (¬ g_nm2 (σ 102) (σ 98 16) (σ 98 15 - σ 98 16)) → (¬ g_nm3 (σ 102) (σ 98 16) (σ 98 15 - σ 98 16)) → 96000 ≤ (n : Int) → h_T g_P (g_Y ns) 147 2 [(0, .ref 98), (1, .int (Int32.ofInt 4)), (2, .int y2), (3, .int y3)] [] σ Q) ∧ (∀ (y2 : Int32) (b2 : Int), y2.toInt = b2 → (0 ≤ b2 ∧ b2 ≤ 0) → ∀ (y3 : Int32) (b3 : Int), y3.toInt = b3 → (0 ≤ b3 ∧ b3 ≤ 5) → (¬ g_nm0 (σ 102) (σ 98 16) (σ 98 15 - σ 98 16)) → (¬ g_nm1 (σ 102) (σ 98 16) (σ 98 15 - σ 98 16)) → (¬ g_nm2 (σ 102) (σ 98 16) (σ 98 15 - σ 98 16)) → (¬ g_nm3 (σ 102) (σ 98 16) (σ 98 15 - σ 98 16)) → (¬ g_nm4 (σ 102) (σ 98 16) (σ 98 15 - σ 98 16)) → 95000 ≤ (n : Int) → h_T g_P (g_Y ns) 147 2 [(0, .ref 98), (1, .int (Int32.ofInt 5)), (2, .int y2), (3, .int y3)] [] σ Q) ∧ (∀ (y2 : Int32) (b2 : Int), y2.toInt = b2 → (0 ≤ b2 ∧ b2 ≤ 0) → ∀ (y3 : Int32) (b3 : Int), y3.toInt = b3 → (0 ≤ b3 ∧ b3 ≤ 4) → (¬ g_nm0 (σ 102) (σ 98 16) (σ 98 15 - σ 98 16)) → (¬ g_nm1 (σ 102) (σ 98 16) (σ 98 15 - σ 98 16)) → (¬ g_nm2 (σ 102) (σ 98 16) (σ 98 15 - σ 98 16)) → (¬ g_nm3 (σ 102) (σ 98 16) (σ 98 15 - σ 98 16)) → (¬ g_nm4 (σ 102) (σ 98 16) (σ 98 15 - σ 98 16)) → (¬ g_nm5 (σ 102) (σ 98 16) (σ 98 15 - σ 98 16)) → 94000 ≤ (n : Int) → h_T g_P (g_Y ns) 147 2 [(0, .ref 98), (1, .int (Int32.ofInt 6)), (2, .int y2), (3, .int y3)] [] σ Q) ∧ (∀ (y2 : Int32) (b2 : Int), y2.toInt = b2 → (0 ≤ b2 ∧ b2 ≤ 0) → ∀ (y3 : Int32) (b3 : Int), y3.toInt = b3 → (0 ≤ b3 ∧ b3 ≤ 4) → (¬ g_nm0 (σ 102) (σ 98 16) (σ 98 15 - σ 98 16)) → (¬ g_nm1 (σ 102) (σ 98 16) (σ 98 15 - σ 98 16)) → (¬ g_nm2 (σ 102) (σ 98 16) (σ 98 15 - σ 98 16)) → (¬ g_nm3 (σ 102) (σ 98 16) (σ 98 15 - σ 98 16)) → (¬ g_nm4 (σ 102) (σ 98 16) (σ 98 15 - σ 98 16)) → (¬ g_nm5 (σ 102) (σ 98 16) (σ 98 15 - σ 98 16)) → (¬ g_nm6 (σ 102) (σ 98 16) (σ 98 15 - σ 98 16)) → 93000 ≤ (n : Int) → h_T g_P (g_Y ns) 147 2 [(0, .ref 98), (1, .int (Int32.ofInt 7)), (2, .int y2), (3, .int y3)] [] σ Q) ∧ (∀ (y2 : Int32) (b2 : Int), y2.toInt = b2 → (0 ≤ b2 ∧ b2 ≤ 0) → ∀ (y3 : Int32) (b3 : Int), y3.toInt = b3 → (0 ≤ b3 ∧ b3 ≤ 4) → (¬ g_nm0 (σ 102) (σ 98 16) (σ 98 15 - σ 98 16)) → (¬ g_nm1 (σ 102) (σ 98 16) (σ 98 15 - σ 98 16)) → (¬ g_nm2 (σ 102) (σ 98 16) (σ 98 15 - σ 98 16)) → (¬ g_nm3 (σ 102) (σ 98 16) (σ 98 15 - σ 98 16)) → (¬ g_nm4 (σ 102) (σ 98 16) (σ 98 15 - σ 98 16)) → (¬ g_nm5 (σ 102) (σ 98 16) (σ 98 15 - σ 98 16)) → (¬ g_nm6 (σ 102) (σ 98 16) (σ 98 15 - σ 98 16)) → (¬ g_nm7 (σ 102) (σ 98 16) (σ 98 15 - σ 98 16)) → 92000 ≤ (n : Int) → h_T g_P (g_Y ns) 147 2 [(0, .ref 98), (1, .int (Int32.ofInt 8)), (2, .int y2), (3, .int y3)] [] σ Q) ∧ (∀ (y2 : Int32) (b2 : Int), y2.toInt = b2 → (0 ≤ b2 ∧ b2 ≤ 1) → ((b2 = 1 ∧ σ 98 15 - σ 98 16 = 5) ∨ (b2 = 0 ∧ ¬ g_nm0 (σ 102) (σ 98 16) (σ 98 15 - σ 98 16))) → 99990 ≤ (n : Int) → h_T g_P (g_Y ns) 147 51 [(0, .ref 98), (1, .int (Int32.ofInt 0)), (2, .int y2), (3, .int (Int32.ofInt 0))] [] σ Q) ∧ (∀ (y2 : Int32) (b2 : Int), y2.toInt = b2 → (0 ≤ b2 ∧ b2 ≤ 1) → ((b2 = 1 ∧ σ 98 15 - σ 98 16 = 5 ∧ σ 102 (σ 98 16 + 0) = 112) ∨ (b2 = 0 ∧ ¬ g_nm0 (σ 102) (σ 98 16) (σ 98 15 - σ 98 16))) → 99980 ≤ (n : Int) → h_T g_P (g_Y ns) 147 51 [(0, .ref 98), (1, .int (Int32.ofInt 0)), (2, .int y2), (3, .int (Int32.ofInt 1))] [] σ Q) ∧ (∀ (y2 : Int32) (b2 : Int), y2.toInt = b2 → (0 ≤ b2 ∧ b2 ≤ 1) → ((b2 = 1 ∧ σ 98 15 - σ 98 16 = 5 ∧ σ 102 (σ 98 16 + 0) = 112 ∧ σ 102 (σ 98 16 + 1) = 108) ∨ (b2 = 0 ∧ ¬ g_nm0 (σ 102) (σ 98 16) (σ 98 15 - σ 98 16))) → 99970 ≤ (n : Int) → h_T g_P (g_Y ns) 147 51 [(0, .ref 98), (1, .int (Int32.ofInt 0)), (2, .int y2), (3, .int (Int32.ofInt 2))] [] σ Q) ∧ (∀ (y2 : Int32) (b2 : Int), y2.toInt = b2 → (0 ≤ b2 ∧ b2 ≤ 1) → ((b2 = 1 ∧ σ 98 15 - σ 98 16 = 5 ∧ σ 102 (σ 98 16 + 0) = 112 ∧ σ 102 (σ 98 16 + 1) = 108 ∧ σ 102 (σ 98 16 + 2) = 97) ∨ (b2 = 0 ∧ ¬ g_nm0 (σ 102) (σ 98 16) (σ 98 15 - σ 98 16))) → 99960 ≤ (n : Int) → h_T g_P (g_Y ns) 147 51 [(0, .ref 98), (1, .int (Int32.ofInt 0)), (2, .int y2), (3, .int (Int32.ofInt 3))] [] σ Q) ∧ (∀ (y2 : Int32) (b2 : Int), y2.toInt = b2 → (0 ≤ b2 ∧ b2 ≤ 1) → ((b2 = 1 ∧ σ 98 15 - σ 98 16 = 5 ∧ σ 102 (σ 98 16 + 0) = 112 ∧ σ 102 (σ 98 16 + 1) = 108 ∧ σ 102 (σ 98 16 + 2) = 97 ∧ σ 102 (σ 98 16 + 3) = 105) ∨ (b2 = 0 ∧ ¬ g_nm0 (σ 102) (σ 98 16) (σ 98 15 - σ 98 16))) → 99950 ≤ (n : Int) → h_T g_P (g_Y ns) 147 51 [(0, .ref 98), (1, .int (Int32.ofInt 0)), (2, .int y2), (3, .int (Int32.ofInt 4))] [] σ Q) ∧ (∀ (y2 : Int32) (b2 : Int), y2.toInt = b2 → (0 ≤ b2 ∧ b2 ≤ 1) → ((b2 = 1 ∧ σ 98 15 - σ 98 16 = 5 ∧ σ 102 (σ 98 16 + 0) = 112 ∧ σ 102 (σ 98 16 + 1) = 108 ∧ σ 102 (σ 98 16 + 2) = 97 ∧ σ 102 (σ 98 16 + 3) = 105 ∧ σ 102 (σ 98 16 + 4) = 110) ∨ (b2 = 0 ∧ ¬ g_nm0 (σ 102) (σ 98 16) (σ 98 15 - σ 98 16))) → 99940 ≤ (n : Int) → h_T g_P (g_Y ns) 147 51 [(0, .ref 98), (1, .int (Int32.ofInt 0)), (2, .int y2), (3, .int (Int32.ofInt 5))] [] σ Q) ∧ (∀ (y2 : Int32) (b2 : Int), y2.toInt = b2 → (0 ≤ b2 ∧ b2 ≤ 1) → (¬ g_nm0 (σ 102) (σ 98 16) (σ 98 15 - σ 98 16)) → ((b2 = 1 ∧ σ 98 15 - σ 98 16 = 7) ∨ (b2 = 0 ∧ ¬ g_nm1 (σ 102) (σ 98 16) (σ 98 15 - σ 98 16))) → 98990 ≤ (n : Int) → h_T g_P (g_Y ns) 147 51 [(0, .ref 98), (1, .int (Int32.ofInt 1)), (2, .int y2), (3, .int (Int32.ofInt 0))] [] σ Q) ∧ (∀ (y2 : Int32) (b2 : Int), y2.toInt = b2 → (0 ≤ b2 ∧ b2 ≤ 1) → (¬ g_nm0 (σ 102) (σ 98 16) (σ 98 15 - σ 98 16)) → ((b2 = 1 ∧ σ 98 15 - σ 98 16 = 7 ∧ σ 102 (σ 98 16 + 0) = 97) ∨ (b2 = 0 ∧ ¬ g_nm1 (σ 102) (σ 98 16) (σ 98 15 - σ 98 16))) → 98980 ≤ (n : Int) → h_T g_P (g_Y ns) 147 51 [(0, .ref 98), (1, .int (Int32.ofInt 1)), (2, .int y2), (3, .int (Int32.ofInt 1))] [] σ Q) ∧ (∀ (y2 : Int32) (b2 : Int), y2.toInt = b2 → (0 ≤ b2 ∧ b2 ≤ 1) → (¬ g_nm0 (σ 102) (σ 98 16) (σ 98 15 - σ 98 16)) → ((b2 = 1 ∧ σ 98 15 - σ 98 16 = 7 ∧ σ 102 (σ 98 16 + 0) = 97 ∧ σ 102 (σ 98 16 + 1) = 100) ∨ (b2 = 0 ∧ ¬ g_nm1 (σ 102) (σ 98 16) (σ 98 15 - σ 98 16))) → 98970 ≤ (n : Int) → h_T g_P (g_Y ns) 147 51 [(0, .ref 98), (1, .int (Int32.ofInt 1)), (2, .int y2), (3, .int (Int32.ofInt 2))] [] σ Q) ∧ (∀ (y2 : Int32) (b2 : Int), y2.toInt = b2 → (0 ≤ b2 ∧ b2 ≤ 1) → (¬ g_nm0 (σ 102) (σ 98 16) (σ 98 15 - σ 98 16)) → ((b2 = 1 ∧ σ 98 15 - σ 98 16 = 7 ∧ σ 102 (σ 98 16 + 0) = 97 ∧ σ 102 (σ 98 16 + 1) = 100 ∧ σ 102 (σ 98 16 + 2) = 111) ∨ (b2 = 0 ∧ ¬ g_nm1 (σ 102) (σ 98 16) (σ 98 15 - σ 98 16))) → 98960 ≤ (n : Int) → h_T g_P (g_Y ns) 147 51 [(0, .ref 98), (1, .int (Int32.ofInt 1)), (2, .int y2), (3, .int (Int32.ofInt 3))] [] σ Q) ∧ (∀ (y2 : Int32) (b2 : Int), y2.toInt = b2 → (0 ≤ b2 ∧ b2 ≤ 1) → (¬ g_nm0 (σ 102) (σ 98 16) (σ 98 15 - σ 98 16)) → ((b2 = 1 ∧ σ 98 15 - σ 98 16 = 7 ∧ σ 102 (σ 98 16 + 0) = 97 ∧ σ 102 (σ 98 16 + 1) = 100 ∧ σ 102 (σ 98 16 + 2) = 111 ∧ σ 102 (σ 98 16 + 3) = 112) ∨ (b2 = 0 ∧ ¬ g_nm1 (σ 102) (σ 98 16) (σ 98 15 - σ 98 16))) → 98950 ≤ (n : Int) → h_T g_P (g_Y ns) 147 51 [(0, .ref 98), (1, .int (Int32.ofInt 1)), (2, .int y2), (3, .int (Int32.ofInt 4))] [] σ Q) ∧ (∀ (y2 : Int32) (b2 : Int), y2.toInt = b2 → (0 ≤ b2 ∧ b2 ≤ 1) → (¬ g_nm0 (σ 102) (σ 98 16) (σ 98 15 - σ 98 16)) → ((b2 = 1 ∧ σ 98 15 - σ 98 16 = 7 ∧ σ 102 (σ 98 16 + 0) = 97 ∧ σ 102 (σ 98 16 + 1) = 100 ∧ σ 102 (σ 98 16 + 2) = 111 ∧ σ 102 (σ 98 16 + 3) = 112 ∧ σ 102 (σ 98 16 + 4) = 116) ∨ (b2 = 0 ∧ ¬ g_nm1 (σ 102) (σ 98 16) (σ 98 15 - σ 98 16))) → 98940 ≤ (n : Int) → h_T g_P (g_Y ns) 147 51 [(0, .ref 98), (1, .int (Int32.ofInt 1)), (2, .int y2), (3, .int (Int32.ofInt 5))] [] σ Q) ∧ (∀ (y2 : Int32) (b2 : Int), y2.toInt = b2 → (0 ≤ b2 ∧ b2 ≤ 1) → (¬ g_nm0 (σ 102) (σ 98 16) (σ 98 15 - σ 98 16)) → ((b2 = 1 ∧ σ 98 15 - σ 98 16 = 7 ∧ σ 102 (σ 98 16 + 0) = 97 ∧ σ 102 (σ 98 16 + 1) = 100 ∧ σ 102 (σ 98 16 + 2) = 111 ∧ σ 102 (σ 98 16 + 3) = 112 ∧ σ 102 (σ 98 16 + 4) = 116 ∧ σ 102 (σ 98 16 + 5) = 101) ∨ (b2 = 0 ∧ ¬ g_nm1 (σ 102) (σ 98 16) (σ 98 15 - σ 98 16))) → 98930 ≤ (n : Int) → h_T g_P (g_Y ns) 147 51 [(0, .ref 98), (1, .int (Int32.ofInt 1)), (2, .int y2), (3, .int (Int32.ofInt 6))] [] σ Q) ∧ (∀ (y2 : Int32) (b2 : Int), y2.toInt = b2 → (0 ≤ b2 ∧ b2 ≤ 1) → (¬ g_nm0 (σ 102) (σ 98 16) (σ 98 15 - σ 98 16)) → ((b2 = 1 ∧ σ 98 15 - σ 98 16 = 7 ∧ σ 102 (σ 98 16 + 0) = 97 ∧ σ 102 (σ 98 16 + 1) = 100 ∧ σ 102 (σ 98 16 + 2) = 111 ∧ σ 102 (σ 98 16 + 3) = 112 ∧ σ 102 (σ 98 16 + 4) = 116 ∧ σ 102 (σ 98 16 + 5) = 101 ∧ σ 102 (σ 98 16 + 6) = 100) ∨ (b2 = 0 ∧ ¬ g_nm1 (σ 102) (σ 98 16) (σ 98 15 - σ 98 16))) → 98920 ≤ (n : Int) → h_T g_P (g_Y ns) 147 51 [(0, .ref 98), (1, .int (Int32.ofInt 1)), (2, .int y2), (3, .int (Int32.ofInt 7))] [] σ Q) ∧ (∀ (y2 : Int32) (b2 : Int), y2.toInt = b2 → (0 ≤ b2 ∧ b2 ≤ 1) → (¬ g_nm0 (σ 102) (σ 98 16) (σ 98 15 - σ 98 16)) → (¬ g_nm1 (σ 102) (σ 98 16) (σ 98 15 - σ 98 16)) → ((b2 = 1 ∧ σ 98 15 - σ 98 16 = 7) ∨ (b2 = 0 ∧ ¬ g_nm2 (σ 102) (σ 98 16) (σ 98 15 - σ 98 16))) → 97990 ≤ (n : Int) → h_T g_P (g_Y ns) 147 51 [(0, .ref 98), (1, .int (Int32.ofInt 2)), (2, .int y2), (3, .int (Int32.ofInt 0))] [] σ Q) ∧ (∀ (y2 : Int32) (b2 : Int), y2.toInt = b2 → (0 ≤ b2 ∧ b2 ≤ 1) → (¬ g_nm0 (σ 102) (σ 98 16) (σ 98 15 - σ 98 16)) → (¬ g_nm1 (σ 102) (σ 98 16) (σ 98 15 - σ 98 16)) → ((b2 = 1 ∧ σ 98 15 - σ 98 16 = 7 ∧ σ 102 (σ 98 16 + 0) = 98) ∨ (b2 = 0 ∧ ¬ g_nm2 (σ 102) (σ 98 16) (σ 98 15 - σ 98 16))) → 97980 ≤ (n : Int) → h_T g_P (g_Y ns) 147 51 [(0, .ref 98), (1, .int (Int32.ofInt 2)), (2, .int y2), (3, .int (Int32.ofInt 1))] [] σ Q) ∧ (∀ (y2 : Int32) (b2 : Int), y2.toInt = b2 → (0 ≤ b2 ∧ b2 ≤ 1) → (¬ g_nm0 (σ 102) (σ 98 16) (σ 98 15 - σ 98 16)) → (¬ g_nm1 (σ 102) (σ 98 16) (σ 98 15 - σ 98 16)) → ((b2 = 1 ∧ σ 98 15 - σ 98 16 = 7 ∧ σ 102 (σ 98 16 + 0) = 98 ∧ σ 102 (σ 98 16 + 1) = 97) ∨ (b2 = 0 ∧ ¬ g_nm2 (σ 102) (σ 98 16) (σ 98 15 - σ 98 16))) → 97970 ≤ (n : Int) → h_T g_P (g_Y ns) 147 51 [(0, .ref 98), (1, .int (Int32.ofInt 2)), (2, .int y2), (3, .int (Int32.ofInt 2))] [] σ Q) ∧ (∀ (y2 : Int32) (b2 : Int), y2.toInt = b2 → (0 ≤ b2 ∧ b2 ≤ 1) → (¬ g_nm0 (σ 102) (σ 98 16) (σ 98 15 - σ 98 16)) → (¬ g_nm1 (σ 102) (σ 98 16) (σ 98 15 - σ 98 16)) → ((b2 = 1 ∧ σ 98 15 - σ 98 16 = 7 ∧ σ 102 (σ 98 16 + 0) = 98 ∧ σ 102 (σ 98 16 + 1) = 97 ∧ σ 102 (σ 98 16 + 2) = 115) ∨ (b2 = 0 ∧ ¬ g_nm2 (σ 102) (σ 98 16) (σ 98 15 - σ 98 16))) → 97960 ≤ (n : Int) → h_T g_P (g_Y ns) 147 51 [(0, .ref 98), (1, .int (Int32.ofInt 2)), (2, .int y2), (3, .int (Int32.ofInt 3))] [] σ Q) ∧ (∀ (y2 : Int32) (b2 : Int), y2.toInt = b2 → (0 ≤ b2 ∧ b2 ≤ 1) → (¬ g_nm0 (σ 102) (σ 98 16) (σ 98 15 - σ 98 16)) → (¬ g_nm1 (σ 102) (σ 98 16) (σ 98 15 - σ 98 16)) → ((b2 = 1 ∧ σ 98 15 - σ 98 16 = 7 ∧ σ 102 (σ 98 16 + 0) = 98 ∧ σ 102 (σ 98 16 + 1) = 97 ∧ σ 102 (σ 98 16 + 2) = 115 ∧ σ 102 (σ 98 16 + 3) = 116) ∨ (b2 = 0 ∧ ¬ g_nm2 (σ 102) (σ 98 16) (σ 98 15 - σ 98 16))) → 97950 ≤ (n : Int) → h_T g_P (g_Y ns) 147 51 [(0, .ref 98), (1, .int (Int32.ofInt 2)), (2, .int y2), (3, .int (Int32.ofInt 4))] [] σ Q) ∧ (∀ (y2 : Int32) (b2 : Int), y2.toInt = b2 → (0 ≤ b2 ∧ b2 ≤ 1) → (¬ g_nm0 (σ 102) (σ 98 16) (σ 98 15 - σ 98 16)) → (¬ g_nm1 (σ 102) (σ 98 16) (σ 98 15 - σ 98 16)) → ((b2 = 1 ∧ σ 98 15 - σ 98 16 = 7 ∧ σ 102 (σ 98 16 + 0) = 98 ∧ σ 102 (σ 98 16 + 1) = 97 ∧ σ 102 (σ 98 16 + 2) = 115 ∧ σ 102 (σ 98 16 + 3) = 116 ∧ σ 102 (σ 98 16 + 4) = 97) ∨ (b2 = 0 ∧ ¬ g_nm2 (σ 102) (σ 98 16) (σ 98 15 - σ 98 16))) → 97940 ≤ (n : Int) → h_T g_P (g_Y ns) 147 51 [(0, .ref 98), (1, .int (Int32.ofInt 2)), (2, .int y2), (3, .int (Int32.ofInt 5))] [] σ Q) ∧ (∀ (y2 : Int32) (b2 : Int), y2.toInt = b2 → (0 ≤ b2 ∧ b2 ≤ 1) → (¬ g_nm0 (σ 102) (σ 98 16) (σ 98 15 - σ 98 16)) → (¬ g_nm1 (σ 102) (σ 98 16) (σ 98 15 - σ 98 16)) → ((b2 = 1 ∧ σ 98 15 - σ 98 16 = 7 ∧ σ 102 (σ 98 16 + 0) = 98 ∧ σ 102 (σ 98 16 + 1) = 97 ∧ σ 102 (σ 98 16 + 2) = 115 ∧ σ 102 (σ 98 16 + 3) = 116 ∧ σ 102 (σ 98 16 + 4) = 97 ∧ σ 102 (σ 98 16 + 5) = 114) ∨ (b2 = 0 ∧ ¬ g_nm2 (σ 102) (σ 98 16) (σ 98 15 - σ 98 16))) → 97930 ≤ (n : Int) → h_T g_P (g_Y ns) 147 51 [(0, .ref 98), (1, .int (Int32.ofInt 2)), (2, .int y2), (3, .int (Int32.ofInt 6))] [] σ Q) ∧ (∀ (y2 : Int32) (b2 : Int), y2.toInt = b2 → (0 ≤ b2 ∧ b2 ≤ 1) → (¬ g_nm0 (σ 102) (σ 98 16) (σ 98 15 - σ 98 16)) → (¬ g_nm1 (σ 102) (σ 98 16) (σ 98 15 - σ 98 16)) → ((b2 = 1 ∧ σ 98 15 - σ 98 16 = 7 ∧ σ 102 (σ 98 16 + 0) = 98 ∧ σ 102 (σ 98 16 + 1) = 97 ∧ σ 102 (σ 98 16 + 2) = 115 ∧ σ 102 (σ 98 16 + 3) = 116 ∧ σ 102 (σ 98 16 + 4) = 97 ∧ σ 102 (σ 98 16 + 5) = 114 ∧ σ 102 (σ 98 16 + 6) = 100) ∨ (b2 = 0 ∧ ¬ g_nm2 (σ 102) (σ 98 16) (σ 98 15 - σ 98 16))) → 97920 ≤ (n : Int) → h_T g_P (g_Y ns) 147 51 [(0, .ref 98), (1, .int (Int32.ofInt 2)), (2, .int y2), (3, .int (Int32.ofInt 7))] [] σ Q) ∧ (∀ (y2 : Int32) (b2 : Int), y2.toInt = b2 → (0 ≤ b2 ∧ b2 ≤ 1) → (¬ g_nm0 (σ 102) (σ 98 16) (σ 98 15 - σ 98 16)) → (¬ g_nm1 (σ 102) (σ 98 16) (σ 98 15 - σ 98 16)) → (¬ g_nm2 (σ 102) (σ 98 16) (σ 98 15 - σ 98 16)) → ((b2 = 1 ∧ σ 98 15 - σ 98 16 = 8) ∨ (b2 = 0 ∧ ¬ g_nm3 (σ 102) (σ 98 16) (σ 98 15 - σ 98 16))) → 96990 ≤ (n : Int) → h_T g_P (g_Y ns) 147 51 [(0, .ref 98), (1, .int (Int32.ofInt 3)), (2, .int y2), (3, .int (Int32.ofInt 0))] [] σ Q) ∧ (∀ (y2 : Int32) (b2 : Int), y2.toInt = b2 → (0 ≤ b2 ∧ b2 ≤ 1) → (¬ g_nm0 (σ 102) (σ 98 16) (σ 98 15 - σ 98 16)) → (¬ g_nm1 (σ 102) (σ 98 16) (σ 98 15 - σ 98 16)) → (¬ g_nm2 (σ 102) (σ 98 16) (σ 98 15 - σ 98 16)) → ((b2 = 1 ∧ σ 98 15 - σ 98 16 = 8 ∧ σ 102 (σ 98 16 + 0) = 101) ∨ (b2 = 0 ∧ ¬ g_nm3 (σ 102) (σ 98 16) (σ 98 15 - σ 98 16))) → 96980 ≤ (n : Int) → h_T g_P (g_Y ns) 147 51 [(0, .ref 98), (1, .int (Int32.ofInt 3)), (2, .int y2), (3, .int (Int32.ofInt 1))] [] σ Q) ∧ (∀ (y2 : Int32) (b2 : Int), y2.toInt = b2 → (0 ≤ b2 ∧ b2 ≤ 1) → (¬ g_nm0 (σ 102) (σ 98 16) (σ 98 15 - σ 98 16)) → (¬ g_nm1 (σ 102) (σ 98 16) (σ 98 15 - σ 98 16)) → (¬ g_nm2 (σ 102) (σ 98 16) (σ 98 15 - σ 98 16)) → ((b2 = 1 ∧ σ 98 15 - σ 98 16 = 8 ∧ σ 102 (σ 98 16 + 0) = 101 ∧ σ 102 (σ 98 16 + 1) = 115) ∨ (b2 = 0 ∧ ¬ g_nm3 (σ 102) (σ 98 16) (σ 98 15 - σ 98 16))) → 96970 ≤ (n : Int) → h_T g_P (g_Y ns) 147 51 [(0, .ref 98), (1, .int (Int32.ofInt 3)), (2, .int y2), (3, .int (Int32.ofInt 2))] [] σ Q) ∧ (∀ (y2 : Int32) (b2 : Int), y2.toInt = b2 → (0 ≤ b2 ∧ b2 ≤ 1) → (¬ g_nm0 (σ 102) (σ 98 16) (σ 98 15 - σ 98 16)) → (¬ g_nm1 (σ 102) (σ 98 16) (σ 98 15 - σ 98 16)) → (¬ g_nm2 (σ 102) (σ 98 16) (σ 98 15 - σ 98 16)) → ((b2 = 1 ∧ σ 98 15 - σ 98 16 = 8 ∧ σ 102 (σ 98 16 + 0) = 101 ∧ σ 102 (σ 98 16 + 1) = 115 ∧ σ 102 (σ 98 16 + 2) = 116) ∨ (b2 = 0 ∧ ¬ g_nm3 (σ 102) (σ 98 16) (σ 98 15 - σ 98 16))) → 96960 ≤ (n : Int) → h_T g_P (g_Y ns) 147 51 [(0, .ref 98), (1, .int (Int32.ofInt 3)), (2, .int y2), (3, .int (Int32.ofInt 3))] [] σ Q) ∧ (∀ (y2 : Int32) (b2 : Int), y2.toInt = b2 → (0 ≤ b2 ∧ b2 ≤ 1) → (¬ g_nm0 (σ 102) (σ 98 16) (σ 98 15 - σ 98 16)) → (¬ g_nm1 (σ 102) (σ 98 16) (σ 98 15 - σ 98 16)) → (¬ g_nm2 (σ 102) (σ 98 16) (σ 98 15 - σ 98 16)) → ((b2 = 1 ∧ σ 98 15 - σ 98 16 = 8 ∧ σ 102 (σ 98 16 + 0) = 101 ∧ σ 102 (σ 98 16 + 1) = 115 ∧ σ 102 (σ 98 16 + 2) = 116 ∧ σ 102 (σ 98 16 + 3) = 114) ∨ (b2 = 0 ∧ ¬ g_nm3 (σ 102) (σ 98 16) (σ 98 15 - σ 98 16))) → 96950 ≤ (n : Int) → h_T g_P (g_Y ns) 147 51 [(0, .ref 98), (1, .int (Int32.ofInt 3)), (2, .int y2), (3, .int (Int32.ofInt 4))] [] σ Q) ∧ (∀ (y2 : Int32) (b2 : Int), y2.toInt = b2 → (0 ≤ b2 ∧ b2 ≤ 1) → (¬ g_nm0 (σ 102) (σ 98 16) (σ 98 15 - σ 98 16)) → (¬ g_nm1 (σ 102) (σ 98 16) (σ 98 15 - σ 98 16)) → (¬ g_nm2 (σ 102) (σ 98 16) (σ 98 15 - σ 98 16)) → ((b2 = 1 ∧ σ 98 15 - σ 98 16 = 8 ∧ σ 102 (σ 98 16 + 0) = 101 ∧ σ 102 (σ 98 16 + 1) = 115 ∧ σ 102 (σ 98 16 + 2) = 116 ∧ σ 102 (σ 98 16 + 3) = 114 ∧ σ 102 (σ 98 16 + 4) = 97) ∨ (b2 = 0 ∧ ¬ g_nm3 (σ 102) (σ 98 16) (σ 98 15 - σ 98 16))) → 96940 ≤ (n : Int) → h_T g_P (g_Y ns) 147 51 [(0, .ref 98), (1, .int (Int32.ofInt 3)), (2, .int y2), (3, .int (Int32.ofInt 5))] [] σ Q) ∧ (∀ (y2 : Int32) (b2 : Int), y2.toInt = b2 → (0 ≤ b2 ∧ b2 ≤ 1) → (¬ g_nm0 (σ 102) (σ 98 16) (σ 98 15 - σ 98 16)) → (¬ g_nm1 (σ 102) (σ 98 16) (σ 98 15 - σ 98 16)) → (¬ g_nm2 (σ 102) (σ 98 16) (σ 98 15 - σ 98 16)) → ((b2 = 1 ∧ σ 98 15 - σ 98 16 = 8 ∧ σ 102 (σ 98 16 + 0) = 101 ∧ σ 102 (σ 98 16 + 1) = 115 ∧ σ 102 (σ 98 16 + 2) = 116 ∧ σ 102 (σ 98 16 + 3) = 114 ∧ σ 102 (σ 98 16 + 4) = 97 ∧ σ 102 (σ 98 16 + 5) = 110) ∨ (b2 = 0 ∧ ¬ g_nm3 (σ 102) (σ 98 16) (σ 98 15 - σ 98 16))) → 96930 ≤ (n : Int) → h_T g_P (g_Y ns) 147 51 [(0, .ref 98), (1, .int (Int32.ofInt 3)), (2, .int y2), (3, .int (Int32.ofInt 6))] [] σ Q) ∧ (∀ (y2 : Int32) (b2 : Int), y2.toInt = b2 → (0 ≤ b2 ∧ b2 ≤ 1) → (¬ g_nm0 (σ 102) (σ 98 16) (σ 98 15 - σ 98 16)) → (¬ g_nm1 (σ 102) (σ 98 16) (σ 98 15 - σ 98 16)) → (¬ g_nm2 (σ 102) (σ 98 16) (σ 98 15 - σ 98 16)) → ((b2 = 1 ∧ σ 98 15 - σ 98 16 = 8 ∧ σ 102 (σ 98 16 + 0) = 101 ∧ σ 102 (σ 98 16 + 1) = 115 ∧ σ 102 (σ 98 16 + 2) = 116 ∧ σ 102 (σ 98 16 + 3) = 114 ∧ σ 102 (σ 98 16 + 4) = 97 ∧ σ 102 (σ 98 16 + 5) = 110 ∧ σ 102 (σ 98 16 + 6) = 103) ∨ (b2 = 0 ∧ ¬ g_nm3 (σ 102) (σ 98 16) (σ 98 15 - σ 98 16))) → 96920 ≤ (n : Int) → h_T g_P (g_Y ns) 147 51 [(0, .ref 98), (1, .int (Int32.ofInt 3)), (2, .int y2), (3, .int (Int32.ofInt 7))] [] σ Q) ∧ (∀ (y2 : Int32) (b2 : Int), y2.toInt = b2 → (0 ≤ b2 ∧ b2 ≤ 1) → (¬ g_nm0 (σ 102) (σ 98 16) (σ 98 15 - σ 98 16)) → (¬ g_nm1 (σ 102) (σ 98 16) (σ 98 15 - σ 98 16)) → (¬ g_nm2 (σ 102) (σ 98 16) (σ 98 15 - σ 98 16)) → ((b2 = 1 ∧ σ 98 15 - σ 98 16 = 8 ∧ σ 102 (σ 98 16 + 0) = 101 ∧ σ 102 (σ 98 16 + 1) = 115 ∧ σ 102 (σ 98 16 + 2) = 116 ∧ σ 102 (σ 98 16 + 3) = 114 ∧ σ 102 (σ 98 16 + 4) = 97 ∧ σ 102 (σ 98 16 + 5) = 110 ∧ σ 102 (σ 98 16 + 6) = 103 ∧ σ 102 (σ 98 16 + 7) = 101) ∨ (b2 = 0 ∧ ¬ g_nm3 (σ 102) (σ 98 16) (σ 98 15 - σ 98 16))) → 96910 ≤ (n : Int) → h_T g_P (g_Y ns) 147 51 [(0, .ref 98), (1, .int (Int32.ofInt 3)), (2, .int y2), (3, .int (Int32.ofInt 8))] [] σ Q) ∧ (∀ (y2 : Int32) (b2 : Int), y2.toInt = b2 → (0 ≤ b2 ∧ b2 ≤ 1) → (¬ g_nm0 (σ 102) (σ 98 16) (σ 98 15 - σ 98 16)) → (¬ g_nm1 (σ 102) (σ 98 16) (σ 98 15 - σ 98 16)) → (¬ g_nm2 (σ 102) (σ 98 16) (σ 98 15 - σ 98 16)) → (¬ g_nm3 (σ 102) (σ 98 16) (σ 98 15 - σ 98 16)) → ((b2 = 1 ∧ σ 98 15 - σ 98 16 = 5) ∨ (b2 = 0 ∧ ¬ g_nm4 (σ 102) (σ 98 16) (σ 98 15 - σ 98 16))) → 95990 ≤ (n : Int) → h_T g_P (g_Y ns) 147 51 [(0, .ref 98), (1, .int (Int32.ofInt 4)), (2, .int y2), (3, .int (Int32.ofInt 0))] [] σ Q) ∧ (∀ (y2 : Int32) (b2 : Int), y2.toInt = b2 → (0 ≤ b2 ∧ b2 ≤ 1) → (¬ g_nm0 (σ 102) (σ 98 16) (σ 98 15 - σ 98 16)) → (¬ g_nm1 (σ 102) (σ 98 16) (σ 98 15 - σ 98 16)) → (¬ g_nm2 (σ 102) (σ 98 16) (σ 98 15 - σ 98 16)) → (¬ g_nm3 (σ 102) (σ 98 16) (σ 98 15 - σ 98 16)) → ((b2 = 1 ∧ σ 98 15 - σ 98 16 = 5 ∧ σ 102 (σ 98 16 + 0) = 109) ∨ (b2 = 0 ∧ ¬ g_nm4 (σ 102) (σ 98 16) (σ 98 15 - σ 98 16))) → 95980 ≤ (n : Int) → h_T g_P (g_Y ns) 147 51 [(0, .ref 98), (1, .int (Int32.ofInt 4)), (2, .int y2), (3, .int (Int32.ofInt 1))] [] σ Q) ∧ (∀ (y2 : Int32) (b2 : Int), y2.toInt = b2 → (0 ≤ b2 ∧ b2 ≤ 1) → (¬ g_nm0 (σ 102) (σ 98 16) (σ 98 15 - σ 98 16)) → (¬ g_nm1 (σ 102) (σ 98 16) (σ 98 15 - σ 98 16)) → (¬ g_nm2 (σ 102) (σ 98 16) (σ 98 15 - σ 98 16)) → (¬ g_nm3 (σ 102) (σ 98 16) (σ 98 15 - σ 98 16)) → ((b2 = 1 ∧ σ 98 15 - σ 98 16 = 5 ∧ σ 102 (σ 98 16 + 0) = 109 ∧ σ 102 (σ 98 16 + 1) = 97) ∨ (b2 = 0 ∧ ¬ g_nm4 (σ 102) (σ 98 16) (σ 98 15 - σ 98 16))) → 95970 ≤ (n : Int) → h_T g_P (g_Y ns) 147 51 [(0, .ref 98), (1, .int (Int32.ofInt 4)), (2, .int y2), (3, .int (Int32.ofInt 2))] [] σ Q) ∧ (∀ (y2 : Int32) (b2 : Int), y2.toInt = b2 → (0 ≤ b2 ∧ b2 ≤ 1) → (¬ g_nm0 (σ 102) (σ 98 16) (σ 98 15 - σ 98 16)) → (¬ g_nm1 (σ 102) (σ 98 16) (σ 98 15 - σ 98 16)) → (¬ g_nm2 (σ 102) (σ 98 16) (σ 98 15 - σ 98 16)) → (¬ g_nm3 (σ 102) (σ 98 16) (σ 98 15 - σ 98 16)) → ((b2 = 1 ∧ σ 98 15 - σ 98 16 = 5 ∧ σ 102 (σ 98 16 + 0) = 109 ∧ σ 102 (σ 98 16 + 1) = 97 ∧ σ 102 (σ 98 16 + 2) = 114) ∨ (b2 = 0 ∧ ¬ g_nm4 (σ 102) (σ 98 16) (σ 98 15 - σ 98 16))) → 95960 ≤ (n : Int) → h_T g_P (g_Y ns) 147 51 [(0, .ref 98), (1, .int (Int32.ofInt 4)), (2, .int y2), (3, .int (Int32.ofInt 3))] [] σ Q) ∧ (∀ (y2 : Int32) (b2 : Int), y2.toInt = b2 → (0 ≤ b2 ∧ b2 ≤ 1) → (¬ g_nm0 (σ 102) (σ 98 16) (σ 98 15 - σ 98 16)) → (¬ g_nm1 (σ 102) (σ 98 16) (σ 98 15 - σ 98 16)) → (¬ g_nm2 (σ 102) (σ 98 16) (σ 98 15 - σ 98 16)) → (¬ g_nm3 (σ 102) (σ 98 16) (σ 98 15 - σ 98 16)) → ((b2 = 1 ∧ σ 98 15 - σ 98 16 = 5 ∧ σ 102 (σ 98 16 + 0) = 109 ∧ σ 102 (σ 98 16 + 1) = 97 ∧ σ 102 (σ 98 16 + 2) = 114 ∧ σ 102 (σ 98 16 + 3) = 114) ∨ (b2 = 0 ∧ ¬ g_nm4 (σ 102) (σ 98 16) (σ 98 15 - σ 98 16))) → 95950 ≤ (n : Int) → h_T g_P (g_Y ns) 147 51 [(0, .ref 98), (1, .int (Int32.ofInt 4)), (2, .int y2), (3, .int (Int32.ofInt 4))] [] σ Q) ∧ (∀ (y2 : Int32) (b2 : Int), y2.toInt = b2 → (0 ≤ b2 ∧ b2 ≤ 1) → (¬ g_nm0 (σ 102) (σ 98 16) (σ 98 15 - σ 98 16)) → (¬ g_nm1 (σ 102) (σ 98 16) (σ 98 15 - σ 98 16)) → (¬ g_nm2 (σ 102) (σ 98 16) (σ 98 15 - σ 98 16)) → (¬ g_nm3 (σ 102) (σ 98 16) (σ 98 15 - σ 98 16)) → ((b2 = 1 ∧ σ 98 15 - σ 98 16 = 5 ∧ σ 102 (σ 98 16 + 0) = 109 ∧ σ 102 (σ 98 16 + 1) = 97 ∧ σ 102 (σ 98 16 + 2) = 114 ∧ σ 102 (σ 98 16 + 3) = 114 ∧ σ 102 (σ 98 16 + 4) = 121) ∨ (b2 = 0 ∧ ¬ g_nm4 (σ 102) (σ 98 16) (σ 98 15 - σ 98 16))) → 95940 ≤ (n : Int) → h_T g_P (g_Y ns) 147 51 [(0, .ref 98), (1, .int (Int32.ofInt 4)), (2, .int y2), (3, .int (Int32.ofInt 5))] [] σ Q) ∧ (∀ (y2 : Int32) (b2 : Int), y2.toInt = b2 → (0 ≤ b2 ∧ b2 ≤ 1) → (¬ g_nm0 (σ 102) (σ 98 16) (σ 98 15 - σ 98 16)) → (¬ g_nm1 (σ 102) (σ 98 16) (σ 98 15 - σ 98 16)) → (¬ g_nm2 (σ 102) (σ 98 16) (σ 98 15 - σ 98 16)) → (¬ g_nm3 (σ 102) (σ 98 16) (σ 98 15 - σ 98 16)) → (¬ g_nm4 (σ 102) (σ 98 16) (σ 98 15 - σ 98 16)) → ((b2 = 1 ∧ σ 98 15 - σ 98 16 = 4) ∨ (b2 = 0 ∧ ¬ g_nm5 (σ 102) (σ 98 16) (σ 98 15 - σ 98 16))) → 94990 ≤ (n : Int) → h_T g_P (g_Y ns) 147 51 [(0, .ref 98), (1, .int (Int32.ofInt 5)), (2, .int y2), (3, .int (Int32.ofInt 0))] [] σ Q) ∧ (∀ (y2 : Int32) (b2 : Int), y2.toInt = b2 → (0 ≤ b2 ∧ b2 ≤ 1) → (¬ g_nm0 (σ 102) (σ 98 16) (σ 98 15 - σ 98 16)) → (¬ g_nm1 (σ 102) (σ 98 16) (σ 98 15 - σ 98 16)) → (¬ g_nm2 (σ 102) (σ 98 16) (σ 98 15 - σ 98 16)) → (¬ g_nm3 (σ 102) (σ 98 16) (σ 98 15 - σ 98 16)) → (¬ g_nm4 (σ 102) (σ 98 16) (σ 98 15 - σ 98 16)) → ((b2 = 1 ∧ σ 98 15 - σ 98 16 = 4 ∧ σ 102 (σ 98 16 + 0) = 102) ∨ (b2 = 0 ∧ ¬ g_nm5 (σ 102) (σ 98 16) (σ 98 15 - σ 98 16))) → 94980 ≤ (n : Int) → h_T g_P (g_Y ns) 147 51 [(0, .ref 98), (1, .int (Int32.ofInt 5)), (2, .int y2), (3, .int (Int32.ofInt 1))] [] σ Q) ∧ (∀ (y2 : Int32) (b2 : Int), y2.toInt = b2 → (0 ≤ b2 ∧ b2 ≤ 1) → (¬ g_nm0 (σ 102) (σ 98 16) (σ 98 15 - σ 98 16)) → (¬ g_nm1 (σ 102) (σ 98 16) (σ 98 15 - σ 98 16)) → (¬ g_nm2 (σ 102) (σ 98 16) (σ 98 15 - σ 98 16)) → (¬ g_nm3 (σ 102) (σ 98 16) (σ 98 15 - σ 98 16)) → (¬ g_nm4 (σ 102) (σ 98 16) (σ 98 15 - σ 98 16)) → ((b2 = 1 ∧ σ 98 15 - σ 98 16 = 4 ∧ σ 102 (σ 98 16 + 0) = 102 ∧ σ 102 (σ 98 16 + 1) = 101) ∨ (b2 = 0 ∧ ¬ g_nm5 (σ 102) (σ 98 16) (σ 98 15 - σ 98 16))) → 94970 ≤ (n : Int) → h_T g_P (g_Y ns) 147 51 [(0, .ref 98), (1, .int (Int32.ofInt 5)), (2, .int y2), (3, .int (Int32.ofInt 2))] [] σ Q) ∧ (∀ (y2 : Int32) (b2 : Int), y2.toInt = b2 → (0 ≤ b2 ∧ b2 ≤ 1) → (¬ g_nm0 (σ 102) (σ 98 16) (σ 98 15 - σ 98 16)) → (¬ g_nm1 (σ 102) (σ 98 16) (σ 98 15 - σ 98 16)) → (¬ g_nm2 (σ 102) (σ 98 16) (σ 98 15 - σ 98 16)) → (¬ g_nm3 (σ 102) (σ 98 16) (σ 98 15 - σ 98 16)) → (¬ g_nm4 (σ 102) (σ 98 16) (σ 98 15 - σ 98 16)) → ((b2 = 1 ∧ σ 98 15 - σ 98 16 = 4 ∧ σ 102 (σ 98 16 + 0) = 102 ∧ σ 102 (σ 98 16 + 1) = 101 ∧ σ 102 (σ 98 16 + 2) = 117) ∨ (b2 = 0 ∧ ¬ g_nm5 (σ 102) (σ 98 16) (σ 98 15 - σ 98 16))) → 94960 ≤ (n : Int) → h_T g_P (g_Y ns) 147 51 [(0, .ref 98), (1, .int (Int32.ofInt 5)), (2, .int y2), (3, .int (Int32.ofInt 3))] [] σ Q) ∧ (∀ (y2 : Int32) (b2 : Int), y2.toInt = b2 → (0 ≤ b2 ∧ b2 ≤ 1) → (¬ g_nm0 (σ 102) (σ 98 16) (σ 98 15 - σ 98 16)) → (¬ g_nm1 (σ 102) (σ 98 16) (σ 98 15 - σ 98 16)) → (¬ g_nm2 (σ 102) (σ 98 16) (σ 98 15 - σ 98 16)) → (¬ g_nm3 (σ 102) (σ 98 16) (σ 98 15 - σ 98 16)) → (¬ g_nm4 (σ 102) (σ 98 16) (σ 98 15 - σ 98 16)) → ((b2 = 1 ∧ σ 98 15 - σ 98 16 = 4 ∧ σ 102 (σ 98 16 + 0) = 102 ∧ σ 102 (σ 98 16 + 1) = 101 ∧ σ 102 (σ 98 16 + 2) = 117 ∧ σ 102 (σ 98 16 + 3) = 100) ∨ (b2 = 0 ∧ ¬ g_nm5 (σ 102) (σ 98 16) (σ 98 15 - σ 98 16))) → 94950 ≤ (n : Int) → h_T g_P (g_Y ns) 147 51 [(0, .ref 98), (1, .int (Int32.ofInt 5)), (2, .int y2), (3, .int (Int32.ofInt 4))] [] σ Q) ∧ (∀ (y2 : Int32) (b2 : Int), y2.toInt = b2 → (0 ≤ b2 ∧ b2 ≤ 1) → (¬ g_nm0 (σ 102) (σ 98 16) (σ 98 15 - σ 98 16)) → (¬ g_nm1 (σ 102) (σ 98 16) (σ 98 15 - σ 98 16)) → (¬ g_nm2 (σ 102) (σ 98 16) (σ 98 15 - σ 98 16)) → (¬ g_nm3 (σ 102) (σ 98 16) (σ 98 15 - σ 98 16)) → (¬ g_nm4 (σ 102) (σ 98 16) (σ 98 15 - σ 98 16)) → (¬ g_nm5 (σ 102) (σ 98 16) (σ 98 15 - σ 98 16)) → ((b2 = 1 ∧ σ 98 15 - σ 98 16 = 4) ∨ (b2 = 0 ∧ ¬ g_nm6 (σ 102) (σ 98 16) (σ 98 15 - σ 98 16))) → 93990 ≤ (n : Int) → h_T g_P (g_Y ns) 147 51 [(0, .ref 98), (1, .int (Int32.ofInt 6)), (2, .int y2), (3, .int (Int32.ofInt 0))] [] σ Q) ∧ (∀ (y2 : Int32) (b2 : Int), y2.toInt = b2 → (0 ≤ b2 ∧ b2 ≤ 1) → (¬ g_nm0 (σ 102) (σ 98 16) (σ 98 15 - σ 98 16)) → (¬ g_nm1 (σ 102) (σ 98 16) (σ 98 15 - σ 98 16)) → (¬ g_nm2 (σ 102) (σ 98 16) (σ 98 15 - σ 98 16)) → (¬ g_nm3 (σ 102) (σ 98 16) (σ 98 15 - σ 98 16)) → (¬ g_nm4 (σ 102) (σ 98 16) (σ 98 15 - σ 98 16)) → (¬ g_nm5 (σ 102) (σ 98 16) (σ 98 15 - σ 98 16)) → ((b2 = 1 ∧ σ 98 15 - σ 98 16 = 4 ∧ σ 102 (σ 98 16 + 0) = 103) ∨ (b2 = 0 ∧ ¬ g_nm6 (σ 102) (σ 98 16) (σ 98 15 - σ 98 16))) → 93980 ≤ (n : Int) → h_T g_P (g_Y ns) 147 51 [(0, .ref 98), (1, .int (Int32.ofInt 6)), (2, .int y2), (3, .int (Int32.ofInt 1))] [] σ Q) ∧ (∀ (y2 : Int32) (b2 : Int), y2.toInt = b2 → (0 ≤ b2 ∧ b2 ≤ 1) → (¬ g_nm0 (σ 102) (σ 98 16) (σ 98 15 - σ 98 16)) → (¬ g_nm1 (σ 102) (σ 98 16) (σ 98 15 - σ 98 16)) → (¬ g_nm2 (σ 102) (σ 98 16) (σ 98 15 - σ 98 16)) → (¬ g_nm3 (σ 102) (σ 98 16) (σ 98 15 - σ 98 16)) → (¬ g_nm4 (σ 102) (σ 98 16) (σ 98 15 - σ 98 16)) → (¬ g_nm5 (σ 102) (σ 98 16) (σ 98 15 - σ 98 16)) → ((b2 = 1 ∧ σ 98 15 - σ 98 16 = 4 ∧ σ 102 (σ 98 16 + 0) = 103 ∧ σ 102 (σ 98 16 + 1) = 97) ∨ (b2 = 0 ∧ ¬ g_nm6 (σ 102) (σ 98 16) (σ 98 15 - σ 98 16))) → 93970 ≤ (n : Int) → h_T g_P (g_Y ns) 147 51 [(0, .ref 98), (1, .int (Int32.ofInt 6)), (2, .int y2), (3, .int (Int32.ofInt 2))] [] σ Q) ∧ (∀ (y2 : Int32) (b2 : Int), y2.toInt = b2 → (0 ≤ b2 ∧ b2 ≤ 1) → (¬ g_nm0 (σ 102) (σ 98 16) (σ 98 15 - σ 98 16)) → (¬ g_nm1 (σ 102) (σ 98 16) (σ 98 15 - σ 98 16)) → (¬ g_nm2 (σ 102) (σ 98 16) (σ 98 15 - σ 98 16)) → (¬ g_nm3 (σ 102) (σ 98 16) (σ 98 15 - σ 98 16)) → (¬ g_nm4 (σ 102) (σ 98 16) (σ 98 15 - σ 98 16)) → (¬ g_nm5 (σ 102) (σ 98 16) (σ 98 15 - σ 98 16)) → ((b2 = 1 ∧ σ 98 15 - σ 98 16 = 4 ∧ σ 102 (σ 98 16 + 0) = 103 ∧ σ 102 (σ 98 16 + 1) = 97 ∧ σ 102 (σ 98 16 + 2) = 116) ∨ (b2 = 0 ∧ ¬ g_nm6 (σ 102) (σ 98 16) (σ 98 15 - σ 98 16))) → 93960 ≤ (n : Int) → h_T g_P (g_Y ns) 147 51 [(0, .ref 98), (1, .int (Int32.ofInt 6)), (2, .int y2), (3, .int (Int32.ofInt 3))] [] σ Q) ∧ (∀ (y2 : Int32) (b2 : Int), y2.toInt = b2 → (0 ≤ b2 ∧ b2 ≤ 1) → (¬ g_nm0 (σ 102) (σ 98 16) (σ 98 15 - σ 98 16)) → (¬ g_nm1 (σ 102) (σ 98 16) (σ 98 15 - σ 98 16)) → (¬ g_nm2 (σ 102) (σ 98 16) (σ 98 15 - σ 98 16)) → (¬ g_nm3 (σ 102) (σ 98 16) (σ 98 15 - σ 98 16)) → (¬ g_nm4 (σ 102) (σ 98 16) (σ 98 15 - σ 98 16)) → (¬ g_nm5 (σ 102) (σ 98 16) (σ 98 15 - σ 98 16)) → ((b2 = 1 ∧ σ 98 15 - σ 98 16 = 4 ∧ σ 102 (σ 98 16 + 0) = 103 ∧ σ 102 (σ 98 16 + 1) = 97 ∧ σ 102 (σ 98 16 + 2) = 116 ∧ σ 102 (σ 98 16 + 3) = 101) ∨ (b2 = 0 ∧ ¬ g_nm6 (σ 102) (σ 98 16) (σ 98 15 - σ 98 16))) → 93950 ≤ (n : Int) → h_T g_P (g_Y ns) 147 51 [(0, .ref 98), (1, .int (Int32.ofInt 6)), (2, .int y2), (3, .int (Int32.ofInt 4))] [] σ Q) ∧ (∀ (y2 : Int32) (b2 : Int), y2.toInt = b2 → (0 ≤ b2 ∧ b2 ≤ 1) → (¬ g_nm0 (σ 102) (σ 98 16) (σ 98 15 - σ 98 16)) → (¬ g_nm1 (σ 102) (σ 98 16) (σ 98 15 - σ 98 16)) → (¬ g_nm2 (σ 102) (σ 98 16) (σ 98 15 - σ 98 16)) → (¬ g_nm3 (σ 102) (σ 98 16) (σ 98 15 - σ 98 16)) → (¬ g_nm4 (σ 102) (σ 98 16) (σ 98 15 - σ 98 16)) → (¬ g_nm5 (σ 102) (σ 98 16) (σ 98 15 - σ 98 16)) → (¬ g_nm6 (σ 102) (σ 98 16) (σ 98 15 - σ 98 16)) → ((b2 = 1 ∧ σ 98 15 - σ 98 16 = 4) ∨ (b2 = 0 ∧ ¬ g_nm7 (σ 102) (σ 98 16) (σ 98 15 - σ 98 16))) → 92990 ≤ (n : Int) → h_T g_P (g_Y ns) 147 51 [(0, .ref 98), (1, .int (Int32.ofInt 7)), (2, .int y2), (3, .int (Int32.ofInt 0))] [] σ Q) ∧ (∀ (y2 : Int32) (b2 : Int), y2.toInt = b2 → (0 ≤ b2 ∧ b2 ≤ 1) → (¬ g_nm0 (σ 102) (σ 98 16) (σ 98 15 - σ 98 16)) → (¬ g_nm1 (σ 102) (σ 98 16) (σ 98 15 - σ 98 16)) → (¬ g_nm2 (σ 102) (σ 98 16) (σ 98 15 - σ 98 16)) → (¬ g_nm3 (σ 102) (σ 98 16) (σ 98 15 - σ 98 16)) → (¬ g_nm4 (σ 102) (σ 98 16) (σ 98 15 - σ 98 16)) → (¬ g_nm5 (σ 102) (σ 98 16) (σ 98 15 - σ 98 16)) → (¬ g_nm6 (σ 102) (σ 98 16) (σ 98 15 - σ 98 16)) → ((b2 = 1 ∧ σ 98 15 - σ 98 16 = 4 ∧ σ 102 (σ 98 16 + 0) = 112) ∨ (b2 = 0 ∧ ¬ g_nm7 (σ 102) (σ 98 16) (σ 98 15 - σ 98 16))) → 92980 ≤ (n : Int) → h_T g_P (g_Y ns) 147 51 [(0, .ref 98), (1, .int (Int32.ofInt 7)), (2, .int y2), (3, .int (Int32.ofInt 1))] [] σ Q) ∧ (∀ (y2 : Int32) (b2 : Int), y2.toInt = b2 → (0 ≤ b2 ∧ b2 ≤ 1) → (¬ g_nm0 (σ 102) (σ 98 16) (σ 98 15 - σ 98 16)) → (¬ g_nm1 (σ 102) (σ 98 16) (σ 98 15 - σ 98 16)) → (¬ g_nm2 (σ 102) (σ 98 16) (σ 98 15 - σ 98 16)) → (¬ g_nm3 (σ 102) (σ 98 16) (σ 98 15 - σ 98 16)) → (¬ g_nm4 (σ 102) (σ 98 16) (σ 98 15 - σ 98 16)) → (¬ g_nm5 (σ 102) (σ 98 16) (σ 98 15 - σ 98 16)) → (¬ g_nm6 (σ 102) (σ 98 16) (σ 98 15 - σ 98 16)) → ((b2 = 1 ∧ σ 98 15 - σ 98 16 = 4 ∧ σ 102 (σ 98 16 + 0) = 112 ∧ σ 102 (σ 98 16 + 1) = 108) ∨ (b2 = 0 ∧ ¬ g_nm7 (σ 102) (σ 98 16) (σ 98 15 - σ 98 16))) → 92970 ≤ (n : Int) → h_T g_P (g_Y ns) 147 51 [(0, .ref 98), (1, .int (Int32.ofInt 7)), (2, .int y2), (3, .int (Int32.ofInt 2))] [] σ Q) ∧ (∀ (y2 : Int32) (b2 : Int), y2.toInt = b2 → (0 ≤ b2 ∧ b2 ≤ 1) → (¬ g_nm0 (σ 102) (σ 98 16) (σ 98 15 - σ 98 16)) → (¬ g_nm1 (σ 102) (σ 98 16) (σ 98 15 - σ 98 16)) → (¬ g_nm2 (σ 102) (σ 98 16) (σ 98 15 - σ 98 16)) → (¬ g_nm3 (σ 102) (σ 98 16) (σ 98 15 - σ 98 16)) → (¬ g_nm4 (σ 102) (σ 98 16) (σ 98 15 - σ 98 16)) → (¬ g_nm5 (σ 102) (σ 98 16) (σ 98 15 - σ 98 16)) → (¬ g_nm6 (σ 102) (σ 98 16) (σ 98 15 - σ 98 16)) → ((b2 = 1 ∧ σ 98 15 - σ 98 16 = 4 ∧ σ 102 (σ 98 16 + 0) = 112 ∧ σ 102 (σ 98 16 + 1) = 108 ∧ σ 102 (σ 98 16 + 2) = 97) ∨ (b2 = 0 ∧ ¬ g_nm7 (σ 102) (σ 98 16) (σ 98 15 - σ 98 16))) → 92960 ≤ (n : Int) → h_T g_P (g_Y ns) 147 51 [(0, .ref 98), (1, .int (Int32.ofInt 7)), (2, .int y2), (3, .int (Int32.ofInt 3))] [] σ Q) ∧ (∀ (y2 : Int32) (b2 : Int), y2.toInt = b2 → (0 ≤ b2 ∧ b2 ≤ 1) → (¬ g_nm0 (σ 102) (σ 98 16) (σ 98 15 - σ 98 16)) → (¬ g_nm1 (σ 102) (σ 98 16) (σ 98 15 - σ 98 16)) → (¬ g_nm2 (σ 102) (σ 98 16) (σ 98 15 - σ 98 16)) → (¬ g_nm3 (σ 102) (σ 98 16) (σ 98 15 - σ 98 16)) → (¬ g_nm4 (σ 102) (σ 98 16) (σ 98 15 - σ 98 16)) → (¬ g_nm5 (σ 102) (σ 98 16) (σ 98 15 - σ 98 16)) → (¬ g_nm6 (σ 102) (σ 98 16) (σ 98 15 - σ 98 16)) → ((b2 = 1 ∧ σ 98 15 - σ 98 16 = 4 ∧ σ 102 (σ 98 16 + 0) = 112 ∧ σ 102 (σ 98 16 + 1) = 108 ∧ σ 102 (σ 98 16 + 2) = 97 ∧ σ 102 (σ 98 16 + 3) = 110) ∨ (b2 = 0 ∧ ¬ g_nm7 (σ 102) (σ 98 16) (σ 98 15 - σ 98 16))) → 92950 ≤ (n : Int) → h_T g_P (g_Y ns) 147 51 [(0, .ref 98), (1, .int (Int32.ofInt 7)), (2, .int y2), (3, .int (Int32.ofInt 4))] [] σ Q) := by
  intro n
  induction n with
  | zero => exact ⟨by intro  hm; have gh0 := tf_98_11 hI; have gh1 := tf_98_15 hI; have gh2 := tf_98_16 hI; exfalso; omega, by intro  y2 b2 hy2 ry2 y3 b3 hy3 ry3 ex0 hm; have gh0 := tf_98_11 hI; have gh1 := tf_98_15 hI; have gh2 := tf_98_16 hI; exfalso; omega, by intro  y2 b2 hy2 ry2 y3 b3 hy3 ry3 ex0 ex1 hm; have gh0 := tf_98_11 hI; have gh1 := tf_98_15 hI; have gh2 := tf_98_16 hI; exfalso; omega, by intro  y2 b2 hy2 ry2 y3 b3 hy3 ry3 ex0 ex1 ex2 hm; have gh0 := tf_98_11 hI; have gh1 := tf_98_15 hI; have gh2 := tf_98_16 hI; exfalso; omega, by intro  y2 b2 hy2 ry2 y3 b3 hy3 ry3 ex0 ex1 ex2 ex3 hm; have gh0 := tf_98_11 hI; have gh1 := tf_98_15 hI; have gh2 := tf_98_16 hI; exfalso; omega, by intro  y2 b2 hy2 ry2 y3 b3 hy3 ry3 ex0 ex1 ex2 ex3 ex4 hm; have gh0 := tf_98_11 hI; have gh1 := tf_98_15 hI; have gh2 := tf_98_16 hI; exfalso; omega, by intro  y2 b2 hy2 ry2 y3 b3 hy3 ry3 ex0 ex1 ex2 ex3 ex4 ex5 hm; have gh0 := tf_98_11 hI; have gh1 := tf_98_15 hI; have gh2 := tf_98_16 hI; exfalso; omega, by intro  y2 b2 hy2 ry2 y3 b3 hy3 ry3 ex0 ex1 ex2 ex3 ex4 ex5 ex6 hm; have gh0 := tf_98_11 hI; have gh1 := tf_98_15 hI; have gh2 := tf_98_16 hI; exfalso; omega, by intro  y2 b2 hy2 ry2 y3 b3 hy3 ry3 ex0 ex1 ex2 ex3 ex4 ex5 ex6 ex7 hm; have gh0 := tf_98_11 hI; have gh1 := tf_98_15 hI; have gh2 := tf_98_16 hI; exfalso; omega, by intro  y2 b2 hy2 ry2 ex0 hm; have gh0 := tf_98_11 hI; have gh1 := tf_98_15 hI; have gh2 := tf_98_16 hI; exfalso; omega, by intro  y2 b2 hy2 ry2 ex0 hm; have gh0 := tf_98_11 hI; have gh1 := tf_98_15 hI; have gh2 := tf_98_16 hI; exfalso; omega, by intro  y2 b2 hy2 ry2 ex0 hm; have gh0 := tf_98_11 hI; have gh1 := tf_98_15 hI; have gh2 := tf_98_16 hI; exfalso; omega, by intro  y2 b2 hy2 ry2 ex0 hm; have gh0 := tf_98_11 hI; have gh1 := tf_98_15 hI; have gh2 := tf_98_16 hI; exfalso; omega, by intro  y2 b2 hy2 ry2 ex0 hm; have gh0 := tf_98_11 hI; have gh1 := tf_98_15 hI; have gh2 := tf_98_16 hI; exfalso; omega, by intro  y2 b2 hy2 ry2 ex0 hm; have gh0 := tf_98_11 hI; have gh1 := tf_98_15 hI; have gh2 := tf_98_16 hI; exfalso; omega, by intro  y2 b2 hy2 ry2 ex0 ex1 hm; have gh0 := tf_98_11 hI; have gh1 := tf_98_15 hI; have gh2 := tf_98_16 hI; exfalso; omega, by intro  y2 b2 hy2 ry2 ex0 ex1 hm; have gh0 := tf_98_11 hI; have gh1 := tf_98_15 hI; have gh2 := tf_98_16 hI; exfalso; omega, by intro  y2 b2 hy2 ry2 ex0 ex1 hm; have gh0 := tf_98_11 hI; have gh1 := tf_98_15 hI; have gh2 := tf_98_16 hI; exfalso; omega, by intro  y2 b2 hy2 ry2 ex0 ex1 hm; have gh0 := tf_98_11 hI; have gh1 := tf_98_15 hI; have gh2 := tf_98_16 hI; exfalso; omega, by intro  y2 b2 hy2 ry2 ex0 ex1 hm; have gh0 := tf_98_11 hI; have gh1 := tf_98_15 hI; have gh2 := tf_98_16 hI; exfalso; omega, by intro  y2 b2 hy2 ry2 ex0 ex1 hm; have gh0 := tf_98_11 hI; have gh1 := tf_98_15 hI; have gh2 := tf_98_16 hI; exfalso; omega, by intro  y2 b2 hy2 ry2 ex0 ex1 hm; have gh0 := tf_98_11 hI; have gh1 := tf_98_15 hI; have gh2 := tf_98_16 hI; exfalso; omega, by intro  y2 b2 hy2 ry2 ex0 ex1 hm; have gh0 := tf_98_11 hI; have gh1 := tf_98_15 hI; have gh2 := tf_98_16 hI; exfalso; omega, by intro  y2 b2 hy2 ry2 ex0 ex1 ex2 hm; have gh0 := tf_98_11 hI; have gh1 := tf_98_15 hI; have gh2 := tf_98_16 hI; exfalso; omega, by intro  y2 b2 hy2 ry2 ex0 ex1 ex2 hm; have gh0 := tf_98_11 hI; have gh1 := tf_98_15 hI; have gh2 := tf_98_16 hI; exfalso; omega, by intro  y2 b2 hy2 ry2 ex0 ex1 ex2 hm; have gh0 := tf_98_11 hI; have gh1 := tf_98_15 hI; have gh2 := tf_98_16 hI; exfalso; omega, by intro  y2 b2 hy2 ry2 ex0 ex1 ex2 hm; have gh0 := tf_98_11 hI; have gh1 := tf_98_15 hI; have gh2 := tf_98_16 hI; exfalso; omega, by intro  y2 b2 hy2 ry2 ex0 ex1 ex2 hm; have gh0 := tf_98_11 hI; have gh1 := tf_98_15 hI; have gh2 := tf_98_16 hI; exfalso; omega, by intro  y2 b2 hy2 ry2 ex0 ex1 ex2 hm; have gh0 := tf_98_11 hI; have gh1 := tf_98_15 hI; have gh2 := tf_98_16 hI; exfalso; omega, by intro  y2 b2 hy2 ry2 ex0 ex1 ex2 hm; have gh0 := tf_98_11 hI; have gh1 := tf_98_15 hI; have gh2 := tf_98_16 hI; exfalso; omega, by intro  y2 b2 hy2 ry2 ex0 ex1 ex2 hm; have gh0 := tf_98_11 hI; have gh1 := tf_98_15 hI; have gh2 := tf_98_16 hI; exfalso; omega, by intro  y2 b2 hy2 ry2 ex0 ex1 ex2 ex3 hm; have gh0 := tf_98_11 hI; have gh1 := tf_98_15 hI; have gh2 := tf_98_16 hI; exfalso; omega, by intro  y2 b2 hy2 ry2 ex0 ex1 ex2 ex3 hm; have gh0 := tf_98_11 hI; have gh1 := tf_98_15 hI; have gh2 := tf_98_16 hI; exfalso; omega, by intro  y2 b2 hy2 ry2 ex0 ex1 ex2 ex3 hm; have gh0 := tf_98_11 hI; have gh1 := tf_98_15 hI; have gh2 := tf_98_16 hI; exfalso; omega, by intro  y2 b2 hy2 ry2 ex0 ex1 ex2 ex3 hm; have gh0 := tf_98_11 hI; have gh1 := tf_98_15 hI; have gh2 := tf_98_16 hI; exfalso; omega, by intro  y2 b2 hy2 ry2 ex0 ex1 ex2 ex3 hm; have gh0 := tf_98_11 hI; have gh1 := tf_98_15 hI; have gh2 := tf_98_16 hI; exfalso; omega, by intro  y2 b2 hy2 ry2 ex0 ex1 ex2 ex3 hm; have gh0 := tf_98_11 hI; have gh1 := tf_98_15 hI; have gh2 := tf_98_16 hI; exfalso; omega, by intro  y2 b2 hy2 ry2 ex0 ex1 ex2 ex3 hm; have gh0 := tf_98_11 hI; have gh1 := tf_98_15 hI; have gh2 := tf_98_16 hI; exfalso; omega, by intro  y2 b2 hy2 ry2 ex0 ex1 ex2 ex3 hm; have gh0 := tf_98_11 hI; have gh1 := tf_98_15 hI; have gh2 := tf_98_16 hI; exfalso; omega, by intro  y2 b2 hy2 ry2 ex0 ex1 ex2 ex3 hm; have gh0 := tf_98_11 hI; have gh1 := tf_98_15 hI; have gh2 := tf_98_16 hI; exfalso; omega, by intro  y2 b2 hy2 ry2 ex0 ex1 ex2 ex3 ex4 hm; have gh0 := tf_98_11 hI; have gh1 := tf_98_15 hI; have gh2 := tf_98_16 hI; exfalso; omega, by intro  y2 b2 hy2 ry2 ex0 ex1 ex2 ex3 ex4 hm; have gh0 := tf_98_11 hI; have gh1 := tf_98_15 hI; have gh2 := tf_98_16 hI; exfalso; omega, by intro  y2 b2 hy2 ry2 ex0 ex1 ex2 ex3 ex4 hm; have gh0 := tf_98_11 hI; have gh1 := tf_98_15 hI; have gh2 := tf_98_16 hI; exfalso; omega, by intro  y2 b2 hy2 ry2 ex0 ex1 ex2 ex3 ex4 hm; have gh0 := tf_98_11 hI; have gh1 := tf_98_15 hI; have gh2 := tf_98_16 hI; exfalso; omega, by intro  y2 b2 hy2 ry2 ex0 ex1 ex2 ex3 ex4 hm; have gh0 := tf_98_11 hI; have gh1 := tf_98_15 hI; have gh2 := tf_98_16 hI; exfalso; omega, by intro  y2 b2 hy2 ry2 ex0 ex1 ex2 ex3 ex4 hm; have gh0 := tf_98_11 hI; have gh1 := tf_98_15 hI; have gh2 := tf_98_16 hI; exfalso; omega, by intro  y2 b2 hy2 ry2 ex0 ex1 ex2 ex3 ex4 ex5 hm; have gh0 := tf_98_11 hI; have gh1 := tf_98_15 hI; have gh2 := tf_98_16 hI; exfalso; omega, by intro  y2 b2 hy2 ry2 ex0 ex1 ex2 ex3 ex4 ex5 hm; have gh0 := tf_98_11 hI; have gh1 := tf_98_15 hI; have gh2 := tf_98_16 hI; exfalso; omega, by intro  y2 b2 hy2 ry2 ex0 ex1 ex2 ex3 ex4 ex5 hm; have gh0 := tf_98_11 hI; have gh1 := tf_98_15 hI; have gh2 := tf_98_16 hI; exfalso; omega, by intro  y2 b2 hy2 ry2 ex0 ex1 ex2 ex3 ex4 ex5 hm; have gh0 := tf_98_11 hI; have gh1 := tf_98_15 hI; have gh2 := tf_98_16 hI; exfalso; omega, by intro  y2 b2 hy2 ry2 ex0 ex1 ex2 ex3 ex4 ex5 hm; have gh0 := tf_98_11 hI; have gh1 := tf_98_15 hI; have gh2 := tf_98_16 hI; exfalso; omega, by intro  y2 b2 hy2 ry2 ex0 ex1 ex2 ex3 ex4 ex5 ex6 hm; have gh0 := tf_98_11 hI; have gh1 := tf_98_15 hI; have gh2 := tf_98_16 hI; exfalso; omega, by intro  y2 b2 hy2 ry2 ex0 ex1 ex2 ex3 ex4 ex5 ex6 hm; have gh0 := tf_98_11 hI; have gh1 := tf_98_15 hI; have gh2 := tf_98_16 hI; exfalso; omega, by intro  y2 b2 hy2 ry2 ex0 ex1 ex2 ex3 ex4 ex5 ex6 hm; have gh0 := tf_98_11 hI; have gh1 := tf_98_15 hI; have gh2 := tf_98_16 hI; exfalso; omega, by intro  y2 b2 hy2 ry2 ex0 ex1 ex2 ex3 ex4 ex5 ex6 hm; have gh0 := tf_98_11 hI; have gh1 := tf_98_15 hI; have gh2 := tf_98_16 hI; exfalso; omega, by intro  y2 b2 hy2 ry2 ex0 ex1 ex2 ex3 ex4 ex5 ex6 hm; have gh0 := tf_98_11 hI; have gh1 := tf_98_15 hI; have gh2 := tf_98_16 hI; exfalso; omega, by intro  y2 b2 hy2 ry2 ex0 ex1 ex2 ex3 ex4 ex5 ex6 ex7 hm; have gh0 := tf_98_11 hI; have gh1 := tf_98_15 hI; have gh2 := tf_98_16 hI; exfalso; omega, by intro  y2 b2 hy2 ry2 ex0 ex1 ex2 ex3 ex4 ex5 ex6 ex7 hm; have gh0 := tf_98_11 hI; have gh1 := tf_98_15 hI; have gh2 := tf_98_16 hI; exfalso; omega, by intro  y2 b2 hy2 ry2 ex0 ex1 ex2 ex3 ex4 ex5 ex6 ex7 hm; have gh0 := tf_98_11 hI; have gh1 := tf_98_15 hI; have gh2 := tf_98_16 hI; exfalso; omega, by intro  y2 b2 hy2 ry2 ex0 ex1 ex2 ex3 ex4 ex5 ex6 ex7 hm; have gh0 := tf_98_11 hI; have gh1 := tf_98_15 hI; have gh2 := tf_98_16 hI; exfalso; omega, by intro  y2 b2 hy2 ry2 ex0 ex1 ex2 ex3 ex4 ex5 ex6 ex7 hm; have gh0 := tf_98_11 hI; have gh1 := tf_98_15 hI; have gh2 := tf_98_16 hI; exfalso; omega⟩
  | succ n ih =>
    refine ⟨?_, ?_, ?_, ?_, ?_, ?_, ?_, ?_, ?_, ?_, ?_, ?_, ?_, ?_, ?_, ?_, ?_, ?_, ?_, ?_, ?_, ?_, ?_, ?_, ?_, ?_, ?_, ?_, ?_, ?_, ?_, ?_, ?_, ?_, ?_, ?_, ?_, ?_, ?_, ?_, ?_, ?_, ?_, ?_, ?_, ?_, ?_, ?_, ?_, ?_, ?_, ?_, ?_, ?_, ?_, ?_, ?_, ?_, ?_, ?_, ?_⟩
    · intro  hm; have gh0 := tf_98_11 hI; have gh1 := tf_98_15 hI; have gh2 := tf_98_16 hI
      refine h_iload_n (pc' := 3) rfl rfl rfl ?_
      refine h_bipush (pc' := 5) (x := (Int32.ofInt 8)) rfl rfl cb_8 ?_
      refine h_cge (tg := 118) (pc' := 8) rfl rfl rfl ci_0 ci_8 (fun c1 => absurd c1 (by omega)) (fun c1 => ?_)
      refine h_aload_n (pc' := 9) rfl rfl rfl ?_
      refine h_getI (pc' := 12) (v := σ 98 17) rfl rfl rfl rfl rfl rfl (fun z2 hz2 => ?_)
      have tz2 := tf_98_17 hI
      refine h_iconst (pc' := 13) (x := (Int32.ofInt 1)) rfl rfl rfl ?_
      refine h_cne (tg := 118) (pc' := 16) rfl rfl rfl hz2 ci_1 (fun c3 => ?_) (fun c3 => ?_)
      · refine h_bipush (pc' := 120) (x := (Int32.ofInt (-4))) rfl rfl cb_m4 ?_
        exact h_iret rfl rfl (kk _ _ ci_m4 (by omega) (fun h => absurd h (by omega)) (Or.inr rfl))
      · refine h_aload_n (pc' := 17) rfl rfl rfl ?_
        refine h_getI (pc' := 20) (v := σ 98 15) rfl rfl rfl rfl rfl rfl (fun z4 hz4 => ?_)
        have tz4 := tf_98_15 hI
        refine h_aload_n (pc' := 21) rfl rfl rfl ?_
        refine h_getI (pc' := 24) (v := σ 98 16) rfl rfl rfl rfl rfl rfl (fun z5 hz5 => ?_)
        have tz5 := tf_98_16 hI
        refine h_isub (pc' := 25) rfl rfl hz4 hz5 rfl (by omega) (by omega) (fun z6 hz6 => ?_)
        refine h_aload_n (pc' := 26) rfl rfl rfl ?_
        refine h_getR (pc' := 29) rfl rfl rfl rfl rfl ?_
        refine h_iload_n (pc' := 30) rfl rfl rfl ?_
        refine h_iconst (pc' := 31) (x := (Int32.ofInt 1)) rfl rfl rfl ?_
        refine h_iadd (pc' := 32) (c := 1) rfl rfl ci_0 ci_1 rfl (by omega) (by omega) (fun z7 hz7 => ?_)
        refine h_iald (pc' := 33) (v := 5) rfl rfl rfl hz7 (by omega) (by omega) (tx_103_1 hI) (fun z8 hz8 => ?_)
        refine h_aload_n (pc' := 34) rfl rfl rfl ?_
        refine h_getR (pc' := 37) rfl rfl rfl rfl rfl ?_
        refine h_iload_n (pc' := 38) rfl rfl rfl ?_
        refine h_iald (pc' := 39) (v := 0) rfl rfl rfl ci_0 (by omega) (by omega) (tx_103_0 hI) (fun z9 hz9 => ?_)
        refine h_isub (pc' := 40) rfl rfl hz8 hz9 rfl (by omega) (by omega) (fun z10 hz10 => ?_)
        refine h_cne (tg := 47) (pc' := 43) rfl rfl rfl hz6 hz10 (fun c11 => ?_) (fun c11 => ?_)
        · refine h_iconst (pc' := 48) (x := (Int32.ofInt 0)) rfl rfl rfl ?_
          refine h_istore_n (pc' := 49) (M := [(2, .int (Int32.ofInt 0)), (0, .ref 98), (1, .int (Int32.ofInt 0))]) rfl rfl rfl rfl ?_
          refine h_iconst (pc' := 50) (x := (Int32.ofInt 0)) rfl rfl rfl ?_
          refine h_istore_n (pc' := 51) (M := [(3, .int (Int32.ofInt 0)), (2, .int (Int32.ofInt 0)), (0, .ref 98), (1, .int (Int32.ofInt 0))]) rfl rfl rfl rfl ?_
          exact h_wk [(0, .ref 98), (1, .int (Int32.ofInt 0)), (2, .int (Int32.ofInt 0)), (3, .int (Int32.ofInt 0))] ⟨rfl, rfl, rfl, rfl, trivial⟩ (ih.2.2.2.2.2.2.2.2.2.1 (Int32.ofInt 0) _ ci_0 (by omega) (Or.inr ⟨by omega, fun h => by unfold g_nm0 at h; omega⟩) (by omega))
        · refine h_iconst (pc' := 44) (x := (Int32.ofInt 1)) rfl rfl rfl ?_
          refine h_goto (pc' := 48) rfl rfl ?_
          refine h_istore_n (pc' := 49) (M := [(2, .int (Int32.ofInt 1)), (0, .ref 98), (1, .int (Int32.ofInt 0))]) rfl rfl rfl rfl ?_
          refine h_iconst (pc' := 50) (x := (Int32.ofInt 0)) rfl rfl rfl ?_
          refine h_istore_n (pc' := 51) (M := [(3, .int (Int32.ofInt 0)), (2, .int (Int32.ofInt 1)), (0, .ref 98), (1, .int (Int32.ofInt 0))]) rfl rfl rfl rfl ?_
          exact h_wk [(0, .ref 98), (1, .int (Int32.ofInt 0)), (2, .int (Int32.ofInt 1)), (3, .int (Int32.ofInt 0))] ⟨rfl, rfl, rfl, rfl, trivial⟩ (ih.2.2.2.2.2.2.2.2.2.1 (Int32.ofInt 1) _ ci_1 (by omega) (Or.inl ⟨by omega, by omega⟩) (by omega))
    · intro  y2 b2 hy2 ry2 y3 b3 hy3 ry3 ex0 hm; have gh0 := tf_98_11 hI; have gh1 := tf_98_15 hI; have gh2 := tf_98_16 hI
      refine h_iload_n (pc' := 3) rfl rfl rfl ?_
      refine h_bipush (pc' := 5) (x := (Int32.ofInt 8)) rfl rfl cb_8 ?_
      refine h_cge (tg := 118) (pc' := 8) rfl rfl rfl ci_1 ci_8 (fun c1 => absurd c1 (by omega)) (fun c1 => ?_)
      refine h_aload_n (pc' := 9) rfl rfl rfl ?_
      refine h_getI (pc' := 12) (v := σ 98 17) rfl rfl rfl rfl rfl rfl (fun z2 hz2 => ?_)
      have tz2 := tf_98_17 hI
      refine h_iconst (pc' := 13) (x := (Int32.ofInt 1)) rfl rfl rfl ?_
      refine h_cne (tg := 118) (pc' := 16) rfl rfl rfl hz2 ci_1 (fun c3 => ?_) (fun c3 => ?_)
      · refine h_bipush (pc' := 120) (x := (Int32.ofInt (-4))) rfl rfl cb_m4 ?_
        exact h_iret rfl rfl (kk _ _ ci_m4 (by omega) (fun h => absurd h (by omega)) (Or.inr rfl))
      · refine h_aload_n (pc' := 17) rfl rfl rfl ?_
        refine h_getI (pc' := 20) (v := σ 98 15) rfl rfl rfl rfl rfl rfl (fun z4 hz4 => ?_)
        have tz4 := tf_98_15 hI
        refine h_aload_n (pc' := 21) rfl rfl rfl ?_
        refine h_getI (pc' := 24) (v := σ 98 16) rfl rfl rfl rfl rfl rfl (fun z5 hz5 => ?_)
        have tz5 := tf_98_16 hI
        refine h_isub (pc' := 25) rfl rfl hz4 hz5 rfl (by omega) (by omega) (fun z6 hz6 => ?_)
        refine h_aload_n (pc' := 26) rfl rfl rfl ?_
        refine h_getR (pc' := 29) rfl rfl rfl rfl rfl ?_
        refine h_iload_n (pc' := 30) rfl rfl rfl ?_
        refine h_iconst (pc' := 31) (x := (Int32.ofInt 1)) rfl rfl rfl ?_
        refine h_iadd (pc' := 32) (c := 2) rfl rfl ci_1 ci_1 rfl (by omega) (by omega) (fun z7 hz7 => ?_)
        refine h_iald (pc' := 33) (v := 12) rfl rfl rfl hz7 (by omega) (by omega) (tx_103_2 hI) (fun z8 hz8 => ?_)
        refine h_aload_n (pc' := 34) rfl rfl rfl ?_
        refine h_getR (pc' := 37) rfl rfl rfl rfl rfl ?_
        refine h_iload_n (pc' := 38) rfl rfl rfl ?_
        refine h_iald (pc' := 39) (v := 5) rfl rfl rfl ci_1 (by omega) (by omega) (tx_103_1 hI) (fun z9 hz9 => ?_)
        refine h_isub (pc' := 40) rfl rfl hz8 hz9 rfl (by omega) (by omega) (fun z10 hz10 => ?_)
        refine h_cne (tg := 47) (pc' := 43) rfl rfl rfl hz6 hz10 (fun c11 => ?_) (fun c11 => ?_)
        · refine h_iconst (pc' := 48) (x := (Int32.ofInt 0)) rfl rfl rfl ?_
          refine h_istore_n (pc' := 49) (M := [(2, .int (Int32.ofInt 0)), (0, .ref 98), (1, .int (Int32.ofInt 1)), (3, .int y3)]) rfl rfl rfl rfl ?_
          refine h_iconst (pc' := 50) (x := (Int32.ofInt 0)) rfl rfl rfl ?_
          refine h_istore_n (pc' := 51) (M := [(3, .int (Int32.ofInt 0)), (2, .int (Int32.ofInt 0)), (0, .ref 98), (1, .int (Int32.ofInt 1))]) rfl rfl rfl rfl ?_
          exact h_wk [(0, .ref 98), (1, .int (Int32.ofInt 1)), (2, .int (Int32.ofInt 0)), (3, .int (Int32.ofInt 0))] ⟨rfl, rfl, rfl, rfl, trivial⟩ (ih.2.2.2.2.2.2.2.2.2.2.2.2.2.2.2.1 (Int32.ofInt 0) _ ci_0 (by omega) ex0 (Or.inr ⟨by omega, fun h => by unfold g_nm1 at h; omega⟩) (by omega))
        · refine h_iconst (pc' := 44) (x := (Int32.ofInt 1)) rfl rfl rfl ?_
          refine h_goto (pc' := 48) rfl rfl ?_
          refine h_istore_n (pc' := 49) (M := [(2, .int (Int32.ofInt 1)), (0, .ref 98), (1, .int (Int32.ofInt 1)), (3, .int y3)]) rfl rfl rfl rfl ?_
          refine h_iconst (pc' := 50) (x := (Int32.ofInt 0)) rfl rfl rfl ?_
          refine h_istore_n (pc' := 51) (M := [(3, .int (Int32.ofInt 0)), (2, .int (Int32.ofInt 1)), (0, .ref 98), (1, .int (Int32.ofInt 1))]) rfl rfl rfl rfl ?_
          exact h_wk [(0, .ref 98), (1, .int (Int32.ofInt 1)), (2, .int (Int32.ofInt 1)), (3, .int (Int32.ofInt 0))] ⟨rfl, rfl, rfl, rfl, trivial⟩ (ih.2.2.2.2.2.2.2.2.2.2.2.2.2.2.2.1 (Int32.ofInt 1) _ ci_1 (by omega) ex0 (Or.inl ⟨by omega, by omega⟩) (by omega))
    · intro  y2 b2 hy2 ry2 y3 b3 hy3 ry3 ex0 ex1 hm; have gh0 := tf_98_11 hI; have gh1 := tf_98_15 hI; have gh2 := tf_98_16 hI
      refine h_iload_n (pc' := 3) rfl rfl rfl ?_
      refine h_bipush (pc' := 5) (x := (Int32.ofInt 8)) rfl rfl cb_8 ?_
      refine h_cge (tg := 118) (pc' := 8) rfl rfl rfl ci_2 ci_8 (fun c1 => absurd c1 (by omega)) (fun c1 => ?_)
      refine h_aload_n (pc' := 9) rfl rfl rfl ?_
      refine h_getI (pc' := 12) (v := σ 98 17) rfl rfl rfl rfl rfl rfl (fun z2 hz2 => ?_)
      have tz2 := tf_98_17 hI
      refine h_iconst (pc' := 13) (x := (Int32.ofInt 1)) rfl rfl rfl ?_
      refine h_cne (tg := 118) (pc' := 16) rfl rfl rfl hz2 ci_1 (fun c3 => ?_) (fun c3 => ?_)
      · refine h_bipush (pc' := 120) (x := (Int32.ofInt (-4))) rfl rfl cb_m4 ?_
        exact h_iret rfl rfl (kk _ _ ci_m4 (by omega) (fun h => absurd h (by omega)) (Or.inr rfl))
      · refine h_aload_n (pc' := 17) rfl rfl rfl ?_
        refine h_getI (pc' := 20) (v := σ 98 15) rfl rfl rfl rfl rfl rfl (fun z4 hz4 => ?_)
        have tz4 := tf_98_15 hI
        refine h_aload_n (pc' := 21) rfl rfl rfl ?_
        refine h_getI (pc' := 24) (v := σ 98 16) rfl rfl rfl rfl rfl rfl (fun z5 hz5 => ?_)
        have tz5 := tf_98_16 hI
        refine h_isub (pc' := 25) rfl rfl hz4 hz5 rfl (by omega) (by omega) (fun z6 hz6 => ?_)
        refine h_aload_n (pc' := 26) rfl rfl rfl ?_
        refine h_getR (pc' := 29) rfl rfl rfl rfl rfl ?_
        refine h_iload_n (pc' := 30) rfl rfl rfl ?_
        refine h_iconst (pc' := 31) (x := (Int32.ofInt 1)) rfl rfl rfl ?_
        refine h_iadd (pc' := 32) (c := 3) rfl rfl ci_2 ci_1 rfl (by omega) (by omega) (fun z7 hz7 => ?_)
        refine h_iald (pc' := 33) (v := 19) rfl rfl rfl hz7 (by omega) (by omega) (tx_103_3 hI) (fun z8 hz8 => ?_)
        refine h_aload_n (pc' := 34) rfl rfl rfl ?_
        refine h_getR (pc' := 37) rfl rfl rfl rfl rfl ?_
        refine h_iload_n (pc' := 38) rfl rfl rfl ?_
        refine h_iald (pc' := 39) (v := 12) rfl rfl rfl ci_2 (by omega) (by omega) (tx_103_2 hI) (fun z9 hz9 => ?_)
        refine h_isub (pc' := 40) rfl rfl hz8 hz9 rfl (by omega) (by omega) (fun z10 hz10 => ?_)
        refine h_cne (tg := 47) (pc' := 43) rfl rfl rfl hz6 hz10 (fun c11 => ?_) (fun c11 => ?_)
        · refine h_iconst (pc' := 48) (x := (Int32.ofInt 0)) rfl rfl rfl ?_
          refine h_istore_n (pc' := 49) (M := [(2, .int (Int32.ofInt 0)), (0, .ref 98), (1, .int (Int32.ofInt 2)), (3, .int y3)]) rfl rfl rfl rfl ?_
          refine h_iconst (pc' := 50) (x := (Int32.ofInt 0)) rfl rfl rfl ?_
          refine h_istore_n (pc' := 51) (M := [(3, .int (Int32.ofInt 0)), (2, .int (Int32.ofInt 0)), (0, .ref 98), (1, .int (Int32.ofInt 2))]) rfl rfl rfl rfl ?_
          exact h_wk [(0, .ref 98), (1, .int (Int32.ofInt 2)), (2, .int (Int32.ofInt 0)), (3, .int (Int32.ofInt 0))] ⟨rfl, rfl, rfl, rfl, trivial⟩ (ih.2.2.2.2.2.2.2.2.2.2.2.2.2.2.2.2.2.2.2.2.2.2.2.1 (Int32.ofInt 0) _ ci_0 (by omega) ex0 ex1 (Or.inr ⟨by omega, fun h => by unfold g_nm2 at h; omega⟩) (by omega))
        · refine h_iconst (pc' := 44) (x := (Int32.ofInt 1)) rfl rfl rfl ?_
          refine h_goto (pc' := 48) rfl rfl ?_
          refine h_istore_n (pc' := 49) (M := [(2, .int (Int32.ofInt 1)), (0, .ref 98), (1, .int (Int32.ofInt 2)), (3, .int y3)]) rfl rfl rfl rfl ?_
          refine h_iconst (pc' := 50) (x := (Int32.ofInt 0)) rfl rfl rfl ?_
          refine h_istore_n (pc' := 51) (M := [(3, .int (Int32.ofInt 0)), (2, .int (Int32.ofInt 1)), (0, .ref 98), (1, .int (Int32.ofInt 2))]) rfl rfl rfl rfl ?_
          exact h_wk [(0, .ref 98), (1, .int (Int32.ofInt 2)), (2, .int (Int32.ofInt 1)), (3, .int (Int32.ofInt 0))] ⟨rfl, rfl, rfl, rfl, trivial⟩ (ih.2.2.2.2.2.2.2.2.2.2.2.2.2.2.2.2.2.2.2.2.2.2.2.1 (Int32.ofInt 1) _ ci_1 (by omega) ex0 ex1 (Or.inl ⟨by omega, by omega⟩) (by omega))
    · intro  y2 b2 hy2 ry2 y3 b3 hy3 ry3 ex0 ex1 ex2 hm; have gh0 := tf_98_11 hI; have gh1 := tf_98_15 hI; have gh2 := tf_98_16 hI
      refine h_iload_n (pc' := 3) rfl rfl rfl ?_
      refine h_bipush (pc' := 5) (x := (Int32.ofInt 8)) rfl rfl cb_8 ?_
      refine h_cge (tg := 118) (pc' := 8) rfl rfl rfl ci_3 ci_8 (fun c1 => absurd c1 (by omega)) (fun c1 => ?_)
      refine h_aload_n (pc' := 9) rfl rfl rfl ?_
      refine h_getI (pc' := 12) (v := σ 98 17) rfl rfl rfl rfl rfl rfl (fun z2 hz2 => ?_)
      have tz2 := tf_98_17 hI
      refine h_iconst (pc' := 13) (x := (Int32.ofInt 1)) rfl rfl rfl ?_
      refine h_cne (tg := 118) (pc' := 16) rfl rfl rfl hz2 ci_1 (fun c3 => ?_) (fun c3 => ?_)
      · refine h_bipush (pc' := 120) (x := (Int32.ofInt (-4))) rfl rfl cb_m4 ?_
        exact h_iret rfl rfl (kk _ _ ci_m4 (by omega) (fun h => absurd h (by omega)) (Or.inr rfl))
      · refine h_aload_n (pc' := 17) rfl rfl rfl ?_
        refine h_getI (pc' := 20) (v := σ 98 15) rfl rfl rfl rfl rfl rfl (fun z4 hz4 => ?_)
        have tz4 := tf_98_15 hI
        refine h_aload_n (pc' := 21) rfl rfl rfl ?_
        refine h_getI (pc' := 24) (v := σ 98 16) rfl rfl rfl rfl rfl rfl (fun z5 hz5 => ?_)
        have tz5 := tf_98_16 hI
        refine h_isub (pc' := 25) rfl rfl hz4 hz5 rfl (by omega) (by omega) (fun z6 hz6 => ?_)
        refine h_aload_n (pc' := 26) rfl rfl rfl ?_
        refine h_getR (pc' := 29) rfl rfl rfl rfl rfl ?_
        refine h_iload_n (pc' := 30) rfl rfl rfl ?_
        refine h_iconst (pc' := 31) (x := (Int32.ofInt 1)) rfl rfl rfl ?_
        refine h_iadd (pc' := 32) (c := 4) rfl rfl ci_3 ci_1 rfl (by omega) (by omega) (fun z7 hz7 => ?_)
        refine h_iald (pc' := 33) (v := 27) rfl rfl rfl hz7 (by omega) (by omega) (tx_103_4 hI) (fun z8 hz8 => ?_)
        refine h_aload_n (pc' := 34) rfl rfl rfl ?_
        refine h_getR (pc' := 37) rfl rfl rfl rfl rfl ?_
        refine h_iload_n (pc' := 38) rfl rfl rfl ?_
        refine h_iald (pc' := 39) (v := 19) rfl rfl rfl ci_3 (by omega) (by omega) (tx_103_3 hI) (fun z9 hz9 => ?_)
        refine h_isub (pc' := 40) rfl rfl hz8 hz9 rfl (by omega) (by omega) (fun z10 hz10 => ?_)
        refine h_cne (tg := 47) (pc' := 43) rfl rfl rfl hz6 hz10 (fun c11 => ?_) (fun c11 => ?_)
        · refine h_iconst (pc' := 48) (x := (Int32.ofInt 0)) rfl rfl rfl ?_
          refine h_istore_n (pc' := 49) (M := [(2, .int (Int32.ofInt 0)), (0, .ref 98), (1, .int (Int32.ofInt 3)), (3, .int y3)]) rfl rfl rfl rfl ?_
          refine h_iconst (pc' := 50) (x := (Int32.ofInt 0)) rfl rfl rfl ?_
          refine h_istore_n (pc' := 51) (M := [(3, .int (Int32.ofInt 0)), (2, .int (Int32.ofInt 0)), (0, .ref 98), (1, .int (Int32.ofInt 3))]) rfl rfl rfl rfl ?_
          exact h_wk [(0, .ref 98), (1, .int (Int32.ofInt 3)), (2, .int (Int32.ofInt 0)), (3, .int (Int32.ofInt 0))] ⟨rfl, rfl, rfl, rfl, trivial⟩ (ih.2.2.2.2.2.2.2.2.2.2.2.2.2.2.2.2.2.2.2.2.2.2.2.2.2.2.2.2.2.2.2.1 (Int32.ofInt 0) _ ci_0 (by omega) ex0 ex1 ex2 (Or.inr ⟨by omega, fun h => by unfold g_nm3 at h; omega⟩) (by omega))
        · refine h_iconst (pc' := 44) (x := (Int32.ofInt 1)) rfl rfl rfl ?_
          refine h_goto (pc' := 48) rfl rfl ?_
          refine h_istore_n (pc' := 49) (M := [(2, .int (Int32.ofInt 1)), (0, .ref 98), (1, .int (Int32.ofInt 3)), (3, .int y3)]) rfl rfl rfl rfl ?_
          refine h_iconst (pc' := 50) (x := (Int32.ofInt 0)) rfl rfl rfl ?_
          refine h_istore_n (pc' := 51) (M := [(3, .int (Int32.ofInt 0)), (2, .int (Int32.ofInt 1)), (0, .ref 98), (1, .int (Int32.ofInt 3))]) rfl rfl rfl rfl ?_
          exact h_wk [(0, .ref 98), (1, .int (Int32.ofInt 3)), (2, .int (Int32.ofInt 1)), (3, .int (Int32.ofInt 0))] ⟨rfl, rfl, rfl, rfl, trivial⟩ (ih.2.2.2.2.2.2.2.2.2.2.2.2.2.2.2.2.2.2.2.2.2.2.2.2.2.2.2.2.2.2.2.1 (Int32.ofInt 1) _ ci_1 (by omega) ex0 ex1 ex2 (Or.inl ⟨by omega, by omega⟩) (by omega))
    · intro  y2 b2 hy2 ry2 y3 b3 hy3 ry3 ex0 ex1 ex2 ex3 hm; have gh0 := tf_98_11 hI; have gh1 := tf_98_15 hI; have gh2 := tf_98_16 hI
      refine h_iload_n (pc' := 3) rfl rfl rfl ?_
      refine h_bipush (pc' := 5) (x := (Int32.ofInt 8)) rfl rfl cb_8 ?_
      refine h_cge (tg := 118) (pc' := 8) rfl rfl rfl ci_4 ci_8 (fun c1 => absurd c1 (by omega)) (fun c1 => ?_)
      refine h_aload_n (pc' := 9) rfl rfl rfl ?_
      refine h_getI (pc' := 12) (v := σ 98 17) rfl rfl rfl rfl rfl rfl (fun z2 hz2 => ?_)
      have tz2 := tf_98_17 hI
      refine h_iconst (pc' := 13) (x := (Int32.ofInt 1)) rfl rfl rfl ?_
      refine h_cne (tg := 118) (pc' := 16) rfl rfl rfl hz2 ci_1 (fun c3 => ?_) (fun c3 => ?_)
      · refine h_bipush (pc' := 120) (x := (Int32.ofInt (-4))) rfl rfl cb_m4 ?_
        exact h_iret rfl rfl (kk _ _ ci_m4 (by omega) (fun h => absurd h (by omega)) (Or.inr rfl))
      · refine h_aload_n (pc' := 17) rfl rfl rfl ?_
        refine h_getI (pc' := 20) (v := σ 98 15) rfl rfl rfl rfl rfl rfl (fun z4 hz4 => ?_)
        have tz4 := tf_98_15 hI
        refine h_aload_n (pc' := 21) rfl rfl rfl ?_
        refine h_getI (pc' := 24) (v := σ 98 16) rfl rfl rfl rfl rfl rfl (fun z5 hz5 => ?_)
        have tz5 := tf_98_16 hI
        refine h_isub (pc' := 25) rfl rfl hz4 hz5 rfl (by omega) (by omega) (fun z6 hz6 => ?_)
        refine h_aload_n (pc' := 26) rfl rfl rfl ?_
        refine h_getR (pc' := 29) rfl rfl rfl rfl rfl ?_
        refine h_iload_n (pc' := 30) rfl rfl rfl ?_
        refine h_iconst (pc' := 31) (x := (Int32.ofInt 1)) rfl rfl rfl ?_
        refine h_iadd (pc' := 32) (c := 5) rfl rfl ci_4 ci_1 rfl (by omega) (by omega) (fun z7 hz7 => ?_)
        refine h_iald (pc' := 33) (v := 32) rfl rfl rfl hz7 (by omega) (by omega) (tx_103_5 hI) (fun z8 hz8 => ?_)
        refine h_aload_n (pc' := 34) rfl rfl rfl ?_
        refine h_getR (pc' := 37) rfl rfl rfl rfl rfl ?_
        refine h_iload_n (pc' := 38) rfl rfl rfl ?_
        refine h_iald (pc' := 39) (v := 27) rfl rfl rfl ci_4 (by omega) (by omega) (tx_103_4 hI) (fun z9 hz9 => ?_)
        refine h_isub (pc' := 40) rfl rfl hz8 hz9 rfl (by omega) (by omega) (fun z10 hz10 => ?_)
        refine h_cne (tg := 47) (pc' := 43) rfl rfl rfl hz6 hz10 (fun c11 => ?_) (fun c11 => ?_)
        · refine h_iconst (pc' := 48) (x := (Int32.ofInt 0)) rfl rfl rfl ?_
          refine h_istore_n (pc' := 49) (M := [(2, .int (Int32.ofInt 0)), (0, .ref 98), (1, .int (Int32.ofInt 4)), (3, .int y3)]) rfl rfl rfl rfl ?_
          refine h_iconst (pc' := 50) (x := (Int32.ofInt 0)) rfl rfl rfl ?_
          refine h_istore_n (pc' := 51) (M := [(3, .int (Int32.ofInt 0)), (2, .int (Int32.ofInt 0)), (0, .ref 98), (1, .int (Int32.ofInt 4))]) rfl rfl rfl rfl ?_
          exact h_wk [(0, .ref 98), (1, .int (Int32.ofInt 4)), (2, .int (Int32.ofInt 0)), (3, .int (Int32.ofInt 0))] ⟨rfl, rfl, rfl, rfl, trivial⟩ (ih.2.2.2.2.2.2.2.2.2.2.2.2.2.2.2.2.2.2.2.2.2.2.2.2.2.2.2.2.2.2.2.2.2.2.2.2.2.2.2.2.1 (Int32.ofInt 0) _ ci_0 (by omega) ex0 ex1 ex2 ex3 (Or.inr ⟨by omega, fun h => by unfold g_nm4 at h; omega⟩) (by omega))
        · refine h_iconst (pc' := 44) (x := (Int32.ofInt 1)) rfl rfl rfl ?_
          refine h_goto (pc' := 48) rfl rfl ?_
          refine h_istore_n (pc' := 49) (M := [(2, .int (Int32.ofInt 1)), (0, .ref 98), (1, .int (Int32.ofInt 4)), (3, .int y3)]) rfl rfl rfl rfl ?_
          refine h_iconst (pc' := 50) (x := (Int32.ofInt 0)) rfl rfl rfl ?_
          refine h_istore_n (pc' := 51) (M := [(3, .int (Int32.ofInt 0)), (2, .int (Int32.ofInt 1)), (0, .ref 98), (1, .int (Int32.ofInt 4))]) rfl rfl rfl rfl ?_
          exact h_wk [(0, .ref 98), (1, .int (Int32.ofInt 4)), (2, .int (Int32.ofInt 1)), (3, .int (Int32.ofInt 0))] ⟨rfl, rfl, rfl, rfl, trivial⟩ (ih.2.2.2.2.2.2.2.2.2.2.2.2.2.2.2.2.2.2.2.2.2.2.2.2.2.2.2.2.2.2.2.2.2.2.2.2.2.2.2.2.1 (Int32.ofInt 1) _ ci_1 (by omega) ex0 ex1 ex2 ex3 (Or.inl ⟨by omega, by omega⟩) (by omega))
    · intro  y2 b2 hy2 ry2 y3 b3 hy3 ry3 ex0 ex1 ex2 ex3 ex4 hm; have gh0 := tf_98_11 hI; have gh1 := tf_98_15 hI; have gh2 := tf_98_16 hI
      refine h_iload_n (pc' := 3) rfl rfl rfl ?_
      refine h_bipush (pc' := 5) (x := (Int32.ofInt 8)) rfl rfl cb_8 ?_
      refine h_cge (tg := 118) (pc' := 8) rfl rfl rfl ci_5 ci_8 (fun c1 => absurd c1 (by omega)) (fun c1 => ?_)
      refine h_aload_n (pc' := 9) rfl rfl rfl ?_
      refine h_getI (pc' := 12) (v := σ 98 17) rfl rfl rfl rfl rfl rfl (fun z2 hz2 => ?_)
      have tz2 := tf_98_17 hI
      refine h_iconst (pc' := 13) (x := (Int32.ofInt 1)) rfl rfl rfl ?_
      refine h_cne (tg := 118) (pc' := 16) rfl rfl rfl hz2 ci_1 (fun c3 => ?_) (fun c3 => ?_)
      · refine h_bipush (pc' := 120) (x := (Int32.ofInt (-4))) rfl rfl cb_m4 ?_
        exact h_iret rfl rfl (kk _ _ ci_m4 (by omega) (fun h => absurd h (by omega)) (Or.inr rfl))
      · refine h_aload_n (pc' := 17) rfl rfl rfl ?_
        refine h_getI (pc' := 20) (v := σ 98 15) rfl rfl rfl rfl rfl rfl (fun z4 hz4 => ?_)
        have tz4 := tf_98_15 hI
        refine h_aload_n (pc' := 21) rfl rfl rfl ?_
        refine h_getI (pc' := 24) (v := σ 98 16) rfl rfl rfl rfl rfl rfl (fun z5 hz5 => ?_)
        have tz5 := tf_98_16 hI
        refine h_isub (pc' := 25) rfl rfl hz4 hz5 rfl (by omega) (by omega) (fun z6 hz6 => ?_)
        refine h_aload_n (pc' := 26) rfl rfl rfl ?_
        refine h_getR (pc' := 29) rfl rfl rfl rfl rfl ?_
        refine h_iload_n (pc' := 30) rfl rfl rfl ?_
        refine h_iconst (pc' := 31) (x := (Int32.ofInt 1)) rfl rfl rfl ?_
        refine h_iadd (pc' := 32) (c := 6) rfl rfl ci_5 ci_1 rfl (by omega) (by omega) (fun z7 hz7 => ?_)
        refine h_iald (pc' := 33) (v := 36) rfl rfl rfl hz7 (by omega) (by omega) (tx_103_6 hI) (fun z8 hz8 => ?_)
        refine h_aload_n (pc' := 34) rfl rfl rfl ?_
        refine h_getR (pc' := 37) rfl rfl rfl rfl rfl ?_
        refine h_iload_n (pc' := 38) rfl rfl rfl ?_
        refine h_iald (pc' := 39) (v := 32) rfl rfl rfl ci_5 (by omega) (by omega) (tx_103_5 hI) (fun z9 hz9 => ?_)
        refine h_isub (pc' := 40) rfl rfl hz8 hz9 rfl (by omega) (by omega) (fun z10 hz10 => ?_)
        refine h_cne (tg := 47) (pc' := 43) rfl rfl rfl hz6 hz10 (fun c11 => ?_) (fun c11 => ?_)
        · refine h_iconst (pc' := 48) (x := (Int32.ofInt 0)) rfl rfl rfl ?_
          refine h_istore_n (pc' := 49) (M := [(2, .int (Int32.ofInt 0)), (0, .ref 98), (1, .int (Int32.ofInt 5)), (3, .int y3)]) rfl rfl rfl rfl ?_
          refine h_iconst (pc' := 50) (x := (Int32.ofInt 0)) rfl rfl rfl ?_
          refine h_istore_n (pc' := 51) (M := [(3, .int (Int32.ofInt 0)), (2, .int (Int32.ofInt 0)), (0, .ref 98), (1, .int (Int32.ofInt 5))]) rfl rfl rfl rfl ?_
          exact h_wk [(0, .ref 98), (1, .int (Int32.ofInt 5)), (2, .int (Int32.ofInt 0)), (3, .int (Int32.ofInt 0))] ⟨rfl, rfl, rfl, rfl, trivial⟩ (ih.2.2.2.2.2.2.2.2.2.2.2.2.2.2.2.2.2.2.2.2.2.2.2.2.2.2.2.2.2.2.2.2.2.2.2.2.2.2.2.2.2.2.2.2.2.2.1 (Int32.ofInt 0) _ ci_0 (by omega) ex0 ex1 ex2 ex3 ex4 (Or.inr ⟨by omega, fun h => by unfold g_nm5 at h; omega⟩) (by omega))
        · refine h_iconst (pc' := 44) (x := (Int32.ofInt 1)) rfl rfl rfl ?_
          refine h_goto (pc' := 48) rfl rfl ?_
          refine h_istore_n (pc' := 49) (M := [(2, .int (Int32.ofInt 1)), (0, .ref 98), (1, .int (Int32.ofInt 5)), (3, .int y3)]) rfl rfl rfl rfl ?_
          refine h_iconst (pc' := 50) (x := (Int32.ofInt 0)) rfl rfl rfl ?_
          refine h_istore_n (pc' := 51) (M := [(3, .int (Int32.ofInt 0)), (2, .int (Int32.ofInt 1)), (0, .ref 98), (1, .int (Int32.ofInt 5))]) rfl rfl rfl rfl ?_
          exact h_wk [(0, .ref 98), (1, .int (Int32.ofInt 5)), (2, .int (Int32.ofInt 1)), (3, .int (Int32.ofInt 0))] ⟨rfl, rfl, rfl, rfl, trivial⟩ (ih.2.2.2.2.2.2.2.2.2.2.2.2.2.2.2.2.2.2.2.2.2.2.2.2.2.2.2.2.2.2.2.2.2.2.2.2.2.2.2.2.2.2.2.2.2.2.1 (Int32.ofInt 1) _ ci_1 (by omega) ex0 ex1 ex2 ex3 ex4 (Or.inl ⟨by omega, by omega⟩) (by omega))
    · intro  y2 b2 hy2 ry2 y3 b3 hy3 ry3 ex0 ex1 ex2 ex3 ex4 ex5 hm; have gh0 := tf_98_11 hI; have gh1 := tf_98_15 hI; have gh2 := tf_98_16 hI
      refine h_iload_n (pc' := 3) rfl rfl rfl ?_
      refine h_bipush (pc' := 5) (x := (Int32.ofInt 8)) rfl rfl cb_8 ?_
      refine h_cge (tg := 118) (pc' := 8) rfl rfl rfl ci_6 ci_8 (fun c1 => absurd c1 (by omega)) (fun c1 => ?_)
      refine h_aload_n (pc' := 9) rfl rfl rfl ?_
      refine h_getI (pc' := 12) (v := σ 98 17) rfl rfl rfl rfl rfl rfl (fun z2 hz2 => ?_)
      have tz2 := tf_98_17 hI
      refine h_iconst (pc' := 13) (x := (Int32.ofInt 1)) rfl rfl rfl ?_
      refine h_cne (tg := 118) (pc' := 16) rfl rfl rfl hz2 ci_1 (fun c3 => ?_) (fun c3 => ?_)
      · refine h_bipush (pc' := 120) (x := (Int32.ofInt (-4))) rfl rfl cb_m4 ?_
        exact h_iret rfl rfl (kk _ _ ci_m4 (by omega) (fun h => absurd h (by omega)) (Or.inr rfl))
      · refine h_aload_n (pc' := 17) rfl rfl rfl ?_
        refine h_getI (pc' := 20) (v := σ 98 15) rfl rfl rfl rfl rfl rfl (fun z4 hz4 => ?_)
        have tz4 := tf_98_15 hI
        refine h_aload_n (pc' := 21) rfl rfl rfl ?_
        refine h_getI (pc' := 24) (v := σ 98 16) rfl rfl rfl rfl rfl rfl (fun z5 hz5 => ?_)
        have tz5 := tf_98_16 hI
        refine h_isub (pc' := 25) rfl rfl hz4 hz5 rfl (by omega) (by omega) (fun z6 hz6 => ?_)
        refine h_aload_n (pc' := 26) rfl rfl rfl ?_
        refine h_getR (pc' := 29) rfl rfl rfl rfl rfl ?_
        refine h_iload_n (pc' := 30) rfl rfl rfl ?_
        refine h_iconst (pc' := 31) (x := (Int32.ofInt 1)) rfl rfl rfl ?_
        refine h_iadd (pc' := 32) (c := 7) rfl rfl ci_6 ci_1 rfl (by omega) (by omega) (fun z7 hz7 => ?_)
        refine h_iald (pc' := 33) (v := 40) rfl rfl rfl hz7 (by omega) (by omega) (tx_103_7 hI) (fun z8 hz8 => ?_)
        refine h_aload_n (pc' := 34) rfl rfl rfl ?_
        refine h_getR (pc' := 37) rfl rfl rfl rfl rfl ?_
        refine h_iload_n (pc' := 38) rfl rfl rfl ?_
        refine h_iald (pc' := 39) (v := 36) rfl rfl rfl ci_6 (by omega) (by omega) (tx_103_6 hI) (fun z9 hz9 => ?_)
        refine h_isub (pc' := 40) rfl rfl hz8 hz9 rfl (by omega) (by omega) (fun z10 hz10 => ?_)
        refine h_cne (tg := 47) (pc' := 43) rfl rfl rfl hz6 hz10 (fun c11 => ?_) (fun c11 => ?_)
        · refine h_iconst (pc' := 48) (x := (Int32.ofInt 0)) rfl rfl rfl ?_
          refine h_istore_n (pc' := 49) (M := [(2, .int (Int32.ofInt 0)), (0, .ref 98), (1, .int (Int32.ofInt 6)), (3, .int y3)]) rfl rfl rfl rfl ?_
          refine h_iconst (pc' := 50) (x := (Int32.ofInt 0)) rfl rfl rfl ?_
          refine h_istore_n (pc' := 51) (M := [(3, .int (Int32.ofInt 0)), (2, .int (Int32.ofInt 0)), (0, .ref 98), (1, .int (Int32.ofInt 6))]) rfl rfl rfl rfl ?_
          exact h_wk [(0, .ref 98), (1, .int (Int32.ofInt 6)), (2, .int (Int32.ofInt 0)), (3, .int (Int32.ofInt 0))] ⟨rfl, rfl, rfl, rfl, trivial⟩ (ih.2.2.2.2.2.2.2.2.2.2.2.2.2.2.2.2.2.2.2.2.2.2.2.2.2.2.2.2.2.2.2.2.2.2.2.2.2.2.2.2.2.2.2.2.2.2.2.2.2.2.2.1 (Int32.ofInt 0) _ ci_0 (by omega) ex0 ex1 ex2 ex3 ex4 ex5 (Or.inr ⟨by omega, fun h => by unfold g_nm6 at h; omega⟩) (by omega))
        · refine h_iconst (pc' := 44) (x := (Int32.ofInt 1)) rfl rfl rfl ?_
          refine h_goto (pc' := 48) rfl rfl ?_
          refine h_istore_n (pc' := 49) (M := [(2, .int (Int32.ofInt 1)), (0, .ref 98), (1, .int (Int32.ofInt 6)), (3, .int y3)]) rfl rfl rfl rfl ?_
          refine h_iconst (pc' := 50) (x := (Int32.ofInt 0)) rfl rfl rfl ?_
          refine h_istore_n (pc' := 51) (M := [(3, .int (Int32.ofInt 0)), (2, .int (Int32.ofInt 1)), (0, .ref 98), (1, .int (Int32.ofInt 6))]) rfl rfl rfl rfl ?_
          exact h_wk [(0, .ref 98), (1, .int (Int32.ofInt 6)), (2, .int (Int32.ofInt 1)), (3, .int (Int32.ofInt 0))] ⟨rfl, rfl, rfl, rfl, trivial⟩ (ih.2.2.2.2.2.2.2.2.2.2.2.2.2.2.2.2.2.2.2.2.2.2.2.2.2.2.2.2.2.2.2.2.2.2.2.2.2.2.2.2.2.2.2.2.2.2.2.2.2.2.2.1 (Int32.ofInt 1) _ ci_1 (by omega) ex0 ex1 ex2 ex3 ex4 ex5 (Or.inl ⟨by omega, by omega⟩) (by omega))
    · intro  y2 b2 hy2 ry2 y3 b3 hy3 ry3 ex0 ex1 ex2 ex3 ex4 ex5 ex6 hm; have gh0 := tf_98_11 hI; have gh1 := tf_98_15 hI; have gh2 := tf_98_16 hI
      refine h_iload_n (pc' := 3) rfl rfl rfl ?_
      refine h_bipush (pc' := 5) (x := (Int32.ofInt 8)) rfl rfl cb_8 ?_
      refine h_cge (tg := 118) (pc' := 8) rfl rfl rfl ci_7 ci_8 (fun c1 => absurd c1 (by omega)) (fun c1 => ?_)
      refine h_aload_n (pc' := 9) rfl rfl rfl ?_
      refine h_getI (pc' := 12) (v := σ 98 17) rfl rfl rfl rfl rfl rfl (fun z2 hz2 => ?_)
      have tz2 := tf_98_17 hI
      refine h_iconst (pc' := 13) (x := (Int32.ofInt 1)) rfl rfl rfl ?_
      refine h_cne (tg := 118) (pc' := 16) rfl rfl rfl hz2 ci_1 (fun c3 => ?_) (fun c3 => ?_)
      · refine h_bipush (pc' := 120) (x := (Int32.ofInt (-4))) rfl rfl cb_m4 ?_
        exact h_iret rfl rfl (kk _ _ ci_m4 (by omega) (fun h => absurd h (by omega)) (Or.inr rfl))
      · refine h_aload_n (pc' := 17) rfl rfl rfl ?_
        refine h_getI (pc' := 20) (v := σ 98 15) rfl rfl rfl rfl rfl rfl (fun z4 hz4 => ?_)
        have tz4 := tf_98_15 hI
        refine h_aload_n (pc' := 21) rfl rfl rfl ?_
        refine h_getI (pc' := 24) (v := σ 98 16) rfl rfl rfl rfl rfl rfl (fun z5 hz5 => ?_)
        have tz5 := tf_98_16 hI
        refine h_isub (pc' := 25) rfl rfl hz4 hz5 rfl (by omega) (by omega) (fun z6 hz6 => ?_)
        refine h_aload_n (pc' := 26) rfl rfl rfl ?_
        refine h_getR (pc' := 29) rfl rfl rfl rfl rfl ?_
        refine h_iload_n (pc' := 30) rfl rfl rfl ?_
        refine h_iconst (pc' := 31) (x := (Int32.ofInt 1)) rfl rfl rfl ?_
        refine h_iadd (pc' := 32) (c := 8) rfl rfl ci_7 ci_1 rfl (by omega) (by omega) (fun z7 hz7 => ?_)
        refine h_iald (pc' := 33) (v := 44) rfl rfl rfl hz7 (by omega) (by omega) (tx_103_8 hI) (fun z8 hz8 => ?_)
        refine h_aload_n (pc' := 34) rfl rfl rfl ?_
        refine h_getR (pc' := 37) rfl rfl rfl rfl rfl ?_
        refine h_iload_n (pc' := 38) rfl rfl rfl ?_
        refine h_iald (pc' := 39) (v := 40) rfl rfl rfl ci_7 (by omega) (by omega) (tx_103_7 hI) (fun z9 hz9 => ?_)
        refine h_isub (pc' := 40) rfl rfl hz8 hz9 rfl (by omega) (by omega) (fun z10 hz10 => ?_)
        refine h_cne (tg := 47) (pc' := 43) rfl rfl rfl hz6 hz10 (fun c11 => ?_) (fun c11 => ?_)
        · refine h_iconst (pc' := 48) (x := (Int32.ofInt 0)) rfl rfl rfl ?_
          refine h_istore_n (pc' := 49) (M := [(2, .int (Int32.ofInt 0)), (0, .ref 98), (1, .int (Int32.ofInt 7)), (3, .int y3)]) rfl rfl rfl rfl ?_
          refine h_iconst (pc' := 50) (x := (Int32.ofInt 0)) rfl rfl rfl ?_
          refine h_istore_n (pc' := 51) (M := [(3, .int (Int32.ofInt 0)), (2, .int (Int32.ofInt 0)), (0, .ref 98), (1, .int (Int32.ofInt 7))]) rfl rfl rfl rfl ?_
          exact h_wk [(0, .ref 98), (1, .int (Int32.ofInt 7)), (2, .int (Int32.ofInt 0)), (3, .int (Int32.ofInt 0))] ⟨rfl, rfl, rfl, rfl, trivial⟩ (ih.2.2.2.2.2.2.2.2.2.2.2.2.2.2.2.2.2.2.2.2.2.2.2.2.2.2.2.2.2.2.2.2.2.2.2.2.2.2.2.2.2.2.2.2.2.2.2.2.2.2.2.2.2.2.2.2.1 (Int32.ofInt 0) _ ci_0 (by omega) ex0 ex1 ex2 ex3 ex4 ex5 ex6 (Or.inr ⟨by omega, fun h => by unfold g_nm7 at h; omega⟩) (by omega))
        · refine h_iconst (pc' := 44) (x := (Int32.ofInt 1)) rfl rfl rfl ?_
          refine h_goto (pc' := 48) rfl rfl ?_
          refine h_istore_n (pc' := 49) (M := [(2, .int (Int32.ofInt 1)), (0, .ref 98), (1, .int (Int32.ofInt 7)), (3, .int y3)]) rfl rfl rfl rfl ?_
          refine h_iconst (pc' := 50) (x := (Int32.ofInt 0)) rfl rfl rfl ?_
          refine h_istore_n (pc' := 51) (M := [(3, .int (Int32.ofInt 0)), (2, .int (Int32.ofInt 1)), (0, .ref 98), (1, .int (Int32.ofInt 7))]) rfl rfl rfl rfl ?_
          exact h_wk [(0, .ref 98), (1, .int (Int32.ofInt 7)), (2, .int (Int32.ofInt 1)), (3, .int (Int32.ofInt 0))] ⟨rfl, rfl, rfl, rfl, trivial⟩ (ih.2.2.2.2.2.2.2.2.2.2.2.2.2.2.2.2.2.2.2.2.2.2.2.2.2.2.2.2.2.2.2.2.2.2.2.2.2.2.2.2.2.2.2.2.2.2.2.2.2.2.2.2.2.2.2.2.1 (Int32.ofInt 1) _ ci_1 (by omega) ex0 ex1 ex2 ex3 ex4 ex5 ex6 (Or.inl ⟨by omega, by omega⟩) (by omega))
    · intro  y2 b2 hy2 ry2 y3 b3 hy3 ry3 ex0 ex1 ex2 ex3 ex4 ex5 ex6 ex7 hm; have gh0 := tf_98_11 hI; have gh1 := tf_98_15 hI; have gh2 := tf_98_16 hI
      refine h_iload_n (pc' := 3) rfl rfl rfl ?_
      refine h_bipush (pc' := 5) (x := (Int32.ofInt 8)) rfl rfl cb_8 ?_
      refine h_cge (tg := 118) (pc' := 8) rfl rfl rfl ci_8 ci_8 (fun c1 => ?_) (fun c1 => absurd c1 (by omega))
      refine h_bipush (pc' := 120) (x := (Int32.ofInt (-4))) rfl rfl cb_m4 ?_
      exact h_iret rfl rfl (kk _ _ ci_m4 (by omega) (fun _ => Or.inl ⟨rfl, ex0, ex1, ex2, ex3, ex4, ex5, ex6, ex7⟩) (Or.inr rfl))
    · intro  y2 b2 hy2 ry2 ex0 hm; have gh0 := tf_98_11 hI; have gh1 := tf_98_15 hI; have gh2 := tf_98_16 hI
      refine h_iload_n (pc' := 52) rfl rfl rfl ?_
      refine h_zeq (tg := 106) (pc' := 55) rfl rfl rfl hy2 (fun c1 => ?_) (fun c1 => ?_)
      · refine h_iload_n (pc' := 107) rfl rfl rfl ?_
        refine h_zeq (tg := 112) (pc' := 110) rfl rfl rfl hy2 (fun c2 => ?_) (fun c2 => absurd c2 (by omega))
        refine h_iinc (pc' := 115) (b := 1) (M := fun z3 => [(1, .int z3), (0, .ref 98), (2, .int y2), (3, .int (Int32.ofInt 0))]) rfl rfl rfl rfl ci_0 ci_1 rfl (by omega) (by omega) (fun _ => rfl) (fun z3 hz3 => ?_)
        refine h_goto (pc' := 2) rfl rfl ?_
        have qz3 : z3 = (Int32.ofInt 1) := h_lit hz3 ci_1
        subst qz3
        exact h_wk [(0, .ref 98), (1, .int (Int32.ofInt 1)), (2, .int y2), (3, .int (Int32.ofInt 0))] ⟨rfl, rfl, rfl, rfl, trivial⟩ (ih.2.1 y2 _ hy2 (by omega) (Int32.ofInt 0) _ ci_0 (by omega) (ex0.elim (fun h => absurd h.1 (by omega)) (fun h => h.2)) (by omega))
      · refine h_iload_n (pc' := 56) rfl rfl rfl ?_
        refine h_aload_n (pc' := 57) rfl rfl rfl ?_
        refine h_getI (pc' := 60) (v := σ 98 15) rfl rfl rfl rfl rfl rfl (fun z4 hz4 => ?_)
        have tz4 := tf_98_15 hI
        refine h_aload_n (pc' := 61) rfl rfl rfl ?_
        refine h_getI (pc' := 64) (v := σ 98 16) rfl rfl rfl rfl rfl rfl (fun z5 hz5 => ?_)
        have tz5 := tf_98_16 hI
        refine h_isub (pc' := 65) rfl rfl hz4 hz5 rfl (by omega) (by omega) (fun z6 hz6 => ?_)
        refine h_cge (tg := 106) (pc' := 68) rfl rfl rfl ci_0 hz6 (fun c7 => ?_) (fun c7 => ?_)
        · refine h_iload_n (pc' := 107) rfl rfl rfl ?_
          refine h_zeq (tg := 112) (pc' := 110) rfl rfl rfl hy2 (fun c8 => absurd c8 (by omega)) (fun c8 => ?_)
          refine h_iload_n (pc' := 111) rfl rfl rfl ?_
          exact h_iret rfl rfl (kk _ _ ci_0 (by omega) (fun _ => (Or.inr (Or.inl ⟨rfl, ⟨by omega, by omega, by omega, by omega, by omega, by omega⟩⟩))) (Or.inl (by omega)))
        · refine h_aload_n (pc' := 69) rfl rfl rfl ?_
          refine h_aload_n (pc' := 70) rfl rfl rfl ?_
          refine h_getI (pc' := 73) (v := σ 98 16) rfl rfl rfl rfl rfl rfl (fun z9 hz9 => ?_)
          have tz9 := tf_98_16 hI
          refine h_iload_n (pc' := 74) rfl rfl rfl ?_
          refine h_iadd (pc' := 75) rfl rfl hz9 ci_0 rfl (by omega) (by omega) (fun z10 hz10 => ?_)
          refine h_call (sp := false) (pc' := 78) (M := [(0, .ref 98), (1, .int z10)]) rfl rfl rfl rfl rfl rfl rfl rfl ?_
          refine h_iload_n (pc' := 1) rfl rfl rfl ?_
          refine h_aload_n (pc' := 2) rfl rfl rfl ?_
          refine h_getI (pc' := 5) (v := σ 98 11) rfl rfl rfl rfl rfl rfl (fun z11 hz11 => ?_)
          have tz11 := tf_98_11 hI
          refine h_cge (tg := 17) (pc' := 8) rfl rfl rfl hz10 hz11 (fun c12 => ?_) (fun c12 => ?_)
          · refine h_bipush (pc' := 19) (x := (Int32.ofInt (-4))) rfl rfl cb_m4 ?_
            refine h_iret rfl rfl (h_Kv ?_)
            refine h_aload_n (pc' := 79) rfl rfl rfl ?_
            refine h_getR (pc' := 82) rfl rfl rfl rfl rfl ?_
            refine h_aload_n (pc' := 83) rfl rfl rfl ?_
            refine h_getR (pc' := 86) rfl rfl rfl rfl rfl ?_
            refine h_iload_n (pc' := 87) rfl rfl rfl ?_
            refine h_iald (pc' := 88) (v := 0) rfl rfl rfl ci_0 (by omega) (by omega) (tx_103_0 hI) (fun z13 hz13 => ?_)
            refine h_iload_n (pc' := 89) rfl rfl rfl ?_
            refine h_iadd (pc' := 90) rfl rfl hz13 ci_0 rfl (by omega) (by omega) (fun z14 hz14 => ?_)
            refine h_iald (pc' := 91) (v := σ 104 (0 + 0)) rfl rfl rfl hz14 (by omega) (by omega) rfl (fun z15 hz15 => ?_)
            have tz15 := ty_104 hI (0 + 0)
            refine h_cne (tg := 98) (pc' := 94) rfl rfl rfl ci_m4 hz15 (fun c16 => ?_) (fun c16 => ?_)
            · refine h_iconst (pc' := 99) (x := (Int32.ofInt 0)) rfl rfl rfl ?_
              refine h_istore_n (pc' := 100) (M := [(2, .int (Int32.ofInt 0)), (0, .ref 98), (1, .int (Int32.ofInt 0)), (3, .int (Int32.ofInt 0))]) rfl rfl rfl rfl ?_
              refine h_iinc (pc' := 103) (b := 1) (M := fun z17 => [(3, .int z17), (2, .int (Int32.ofInt 0)), (0, .ref 98), (1, .int (Int32.ofInt 0))]) rfl rfl rfl rfl ci_0 ci_1 rfl (by omega) (by omega) (fun _ => rfl) (fun z17 hz17 => ?_)
              refine h_goto (pc' := 51) rfl rfl ?_
              have qz17 : z17 = (Int32.ofInt 1) := h_lit hz17 ci_1
              subst qz17
              exact h_wk [(0, .ref 98), (1, .int (Int32.ofInt 0)), (2, .int (Int32.ofInt 0)), (3, .int (Int32.ofInt 1))] ⟨rfl, rfl, rfl, rfl, trivial⟩ (ih.2.2.2.2.2.2.2.2.2.2.1 (Int32.ofInt 0) _ ci_0 (by omega) (Or.inr ⟨by omega, fun h => by unfold g_nm0 at h; omega⟩) (by omega))
            · refine h_iconst (pc' := 95) (x := (Int32.ofInt 1)) rfl rfl rfl ?_
              refine h_goto (pc' := 99) rfl rfl ?_
              refine h_istore_n (pc' := 100) (M := [(2, .int (Int32.ofInt 1)), (0, .ref 98), (1, .int (Int32.ofInt 0)), (3, .int (Int32.ofInt 0))]) rfl rfl rfl rfl ?_
              refine h_iinc (pc' := 103) (b := 1) (M := fun z18 => [(3, .int z18), (2, .int (Int32.ofInt 1)), (0, .ref 98), (1, .int (Int32.ofInt 0))]) rfl rfl rfl rfl ci_0 ci_1 rfl (by omega) (by omega) (fun _ => rfl) (fun z18 hz18 => ?_)
              refine h_goto (pc' := 51) rfl rfl ?_
              have qz18 : z18 = (Int32.ofInt 1) := h_lit hz18 ci_1
              subst qz18
              exact h_wk [(0, .ref 98), (1, .int (Int32.ofInt 0)), (2, .int (Int32.ofInt 1)), (3, .int (Int32.ofInt 1))] ⟨rfl, rfl, rfl, rfl, trivial⟩ (ih.2.2.2.2.2.2.2.2.2.2.1 (Int32.ofInt 1) _ ci_1 (by omega) (Or.inl ⟨by omega, by omega, by omega⟩) (by omega))
          · refine h_aload_n (pc' := 9) rfl rfl rfl ?_
            refine h_getR (pc' := 12) rfl rfl rfl rfl rfl ?_
            refine h_iload_n (pc' := 13) rfl rfl rfl ?_
            refine h_iald (pc' := 14) (v := σ 102 ((σ 98 16) + 0)) rfl rfl rfl hz10 (by omega) (by omega) rfl (fun z19 hz19 => ?_)
            have tz19 := ty_102 hI ((σ 98 16) + 0)
            refine h_goto (pc' := 19) rfl rfl ?_
            refine h_iret rfl rfl (h_Kv ?_)
            refine h_aload_n (pc' := 79) rfl rfl rfl ?_
            refine h_getR (pc' := 82) rfl rfl rfl rfl rfl ?_
            refine h_aload_n (pc' := 83) rfl rfl rfl ?_
            refine h_getR (pc' := 86) rfl rfl rfl rfl rfl ?_
            refine h_iload_n (pc' := 87) rfl rfl rfl ?_
            refine h_iald (pc' := 88) (v := 0) rfl rfl rfl ci_0 (by omega) (by omega) (tx_103_0 hI) (fun z20 hz20 => ?_)
            refine h_iload_n (pc' := 89) rfl rfl rfl ?_
            refine h_iadd (pc' := 90) rfl rfl hz20 ci_0 rfl (by omega) (by omega) (fun z21 hz21 => ?_)
            refine h_iald (pc' := 91) (v := σ 104 (0 + 0)) rfl rfl rfl hz21 (by omega) (by omega) rfl (fun z22 hz22 => ?_)
            have tz22 := ty_104 hI (0 + 0)
            refine h_cne (tg := 98) (pc' := 94) rfl rfl rfl hz19 hz22 (fun c23 => ?_) (fun c23 => ?_)
            · refine h_iconst (pc' := 99) (x := (Int32.ofInt 0)) rfl rfl rfl ?_
              refine h_istore_n (pc' := 100) (M := [(2, .int (Int32.ofInt 0)), (0, .ref 98), (1, .int (Int32.ofInt 0)), (3, .int (Int32.ofInt 0))]) rfl rfl rfl rfl ?_
              refine h_iinc (pc' := 103) (b := 1) (M := fun z24 => [(3, .int z24), (2, .int (Int32.ofInt 0)), (0, .ref 98), (1, .int (Int32.ofInt 0))]) rfl rfl rfl rfl ci_0 ci_1 rfl (by omega) (by omega) (fun _ => rfl) (fun z24 hz24 => ?_)
              refine h_goto (pc' := 51) rfl rfl ?_
              have qz24 : z24 = (Int32.ofInt 1) := h_lit hz24 ci_1
              subst qz24
              exact h_wk [(0, .ref 98), (1, .int (Int32.ofInt 0)), (2, .int (Int32.ofInt 0)), (3, .int (Int32.ofInt 1))] ⟨rfl, rfl, rfl, rfl, trivial⟩ (ih.2.2.2.2.2.2.2.2.2.2.1 (Int32.ofInt 0) _ ci_0 (by omega) (Or.inr ⟨by omega, fun h => by unfold g_nm0 at h; omega⟩) (by omega))
            · refine h_iconst (pc' := 95) (x := (Int32.ofInt 1)) rfl rfl rfl ?_
              refine h_goto (pc' := 99) rfl rfl ?_
              refine h_istore_n (pc' := 100) (M := [(2, .int (Int32.ofInt 1)), (0, .ref 98), (1, .int (Int32.ofInt 0)), (3, .int (Int32.ofInt 0))]) rfl rfl rfl rfl ?_
              refine h_iinc (pc' := 103) (b := 1) (M := fun z25 => [(3, .int z25), (2, .int (Int32.ofInt 1)), (0, .ref 98), (1, .int (Int32.ofInt 0))]) rfl rfl rfl rfl ci_0 ci_1 rfl (by omega) (by omega) (fun _ => rfl) (fun z25 hz25 => ?_)
              refine h_goto (pc' := 51) rfl rfl ?_
              have qz25 : z25 = (Int32.ofInt 1) := h_lit hz25 ci_1
              subst qz25
              exact h_wk [(0, .ref 98), (1, .int (Int32.ofInt 0)), (2, .int (Int32.ofInt 1)), (3, .int (Int32.ofInt 1))] ⟨rfl, rfl, rfl, rfl, trivial⟩ (ih.2.2.2.2.2.2.2.2.2.2.1 (Int32.ofInt 1) _ ci_1 (by omega) (Or.inl ⟨by omega, by omega, by omega⟩) (by omega))
    · intro  y2 b2 hy2 ry2 ex0 hm; have gh0 := tf_98_11 hI; have gh1 := tf_98_15 hI; have gh2 := tf_98_16 hI
      refine h_iload_n (pc' := 52) rfl rfl rfl ?_
      refine h_zeq (tg := 106) (pc' := 55) rfl rfl rfl hy2 (fun c1 => ?_) (fun c1 => ?_)
      · refine h_iload_n (pc' := 107) rfl rfl rfl ?_
        refine h_zeq (tg := 112) (pc' := 110) rfl rfl rfl hy2 (fun c2 => ?_) (fun c2 => absurd c2 (by omega))
        refine h_iinc (pc' := 115) (b := 1) (M := fun z3 => [(1, .int z3), (0, .ref 98), (2, .int y2), (3, .int (Int32.ofInt 1))]) rfl rfl rfl rfl ci_0 ci_1 rfl (by omega) (by omega) (fun _ => rfl) (fun z3 hz3 => ?_)
        refine h_goto (pc' := 2) rfl rfl ?_
        have qz3 : z3 = (Int32.ofInt 1) := h_lit hz3 ci_1
        subst qz3
        exact h_wk [(0, .ref 98), (1, .int (Int32.ofInt 1)), (2, .int y2), (3, .int (Int32.ofInt 1))] ⟨rfl, rfl, rfl, rfl, trivial⟩ (ih.2.1 y2 _ hy2 (by omega) (Int32.ofInt 1) _ ci_1 (by omega) (ex0.elim (fun h => absurd h.1 (by omega)) (fun h => h.2)) (by omega))
      · refine h_iload_n (pc' := 56) rfl rfl rfl ?_
        refine h_aload_n (pc' := 57) rfl rfl rfl ?_
        refine h_getI (pc' := 60) (v := σ 98 15) rfl rfl rfl rfl rfl rfl (fun z4 hz4 => ?_)
        have tz4 := tf_98_15 hI
        refine h_aload_n (pc' := 61) rfl rfl rfl ?_
        refine h_getI (pc' := 64) (v := σ 98 16) rfl rfl rfl rfl rfl rfl (fun z5 hz5 => ?_)
        have tz5 := tf_98_16 hI
        refine h_isub (pc' := 65) rfl rfl hz4 hz5 rfl (by omega) (by omega) (fun z6 hz6 => ?_)
        refine h_cge (tg := 106) (pc' := 68) rfl rfl rfl ci_1 hz6 (fun c7 => ?_) (fun c7 => ?_)
        · refine h_iload_n (pc' := 107) rfl rfl rfl ?_
          refine h_zeq (tg := 112) (pc' := 110) rfl rfl rfl hy2 (fun c8 => absurd c8 (by omega)) (fun c8 => ?_)
          refine h_iload_n (pc' := 111) rfl rfl rfl ?_
          exact h_iret rfl rfl (kk _ _ ci_0 (by omega) (fun _ => (Or.inr (Or.inl ⟨rfl, ⟨by omega, by omega, by omega, by omega, by omega, by omega⟩⟩))) (Or.inl (by omega)))
        · refine h_aload_n (pc' := 69) rfl rfl rfl ?_
          refine h_aload_n (pc' := 70) rfl rfl rfl ?_
          refine h_getI (pc' := 73) (v := σ 98 16) rfl rfl rfl rfl rfl rfl (fun z9 hz9 => ?_)
          have tz9 := tf_98_16 hI
          refine h_iload_n (pc' := 74) rfl rfl rfl ?_
          refine h_iadd (pc' := 75) rfl rfl hz9 ci_1 rfl (by omega) (by omega) (fun z10 hz10 => ?_)
          refine h_call (sp := false) (pc' := 78) (M := [(0, .ref 98), (1, .int z10)]) rfl rfl rfl rfl rfl rfl rfl rfl ?_
          refine h_iload_n (pc' := 1) rfl rfl rfl ?_
          refine h_aload_n (pc' := 2) rfl rfl rfl ?_
          refine h_getI (pc' := 5) (v := σ 98 11) rfl rfl rfl rfl rfl rfl (fun z11 hz11 => ?_)
          have tz11 := tf_98_11 hI
          refine h_cge (tg := 17) (pc' := 8) rfl rfl rfl hz10 hz11 (fun c12 => ?_) (fun c12 => ?_)
          · refine h_bipush (pc' := 19) (x := (Int32.ofInt (-4))) rfl rfl cb_m4 ?_
            refine h_iret rfl rfl (h_Kv ?_)
            refine h_aload_n (pc' := 79) rfl rfl rfl ?_
            refine h_getR (pc' := 82) rfl rfl rfl rfl rfl ?_
            refine h_aload_n (pc' := 83) rfl rfl rfl ?_
            refine h_getR (pc' := 86) rfl rfl rfl rfl rfl ?_
            refine h_iload_n (pc' := 87) rfl rfl rfl ?_
            refine h_iald (pc' := 88) (v := 0) rfl rfl rfl ci_0 (by omega) (by omega) (tx_103_0 hI) (fun z13 hz13 => ?_)
            refine h_iload_n (pc' := 89) rfl rfl rfl ?_
            refine h_iadd (pc' := 90) rfl rfl hz13 ci_1 rfl (by omega) (by omega) (fun z14 hz14 => ?_)
            refine h_iald (pc' := 91) (v := σ 104 (0 + 1)) rfl rfl rfl hz14 (by omega) (by omega) rfl (fun z15 hz15 => ?_)
            have tz15 := ty_104 hI (0 + 1)
            refine h_cne (tg := 98) (pc' := 94) rfl rfl rfl ci_m4 hz15 (fun c16 => ?_) (fun c16 => ?_)
            · refine h_iconst (pc' := 99) (x := (Int32.ofInt 0)) rfl rfl rfl ?_
              refine h_istore_n (pc' := 100) (M := [(2, .int (Int32.ofInt 0)), (0, .ref 98), (1, .int (Int32.ofInt 0)), (3, .int (Int32.ofInt 1))]) rfl rfl rfl rfl ?_
              refine h_iinc (pc' := 103) (b := 2) (M := fun z17 => [(3, .int z17), (2, .int (Int32.ofInt 0)), (0, .ref 98), (1, .int (Int32.ofInt 0))]) rfl rfl rfl rfl ci_1 ci_1 rfl (by omega) (by omega) (fun _ => rfl) (fun z17 hz17 => ?_)
              refine h_goto (pc' := 51) rfl rfl ?_
              have qz17 : z17 = (Int32.ofInt 2) := h_lit hz17 ci_2
              subst qz17
              exact h_wk [(0, .ref 98), (1, .int (Int32.ofInt 0)), (2, .int (Int32.ofInt 0)), (3, .int (Int32.ofInt 2))] ⟨rfl, rfl, rfl, rfl, trivial⟩ (ih.2.2.2.2.2.2.2.2.2.2.2.1 (Int32.ofInt 0) _ ci_0 (by omega) (Or.inr ⟨by omega, fun h => by unfold g_nm0 at h; omega⟩) (by omega))
            · refine h_iconst (pc' := 95) (x := (Int32.ofInt 1)) rfl rfl rfl ?_
              refine h_goto (pc' := 99) rfl rfl ?_
              refine h_istore_n (pc' := 100) (M := [(2, .int (Int32.ofInt 1)), (0, .ref 98), (1, .int (Int32.ofInt 0)), (3, .int (Int32.ofInt 1))]) rfl rfl rfl rfl ?_
              refine h_iinc (pc' := 103) (b := 2) (M := fun z18 => [(3, .int z18), (2, .int (Int32.ofInt 1)), (0, .ref 98), (1, .int (Int32.ofInt 0))]) rfl rfl rfl rfl ci_1 ci_1 rfl (by omega) (by omega) (fun _ => rfl) (fun z18 hz18 => ?_)
              refine h_goto (pc' := 51) rfl rfl ?_
              have qz18 : z18 = (Int32.ofInt 2) := h_lit hz18 ci_2
              subst qz18
              exact h_wk [(0, .ref 98), (1, .int (Int32.ofInt 0)), (2, .int (Int32.ofInt 1)), (3, .int (Int32.ofInt 2))] ⟨rfl, rfl, rfl, rfl, trivial⟩ (ih.2.2.2.2.2.2.2.2.2.2.2.1 (Int32.ofInt 1) _ ci_1 (by omega) (Or.inl ⟨by omega, by omega, by omega, by omega⟩) (by omega))
          · refine h_aload_n (pc' := 9) rfl rfl rfl ?_
            refine h_getR (pc' := 12) rfl rfl rfl rfl rfl ?_
            refine h_iload_n (pc' := 13) rfl rfl rfl ?_
            refine h_iald (pc' := 14) (v := σ 102 ((σ 98 16) + 1)) rfl rfl rfl hz10 (by omega) (by omega) rfl (fun z19 hz19 => ?_)
            have tz19 := ty_102 hI ((σ 98 16) + 1)
            refine h_goto (pc' := 19) rfl rfl ?_
            refine h_iret rfl rfl (h_Kv ?_)
            refine h_aload_n (pc' := 79) rfl rfl rfl ?_
            refine h_getR (pc' := 82) rfl rfl rfl rfl rfl ?_
            refine h_aload_n (pc' := 83) rfl rfl rfl ?_
            refine h_getR (pc' := 86) rfl rfl rfl rfl rfl ?_
            refine h_iload_n (pc' := 87) rfl rfl rfl ?_
            refine h_iald (pc' := 88) (v := 0) rfl rfl rfl ci_0 (by omega) (by omega) (tx_103_0 hI) (fun z20 hz20 => ?_)
            refine h_iload_n (pc' := 89) rfl rfl rfl ?_
            refine h_iadd (pc' := 90) rfl rfl hz20 ci_1 rfl (by omega) (by omega) (fun z21 hz21 => ?_)
            refine h_iald (pc' := 91) (v := σ 104 (0 + 1)) rfl rfl rfl hz21 (by omega) (by omega) rfl (fun z22 hz22 => ?_)
            have tz22 := ty_104 hI (0 + 1)
            refine h_cne (tg := 98) (pc' := 94) rfl rfl rfl hz19 hz22 (fun c23 => ?_) (fun c23 => ?_)
            · refine h_iconst (pc' := 99) (x := (Int32.ofInt 0)) rfl rfl rfl ?_
              refine h_istore_n (pc' := 100) (M := [(2, .int (Int32.ofInt 0)), (0, .ref 98), (1, .int (Int32.ofInt 0)), (3, .int (Int32.ofInt 1))]) rfl rfl rfl rfl ?_
              refine h_iinc (pc' := 103) (b := 2) (M := fun z24 => [(3, .int z24), (2, .int (Int32.ofInt 0)), (0, .ref 98), (1, .int (Int32.ofInt 0))]) rfl rfl rfl rfl ci_1 ci_1 rfl (by omega) (by omega) (fun _ => rfl) (fun z24 hz24 => ?_)
              refine h_goto (pc' := 51) rfl rfl ?_
              have qz24 : z24 = (Int32.ofInt 2) := h_lit hz24 ci_2
              subst qz24
              exact h_wk [(0, .ref 98), (1, .int (Int32.ofInt 0)), (2, .int (Int32.ofInt 0)), (3, .int (Int32.ofInt 2))] ⟨rfl, rfl, rfl, rfl, trivial⟩ (ih.2.2.2.2.2.2.2.2.2.2.2.1 (Int32.ofInt 0) _ ci_0 (by omega) (Or.inr ⟨by omega, fun h => by unfold g_nm0 at h; omega⟩) (by omega))
            · refine h_iconst (pc' := 95) (x := (Int32.ofInt 1)) rfl rfl rfl ?_
              refine h_goto (pc' := 99) rfl rfl ?_
              refine h_istore_n (pc' := 100) (M := [(2, .int (Int32.ofInt 1)), (0, .ref 98), (1, .int (Int32.ofInt 0)), (3, .int (Int32.ofInt 1))]) rfl rfl rfl rfl ?_
              refine h_iinc (pc' := 103) (b := 2) (M := fun z25 => [(3, .int z25), (2, .int (Int32.ofInt 1)), (0, .ref 98), (1, .int (Int32.ofInt 0))]) rfl rfl rfl rfl ci_1 ci_1 rfl (by omega) (by omega) (fun _ => rfl) (fun z25 hz25 => ?_)
              refine h_goto (pc' := 51) rfl rfl ?_
              have qz25 : z25 = (Int32.ofInt 2) := h_lit hz25 ci_2
              subst qz25
              exact h_wk [(0, .ref 98), (1, .int (Int32.ofInt 0)), (2, .int (Int32.ofInt 1)), (3, .int (Int32.ofInt 2))] ⟨rfl, rfl, rfl, rfl, trivial⟩ (ih.2.2.2.2.2.2.2.2.2.2.2.1 (Int32.ofInt 1) _ ci_1 (by omega) (Or.inl ⟨by omega, by omega, by omega, by omega⟩) (by omega))
    · intro  y2 b2 hy2 ry2 ex0 hm; have gh0 := tf_98_11 hI; have gh1 := tf_98_15 hI; have gh2 := tf_98_16 hI
      refine h_iload_n (pc' := 52) rfl rfl rfl ?_
      refine h_zeq (tg := 106) (pc' := 55) rfl rfl rfl hy2 (fun c1 => ?_) (fun c1 => ?_)
      · refine h_iload_n (pc' := 107) rfl rfl rfl ?_
        refine h_zeq (tg := 112) (pc' := 110) rfl rfl rfl hy2 (fun c2 => ?_) (fun c2 => absurd c2 (by omega))
        refine h_iinc (pc' := 115) (b := 1) (M := fun z3 => [(1, .int z3), (0, .ref 98), (2, .int y2), (3, .int (Int32.ofInt 2))]) rfl rfl rfl rfl ci_0 ci_1 rfl (by omega) (by omega) (fun _ => rfl) (fun z3 hz3 => ?_)
        refine h_goto (pc' := 2) rfl rfl ?_
        have qz3 : z3 = (Int32.ofInt 1) := h_lit hz3 ci_1
        subst qz3
        exact h_wk [(0, .ref 98), (1, .int (Int32.ofInt 1)), (2, .int y2), (3, .int (Int32.ofInt 2))] ⟨rfl, rfl, rfl, rfl, trivial⟩ (ih.2.1 y2 _ hy2 (by omega) (Int32.ofInt 2) _ ci_2 (by omega) (ex0.elim (fun h => absurd h.1 (by omega)) (fun h => h.2)) (by omega))
      · refine h_iload_n (pc' := 56) rfl rfl rfl ?_
        refine h_aload_n (pc' := 57) rfl rfl rfl ?_
        refine h_getI (pc' := 60) (v := σ 98 15) rfl rfl rfl rfl rfl rfl (fun z4 hz4 => ?_)
        have tz4 := tf_98_15 hI
        refine h_aload_n (pc' := 61) rfl rfl rfl ?_
        refine h_getI (pc' := 64) (v := σ 98 16) rfl rfl rfl rfl rfl rfl (fun z5 hz5 => ?_)
        have tz5 := tf_98_16 hI
        refine h_isub (pc' := 65) rfl rfl hz4 hz5 rfl (by omega) (by omega) (fun z6 hz6 => ?_)
        refine h_cge (tg := 106) (pc' := 68) rfl rfl rfl ci_2 hz6 (fun c7 => ?_) (fun c7 => ?_)
        · refine h_iload_n (pc' := 107) rfl rfl rfl ?_
          refine h_zeq (tg := 112) (pc' := 110) rfl rfl rfl hy2 (fun c8 => absurd c8 (by omega)) (fun c8 => ?_)
          refine h_iload_n (pc' := 111) rfl rfl rfl ?_
          exact h_iret rfl rfl (kk _ _ ci_0 (by omega) (fun _ => (Or.inr (Or.inl ⟨rfl, ⟨by omega, by omega, by omega, by omega, by omega, by omega⟩⟩))) (Or.inl (by omega)))
        · refine h_aload_n (pc' := 69) rfl rfl rfl ?_
          refine h_aload_n (pc' := 70) rfl rfl rfl ?_
          refine h_getI (pc' := 73) (v := σ 98 16) rfl rfl rfl rfl rfl rfl (fun z9 hz9 => ?_)
          have tz9 := tf_98_16 hI
          refine h_iload_n (pc' := 74) rfl rfl rfl ?_
          refine h_iadd (pc' := 75) rfl rfl hz9 ci_2 rfl (by omega) (by omega) (fun z10 hz10 => ?_)
          refine h_call (sp := false) (pc' := 78) (M := [(0, .ref 98), (1, .int z10)]) rfl rfl rfl rfl rfl rfl rfl rfl ?_
          refine h_iload_n (pc' := 1) rfl rfl rfl ?_
          refine h_aload_n (pc' := 2) rfl rfl rfl ?_
          refine h_getI (pc' := 5) (v := σ 98 11) rfl rfl rfl rfl rfl rfl (fun z11 hz11 => ?_)
          have tz11 := tf_98_11 hI
          refine h_cge (tg := 17) (pc' := 8) rfl rfl rfl hz10 hz11 (fun c12 => ?_) (fun c12 => ?_)
          · refine h_bipush (pc' := 19) (x := (Int32.ofInt (-4))) rfl rfl cb_m4 ?_
            refine h_iret rfl rfl (h_Kv ?_)
            refine h_aload_n (pc' := 79) rfl rfl rfl ?_
            refine h_getR (pc' := 82) rfl rfl rfl rfl rfl ?_
            refine h_aload_n (pc' := 83) rfl rfl rfl ?_
            refine h_getR (pc' := 86) rfl rfl rfl rfl rfl ?_
            refine h_iload_n (pc' := 87) rfl rfl rfl ?_
            refine h_iald (pc' := 88) (v := 0) rfl rfl rfl ci_0 (by omega) (by omega) (tx_103_0 hI) (fun z13 hz13 => ?_)
            refine h_iload_n (pc' := 89) rfl rfl rfl ?_
            refine h_iadd (pc' := 90) rfl rfl hz13 ci_2 rfl (by omega) (by omega) (fun z14 hz14 => ?_)
            refine h_iald (pc' := 91) (v := σ 104 (0 + 2)) rfl rfl rfl hz14 (by omega) (by omega) rfl (fun z15 hz15 => ?_)
            have tz15 := ty_104 hI (0 + 2)
            refine h_cne (tg := 98) (pc' := 94) rfl rfl rfl ci_m4 hz15 (fun c16 => ?_) (fun c16 => ?_)
            · refine h_iconst (pc' := 99) (x := (Int32.ofInt 0)) rfl rfl rfl ?_
              refine h_istore_n (pc' := 100) (M := [(2, .int (Int32.ofInt 0)), (0, .ref 98), (1, .int (Int32.ofInt 0)), (3, .int (Int32.ofInt 2))]) rfl rfl rfl rfl ?_
              refine h_iinc (pc' := 103) (b := 3) (M := fun z17 => [(3, .int z17), (2, .int (Int32.ofInt 0)), (0, .ref 98), (1, .int (Int32.ofInt 0))]) rfl rfl rfl rfl ci_2 ci_1 rfl (by omega) (by omega) (fun _ => rfl) (fun z17 hz17 => ?_)
              refine h_goto (pc' := 51) rfl rfl ?_
              have qz17 : z17 = (Int32.ofInt 3) := h_lit hz17 ci_3
              subst qz17
              exact h_wk [(0, .ref 98), (1, .int (Int32.ofInt 0)), (2, .int (Int32.ofInt 0)), (3, .int (Int32.ofInt 3))] ⟨rfl, rfl, rfl, rfl, trivial⟩ (ih.2.2.2.2.2.2.2.2.2.2.2.2.1 (Int32.ofInt 0) _ ci_0 (by omega) (Or.inr ⟨by omega, fun h => by unfold g_nm0 at h; omega⟩) (by omega))
            · refine h_iconst (pc' := 95) (x := (Int32.ofInt 1)) rfl rfl rfl ?_
              refine h_goto (pc' := 99) rfl rfl ?_
              refine h_istore_n (pc' := 100) (M := [(2, .int (Int32.ofInt 1)), (0, .ref 98), (1, .int (Int32.ofInt 0)), (3, .int (Int32.ofInt 2))]) rfl rfl rfl rfl ?_
              refine h_iinc (pc' := 103) (b := 3) (M := fun z18 => [(3, .int z18), (2, .int (Int32.ofInt 1)), (0, .ref 98), (1, .int (Int32.ofInt 0))]) rfl rfl rfl rfl ci_2 ci_1 rfl (by omega) (by omega) (fun _ => rfl) (fun z18 hz18 => ?_)
              refine h_goto (pc' := 51) rfl rfl ?_
              have qz18 : z18 = (Int32.ofInt 3) := h_lit hz18 ci_3
              subst qz18
              exact h_wk [(0, .ref 98), (1, .int (Int32.ofInt 0)), (2, .int (Int32.ofInt 1)), (3, .int (Int32.ofInt 3))] ⟨rfl, rfl, rfl, rfl, trivial⟩ (ih.2.2.2.2.2.2.2.2.2.2.2.2.1 (Int32.ofInt 1) _ ci_1 (by omega) (Or.inl ⟨by omega, by omega, by omega, by omega, by omega⟩) (by omega))
          · refine h_aload_n (pc' := 9) rfl rfl rfl ?_
            refine h_getR (pc' := 12) rfl rfl rfl rfl rfl ?_
            refine h_iload_n (pc' := 13) rfl rfl rfl ?_
            refine h_iald (pc' := 14) (v := σ 102 ((σ 98 16) + 2)) rfl rfl rfl hz10 (by omega) (by omega) rfl (fun z19 hz19 => ?_)
            have tz19 := ty_102 hI ((σ 98 16) + 2)
            refine h_goto (pc' := 19) rfl rfl ?_
            refine h_iret rfl rfl (h_Kv ?_)
            refine h_aload_n (pc' := 79) rfl rfl rfl ?_
            refine h_getR (pc' := 82) rfl rfl rfl rfl rfl ?_
            refine h_aload_n (pc' := 83) rfl rfl rfl ?_
            refine h_getR (pc' := 86) rfl rfl rfl rfl rfl ?_
            refine h_iload_n (pc' := 87) rfl rfl rfl ?_
            refine h_iald (pc' := 88) (v := 0) rfl rfl rfl ci_0 (by omega) (by omega) (tx_103_0 hI) (fun z20 hz20 => ?_)
            refine h_iload_n (pc' := 89) rfl rfl rfl ?_
            refine h_iadd (pc' := 90) rfl rfl hz20 ci_2 rfl (by omega) (by omega) (fun z21 hz21 => ?_)
            refine h_iald (pc' := 91) (v := σ 104 (0 + 2)) rfl rfl rfl hz21 (by omega) (by omega) rfl (fun z22 hz22 => ?_)
            have tz22 := ty_104 hI (0 + 2)
            refine h_cne (tg := 98) (pc' := 94) rfl rfl rfl hz19 hz22 (fun c23 => ?_) (fun c23 => ?_)
            · refine h_iconst (pc' := 99) (x := (Int32.ofInt 0)) rfl rfl rfl ?_
              refine h_istore_n (pc' := 100) (M := [(2, .int (Int32.ofInt 0)), (0, .ref 98), (1, .int (Int32.ofInt 0)), (3, .int (Int32.ofInt 2))]) rfl rfl rfl rfl ?_
              refine h_iinc (pc' := 103) (b := 3) (M := fun z24 => [(3, .int z24), (2, .int (Int32.ofInt 0)), (0, .ref 98), (1, .int (Int32.ofInt 0))]) rfl rfl rfl rfl ci_2 ci_1 rfl (by omega) (by omega) (fun _ => rfl) (fun z24 hz24 => ?_)
              refine h_goto (pc' := 51) rfl rfl ?_
              have qz24 : z24 = (Int32.ofInt 3) := h_lit hz24 ci_3
              subst qz24
              exact h_wk [(0, .ref 98), (1, .int (Int32.ofInt 0)), (2, .int (Int32.ofInt 0)), (3, .int (Int32.ofInt 3))] ⟨rfl, rfl, rfl, rfl, trivial⟩ (ih.2.2.2.2.2.2.2.2.2.2.2.2.1 (Int32.ofInt 0) _ ci_0 (by omega) (Or.inr ⟨by omega, fun h => by unfold g_nm0 at h; omega⟩) (by omega))
            · refine h_iconst (pc' := 95) (x := (Int32.ofInt 1)) rfl rfl rfl ?_
              refine h_goto (pc' := 99) rfl rfl ?_
              refine h_istore_n (pc' := 100) (M := [(2, .int (Int32.ofInt 1)), (0, .ref 98), (1, .int (Int32.ofInt 0)), (3, .int (Int32.ofInt 2))]) rfl rfl rfl rfl ?_
              refine h_iinc (pc' := 103) (b := 3) (M := fun z25 => [(3, .int z25), (2, .int (Int32.ofInt 1)), (0, .ref 98), (1, .int (Int32.ofInt 0))]) rfl rfl rfl rfl ci_2 ci_1 rfl (by omega) (by omega) (fun _ => rfl) (fun z25 hz25 => ?_)
              refine h_goto (pc' := 51) rfl rfl ?_
              have qz25 : z25 = (Int32.ofInt 3) := h_lit hz25 ci_3
              subst qz25
              exact h_wk [(0, .ref 98), (1, .int (Int32.ofInt 0)), (2, .int (Int32.ofInt 1)), (3, .int (Int32.ofInt 3))] ⟨rfl, rfl, rfl, rfl, trivial⟩ (ih.2.2.2.2.2.2.2.2.2.2.2.2.1 (Int32.ofInt 1) _ ci_1 (by omega) (Or.inl ⟨by omega, by omega, by omega, by omega, by omega⟩) (by omega))
    · intro  y2 b2 hy2 ry2 ex0 hm; have gh0 := tf_98_11 hI; have gh1 := tf_98_15 hI; have gh2 := tf_98_16 hI
      refine h_iload_n (pc' := 52) rfl rfl rfl ?_
      refine h_zeq (tg := 106) (pc' := 55) rfl rfl rfl hy2 (fun c1 => ?_) (fun c1 => ?_)
      · refine h_iload_n (pc' := 107) rfl rfl rfl ?_
        refine h_zeq (tg := 112) (pc' := 110) rfl rfl rfl hy2 (fun c2 => ?_) (fun c2 => absurd c2 (by omega))
        refine h_iinc (pc' := 115) (b := 1) (M := fun z3 => [(1, .int z3), (0, .ref 98), (2, .int y2), (3, .int (Int32.ofInt 3))]) rfl rfl rfl rfl ci_0 ci_1 rfl (by omega) (by omega) (fun _ => rfl) (fun z3 hz3 => ?_)
        refine h_goto (pc' := 2) rfl rfl ?_
        have qz3 : z3 = (Int32.ofInt 1) := h_lit hz3 ci_1
        subst qz3
        exact h_wk [(0, .ref 98), (1, .int (Int32.ofInt 1)), (2, .int y2), (3, .int (Int32.ofInt 3))] ⟨rfl, rfl, rfl, rfl, trivial⟩ (ih.2.1 y2 _ hy2 (by omega) (Int32.ofInt 3) _ ci_3 (by omega) (ex0.elim (fun h => absurd h.1 (by omega)) (fun h => h.2)) (by omega))
      · refine h_iload_n (pc' := 56) rfl rfl rfl ?_
        refine h_aload_n (pc' := 57) rfl rfl rfl ?_
        refine h_getI (pc' := 60) (v := σ 98 15) rfl rfl rfl rfl rfl rfl (fun z4 hz4 => ?_)
        have tz4 := tf_98_15 hI
        refine h_aload_n (pc' := 61) rfl rfl rfl ?_
        refine h_getI (pc' := 64) (v := σ 98 16) rfl rfl rfl rfl rfl rfl (fun z5 hz5 => ?_)
        have tz5 := tf_98_16 hI
        refine h_isub (pc' := 65) rfl rfl hz4 hz5 rfl (by omega) (by omega) (fun z6 hz6 => ?_)
        refine h_cge (tg := 106) (pc' := 68) rfl rfl rfl ci_3 hz6 (fun c7 => ?_) (fun c7 => ?_)
        · refine h_iload_n (pc' := 107) rfl rfl rfl ?_
          refine h_zeq (tg := 112) (pc' := 110) rfl rfl rfl hy2 (fun c8 => absurd c8 (by omega)) (fun c8 => ?_)
          refine h_iload_n (pc' := 111) rfl rfl rfl ?_
          exact h_iret rfl rfl (kk _ _ ci_0 (by omega) (fun _ => (Or.inr (Or.inl ⟨rfl, ⟨by omega, by omega, by omega, by omega, by omega, by omega⟩⟩))) (Or.inl (by omega)))
        · refine h_aload_n (pc' := 69) rfl rfl rfl ?_
          refine h_aload_n (pc' := 70) rfl rfl rfl ?_
          refine h_getI (pc' := 73) (v := σ 98 16) rfl rfl rfl rfl rfl rfl (fun z9 hz9 => ?_)
          have tz9 := tf_98_16 hI
          refine h_iload_n (pc' := 74) rfl rfl rfl ?_
          refine h_iadd (pc' := 75) rfl rfl hz9 ci_3 rfl (by omega) (by omega) (fun z10 hz10 => ?_)
          refine h_call (sp := false) (pc' := 78) (M := [(0, .ref 98), (1, .int z10)]) rfl rfl rfl rfl rfl rfl rfl rfl ?_
          refine h_iload_n (pc' := 1) rfl rfl rfl ?_
          refine h_aload_n (pc' := 2) rfl rfl rfl ?_
          refine h_getI (pc' := 5) (v := σ 98 11) rfl rfl rfl rfl rfl rfl (fun z11 hz11 => ?_)
          have tz11 := tf_98_11 hI
          refine h_cge (tg := 17) (pc' := 8) rfl rfl rfl hz10 hz11 (fun c12 => ?_) (fun c12 => ?_)
          · refine h_bipush (pc' := 19) (x := (Int32.ofInt (-4))) rfl rfl cb_m4 ?_
            refine h_iret rfl rfl (h_Kv ?_)
            refine h_aload_n (pc' := 79) rfl rfl rfl ?_
            refine h_getR (pc' := 82) rfl rfl rfl rfl rfl ?_
            refine h_aload_n (pc' := 83) rfl rfl rfl ?_
            refine h_getR (pc' := 86) rfl rfl rfl rfl rfl ?_
            refine h_iload_n (pc' := 87) rfl rfl rfl ?_
            refine h_iald (pc' := 88) (v := 0) rfl rfl rfl ci_0 (by omega) (by omega) (tx_103_0 hI) (fun z13 hz13 => ?_)
            refine h_iload_n (pc' := 89) rfl rfl rfl ?_
            refine h_iadd (pc' := 90) rfl rfl hz13 ci_3 rfl (by omega) (by omega) (fun z14 hz14 => ?_)
            refine h_iald (pc' := 91) (v := σ 104 (0 + 3)) rfl rfl rfl hz14 (by omega) (by omega) rfl (fun z15 hz15 => ?_)
            have tz15 := ty_104 hI (0 + 3)
            refine h_cne (tg := 98) (pc' := 94) rfl rfl rfl ci_m4 hz15 (fun c16 => ?_) (fun c16 => ?_)
            · refine h_iconst (pc' := 99) (x := (Int32.ofInt 0)) rfl rfl rfl ?_
              refine h_istore_n (pc' := 100) (M := [(2, .int (Int32.ofInt 0)), (0, .ref 98), (1, .int (Int32.ofInt 0)), (3, .int (Int32.ofInt 3))]) rfl rfl rfl rfl ?_
              refine h_iinc (pc' := 103) (b := 4) (M := fun z17 => [(3, .int z17), (2, .int (Int32.ofInt 0)), (0, .ref 98), (1, .int (Int32.ofInt 0))]) rfl rfl rfl rfl ci_3 ci_1 rfl (by omega) (by omega) (fun _ => rfl) (fun z17 hz17 => ?_)
              refine h_goto (pc' := 51) rfl rfl ?_
              have qz17 : z17 = (Int32.ofInt 4) := h_lit hz17 ci_4
              subst qz17
              exact h_wk [(0, .ref 98), (1, .int (Int32.ofInt 0)), (2, .int (Int32.ofInt 0)), (3, .int (Int32.ofInt 4))] ⟨rfl, rfl, rfl, rfl, trivial⟩ (ih.2.2.2.2.2.2.2.2.2.2.2.2.2.1 (Int32.ofInt 0) _ ci_0 (by omega) (Or.inr ⟨by omega, fun h => by unfold g_nm0 at h; omega⟩) (by omega))
            · refine h_iconst (pc' := 95) (x := (Int32.ofInt 1)) rfl rfl rfl ?_
              refine h_goto (pc' := 99) rfl rfl ?_
              refine h_istore_n (pc' := 100) (M := [(2, .int (Int32.ofInt 1)), (0, .ref 98), (1, .int (Int32.ofInt 0)), (3, .int (Int32.ofInt 3))]) rfl rfl rfl rfl ?_
              refine h_iinc (pc' := 103) (b := 4) (M := fun z18 => [(3, .int z18), (2, .int (Int32.ofInt 1)), (0, .ref 98), (1, .int (Int32.ofInt 0))]) rfl rfl rfl rfl ci_3 ci_1 rfl (by omega) (by omega) (fun _ => rfl) (fun z18 hz18 => ?_)
              refine h_goto (pc' := 51) rfl rfl ?_
              have qz18 : z18 = (Int32.ofInt 4) := h_lit hz18 ci_4
              subst qz18
              exact h_wk [(0, .ref 98), (1, .int (Int32.ofInt 0)), (2, .int (Int32.ofInt 1)), (3, .int (Int32.ofInt 4))] ⟨rfl, rfl, rfl, rfl, trivial⟩ (ih.2.2.2.2.2.2.2.2.2.2.2.2.2.1 (Int32.ofInt 1) _ ci_1 (by omega) (Or.inl ⟨by omega, by omega, by omega, by omega, by omega, by omega⟩) (by omega))
          · refine h_aload_n (pc' := 9) rfl rfl rfl ?_
            refine h_getR (pc' := 12) rfl rfl rfl rfl rfl ?_
            refine h_iload_n (pc' := 13) rfl rfl rfl ?_
            refine h_iald (pc' := 14) (v := σ 102 ((σ 98 16) + 3)) rfl rfl rfl hz10 (by omega) (by omega) rfl (fun z19 hz19 => ?_)
            have tz19 := ty_102 hI ((σ 98 16) + 3)
            refine h_goto (pc' := 19) rfl rfl ?_
            refine h_iret rfl rfl (h_Kv ?_)
            refine h_aload_n (pc' := 79) rfl rfl rfl ?_
            refine h_getR (pc' := 82) rfl rfl rfl rfl rfl ?_
            refine h_aload_n (pc' := 83) rfl rfl rfl ?_
            refine h_getR (pc' := 86) rfl rfl rfl rfl rfl ?_
            refine h_iload_n (pc' := 87) rfl rfl rfl ?_
            refine h_iald (pc' := 88) (v := 0) rfl rfl rfl ci_0 (by omega) (by omega) (tx_103_0 hI) (fun z20 hz20 => ?_)
            refine h_iload_n (pc' := 89) rfl rfl rfl ?_
            refine h_iadd (pc' := 90) rfl rfl hz20 ci_3 rfl (by omega) (by omega) (fun z21 hz21 => ?_)
            refine h_iald (pc' := 91) (v := σ 104 (0 + 3)) rfl rfl rfl hz21 (by omega) (by omega) rfl (fun z22 hz22 => ?_)
            have tz22 := ty_104 hI (0 + 3)
            refine h_cne (tg := 98) (pc' := 94) rfl rfl rfl hz19 hz22 (fun c23 => ?_) (fun c23 => ?_)
            · refine h_iconst (pc' := 99) (x := (Int32.ofInt 0)) rfl rfl rfl ?_
              refine h_istore_n (pc' := 100) (M := [(2, .int (Int32.ofInt 0)), (0, .ref 98), (1, .int (Int32.ofInt 0)), (3, .int (Int32.ofInt 3))]) rfl rfl rfl rfl ?_
              refine h_iinc (pc' := 103) (b := 4) (M := fun z24 => [(3, .int z24), (2, .int (Int32.ofInt 0)), (0, .ref 98), (1, .int (Int32.ofInt 0))]) rfl rfl rfl rfl ci_3 ci_1 rfl (by omega) (by omega) (fun _ => rfl) (fun z24 hz24 => ?_)
              refine h_goto (pc' := 51) rfl rfl ?_
              have qz24 : z24 = (Int32.ofInt 4) := h_lit hz24 ci_4
              subst qz24
              exact h_wk [(0, .ref 98), (1, .int (Int32.ofInt 0)), (2, .int (Int32.ofInt 0)), (3, .int (Int32.ofInt 4))] ⟨rfl, rfl, rfl, rfl, trivial⟩ (ih.2.2.2.2.2.2.2.2.2.2.2.2.2.1 (Int32.ofInt 0) _ ci_0 (by omega) (Or.inr ⟨by omega, fun h => by unfold g_nm0 at h; omega⟩) (by omega))
            · refine h_iconst (pc' := 95) (x := (Int32.ofInt 1)) rfl rfl rfl ?_
              refine h_goto (pc' := 99) rfl rfl ?_
              refine h_istore_n (pc' := 100) (M := [(2, .int (Int32.ofInt 1)), (0, .ref 98), (1, .int (Int32.ofInt 0)), (3, .int (Int32.ofInt 3))]) rfl rfl rfl rfl ?_
              refine h_iinc (pc' := 103) (b := 4) (M := fun z25 => [(3, .int z25), (2, .int (Int32.ofInt 1)), (0, .ref 98), (1, .int (Int32.ofInt 0))]) rfl rfl rfl rfl ci_3 ci_1 rfl (by omega) (by omega) (fun _ => rfl) (fun z25 hz25 => ?_)
              refine h_goto (pc' := 51) rfl rfl ?_
              have qz25 : z25 = (Int32.ofInt 4) := h_lit hz25 ci_4
              subst qz25
              exact h_wk [(0, .ref 98), (1, .int (Int32.ofInt 0)), (2, .int (Int32.ofInt 1)), (3, .int (Int32.ofInt 4))] ⟨rfl, rfl, rfl, rfl, trivial⟩ (ih.2.2.2.2.2.2.2.2.2.2.2.2.2.1 (Int32.ofInt 1) _ ci_1 (by omega) (Or.inl ⟨by omega, by omega, by omega, by omega, by omega, by omega⟩) (by omega))
    · intro  y2 b2 hy2 ry2 ex0 hm; have gh0 := tf_98_11 hI; have gh1 := tf_98_15 hI; have gh2 := tf_98_16 hI
      refine h_iload_n (pc' := 52) rfl rfl rfl ?_
      refine h_zeq (tg := 106) (pc' := 55) rfl rfl rfl hy2 (fun c1 => ?_) (fun c1 => ?_)
      · refine h_iload_n (pc' := 107) rfl rfl rfl ?_
        refine h_zeq (tg := 112) (pc' := 110) rfl rfl rfl hy2 (fun c2 => ?_) (fun c2 => absurd c2 (by omega))
        refine h_iinc (pc' := 115) (b := 1) (M := fun z3 => [(1, .int z3), (0, .ref 98), (2, .int y2), (3, .int (Int32.ofInt 4))]) rfl rfl rfl rfl ci_0 ci_1 rfl (by omega) (by omega) (fun _ => rfl) (fun z3 hz3 => ?_)
        refine h_goto (pc' := 2) rfl rfl ?_
        have qz3 : z3 = (Int32.ofInt 1) := h_lit hz3 ci_1
        subst qz3
        exact h_wk [(0, .ref 98), (1, .int (Int32.ofInt 1)), (2, .int y2), (3, .int (Int32.ofInt 4))] ⟨rfl, rfl, rfl, rfl, trivial⟩ (ih.2.1 y2 _ hy2 (by omega) (Int32.ofInt 4) _ ci_4 (by omega) (ex0.elim (fun h => absurd h.1 (by omega)) (fun h => h.2)) (by omega))
      · refine h_iload_n (pc' := 56) rfl rfl rfl ?_
        refine h_aload_n (pc' := 57) rfl rfl rfl ?_
        refine h_getI (pc' := 60) (v := σ 98 15) rfl rfl rfl rfl rfl rfl (fun z4 hz4 => ?_)
        have tz4 := tf_98_15 hI
        refine h_aload_n (pc' := 61) rfl rfl rfl ?_
        refine h_getI (pc' := 64) (v := σ 98 16) rfl rfl rfl rfl rfl rfl (fun z5 hz5 => ?_)
        have tz5 := tf_98_16 hI
        refine h_isub (pc' := 65) rfl rfl hz4 hz5 rfl (by omega) (by omega) (fun z6 hz6 => ?_)
        refine h_cge (tg := 106) (pc' := 68) rfl rfl rfl ci_4 hz6 (fun c7 => ?_) (fun c7 => ?_)
        · refine h_iload_n (pc' := 107) rfl rfl rfl ?_
          refine h_zeq (tg := 112) (pc' := 110) rfl rfl rfl hy2 (fun c8 => absurd c8 (by omega)) (fun c8 => ?_)
          refine h_iload_n (pc' := 111) rfl rfl rfl ?_
          exact h_iret rfl rfl (kk _ _ ci_0 (by omega) (fun _ => (Or.inr (Or.inl ⟨rfl, ⟨by omega, by omega, by omega, by omega, by omega, by omega⟩⟩))) (Or.inl (by omega)))
        · refine h_aload_n (pc' := 69) rfl rfl rfl ?_
          refine h_aload_n (pc' := 70) rfl rfl rfl ?_
          refine h_getI (pc' := 73) (v := σ 98 16) rfl rfl rfl rfl rfl rfl (fun z9 hz9 => ?_)
          have tz9 := tf_98_16 hI
          refine h_iload_n (pc' := 74) rfl rfl rfl ?_
          refine h_iadd (pc' := 75) rfl rfl hz9 ci_4 rfl (by omega) (by omega) (fun z10 hz10 => ?_)
          refine h_call (sp := false) (pc' := 78) (M := [(0, .ref 98), (1, .int z10)]) rfl rfl rfl rfl rfl rfl rfl rfl ?_
          refine h_iload_n (pc' := 1) rfl rfl rfl ?_
          refine h_aload_n (pc' := 2) rfl rfl rfl ?_
          refine h_getI (pc' := 5) (v := σ 98 11) rfl rfl rfl rfl rfl rfl (fun z11 hz11 => ?_)
          have tz11 := tf_98_11 hI
          refine h_cge (tg := 17) (pc' := 8) rfl rfl rfl hz10 hz11 (fun c12 => ?_) (fun c12 => ?_)
          · refine h_bipush (pc' := 19) (x := (Int32.ofInt (-4))) rfl rfl cb_m4 ?_
            refine h_iret rfl rfl (h_Kv ?_)
            refine h_aload_n (pc' := 79) rfl rfl rfl ?_
            refine h_getR (pc' := 82) rfl rfl rfl rfl rfl ?_
            refine h_aload_n (pc' := 83) rfl rfl rfl ?_
            refine h_getR (pc' := 86) rfl rfl rfl rfl rfl ?_
            refine h_iload_n (pc' := 87) rfl rfl rfl ?_
            refine h_iald (pc' := 88) (v := 0) rfl rfl rfl ci_0 (by omega) (by omega) (tx_103_0 hI) (fun z13 hz13 => ?_)
            refine h_iload_n (pc' := 89) rfl rfl rfl ?_
            refine h_iadd (pc' := 90) rfl rfl hz13 ci_4 rfl (by omega) (by omega) (fun z14 hz14 => ?_)
            refine h_iald (pc' := 91) (v := σ 104 (0 + 4)) rfl rfl rfl hz14 (by omega) (by omega) rfl (fun z15 hz15 => ?_)
            have tz15 := ty_104 hI (0 + 4)
            refine h_cne (tg := 98) (pc' := 94) rfl rfl rfl ci_m4 hz15 (fun c16 => ?_) (fun c16 => ?_)
            · refine h_iconst (pc' := 99) (x := (Int32.ofInt 0)) rfl rfl rfl ?_
              refine h_istore_n (pc' := 100) (M := [(2, .int (Int32.ofInt 0)), (0, .ref 98), (1, .int (Int32.ofInt 0)), (3, .int (Int32.ofInt 4))]) rfl rfl rfl rfl ?_
              refine h_iinc (pc' := 103) (b := 5) (M := fun z17 => [(3, .int z17), (2, .int (Int32.ofInt 0)), (0, .ref 98), (1, .int (Int32.ofInt 0))]) rfl rfl rfl rfl ci_4 ci_1 rfl (by omega) (by omega) (fun _ => rfl) (fun z17 hz17 => ?_)
              refine h_goto (pc' := 51) rfl rfl ?_
              have qz17 : z17 = (Int32.ofInt 5) := h_lit hz17 ci_5
              subst qz17
              exact h_wk [(0, .ref 98), (1, .int (Int32.ofInt 0)), (2, .int (Int32.ofInt 0)), (3, .int (Int32.ofInt 5))] ⟨rfl, rfl, rfl, rfl, trivial⟩ (ih.2.2.2.2.2.2.2.2.2.2.2.2.2.2.1 (Int32.ofInt 0) _ ci_0 (by omega) (Or.inr ⟨by omega, fun h => by unfold g_nm0 at h; omega⟩) (by omega))
            · refine h_iconst (pc' := 95) (x := (Int32.ofInt 1)) rfl rfl rfl ?_
              refine h_goto (pc' := 99) rfl rfl ?_
              refine h_istore_n (pc' := 100) (M := [(2, .int (Int32.ofInt 1)), (0, .ref 98), (1, .int (Int32.ofInt 0)), (3, .int (Int32.ofInt 4))]) rfl rfl rfl rfl ?_
              refine h_iinc (pc' := 103) (b := 5) (M := fun z18 => [(3, .int z18), (2, .int (Int32.ofInt 1)), (0, .ref 98), (1, .int (Int32.ofInt 0))]) rfl rfl rfl rfl ci_4 ci_1 rfl (by omega) (by omega) (fun _ => rfl) (fun z18 hz18 => ?_)
              refine h_goto (pc' := 51) rfl rfl ?_
              have qz18 : z18 = (Int32.ofInt 5) := h_lit hz18 ci_5
              subst qz18
              exact h_wk [(0, .ref 98), (1, .int (Int32.ofInt 0)), (2, .int (Int32.ofInt 1)), (3, .int (Int32.ofInt 5))] ⟨rfl, rfl, rfl, rfl, trivial⟩ (ih.2.2.2.2.2.2.2.2.2.2.2.2.2.2.1 (Int32.ofInt 1) _ ci_1 (by omega) (Or.inl ⟨by omega, by omega, by omega, by omega, by omega, by omega, by omega⟩) (by omega))
          · refine h_aload_n (pc' := 9) rfl rfl rfl ?_
            refine h_getR (pc' := 12) rfl rfl rfl rfl rfl ?_
            refine h_iload_n (pc' := 13) rfl rfl rfl ?_
            refine h_iald (pc' := 14) (v := σ 102 ((σ 98 16) + 4)) rfl rfl rfl hz10 (by omega) (by omega) rfl (fun z19 hz19 => ?_)
            have tz19 := ty_102 hI ((σ 98 16) + 4)
            refine h_goto (pc' := 19) rfl rfl ?_
            refine h_iret rfl rfl (h_Kv ?_)
            refine h_aload_n (pc' := 79) rfl rfl rfl ?_
            refine h_getR (pc' := 82) rfl rfl rfl rfl rfl ?_
            refine h_aload_n (pc' := 83) rfl rfl rfl ?_
            refine h_getR (pc' := 86) rfl rfl rfl rfl rfl ?_
            refine h_iload_n (pc' := 87) rfl rfl rfl ?_
            refine h_iald (pc' := 88) (v := 0) rfl rfl rfl ci_0 (by omega) (by omega) (tx_103_0 hI) (fun z20 hz20 => ?_)
            refine h_iload_n (pc' := 89) rfl rfl rfl ?_
            refine h_iadd (pc' := 90) rfl rfl hz20 ci_4 rfl (by omega) (by omega) (fun z21 hz21 => ?_)
            refine h_iald (pc' := 91) (v := σ 104 (0 + 4)) rfl rfl rfl hz21 (by omega) (by omega) rfl (fun z22 hz22 => ?_)
            have tz22 := ty_104 hI (0 + 4)
            refine h_cne (tg := 98) (pc' := 94) rfl rfl rfl hz19 hz22 (fun c23 => ?_) (fun c23 => ?_)
            · refine h_iconst (pc' := 99) (x := (Int32.ofInt 0)) rfl rfl rfl ?_
              refine h_istore_n (pc' := 100) (M := [(2, .int (Int32.ofInt 0)), (0, .ref 98), (1, .int (Int32.ofInt 0)), (3, .int (Int32.ofInt 4))]) rfl rfl rfl rfl ?_
              refine h_iinc (pc' := 103) (b := 5) (M := fun z24 => [(3, .int z24), (2, .int (Int32.ofInt 0)), (0, .ref 98), (1, .int (Int32.ofInt 0))]) rfl rfl rfl rfl ci_4 ci_1 rfl (by omega) (by omega) (fun _ => rfl) (fun z24 hz24 => ?_)
              refine h_goto (pc' := 51) rfl rfl ?_
              have qz24 : z24 = (Int32.ofInt 5) := h_lit hz24 ci_5
              subst qz24
              exact h_wk [(0, .ref 98), (1, .int (Int32.ofInt 0)), (2, .int (Int32.ofInt 0)), (3, .int (Int32.ofInt 5))] ⟨rfl, rfl, rfl, rfl, trivial⟩ (ih.2.2.2.2.2.2.2.2.2.2.2.2.2.2.1 (Int32.ofInt 0) _ ci_0 (by omega) (Or.inr ⟨by omega, fun h => by unfold g_nm0 at h; omega⟩) (by omega))
            · refine h_iconst (pc' := 95) (x := (Int32.ofInt 1)) rfl rfl rfl ?_
              refine h_goto (pc' := 99) rfl rfl ?_
              refine h_istore_n (pc' := 100) (M := [(2, .int (Int32.ofInt 1)), (0, .ref 98), (1, .int (Int32.ofInt 0)), (3, .int (Int32.ofInt 4))]) rfl rfl rfl rfl ?_
              refine h_iinc (pc' := 103) (b := 5) (M := fun z25 => [(3, .int z25), (2, .int (Int32.ofInt 1)), (0, .ref 98), (1, .int (Int32.ofInt 0))]) rfl rfl rfl rfl ci_4 ci_1 rfl (by omega) (by omega) (fun _ => rfl) (fun z25 hz25 => ?_)
              refine h_goto (pc' := 51) rfl rfl ?_
              have qz25 : z25 = (Int32.ofInt 5) := h_lit hz25 ci_5
              subst qz25
              exact h_wk [(0, .ref 98), (1, .int (Int32.ofInt 0)), (2, .int (Int32.ofInt 1)), (3, .int (Int32.ofInt 5))] ⟨rfl, rfl, rfl, rfl, trivial⟩ (ih.2.2.2.2.2.2.2.2.2.2.2.2.2.2.1 (Int32.ofInt 1) _ ci_1 (by omega) (Or.inl ⟨by omega, by omega, by omega, by omega, by omega, by omega, by omega⟩) (by omega))
    · intro  y2 b2 hy2 ry2 ex0 hm; have gh0 := tf_98_11 hI; have gh1 := tf_98_15 hI; have gh2 := tf_98_16 hI
      refine h_iload_n (pc' := 52) rfl rfl rfl ?_
      refine h_zeq (tg := 106) (pc' := 55) rfl rfl rfl hy2 (fun c1 => ?_) (fun c1 => ?_)
      · refine h_iload_n (pc' := 107) rfl rfl rfl ?_
        refine h_zeq (tg := 112) (pc' := 110) rfl rfl rfl hy2 (fun c2 => ?_) (fun c2 => absurd c2 (by omega))
        refine h_iinc (pc' := 115) (b := 1) (M := fun z3 => [(1, .int z3), (0, .ref 98), (2, .int y2), (3, .int (Int32.ofInt 5))]) rfl rfl rfl rfl ci_0 ci_1 rfl (by omega) (by omega) (fun _ => rfl) (fun z3 hz3 => ?_)
        refine h_goto (pc' := 2) rfl rfl ?_
        have qz3 : z3 = (Int32.ofInt 1) := h_lit hz3 ci_1
        subst qz3
        exact h_wk [(0, .ref 98), (1, .int (Int32.ofInt 1)), (2, .int y2), (3, .int (Int32.ofInt 5))] ⟨rfl, rfl, rfl, rfl, trivial⟩ (ih.2.1 y2 _ hy2 (by omega) (Int32.ofInt 5) _ ci_5 (by omega) (ex0.elim (fun h => absurd h.1 (by omega)) (fun h => h.2)) (by omega))
      · refine h_iload_n (pc' := 56) rfl rfl rfl ?_
        refine h_aload_n (pc' := 57) rfl rfl rfl ?_
        refine h_getI (pc' := 60) (v := σ 98 15) rfl rfl rfl rfl rfl rfl (fun z4 hz4 => ?_)
        have tz4 := tf_98_15 hI
        refine h_aload_n (pc' := 61) rfl rfl rfl ?_
        refine h_getI (pc' := 64) (v := σ 98 16) rfl rfl rfl rfl rfl rfl (fun z5 hz5 => ?_)
        have tz5 := tf_98_16 hI
        refine h_isub (pc' := 65) rfl rfl hz4 hz5 rfl (by omega) (by omega) (fun z6 hz6 => ?_)
        refine h_cge (tg := 106) (pc' := 68) rfl rfl rfl ci_5 hz6 (fun c7 => ?_) (fun c7 => ?_)
        · refine h_iload_n (pc' := 107) rfl rfl rfl ?_
          refine h_zeq (tg := 112) (pc' := 110) rfl rfl rfl hy2 (fun c8 => absurd c8 (by omega)) (fun c8 => ?_)
          refine h_iload_n (pc' := 111) rfl rfl rfl ?_
          exact h_iret rfl rfl (kk _ _ ci_0 (by omega) (fun _ => (Or.inr (Or.inl ⟨rfl, ⟨by omega, by omega, by omega, by omega, by omega, by omega⟩⟩))) (Or.inl (by omega)))
        · exfalso; omega
    · intro  y2 b2 hy2 ry2 ex0 ex1 hm; have gh0 := tf_98_11 hI; have gh1 := tf_98_15 hI; have gh2 := tf_98_16 hI
      refine h_iload_n (pc' := 52) rfl rfl rfl ?_
      refine h_zeq (tg := 106) (pc' := 55) rfl rfl rfl hy2 (fun c1 => ?_) (fun c1 => ?_)
      · refine h_iload_n (pc' := 107) rfl rfl rfl ?_
        refine h_zeq (tg := 112) (pc' := 110) rfl rfl rfl hy2 (fun c2 => ?_) (fun c2 => absurd c2 (by omega))
        refine h_iinc (pc' := 115) (b := 2) (M := fun z3 => [(1, .int z3), (0, .ref 98), (2, .int y2), (3, .int (Int32.ofInt 0))]) rfl rfl rfl rfl ci_1 ci_1 rfl (by omega) (by omega) (fun _ => rfl) (fun z3 hz3 => ?_)
        refine h_goto (pc' := 2) rfl rfl ?_
        have qz3 : z3 = (Int32.ofInt 2) := h_lit hz3 ci_2
        subst qz3
        exact h_wk [(0, .ref 98), (1, .int (Int32.ofInt 2)), (2, .int y2), (3, .int (Int32.ofInt 0))] ⟨rfl, rfl, rfl, rfl, trivial⟩ (ih.2.2.1 y2 _ hy2 (by omega) (Int32.ofInt 0) _ ci_0 (by omega) ex0 (ex1.elim (fun h => absurd h.1 (by omega)) (fun h => h.2)) (by omega))
      · refine h_iload_n (pc' := 56) rfl rfl rfl ?_
        refine h_aload_n (pc' := 57) rfl rfl rfl ?_
        refine h_getI (pc' := 60) (v := σ 98 15) rfl rfl rfl rfl rfl rfl (fun z4 hz4 => ?_)
        have tz4 := tf_98_15 hI
        refine h_aload_n (pc' := 61) rfl rfl rfl ?_
        refine h_getI (pc' := 64) (v := σ 98 16) rfl rfl rfl rfl rfl rfl (fun z5 hz5 => ?_)
        have tz5 := tf_98_16 hI
        refine h_isub (pc' := 65) rfl rfl hz4 hz5 rfl (by omega) (by omega) (fun z6 hz6 => ?_)
        refine h_cge (tg := 106) (pc' := 68) rfl rfl rfl ci_0 hz6 (fun c7 => ?_) (fun c7 => ?_)
        · refine h_iload_n (pc' := 107) rfl rfl rfl ?_
          refine h_zeq (tg := 112) (pc' := 110) rfl rfl rfl hy2 (fun c8 => absurd c8 (by omega)) (fun c8 => ?_)
          refine h_iload_n (pc' := 111) rfl rfl rfl ?_
          exact h_iret rfl rfl (kk _ _ ci_1 (by omega) (fun _ => (Or.inr (Or.inr (Or.inl ⟨rfl, ex0, ⟨by omega, by omega, by omega, by omega, by omega, by omega, by omega, by omega⟩⟩)))) (Or.inl (by omega)))
        · refine h_aload_n (pc' := 69) rfl rfl rfl ?_
          refine h_aload_n (pc' := 70) rfl rfl rfl ?_
          refine h_getI (pc' := 73) (v := σ 98 16) rfl rfl rfl rfl rfl rfl (fun z9 hz9 => ?_)
          have tz9 := tf_98_16 hI
          refine h_iload_n (pc' := 74) rfl rfl rfl ?_
          refine h_iadd (pc' := 75) rfl rfl hz9 ci_0 rfl (by omega) (by omega) (fun z10 hz10 => ?_)
          refine h_call (sp := false) (pc' := 78) (M := [(0, .ref 98), (1, .int z10)]) rfl rfl rfl rfl rfl rfl rfl rfl ?_
          refine h_iload_n (pc' := 1) rfl rfl rfl ?_
          refine h_aload_n (pc' := 2) rfl rfl rfl ?_
          refine h_getI (pc' := 5) (v := σ 98 11) rfl rfl rfl rfl rfl rfl (fun z11 hz11 => ?_)
          have tz11 := tf_98_11 hI
          refine h_cge (tg := 17) (pc' := 8) rfl rfl rfl hz10 hz11 (fun c12 => ?_) (fun c12 => ?_)
          · refine h_bipush (pc' := 19) (x := (Int32.ofInt (-4))) rfl rfl cb_m4 ?_
            refine h_iret rfl rfl (h_Kv ?_)
            refine h_aload_n (pc' := 79) rfl rfl rfl ?_
            refine h_getR (pc' := 82) rfl rfl rfl rfl rfl ?_
            refine h_aload_n (pc' := 83) rfl rfl rfl ?_
            refine h_getR (pc' := 86) rfl rfl rfl rfl rfl ?_
            refine h_iload_n (pc' := 87) rfl rfl rfl ?_
            refine h_iald (pc' := 88) (v := 5) rfl rfl rfl ci_1 (by omega) (by omega) (tx_103_1 hI) (fun z13 hz13 => ?_)
            refine h_iload_n (pc' := 89) rfl rfl rfl ?_
            refine h_iadd (pc' := 90) rfl rfl hz13 ci_0 rfl (by omega) (by omega) (fun z14 hz14 => ?_)
            refine h_iald (pc' := 91) (v := σ 104 (5 + 0)) rfl rfl rfl hz14 (by omega) (by omega) rfl (fun z15 hz15 => ?_)
            have tz15 := ty_104 hI (5 + 0)
            refine h_cne (tg := 98) (pc' := 94) rfl rfl rfl ci_m4 hz15 (fun c16 => ?_) (fun c16 => ?_)
            · refine h_iconst (pc' := 99) (x := (Int32.ofInt 0)) rfl rfl rfl ?_
              refine h_istore_n (pc' := 100) (M := [(2, .int (Int32.ofInt 0)), (0, .ref 98), (1, .int (Int32.ofInt 1)), (3, .int (Int32.ofInt 0))]) rfl rfl rfl rfl ?_
              refine h_iinc (pc' := 103) (b := 1) (M := fun z17 => [(3, .int z17), (2, .int (Int32.ofInt 0)), (0, .ref 98), (1, .int (Int32.ofInt 1))]) rfl rfl rfl rfl ci_0 ci_1 rfl (by omega) (by omega) (fun _ => rfl) (fun z17 hz17 => ?_)
              refine h_goto (pc' := 51) rfl rfl ?_
              have qz17 : z17 = (Int32.ofInt 1) := h_lit hz17 ci_1
              subst qz17
              exact h_wk [(0, .ref 98), (1, .int (Int32.ofInt 1)), (2, .int (Int32.ofInt 0)), (3, .int (Int32.ofInt 1))] ⟨rfl, rfl, rfl, rfl, trivial⟩ (ih.2.2.2.2.2.2.2.2.2.2.2.2.2.2.2.2.1 (Int32.ofInt 0) _ ci_0 (by omega) ex0 (Or.inr ⟨by omega, fun h => by unfold g_nm1 at h; omega⟩) (by omega))
            · refine h_iconst (pc' := 95) (x := (Int32.ofInt 1)) rfl rfl rfl ?_
              refine h_goto (pc' := 99) rfl rfl ?_
              refine h_istore_n (pc' := 100) (M := [(2, .int (Int32.ofInt 1)), (0, .ref 98), (1, .int (Int32.ofInt 1)), (3, .int (Int32.ofInt 0))]) rfl rfl rfl rfl ?_
              refine h_iinc (pc' := 103) (b := 1) (M := fun z18 => [(3, .int z18), (2, .int (Int32.ofInt 1)), (0, .ref 98), (1, .int (Int32.ofInt 1))]) rfl rfl rfl rfl ci_0 ci_1 rfl (by omega) (by omega) (fun _ => rfl) (fun z18 hz18 => ?_)
              refine h_goto (pc' := 51) rfl rfl ?_
              have qz18 : z18 = (Int32.ofInt 1) := h_lit hz18 ci_1
              subst qz18
              exact h_wk [(0, .ref 98), (1, .int (Int32.ofInt 1)), (2, .int (Int32.ofInt 1)), (3, .int (Int32.ofInt 1))] ⟨rfl, rfl, rfl, rfl, trivial⟩ (ih.2.2.2.2.2.2.2.2.2.2.2.2.2.2.2.2.1 (Int32.ofInt 1) _ ci_1 (by omega) ex0 (Or.inl ⟨by omega, by omega, by omega⟩) (by omega))
          · refine h_aload_n (pc' := 9) rfl rfl rfl ?_
            refine h_getR (pc' := 12) rfl rfl rfl rfl rfl ?_
            refine h_iload_n (pc' := 13) rfl rfl rfl ?_
            refine h_iald (pc' := 14) (v := σ 102 ((σ 98 16) + 0)) rfl rfl rfl hz10 (by omega) (by omega) rfl (fun z19 hz19 => ?_)
            have tz19 := ty_102 hI ((σ 98 16) + 0)
            refine h_goto (pc' := 19) rfl rfl ?_
            refine h_iret rfl rfl (h_Kv ?_)
            refine h_aload_n (pc' := 79) rfl rfl rfl ?_
            refine h_getR (pc' := 82) rfl rfl rfl rfl rfl ?_
            refine h_aload_n (pc' := 83) rfl rfl rfl ?_
            refine h_getR (pc' := 86) rfl rfl rfl rfl rfl ?_
            refine h_iload_n (pc' := 87) rfl rfl rfl ?_
            refine h_iald (pc' := 88) (v := 5) rfl rfl rfl ci_1 (by omega) (by omega) (tx_103_1 hI) (fun z20 hz20 => ?_)
            refine h_iload_n (pc' := 89) rfl rfl rfl ?_
            refine h_iadd (pc' := 90) rfl rfl hz20 ci_0 rfl (by omega) (by omega) (fun z21 hz21 => ?_)
            refine h_iald (pc' := 91) (v := σ 104 (5 + 0)) rfl rfl rfl hz21 (by omega) (by omega) rfl (fun z22 hz22 => ?_)
            have tz22 := ty_104 hI (5 + 0)
            refine h_cne (tg := 98) (pc' := 94) rfl rfl rfl hz19 hz22 (fun c23 => ?_) (fun c23 => ?_)
            · refine h_iconst (pc' := 99) (x := (Int32.ofInt 0)) rfl rfl rfl ?_
              refine h_istore_n (pc' := 100) (M := [(2, .int (Int32.ofInt 0)), (0, .ref 98), (1, .int (Int32.ofInt 1)), (3, .int (Int32.ofInt 0))]) rfl rfl rfl rfl ?_
              refine h_iinc (pc' := 103) (b := 1) (M := fun z24 => [(3, .int z24), (2, .int (Int32.ofInt 0)), (0, .ref 98), (1, .int (Int32.ofInt 1))]) rfl rfl rfl rfl ci_0 ci_1 rfl (by omega) (by omega) (fun _ => rfl) (fun z24 hz24 => ?_)
              refine h_goto (pc' := 51) rfl rfl ?_
              have qz24 : z24 = (Int32.ofInt 1) := h_lit hz24 ci_1
              subst qz24
              exact h_wk [(0, .ref 98), (1, .int (Int32.ofInt 1)), (2, .int (Int32.ofInt 0)), (3, .int (Int32.ofInt 1))] ⟨rfl, rfl, rfl, rfl, trivial⟩ (ih.2.2.2.2.2.2.2.2.2.2.2.2.2.2.2.2.1 (Int32.ofInt 0) _ ci_0 (by omega) ex0 (Or.inr ⟨by omega, fun h => by unfold g_nm1 at h; omega⟩) (by omega))
            · refine h_iconst (pc' := 95) (x := (Int32.ofInt 1)) rfl rfl rfl ?_
              refine h_goto (pc' := 99) rfl rfl ?_
              refine h_istore_n (pc' := 100) (M := [(2, .int (Int32.ofInt 1)), (0, .ref 98), (1, .int (Int32.ofInt 1)), (3, .int (Int32.ofInt 0))]) rfl rfl rfl rfl ?_
              refine h_iinc (pc' := 103) (b := 1) (M := fun z25 => [(3, .int z25), (2, .int (Int32.ofInt 1)), (0, .ref 98), (1, .int (Int32.ofInt 1))]) rfl rfl rfl rfl ci_0 ci_1 rfl (by omega) (by omega) (fun _ => rfl) (fun z25 hz25 => ?_)
              refine h_goto (pc' := 51) rfl rfl ?_
              have qz25 : z25 = (Int32.ofInt 1) := h_lit hz25 ci_1
              subst qz25
              exact h_wk [(0, .ref 98), (1, .int (Int32.ofInt 1)), (2, .int (Int32.ofInt 1)), (3, .int (Int32.ofInt 1))] ⟨rfl, rfl, rfl, rfl, trivial⟩ (ih.2.2.2.2.2.2.2.2.2.2.2.2.2.2.2.2.1 (Int32.ofInt 1) _ ci_1 (by omega) ex0 (Or.inl ⟨by omega, by omega, by omega⟩) (by omega))
    · intro  y2 b2 hy2 ry2 ex0 ex1 hm; have gh0 := tf_98_11 hI; have gh1 := tf_98_15 hI; have gh2 := tf_98_16 hI
      refine h_iload_n (pc' := 52) rfl rfl rfl ?_
      refine h_zeq (tg := 106) (pc' := 55) rfl rfl rfl hy2 (fun c1 => ?_) (fun c1 => ?_)
      · refine h_iload_n (pc' := 107) rfl rfl rfl ?_
        refine h_zeq (tg := 112) (pc' := 110) rfl rfl rfl hy2 (fun c2 => ?_) (fun c2 => absurd c2 (by omega))
        refine h_iinc (pc' := 115) (b := 2) (M := fun z3 => [(1, .int z3), (0, .ref 98), (2, .int y2), (3, .int (Int32.ofInt 1))]) rfl rfl rfl rfl ci_1 ci_1 rfl (by omega) (by omega) (fun _ => rfl) (fun z3 hz3 => ?_)
        refine h_goto (pc' := 2) rfl rfl ?_
        have qz3 : z3 = (Int32.ofInt 2) := h_lit hz3 ci_2
        subst qz3
        exact h_wk [(0, .ref 98), (1, .int (Int32.ofInt 2)), (2, .int y2), (3, .int (Int32.ofInt 1))] ⟨rfl, rfl, rfl, rfl, trivial⟩ (ih.2.2.1 y2 _ hy2 (by omega) (Int32.ofInt 1) _ ci_1 (by omega) ex0 (ex1.elim (fun h => absurd h.1 (by omega)) (fun h => h.2)) (by omega))
      · refine h_iload_n (pc' := 56) rfl rfl rfl ?_
        refine h_aload_n (pc' := 57) rfl rfl rfl ?_
        refine h_getI (pc' := 60) (v := σ 98 15) rfl rfl rfl rfl rfl rfl (fun z4 hz4 => ?_)
        have tz4 := tf_98_15 hI
        refine h_aload_n (pc' := 61) rfl rfl rfl ?_
        refine h_getI (pc' := 64) (v := σ 98 16) rfl rfl rfl rfl rfl rfl (fun z5 hz5 => ?_)
        have tz5 := tf_98_16 hI
        refine h_isub (pc' := 65) rfl rfl hz4 hz5 rfl (by omega) (by omega) (fun z6 hz6 => ?_)
        refine h_cge (tg := 106) (pc' := 68) rfl rfl rfl ci_1 hz6 (fun c7 => ?_) (fun c7 => ?_)
        · refine h_iload_n (pc' := 107) rfl rfl rfl ?_
          refine h_zeq (tg := 112) (pc' := 110) rfl rfl rfl hy2 (fun c8 => absurd c8 (by omega)) (fun c8 => ?_)
          refine h_iload_n (pc' := 111) rfl rfl rfl ?_
          exact h_iret rfl rfl (kk _ _ ci_1 (by omega) (fun _ => (Or.inr (Or.inr (Or.inl ⟨rfl, ex0, ⟨by omega, by omega, by omega, by omega, by omega, by omega, by omega, by omega⟩⟩)))) (Or.inl (by omega)))
        · refine h_aload_n (pc' := 69) rfl rfl rfl ?_
          refine h_aload_n (pc' := 70) rfl rfl rfl ?_
          refine h_getI (pc' := 73) (v := σ 98 16) rfl rfl rfl rfl rfl rfl (fun z9 hz9 => ?_)
          have tz9 := tf_98_16 hI
          refine h_iload_n (pc' := 74) rfl rfl rfl ?_
          refine h_iadd (pc' := 75) rfl rfl hz9 ci_1 rfl (by omega) (by omega) (fun z10 hz10 => ?_)
          refine h_call (sp := false) (pc' := 78) (M := [(0, .ref 98), (1, .int z10)]) rfl rfl rfl rfl rfl rfl rfl rfl ?_
          refine h_iload_n (pc' := 1) rfl rfl rfl ?_
          refine h_aload_n (pc' := 2) rfl rfl rfl ?_
          refine h_getI (pc' := 5) (v := σ 98 11) rfl rfl rfl rfl rfl rfl (fun z11 hz11 => ?_)
          have tz11 := tf_98_11 hI
          refine h_cge (tg := 17) (pc' := 8) rfl rfl rfl hz10 hz11 (fun c12 => ?_) (fun c12 => ?_)
          · refine h_bipush (pc' := 19) (x := (Int32.ofInt (-4))) rfl rfl cb_m4 ?_
            refine h_iret rfl rfl (h_Kv ?_)
            refine h_aload_n (pc' := 79) rfl rfl rfl ?_
            refine h_getR (pc' := 82) rfl rfl rfl rfl rfl ?_
            refine h_aload_n (pc' := 83) rfl rfl rfl ?_
            refine h_getR (pc' := 86) rfl rfl rfl rfl rfl ?_
            refine h_iload_n (pc' := 87) rfl rfl rfl ?_
            refine h_iald (pc' := 88) (v := 5) rfl rfl rfl ci_1 (by omega) (by omega) (tx_103_1 hI) (fun z13 hz13 => ?_)
            refine h_iload_n (pc' := 89) rfl rfl rfl ?_
            refine h_iadd (pc' := 90) rfl rfl hz13 ci_1 rfl (by omega) (by omega) (fun z14 hz14 => ?_)
            refine h_iald (pc' := 91) (v := σ 104 (5 + 1)) rfl rfl rfl hz14 (by omega) (by omega) rfl (fun z15 hz15 => ?_)
            have tz15 := ty_104 hI (5 + 1)
            refine h_cne (tg := 98) (pc' := 94) rfl rfl rfl ci_m4 hz15 (fun c16 => ?_) (fun c16 => ?_)
            · refine h_iconst (pc' := 99) (x := (Int32.ofInt 0)) rfl rfl rfl ?_
              refine h_istore_n (pc' := 100) (M := [(2, .int (Int32.ofInt 0)), (0, .ref 98), (1, .int (Int32.ofInt 1)), (3, .int (Int32.ofInt 1))]) rfl rfl rfl rfl ?_
              refine h_iinc (pc' := 103) (b := 2) (M := fun z17 => [(3, .int z17), (2, .int (Int32.ofInt 0)), (0, .ref 98), (1, .int (Int32.ofInt 1))]) rfl rfl rfl rfl ci_1 ci_1 rfl (by omega) (by omega) (fun _ => rfl) (fun z17 hz17 => ?_)
              refine h_goto (pc' := 51) rfl rfl ?_
              have qz17 : z17 = (Int32.ofInt 2) := h_lit hz17 ci_2
              subst qz17
              exact h_wk [(0, .ref 98), (1, .int (Int32.ofInt 1)), (2, .int (Int32.ofInt 0)), (3, .int (Int32.ofInt 2))] ⟨rfl, rfl, rfl, rfl, trivial⟩ (ih.2.2.2.2.2.2.2.2.2.2.2.2.2.2.2.2.2.1 (Int32.ofInt 0) _ ci_0 (by omega) ex0 (Or.inr ⟨by omega, fun h => by unfold g_nm1 at h; omega⟩) (by omega))
            · refine h_iconst (pc' := 95) (x := (Int32.ofInt 1)) rfl rfl rfl ?_
              refine h_goto (pc' := 99) rfl rfl ?_
              refine h_istore_n (pc' := 100) (M := [(2, .int (Int32.ofInt 1)), (0, .ref 98), (1, .int (Int32.ofInt 1)), (3, .int (Int32.ofInt 1))]) rfl rfl rfl rfl ?_
              refine h_iinc (pc' := 103) (b := 2) (M := fun z18 => [(3, .int z18), (2, .int (Int32.ofInt 1)), (0, .ref 98), (1, .int (Int32.ofInt 1))]) rfl rfl rfl rfl ci_1 ci_1 rfl (by omega) (by omega) (fun _ => rfl) (fun z18 hz18 => ?_)
              refine h_goto (pc' := 51) rfl rfl ?_
              have qz18 : z18 = (Int32.ofInt 2) := h_lit hz18 ci_2
              subst qz18
              exact h_wk [(0, .ref 98), (1, .int (Int32.ofInt 1)), (2, .int (Int32.ofInt 1)), (3, .int (Int32.ofInt 2))] ⟨rfl, rfl, rfl, rfl, trivial⟩ (ih.2.2.2.2.2.2.2.2.2.2.2.2.2.2.2.2.2.1 (Int32.ofInt 1) _ ci_1 (by omega) ex0 (Or.inl ⟨by omega, by omega, by omega, by omega⟩) (by omega))
          · refine h_aload_n (pc' := 9) rfl rfl rfl ?_
            refine h_getR (pc' := 12) rfl rfl rfl rfl rfl ?_
            refine h_iload_n (pc' := 13) rfl rfl rfl ?_
            refine h_iald (pc' := 14) (v := σ 102 ((σ 98 16) + 1)) rfl rfl rfl hz10 (by omega) (by omega) rfl (fun z19 hz19 => ?_)
            have tz19 := ty_102 hI ((σ 98 16) + 1)
            refine h_goto (pc' := 19) rfl rfl ?_
            refine h_iret rfl rfl (h_Kv ?_)
            refine h_aload_n (pc' := 79) rfl rfl rfl ?_
            refine h_getR (pc' := 82) rfl rfl rfl rfl rfl ?_
            refine h_aload_n (pc' := 83) rfl rfl rfl ?_
            refine h_getR (pc' := 86) rfl rfl rfl rfl rfl ?_
            refine h_iload_n (pc' := 87) rfl rfl rfl ?_
            refine h_iald (pc' := 88) (v := 5) rfl rfl rfl ci_1 (by omega) (by omega) (tx_103_1 hI) (fun z20 hz20 => ?_)
            refine h_iload_n (pc' := 89) rfl rfl rfl ?_
            refine h_iadd (pc' := 90) rfl rfl hz20 ci_1 rfl (by omega) (by omega) (fun z21 hz21 => ?_)
            refine h_iald (pc' := 91) (v := σ 104 (5 + 1)) rfl rfl rfl hz21 (by omega) (by omega) rfl (fun z22 hz22 => ?_)
            have tz22 := ty_104 hI (5 + 1)
            refine h_cne (tg := 98) (pc' := 94) rfl rfl rfl hz19 hz22 (fun c23 => ?_) (fun c23 => ?_)
            · refine h_iconst (pc' := 99) (x := (Int32.ofInt 0)) rfl rfl rfl ?_
              refine h_istore_n (pc' := 100) (M := [(2, .int (Int32.ofInt 0)), (0, .ref 98), (1, .int (Int32.ofInt 1)), (3, .int (Int32.ofInt 1))]) rfl rfl rfl rfl ?_
              refine h_iinc (pc' := 103) (b := 2) (M := fun z24 => [(3, .int z24), (2, .int (Int32.ofInt 0)), (0, .ref 98), (1, .int (Int32.ofInt 1))]) rfl rfl rfl rfl ci_1 ci_1 rfl (by omega) (by omega) (fun _ => rfl) (fun z24 hz24 => ?_)
              refine h_goto (pc' := 51) rfl rfl ?_
              have qz24 : z24 = (Int32.ofInt 2) := h_lit hz24 ci_2
              subst qz24
              exact h_wk [(0, .ref 98), (1, .int (Int32.ofInt 1)), (2, .int (Int32.ofInt 0)), (3, .int (Int32.ofInt 2))] ⟨rfl, rfl, rfl, rfl, trivial⟩ (ih.2.2.2.2.2.2.2.2.2.2.2.2.2.2.2.2.2.1 (Int32.ofInt 0) _ ci_0 (by omega) ex0 (Or.inr ⟨by omega, fun h => by unfold g_nm1 at h; omega⟩) (by omega))
            · refine h_iconst (pc' := 95) (x := (Int32.ofInt 1)) rfl rfl rfl ?_
              refine h_goto (pc' := 99) rfl rfl ?_
              refine h_istore_n (pc' := 100) (M := [(2, .int (Int32.ofInt 1)), (0, .ref 98), (1, .int (Int32.ofInt 1)), (3, .int (Int32.ofInt 1))]) rfl rfl rfl rfl ?_
              refine h_iinc (pc' := 103) (b := 2) (M := fun z25 => [(3, .int z25), (2, .int (Int32.ofInt 1)), (0, .ref 98), (1, .int (Int32.ofInt 1))]) rfl rfl rfl rfl ci_1 ci_1 rfl (by omega) (by omega) (fun _ => rfl) (fun z25 hz25 => ?_)
              refine h_goto (pc' := 51) rfl rfl ?_
              have qz25 : z25 = (Int32.ofInt 2) := h_lit hz25 ci_2
              subst qz25
              exact h_wk [(0, .ref 98), (1, .int (Int32.ofInt 1)), (2, .int (Int32.ofInt 1)), (3, .int (Int32.ofInt 2))] ⟨rfl, rfl, rfl, rfl, trivial⟩ (ih.2.2.2.2.2.2.2.2.2.2.2.2.2.2.2.2.2.1 (Int32.ofInt 1) _ ci_1 (by omega) ex0 (Or.inl ⟨by omega, by omega, by omega, by omega⟩) (by omega))
    · intro  y2 b2 hy2 ry2 ex0 ex1 hm; have gh0 := tf_98_11 hI; have gh1 := tf_98_15 hI; have gh2 := tf_98_16 hI
      refine h_iload_n (pc' := 52) rfl rfl rfl ?_
      refine h_zeq (tg := 106) (pc' := 55) rfl rfl rfl hy2 (fun c1 => ?_) (fun c1 => ?_)
      · refine h_iload_n (pc' := 107) rfl rfl rfl ?_
        refine h_zeq (tg := 112) (pc' := 110) rfl rfl rfl hy2 (fun c2 => ?_) (fun c2 => absurd c2 (by omega))
        refine h_iinc (pc' := 115) (b := 2) (M := fun z3 => [(1, .int z3), (0, .ref 98), (2, .int y2), (3, .int (Int32.ofInt 2))]) rfl rfl rfl rfl ci_1 ci_1 rfl (by omega) (by omega) (fun _ => rfl) (fun z3 hz3 => ?_)
        refine h_goto (pc' := 2) rfl rfl ?_
        have qz3 : z3 = (Int32.ofInt 2) := h_lit hz3 ci_2
        subst qz3
        exact h_wk [(0, .ref 98), (1, .int (Int32.ofInt 2)), (2, .int y2), (3, .int (Int32.ofInt 2))] ⟨rfl, rfl, rfl, rfl, trivial⟩ (ih.2.2.1 y2 _ hy2 (by omega) (Int32.ofInt 2) _ ci_2 (by omega) ex0 (ex1.elim (fun h => absurd h.1 (by omega)) (fun h => h.2)) (by omega))
      · refine h_iload_n (pc' := 56) rfl rfl rfl ?_
        refine h_aload_n (pc' := 57) rfl rfl rfl ?_
        refine h_getI (pc' := 60) (v := σ 98 15) rfl rfl rfl rfl rfl rfl (fun z4 hz4 => ?_)
        have tz4 := tf_98_15 hI
        refine h_aload_n (pc' := 61) rfl rfl rfl ?_
        refine h_getI (pc' := 64) (v := σ 98 16) rfl rfl rfl rfl rfl rfl (fun z5 hz5 => ?_)
        have tz5 := tf_98_16 hI
        refine h_isub (pc' := 65) rfl rfl hz4 hz5 rfl (by omega) (by omega) (fun z6 hz6 => ?_)
        refine h_cge (tg := 106) (pc' := 68) rfl rfl rfl ci_2 hz6 (fun c7 => ?_) (fun c7 => ?_)
        · refine h_iload_n (pc' := 107) rfl rfl rfl ?_
          refine h_zeq (tg := 112) (pc' := 110) rfl rfl rfl hy2 (fun c8 => absurd c8 (by omega)) (fun c8 => ?_)
          refine h_iload_n (pc' := 111) rfl rfl rfl ?_
          exact h_iret rfl rfl (kk _ _ ci_1 (by omega) (fun _ => (Or.inr (Or.inr (Or.inl ⟨rfl, ex0, ⟨by omega, by omega, by omega, by omega, by omega, by omega, by omega, by omega⟩⟩)))) (Or.inl (by omega)))
        · refine h_aload_n (pc' := 69) rfl rfl rfl ?_
          refine h_aload_n (pc' := 70) rfl rfl rfl ?_
          refine h_getI (pc' := 73) (v := σ 98 16) rfl rfl rfl rfl rfl rfl (fun z9 hz9 => ?_)
          have tz9 := tf_98_16 hI
          refine h_iload_n (pc' := 74) rfl rfl rfl ?_
          refine h_iadd (pc' := 75) rfl rfl hz9 ci_2 rfl (by omega) (by omega) (fun z10 hz10 => ?_)
          refine h_call (sp := false) (pc' := 78) (M := [(0, .ref 98), (1, .int z10)]) rfl rfl rfl rfl rfl rfl rfl rfl ?_
          refine h_iload_n (pc' := 1) rfl rfl rfl ?_
          refine h_aload_n (pc' := 2) rfl rfl rfl ?_
          refine h_getI (pc' := 5) (v := σ 98 11) rfl rfl rfl rfl rfl rfl (fun z11 hz11 => ?_)
          have tz11 := tf_98_11 hI
          refine h_cge (tg := 17) (pc' := 8) rfl rfl rfl hz10 hz11 (fun c12 => ?_) (fun c12 => ?_)
          · refine h_bipush (pc' := 19) (x := (Int32.ofInt (-4))) rfl rfl cb_m4 ?_
            refine h_iret rfl rfl (h_Kv ?_)
            refine h_aload_n (pc' := 79) rfl rfl rfl ?_
            refine h_getR (pc' := 82) rfl rfl rfl rfl rfl ?_
            refine h_aload_n (pc' := 83) rfl rfl rfl ?_
            refine h_getR (pc' := 86) rfl rfl rfl rfl rfl ?_
            refine h_iload_n (pc' := 87) rfl rfl rfl ?_
            refine h_iald (pc' := 88) (v := 5) rfl rfl rfl ci_1 (by omega) (by omega) (tx_103_1 hI) (fun z13 hz13 => ?_)
            refine h_iload_n (pc' := 89) rfl rfl rfl ?_
            refine h_iadd (pc' := 90) rfl rfl hz13 ci_2 rfl (by omega) (by omega) (fun z14 hz14 => ?_)
            refine h_iald (pc' := 91) (v := σ 104 (5 + 2)) rfl rfl rfl hz14 (by omega) (by omega) rfl (fun z15 hz15 => ?_)
            have tz15 := ty_104 hI (5 + 2)
            refine h_cne (tg := 98) (pc' := 94) rfl rfl rfl ci_m4 hz15 (fun c16 => ?_) (fun c16 => ?_)
            · refine h_iconst (pc' := 99) (x := (Int32.ofInt 0)) rfl rfl rfl ?_
              refine h_istore_n (pc' := 100) (M := [(2, .int (Int32.ofInt 0)), (0, .ref 98), (1, .int (Int32.ofInt 1)), (3, .int (Int32.ofInt 2))]) rfl rfl rfl rfl ?_
              refine h_iinc (pc' := 103) (b := 3) (M := fun z17 => [(3, .int z17), (2, .int (Int32.ofInt 0)), (0, .ref 98), (1, .int (Int32.ofInt 1))]) rfl rfl rfl rfl ci_2 ci_1 rfl (by omega) (by omega) (fun _ => rfl) (fun z17 hz17 => ?_)
              refine h_goto (pc' := 51) rfl rfl ?_
              have qz17 : z17 = (Int32.ofInt 3) := h_lit hz17 ci_3
              subst qz17
              exact h_wk [(0, .ref 98), (1, .int (Int32.ofInt 1)), (2, .int (Int32.ofInt 0)), (3, .int (Int32.ofInt 3))] ⟨rfl, rfl, rfl, rfl, trivial⟩ (ih.2.2.2.2.2.2.2.2.2.2.2.2.2.2.2.2.2.2.1 (Int32.ofInt 0) _ ci_0 (by omega) ex0 (Or.inr ⟨by omega, fun h => by unfold g_nm1 at h; omega⟩) (by omega))
            · refine h_iconst (pc' := 95) (x := (Int32.ofInt 1)) rfl rfl rfl ?_
              refine h_goto (pc' := 99) rfl rfl ?_
              refine h_istore_n (pc' := 100) (M := [(2, .int (Int32.ofInt 1)), (0, .ref 98), (1, .int (Int32.ofInt 1)), (3, .int (Int32.ofInt 2))]) rfl rfl rfl rfl ?_
              refine h_iinc (pc' := 103) (b := 3) (M := fun z18 => [(3, .int z18), (2, .int (Int32.ofInt 1)), (0, .ref 98), (1, .int (Int32.ofInt 1))]) rfl rfl rfl rfl ci_2 ci_1 rfl (by omega) (by omega) (fun _ => rfl) (fun z18 hz18 => ?_)
              refine h_goto (pc' := 51) rfl rfl ?_
              have qz18 : z18 = (Int32.ofInt 3) := h_lit hz18 ci_3
              subst qz18
              exact h_wk [(0, .ref 98), (1, .int (Int32.ofInt 1)), (2, .int (Int32.ofInt 1)), (3, .int (Int32.ofInt 3))] ⟨rfl, rfl, rfl, rfl, trivial⟩ (ih.2.2.2.2.2.2.2.2.2.2.2.2.2.2.2.2.2.2.1 (Int32.ofInt 1) _ ci_1 (by omega) ex0 (Or.inl ⟨by omega, by omega, by omega, by omega, by omega⟩) (by omega))
          · refine h_aload_n (pc' := 9) rfl rfl rfl ?_
            refine h_getR (pc' := 12) rfl rfl rfl rfl rfl ?_
            refine h_iload_n (pc' := 13) rfl rfl rfl ?_
            refine h_iald (pc' := 14) (v := σ 102 ((σ 98 16) + 2)) rfl rfl rfl hz10 (by omega) (by omega) rfl (fun z19 hz19 => ?_)
            have tz19 := ty_102 hI ((σ 98 16) + 2)
            refine h_goto (pc' := 19) rfl rfl ?_
            refine h_iret rfl rfl (h_Kv ?_)
            refine h_aload_n (pc' := 79) rfl rfl rfl ?_
            refine h_getR (pc' := 82) rfl rfl rfl rfl rfl ?_
            refine h_aload_n (pc' := 83) rfl rfl rfl ?_
            refine h_getR (pc' := 86) rfl rfl rfl rfl rfl ?_
            refine h_iload_n (pc' := 87) rfl rfl rfl ?_
            refine h_iald (pc' := 88) (v := 5) rfl rfl rfl ci_1 (by omega) (by omega) (tx_103_1 hI) (fun z20 hz20 => ?_)
            refine h_iload_n (pc' := 89) rfl rfl rfl ?_
            refine h_iadd (pc' := 90) rfl rfl hz20 ci_2 rfl (by omega) (by omega) (fun z21 hz21 => ?_)
            refine h_iald (pc' := 91) (v := σ 104 (5 + 2)) rfl rfl rfl hz21 (by omega) (by omega) rfl (fun z22 hz22 => ?_)
            have tz22 := ty_104 hI (5 + 2)
            refine h_cne (tg := 98) (pc' := 94) rfl rfl rfl hz19 hz22 (fun c23 => ?_) (fun c23 => ?_)
            · refine h_iconst (pc' := 99) (x := (Int32.ofInt 0)) rfl rfl rfl ?_
              refine h_istore_n (pc' := 100) (M := [(2, .int (Int32.ofInt 0)), (0, .ref 98), (1, .int (Int32.ofInt 1)), (3, .int (Int32.ofInt 2))]) rfl rfl rfl rfl ?_
              refine h_iinc (pc' := 103) (b := 3) (M := fun z24 => [(3, .int z24), (2, .int (Int32.ofInt 0)), (0, .ref 98), (1, .int (Int32.ofInt 1))]) rfl rfl rfl rfl ci_2 ci_1 rfl (by omega) (by omega) (fun _ => rfl) (fun z24 hz24 => ?_)
              refine h_goto (pc' := 51) rfl rfl ?_
              have qz24 : z24 = (Int32.ofInt 3) := h_lit hz24 ci_3
              subst qz24
              exact h_wk [(0, .ref 98), (1, .int (Int32.ofInt 1)), (2, .int (Int32.ofInt 0)), (3, .int (Int32.ofInt 3))] ⟨rfl, rfl, rfl, rfl, trivial⟩ (ih.2.2.2.2.2.2.2.2.2.2.2.2.2.2.2.2.2.2.1 (Int32.ofInt 0) _ ci_0 (by omega) ex0 (Or.inr ⟨by omega, fun h => by unfold g_nm1 at h; omega⟩) (by omega))
            · refine h_iconst (pc' := 95) (x := (Int32.ofInt 1)) rfl rfl rfl ?_
              refine h_goto (pc' := 99) rfl rfl ?_
              refine h_istore_n (pc' := 100) (M := [(2, .int (Int32.ofInt 1)), (0, .ref 98), (1, .int (Int32.ofInt 1)), (3, .int (Int32.ofInt 2))]) rfl rfl rfl rfl ?_
              refine h_iinc (pc' := 103) (b := 3) (M := fun z25 => [(3, .int z25), (2, .int (Int32.ofInt 1)), (0, .ref 98), (1, .int (Int32.ofInt 1))]) rfl rfl rfl rfl ci_2 ci_1 rfl (by omega) (by omega) (fun _ => rfl) (fun z25 hz25 => ?_)
              refine h_goto (pc' := 51) rfl rfl ?_
              have qz25 : z25 = (Int32.ofInt 3) := h_lit hz25 ci_3
              subst qz25
              exact h_wk [(0, .ref 98), (1, .int (Int32.ofInt 1)), (2, .int (Int32.ofInt 1)), (3, .int (Int32.ofInt 3))] ⟨rfl, rfl, rfl, rfl, trivial⟩ (ih.2.2.2.2.2.2.2.2.2.2.2.2.2.2.2.2.2.2.1 (Int32.ofInt 1) _ ci_1 (by omega) ex0 (Or.inl ⟨by omega, by omega, by omega, by omega, by omega⟩) (by omega))
    · intro  y2 b2 hy2 ry2 ex0 ex1 hm; have gh0 := tf_98_11 hI; have gh1 := tf_98_15 hI; have gh2 := tf_98_16 hI
      refine h_iload_n (pc' := 52) rfl rfl rfl ?_
      refine h_zeq (tg := 106) (pc' := 55) rfl rfl rfl hy2 (fun c1 => ?_) (fun c1 => ?_)
      · refine h_iload_n (pc' := 107) rfl rfl rfl ?_
        refine h_zeq (tg := 112) (pc' := 110) rfl rfl rfl hy2 (fun c2 => ?_) (fun c2 => absurd c2 (by omega))
        refine h_iinc (pc' := 115) (b := 2) (M := fun z3 => [(1, .int z3), (0, .ref 98), (2, .int y2), (3, .int (Int32.ofInt 3))]) rfl rfl rfl rfl ci_1 ci_1 rfl (by omega) (by omega) (fun _ => rfl) (fun z3 hz3 => ?_)
        refine h_goto (pc' := 2) rfl rfl ?_
        have qz3 : z3 = (Int32.ofInt 2) := h_lit hz3 ci_2
        subst qz3
        exact h_wk [(0, .ref 98), (1, .int (Int32.ofInt 2)), (2, .int y2), (3, .int (Int32.ofInt 3))] ⟨rfl, rfl, rfl, rfl, trivial⟩ (ih.2.2.1 y2 _ hy2 (by omega) (Int32.ofInt 3) _ ci_3 (by omega) ex0 (ex1.elim (fun h => absurd h.1 (by omega)) (fun h => h.2)) (by omega))
      · refine h_iload_n (pc' := 56) rfl rfl rfl ?_
        refine h_aload_n (pc' := 57) rfl rfl rfl ?_
        refine h_getI (pc' := 60) (v := σ 98 15) rfl rfl rfl rfl rfl rfl (fun z4 hz4 => ?_)
        have tz4 := tf_98_15 hI
        refine h_aload_n (pc' := 61) rfl rfl rfl ?_
        refine h_getI (pc' := 64) (v := σ 98 16) rfl rfl rfl rfl rfl rfl (fun z5 hz5 => ?_)
        have tz5 := tf_98_16 hI
        refine h_isub (pc' := 65) rfl rfl hz4 hz5 rfl (by omega) (by omega) (fun z6 hz6 => ?_)
        refine h_cge (tg := 106) (pc' := 68) rfl rfl rfl ci_3 hz6 (fun c7 => ?_) (fun c7 => ?_)
        · refine h_iload_n (pc' := 107) rfl rfl rfl ?_
          refine h_zeq (tg := 112) (pc' := 110) rfl rfl rfl hy2 (fun c8 => absurd c8 (by omega)) (fun c8 => ?_)
          refine h_iload_n (pc' := 111) rfl rfl rfl ?_
          exact h_iret rfl rfl (kk _ _ ci_1 (by omega) (fun _ => (Or.inr (Or.inr (Or.inl ⟨rfl, ex0, ⟨by omega, by omega, by omega, by omega, by omega, by omega, by omega, by omega⟩⟩)))) (Or.inl (by omega)))
        · refine h_aload_n (pc' := 69) rfl rfl rfl ?_
          refine h_aload_n (pc' := 70) rfl rfl rfl ?_
          refine h_getI (pc' := 73) (v := σ 98 16) rfl rfl rfl rfl rfl rfl (fun z9 hz9 => ?_)
          have tz9 := tf_98_16 hI
          refine h_iload_n (pc' := 74) rfl rfl rfl ?_
          refine h_iadd (pc' := 75) rfl rfl hz9 ci_3 rfl (by omega) (by omega) (fun z10 hz10 => ?_)
          refine h_call (sp := false) (pc' := 78) (M := [(0, .ref 98), (1, .int z10)]) rfl rfl rfl rfl rfl rfl rfl rfl ?_
          refine h_iload_n (pc' := 1) rfl rfl rfl ?_
          refine h_aload_n (pc' := 2) rfl rfl rfl ?_
          refine h_getI (pc' := 5) (v := σ 98 11) rfl rfl rfl rfl rfl rfl (fun z11 hz11 => ?_)
          have tz11 := tf_98_11 hI
          refine h_cge (tg := 17) (pc' := 8) rfl rfl rfl hz10 hz11 (fun c12 => ?_) (fun c12 => ?_)
          · refine h_bipush (pc' := 19) (x := (Int32.ofInt (-4))) rfl rfl cb_m4 ?_
            refine h_iret rfl rfl (h_Kv ?_)
            refine h_aload_n (pc' := 79) rfl rfl rfl ?_
            refine h_getR (pc' := 82) rfl rfl rfl rfl rfl ?_
            refine h_aload_n (pc' := 83) rfl rfl rfl ?_
            refine h_getR (pc' := 86) rfl rfl rfl rfl rfl ?_
            refine h_iload_n (pc' := 87) rfl rfl rfl ?_
            refine h_iald (pc' := 88) (v := 5) rfl rfl rfl ci_1 (by omega) (by omega) (tx_103_1 hI) (fun z13 hz13 => ?_)
            refine h_iload_n (pc' := 89) rfl rfl rfl ?_
            refine h_iadd (pc' := 90) rfl rfl hz13 ci_3 rfl (by omega) (by omega) (fun z14 hz14 => ?_)
            refine h_iald (pc' := 91) (v := σ 104 (5 + 3)) rfl rfl rfl hz14 (by omega) (by omega) rfl (fun z15 hz15 => ?_)
            have tz15 := ty_104 hI (5 + 3)
            refine h_cne (tg := 98) (pc' := 94) rfl rfl rfl ci_m4 hz15 (fun c16 => ?_) (fun c16 => ?_)
            · refine h_iconst (pc' := 99) (x := (Int32.ofInt 0)) rfl rfl rfl ?_
              refine h_istore_n (pc' := 100) (M := [(2, .int (Int32.ofInt 0)), (0, .ref 98), (1, .int (Int32.ofInt 1)), (3, .int (Int32.ofInt 3))]) rfl rfl rfl rfl ?_
              refine h_iinc (pc' := 103) (b := 4) (M := fun z17 => [(3, .int z17), (2, .int (Int32.ofInt 0)), (0, .ref 98), (1, .int (Int32.ofInt 1))]) rfl rfl rfl rfl ci_3 ci_1 rfl (by omega) (by omega) (fun _ => rfl) (fun z17 hz17 => ?_)
              refine h_goto (pc' := 51) rfl rfl ?_
              have qz17 : z17 = (Int32.ofInt 4) := h_lit hz17 ci_4
              subst qz17
              exact h_wk [(0, .ref 98), (1, .int (Int32.ofInt 1)), (2, .int (Int32.ofInt 0)), (3, .int (Int32.ofInt 4))] ⟨rfl, rfl, rfl, rfl, trivial⟩ (ih.2.2.2.2.2.2.2.2.2.2.2.2.2.2.2.2.2.2.2.1 (Int32.ofInt 0) _ ci_0 (by omega) ex0 (Or.inr ⟨by omega, fun h => by unfold g_nm1 at h; omega⟩) (by omega))
            · refine h_iconst (pc' := 95) (x := (Int32.ofInt 1)) rfl rfl rfl ?_
              refine h_goto (pc' := 99) rfl rfl ?_
              refine h_istore_n (pc' := 100) (M := [(2, .int (Int32.ofInt 1)), (0, .ref 98), (1, .int (Int32.ofInt 1)), (3, .int (Int32.ofInt 3))]) rfl rfl rfl rfl ?_
              refine h_iinc (pc' := 103) (b := 4) (M := fun z18 => [(3, .int z18), (2, .int (Int32.ofInt 1)), (0, .ref 98), (1, .int (Int32.ofInt 1))]) rfl rfl rfl rfl ci_3 ci_1 rfl (by omega) (by omega) (fun _ => rfl) (fun z18 hz18 => ?_)
              refine h_goto (pc' := 51) rfl rfl ?_
              have qz18 : z18 = (Int32.ofInt 4) := h_lit hz18 ci_4
              subst qz18
              exact h_wk [(0, .ref 98), (1, .int (Int32.ofInt 1)), (2, .int (Int32.ofInt 1)), (3, .int (Int32.ofInt 4))] ⟨rfl, rfl, rfl, rfl, trivial⟩ (ih.2.2.2.2.2.2.2.2.2.2.2.2.2.2.2.2.2.2.2.1 (Int32.ofInt 1) _ ci_1 (by omega) ex0 (Or.inl ⟨by omega, by omega, by omega, by omega, by omega, by omega⟩) (by omega))
          · refine h_aload_n (pc' := 9) rfl rfl rfl ?_
            refine h_getR (pc' := 12) rfl rfl rfl rfl rfl ?_
            refine h_iload_n (pc' := 13) rfl rfl rfl ?_
            refine h_iald (pc' := 14) (v := σ 102 ((σ 98 16) + 3)) rfl rfl rfl hz10 (by omega) (by omega) rfl (fun z19 hz19 => ?_)
            have tz19 := ty_102 hI ((σ 98 16) + 3)
            refine h_goto (pc' := 19) rfl rfl ?_
            refine h_iret rfl rfl (h_Kv ?_)
            refine h_aload_n (pc' := 79) rfl rfl rfl ?_
            refine h_getR (pc' := 82) rfl rfl rfl rfl rfl ?_
            refine h_aload_n (pc' := 83) rfl rfl rfl ?_
            refine h_getR (pc' := 86) rfl rfl rfl rfl rfl ?_
            refine h_iload_n (pc' := 87) rfl rfl rfl ?_
            refine h_iald (pc' := 88) (v := 5) rfl rfl rfl ci_1 (by omega) (by omega) (tx_103_1 hI) (fun z20 hz20 => ?_)
            refine h_iload_n (pc' := 89) rfl rfl rfl ?_
            refine h_iadd (pc' := 90) rfl rfl hz20 ci_3 rfl (by omega) (by omega) (fun z21 hz21 => ?_)
            refine h_iald (pc' := 91) (v := σ 104 (5 + 3)) rfl rfl rfl hz21 (by omega) (by omega) rfl (fun z22 hz22 => ?_)
            have tz22 := ty_104 hI (5 + 3)
            refine h_cne (tg := 98) (pc' := 94) rfl rfl rfl hz19 hz22 (fun c23 => ?_) (fun c23 => ?_)
            · refine h_iconst (pc' := 99) (x := (Int32.ofInt 0)) rfl rfl rfl ?_
              refine h_istore_n (pc' := 100) (M := [(2, .int (Int32.ofInt 0)), (0, .ref 98), (1, .int (Int32.ofInt 1)), (3, .int (Int32.ofInt 3))]) rfl rfl rfl rfl ?_
              refine h_iinc (pc' := 103) (b := 4) (M := fun z24 => [(3, .int z24), (2, .int (Int32.ofInt 0)), (0, .ref 98), (1, .int (Int32.ofInt 1))]) rfl rfl rfl rfl ci_3 ci_1 rfl (by omega) (by omega) (fun _ => rfl) (fun z24 hz24 => ?_)
              refine h_goto (pc' := 51) rfl rfl ?_
              have qz24 : z24 = (Int32.ofInt 4) := h_lit hz24 ci_4
              subst qz24
              exact h_wk [(0, .ref 98), (1, .int (Int32.ofInt 1)), (2, .int (Int32.ofInt 0)), (3, .int (Int32.ofInt 4))] ⟨rfl, rfl, rfl, rfl, trivial⟩ (ih.2.2.2.2.2.2.2.2.2.2.2.2.2.2.2.2.2.2.2.1 (Int32.ofInt 0) _ ci_0 (by omega) ex0 (Or.inr ⟨by omega, fun h => by unfold g_nm1 at h; omega⟩) (by omega))
            · refine h_iconst (pc' := 95) (x := (Int32.ofInt 1)) rfl rfl rfl ?_
              refine h_goto (pc' := 99) rfl rfl ?_
              refine h_istore_n (pc' := 100) (M := [(2, .int (Int32.ofInt 1)), (0, .ref 98), (1, .int (Int32.ofInt 1)), (3, .int (Int32.ofInt 3))]) rfl rfl rfl rfl ?_
              refine h_iinc (pc' := 103) (b := 4) (M := fun z25 => [(3, .int z25), (2, .int (Int32.ofInt 1)), (0, .ref 98), (1, .int (Int32.ofInt 1))]) rfl rfl rfl rfl ci_3 ci_1 rfl (by omega) (by omega) (fun _ => rfl) (fun z25 hz25 => ?_)
              refine h_goto (pc' := 51) rfl rfl ?_
              have qz25 : z25 = (Int32.ofInt 4) := h_lit hz25 ci_4
              subst qz25
              exact h_wk [(0, .ref 98), (1, .int (Int32.ofInt 1)), (2, .int (Int32.ofInt 1)), (3, .int (Int32.ofInt 4))] ⟨rfl, rfl, rfl, rfl, trivial⟩ (ih.2.2.2.2.2.2.2.2.2.2.2.2.2.2.2.2.2.2.2.1 (Int32.ofInt 1) _ ci_1 (by omega) ex0 (Or.inl ⟨by omega, by omega, by omega, by omega, by omega, by omega⟩) (by omega))
    · intro  y2 b2 hy2 ry2 ex0 ex1 hm; have gh0 := tf_98_11 hI; have gh1 := tf_98_15 hI; have gh2 := tf_98_16 hI
      refine h_iload_n (pc' := 52) rfl rfl rfl ?_
      refine h_zeq (tg := 106) (pc' := 55) rfl rfl rfl hy2 (fun c1 => ?_) (fun c1 => ?_)
      · refine h_iload_n (pc' := 107) rfl rfl rfl ?_
        refine h_zeq (tg := 112) (pc' := 110) rfl rfl rfl hy2 (fun c2 => ?_) (fun c2 => absurd c2 (by omega))
        refine h_iinc (pc' := 115) (b := 2) (M := fun z3 => [(1, .int z3), (0, .ref 98), (2, .int y2), (3, .int (Int32.ofInt 4))]) rfl rfl rfl rfl ci_1 ci_1 rfl (by omega) (by omega) (fun _ => rfl) (fun z3 hz3 => ?_)
        refine h_goto (pc' := 2) rfl rfl ?_
        have qz3 : z3 = (Int32.ofInt 2) := h_lit hz3 ci_2
        subst qz3
        exact h_wk [(0, .ref 98), (1, .int (Int32.ofInt 2)), (2, .int y2), (3, .int (Int32.ofInt 4))] ⟨rfl, rfl, rfl, rfl, trivial⟩ (ih.2.2.1 y2 _ hy2 (by omega) (Int32.ofInt 4) _ ci_4 (by omega) ex0 (ex1.elim (fun h => absurd h.1 (by omega)) (fun h => h.2)) (by omega))
      · refine h_iload_n (pc' := 56) rfl rfl rfl ?_
        refine h_aload_n (pc' := 57) rfl rfl rfl ?_
        refine h_getI (pc' := 60) (v := σ 98 15) rfl rfl rfl rfl rfl rfl (fun z4 hz4 => ?_)
        have tz4 := tf_98_15 hI
        refine h_aload_n (pc' := 61) rfl rfl rfl ?_
        refine h_getI (pc' := 64) (v := σ 98 16) rfl rfl rfl rfl rfl rfl (fun z5 hz5 => ?_)
        have tz5 := tf_98_16 hI
        refine h_isub (pc' := 65) rfl rfl hz4 hz5 rfl (by omega) (by omega) (fun z6 hz6 => ?_)
        refine h_cge (tg := 106) (pc' := 68) rfl rfl rfl ci_4 hz6 (fun c7 => ?_) (fun c7 => ?_)
        · refine h_iload_n (pc' := 107) rfl rfl rfl ?_
          refine h_zeq (tg := 112) (pc' := 110) rfl rfl rfl hy2 (fun c8 => absurd c8 (by omega)) (fun c8 => ?_)
          refine h_iload_n (pc' := 111) rfl rfl rfl ?_
          exact h_iret rfl rfl (kk _ _ ci_1 (by omega) (fun _ => (Or.inr (Or.inr (Or.inl ⟨rfl, ex0, ⟨by omega, by omega, by omega, by omega, by omega, by omega, by omega, by omega⟩⟩)))) (Or.inl (by omega)))
        · refine h_aload_n (pc' := 69) rfl rfl rfl ?_
          refine h_aload_n (pc' := 70) rfl rfl rfl ?_
          refine h_getI (pc' := 73) (v := σ 98 16) rfl rfl rfl rfl rfl rfl (fun z9 hz9 => ?_)
          have tz9 := tf_98_16 hI
          refine h_iload_n (pc' := 74) rfl rfl rfl ?_
          refine h_iadd (pc' := 75) rfl rfl hz9 ci_4 rfl (by omega) (by omega) (fun z10 hz10 => ?_)
          refine h_call (sp := false) (pc' := 78) (M := [(0, .ref 98), (1, .int z10)]) rfl rfl rfl rfl rfl rfl rfl rfl ?_
          refine h_iload_n (pc' := 1) rfl rfl rfl ?_
          refine h_aload_n (pc' := 2) rfl rfl rfl ?_
          refine h_getI (pc' := 5) (v := σ 98 11) rfl rfl rfl rfl rfl rfl (fun z11 hz11 => ?_)
          have tz11 := tf_98_11 hI
          refine h_cge (tg := 17) (pc' := 8) rfl rfl rfl hz10 hz11 (fun c12 => ?_) (fun c12 => ?_)
          · refine h_bipush (pc' := 19) (x := (Int32.ofInt (-4))) rfl rfl cb_m4 ?_
            refine h_iret rfl rfl (h_Kv ?_)
            refine h_aload_n (pc' := 79) rfl rfl rfl ?_
            refine h_getR (pc' := 82) rfl rfl rfl rfl rfl ?_
            refine h_aload_n (pc' := 83) rfl rfl rfl ?_
            refine h_getR (pc' := 86) rfl rfl rfl rfl rfl ?_
            refine h_iload_n (pc' := 87) rfl rfl rfl ?_
            refine h_iald (pc' := 88) (v := 5) rfl rfl rfl ci_1 (by omega) (by omega) (tx_103_1 hI) (fun z13 hz13 => ?_)
            refine h_iload_n (pc' := 89) rfl rfl rfl ?_
            refine h_iadd (pc' := 90) rfl rfl hz13 ci_4 rfl (by omega) (by omega) (fun z14 hz14 => ?_)
            refine h_iald (pc' := 91) (v := σ 104 (5 + 4)) rfl rfl rfl hz14 (by omega) (by omega) rfl (fun z15 hz15 => ?_)
            have tz15 := ty_104 hI (5 + 4)
            refine h_cne (tg := 98) (pc' := 94) rfl rfl rfl ci_m4 hz15 (fun c16 => ?_) (fun c16 => ?_)
            · refine h_iconst (pc' := 99) (x := (Int32.ofInt 0)) rfl rfl rfl ?_
              refine h_istore_n (pc' := 100) (M := [(2, .int (Int32.ofInt 0)), (0, .ref 98), (1, .int (Int32.ofInt 1)), (3, .int (Int32.ofInt 4))]) rfl rfl rfl rfl ?_
              refine h_iinc (pc' := 103) (b := 5) (M := fun z17 => [(3, .int z17), (2, .int (Int32.ofInt 0)), (0, .ref 98), (1, .int (Int32.ofInt 1))]) rfl rfl rfl rfl ci_4 ci_1 rfl (by omega) (by omega) (fun _ => rfl) (fun z17 hz17 => ?_)
              refine h_goto (pc' := 51) rfl rfl ?_
              have qz17 : z17 = (Int32.ofInt 5) := h_lit hz17 ci_5
              subst qz17
              exact h_wk [(0, .ref 98), (1, .int (Int32.ofInt 1)), (2, .int (Int32.ofInt 0)), (3, .int (Int32.ofInt 5))] ⟨rfl, rfl, rfl, rfl, trivial⟩ (ih.2.2.2.2.2.2.2.2.2.2.2.2.2.2.2.2.2.2.2.2.1 (Int32.ofInt 0) _ ci_0 (by omega) ex0 (Or.inr ⟨by omega, fun h => by unfold g_nm1 at h; omega⟩) (by omega))
            · refine h_iconst (pc' := 95) (x := (Int32.ofInt 1)) rfl rfl rfl ?_
              refine h_goto (pc' := 99) rfl rfl ?_
              refine h_istore_n (pc' := 100) (M := [(2, .int (Int32.ofInt 1)), (0, .ref 98), (1, .int (Int32.ofInt 1)), (3, .int (Int32.ofInt 4))]) rfl rfl rfl rfl ?_
              refine h_iinc (pc' := 103) (b := 5) (M := fun z18 => [(3, .int z18), (2, .int (Int32.ofInt 1)), (0, .ref 98), (1, .int (Int32.ofInt 1))]) rfl rfl rfl rfl ci_4 ci_1 rfl (by omega) (by omega) (fun _ => rfl) (fun z18 hz18 => ?_)
              refine h_goto (pc' := 51) rfl rfl ?_
              have qz18 : z18 = (Int32.ofInt 5) := h_lit hz18 ci_5
              subst qz18
              exact h_wk [(0, .ref 98), (1, .int (Int32.ofInt 1)), (2, .int (Int32.ofInt 1)), (3, .int (Int32.ofInt 5))] ⟨rfl, rfl, rfl, rfl, trivial⟩ (ih.2.2.2.2.2.2.2.2.2.2.2.2.2.2.2.2.2.2.2.2.1 (Int32.ofInt 1) _ ci_1 (by omega) ex0 (Or.inl ⟨by omega, by omega, by omega, by omega, by omega, by omega, by omega⟩) (by omega))
          · refine h_aload_n (pc' := 9) rfl rfl rfl ?_
            refine h_getR (pc' := 12) rfl rfl rfl rfl rfl ?_
            refine h_iload_n (pc' := 13) rfl rfl rfl ?_
            refine h_iald (pc' := 14) (v := σ 102 ((σ 98 16) + 4)) rfl rfl rfl hz10 (by omega) (by omega) rfl (fun z19 hz19 => ?_)
            have tz19 := ty_102 hI ((σ 98 16) + 4)
            refine h_goto (pc' := 19) rfl rfl ?_
            refine h_iret rfl rfl (h_Kv ?_)
            refine h_aload_n (pc' := 79) rfl rfl rfl ?_
            refine h_getR (pc' := 82) rfl rfl rfl rfl rfl ?_
            refine h_aload_n (pc' := 83) rfl rfl rfl ?_
            refine h_getR (pc' := 86) rfl rfl rfl rfl rfl ?_
            refine h_iload_n (pc' := 87) rfl rfl rfl ?_
            refine h_iald (pc' := 88) (v := 5) rfl rfl rfl ci_1 (by omega) (by omega) (tx_103_1 hI) (fun z20 hz20 => ?_)
            refine h_iload_n (pc' := 89) rfl rfl rfl ?_
            refine h_iadd (pc' := 90) rfl rfl hz20 ci_4 rfl (by omega) (by omega) (fun z21 hz21 => ?_)
            refine h_iald (pc' := 91) (v := σ 104 (5 + 4)) rfl rfl rfl hz21 (by omega) (by omega) rfl (fun z22 hz22 => ?_)
            have tz22 := ty_104 hI (5 + 4)
            refine h_cne (tg := 98) (pc' := 94) rfl rfl rfl hz19 hz22 (fun c23 => ?_) (fun c23 => ?_)
            · refine h_iconst (pc' := 99) (x := (Int32.ofInt 0)) rfl rfl rfl ?_
              refine h_istore_n (pc' := 100) (M := [(2, .int (Int32.ofInt 0)), (0, .ref 98), (1, .int (Int32.ofInt 1)), (3, .int (Int32.ofInt 4))]) rfl rfl rfl rfl ?_
              refine h_iinc (pc' := 103) (b := 5) (M := fun z24 => [(3, .int z24), (2, .int (Int32.ofInt 0)), (0, .ref 98), (1, .int (Int32.ofInt 1))]) rfl rfl rfl rfl ci_4 ci_1 rfl (by omega) (by omega) (fun _ => rfl) (fun z24 hz24 => ?_)
              refine h_goto (pc' := 51) rfl rfl ?_
              have qz24 : z24 = (Int32.ofInt 5) := h_lit hz24 ci_5
              subst qz24
              exact h_wk [(0, .ref 98), (1, .int (Int32.ofInt 1)), (2, .int (Int32.ofInt 0)), (3, .int (Int32.ofInt 5))] ⟨rfl, rfl, rfl, rfl, trivial⟩ (ih.2.2.2.2.2.2.2.2.2.2.2.2.2.2.2.2.2.2.2.2.1 (Int32.ofInt 0) _ ci_0 (by omega) ex0 (Or.inr ⟨by omega, fun h => by unfold g_nm1 at h; omega⟩) (by omega))
            · refine h_iconst (pc' := 95) (x := (Int32.ofInt 1)) rfl rfl rfl ?_
              refine h_goto (pc' := 99) rfl rfl ?_
              refine h_istore_n (pc' := 100) (M := [(2, .int (Int32.ofInt 1)), (0, .ref 98), (1, .int (Int32.ofInt 1)), (3, .int (Int32.ofInt 4))]) rfl rfl rfl rfl ?_
              refine h_iinc (pc' := 103) (b := 5) (M := fun z25 => [(3, .int z25), (2, .int (Int32.ofInt 1)), (0, .ref 98), (1, .int (Int32.ofInt 1))]) rfl rfl rfl rfl ci_4 ci_1 rfl (by omega) (by omega) (fun _ => rfl) (fun z25 hz25 => ?_)
              refine h_goto (pc' := 51) rfl rfl ?_
              have qz25 : z25 = (Int32.ofInt 5) := h_lit hz25 ci_5
              subst qz25
              exact h_wk [(0, .ref 98), (1, .int (Int32.ofInt 1)), (2, .int (Int32.ofInt 1)), (3, .int (Int32.ofInt 5))] ⟨rfl, rfl, rfl, rfl, trivial⟩ (ih.2.2.2.2.2.2.2.2.2.2.2.2.2.2.2.2.2.2.2.2.1 (Int32.ofInt 1) _ ci_1 (by omega) ex0 (Or.inl ⟨by omega, by omega, by omega, by omega, by omega, by omega, by omega⟩) (by omega))
    · intro  y2 b2 hy2 ry2 ex0 ex1 hm; have gh0 := tf_98_11 hI; have gh1 := tf_98_15 hI; have gh2 := tf_98_16 hI
      refine h_iload_n (pc' := 52) rfl rfl rfl ?_
      refine h_zeq (tg := 106) (pc' := 55) rfl rfl rfl hy2 (fun c1 => ?_) (fun c1 => ?_)
      · refine h_iload_n (pc' := 107) rfl rfl rfl ?_
        refine h_zeq (tg := 112) (pc' := 110) rfl rfl rfl hy2 (fun c2 => ?_) (fun c2 => absurd c2 (by omega))
        refine h_iinc (pc' := 115) (b := 2) (M := fun z3 => [(1, .int z3), (0, .ref 98), (2, .int y2), (3, .int (Int32.ofInt 5))]) rfl rfl rfl rfl ci_1 ci_1 rfl (by omega) (by omega) (fun _ => rfl) (fun z3 hz3 => ?_)
        refine h_goto (pc' := 2) rfl rfl ?_
        have qz3 : z3 = (Int32.ofInt 2) := h_lit hz3 ci_2
        subst qz3
        exact h_wk [(0, .ref 98), (1, .int (Int32.ofInt 2)), (2, .int y2), (3, .int (Int32.ofInt 5))] ⟨rfl, rfl, rfl, rfl, trivial⟩ (ih.2.2.1 y2 _ hy2 (by omega) (Int32.ofInt 5) _ ci_5 (by omega) ex0 (ex1.elim (fun h => absurd h.1 (by omega)) (fun h => h.2)) (by omega))
      · refine h_iload_n (pc' := 56) rfl rfl rfl ?_
        refine h_aload_n (pc' := 57) rfl rfl rfl ?_
        refine h_getI (pc' := 60) (v := σ 98 15) rfl rfl rfl rfl rfl rfl (fun z4 hz4 => ?_)
        have tz4 := tf_98_15 hI
        refine h_aload_n (pc' := 61) rfl rfl rfl ?_
        refine h_getI (pc' := 64) (v := σ 98 16) rfl rfl rfl rfl rfl rfl (fun z5 hz5 => ?_)
        have tz5 := tf_98_16 hI
        refine h_isub (pc' := 65) rfl rfl hz4 hz5 rfl (by omega) (by omega) (fun z6 hz6 => ?_)
        refine h_cge (tg := 106) (pc' := 68) rfl rfl rfl ci_5 hz6 (fun c7 => ?_) (fun c7 => ?_)
        · refine h_iload_n (pc' := 107) rfl rfl rfl ?_
          refine h_zeq (tg := 112) (pc' := 110) rfl rfl rfl hy2 (fun c8 => absurd c8 (by omega)) (fun c8 => ?_)
          refine h_iload_n (pc' := 111) rfl rfl rfl ?_
          exact h_iret rfl rfl (kk _ _ ci_1 (by omega) (fun _ => (Or.inr (Or.inr (Or.inl ⟨rfl, ex0, ⟨by omega, by omega, by omega, by omega, by omega, by omega, by omega, by omega⟩⟩)))) (Or.inl (by omega)))
        · refine h_aload_n (pc' := 69) rfl rfl rfl ?_
          refine h_aload_n (pc' := 70) rfl rfl rfl ?_
          refine h_getI (pc' := 73) (v := σ 98 16) rfl rfl rfl rfl rfl rfl (fun z9 hz9 => ?_)
          have tz9 := tf_98_16 hI
          refine h_iload_n (pc' := 74) rfl rfl rfl ?_
          refine h_iadd (pc' := 75) rfl rfl hz9 ci_5 rfl (by omega) (by omega) (fun z10 hz10 => ?_)
          refine h_call (sp := false) (pc' := 78) (M := [(0, .ref 98), (1, .int z10)]) rfl rfl rfl rfl rfl rfl rfl rfl ?_
          refine h_iload_n (pc' := 1) rfl rfl rfl ?_
          refine h_aload_n (pc' := 2) rfl rfl rfl ?_
          refine h_getI (pc' := 5) (v := σ 98 11) rfl rfl rfl rfl rfl rfl (fun z11 hz11 => ?_)
          have tz11 := tf_98_11 hI
          refine h_cge (tg := 17) (pc' := 8) rfl rfl rfl hz10 hz11 (fun c12 => ?_) (fun c12 => ?_)
          · refine h_bipush (pc' := 19) (x := (Int32.ofInt (-4))) rfl rfl cb_m4 ?_
            refine h_iret rfl rfl (h_Kv ?_)
            refine h_aload_n (pc' := 79) rfl rfl rfl ?_
            refine h_getR (pc' := 82) rfl rfl rfl rfl rfl ?_
            refine h_aload_n (pc' := 83) rfl rfl rfl ?_
            refine h_getR (pc' := 86) rfl rfl rfl rfl rfl ?_
            refine h_iload_n (pc' := 87) rfl rfl rfl ?_
            refine h_iald (pc' := 88) (v := 5) rfl rfl rfl ci_1 (by omega) (by omega) (tx_103_1 hI) (fun z13 hz13 => ?_)
            refine h_iload_n (pc' := 89) rfl rfl rfl ?_
            refine h_iadd (pc' := 90) rfl rfl hz13 ci_5 rfl (by omega) (by omega) (fun z14 hz14 => ?_)
            refine h_iald (pc' := 91) (v := σ 104 (5 + 5)) rfl rfl rfl hz14 (by omega) (by omega) rfl (fun z15 hz15 => ?_)
            have tz15 := ty_104 hI (5 + 5)
            refine h_cne (tg := 98) (pc' := 94) rfl rfl rfl ci_m4 hz15 (fun c16 => ?_) (fun c16 => ?_)
            · refine h_iconst (pc' := 99) (x := (Int32.ofInt 0)) rfl rfl rfl ?_
              refine h_istore_n (pc' := 100) (M := [(2, .int (Int32.ofInt 0)), (0, .ref 98), (1, .int (Int32.ofInt 1)), (3, .int (Int32.ofInt 5))]) rfl rfl rfl rfl ?_
              refine h_iinc (pc' := 103) (b := 6) (M := fun z17 => [(3, .int z17), (2, .int (Int32.ofInt 0)), (0, .ref 98), (1, .int (Int32.ofInt 1))]) rfl rfl rfl rfl ci_5 ci_1 rfl (by omega) (by omega) (fun _ => rfl) (fun z17 hz17 => ?_)
              refine h_goto (pc' := 51) rfl rfl ?_
              have qz17 : z17 = (Int32.ofInt 6) := h_lit hz17 ci_6
              subst qz17
              exact h_wk [(0, .ref 98), (1, .int (Int32.ofInt 1)), (2, .int (Int32.ofInt 0)), (3, .int (Int32.ofInt 6))] ⟨rfl, rfl, rfl, rfl, trivial⟩ (ih.2.2.2.2.2.2.2.2.2.2.2.2.2.2.2.2.2.2.2.2.2.1 (Int32.ofInt 0) _ ci_0 (by omega) ex0 (Or.inr ⟨by omega, fun h => by unfold g_nm1 at h; omega⟩) (by omega))
            · refine h_iconst (pc' := 95) (x := (Int32.ofInt 1)) rfl rfl rfl ?_
              refine h_goto (pc' := 99) rfl rfl ?_
              refine h_istore_n (pc' := 100) (M := [(2, .int (Int32.ofInt 1)), (0, .ref 98), (1, .int (Int32.ofInt 1)), (3, .int (Int32.ofInt 5))]) rfl rfl rfl rfl ?_
              refine h_iinc (pc' := 103) (b := 6) (M := fun z18 => [(3, .int z18), (2, .int (Int32.ofInt 1)), (0, .ref 98), (1, .int (Int32.ofInt 1))]) rfl rfl rfl rfl ci_5 ci_1 rfl (by omega) (by omega) (fun _ => rfl) (fun z18 hz18 => ?_)
              refine h_goto (pc' := 51) rfl rfl ?_
              have qz18 : z18 = (Int32.ofInt 6) := h_lit hz18 ci_6
              subst qz18
              exact h_wk [(0, .ref 98), (1, .int (Int32.ofInt 1)), (2, .int (Int32.ofInt 1)), (3, .int (Int32.ofInt 6))] ⟨rfl, rfl, rfl, rfl, trivial⟩ (ih.2.2.2.2.2.2.2.2.2.2.2.2.2.2.2.2.2.2.2.2.2.1 (Int32.ofInt 1) _ ci_1 (by omega) ex0 (Or.inl ⟨by omega, by omega, by omega, by omega, by omega, by omega, by omega, by omega⟩) (by omega))
          · refine h_aload_n (pc' := 9) rfl rfl rfl ?_
            refine h_getR (pc' := 12) rfl rfl rfl rfl rfl ?_
            refine h_iload_n (pc' := 13) rfl rfl rfl ?_
            refine h_iald (pc' := 14) (v := σ 102 ((σ 98 16) + 5)) rfl rfl rfl hz10 (by omega) (by omega) rfl (fun z19 hz19 => ?_)
            have tz19 := ty_102 hI ((σ 98 16) + 5)
            refine h_goto (pc' := 19) rfl rfl ?_
            refine h_iret rfl rfl (h_Kv ?_)
            refine h_aload_n (pc' := 79) rfl rfl rfl ?_
            refine h_getR (pc' := 82) rfl rfl rfl rfl rfl ?_
            refine h_aload_n (pc' := 83) rfl rfl rfl ?_
            refine h_getR (pc' := 86) rfl rfl rfl rfl rfl ?_
            refine h_iload_n (pc' := 87) rfl rfl rfl ?_
            refine h_iald (pc' := 88) (v := 5) rfl rfl rfl ci_1 (by omega) (by omega) (tx_103_1 hI) (fun z20 hz20 => ?_)
            refine h_iload_n (pc' := 89) rfl rfl rfl ?_
            refine h_iadd (pc' := 90) rfl rfl hz20 ci_5 rfl (by omega) (by omega) (fun z21 hz21 => ?_)
            refine h_iald (pc' := 91) (v := σ 104 (5 + 5)) rfl rfl rfl hz21 (by omega) (by omega) rfl (fun z22 hz22 => ?_)
            have tz22 := ty_104 hI (5 + 5)
            refine h_cne (tg := 98) (pc' := 94) rfl rfl rfl hz19 hz22 (fun c23 => ?_) (fun c23 => ?_)
            · refine h_iconst (pc' := 99) (x := (Int32.ofInt 0)) rfl rfl rfl ?_
              refine h_istore_n (pc' := 100) (M := [(2, .int (Int32.ofInt 0)), (0, .ref 98), (1, .int (Int32.ofInt 1)), (3, .int (Int32.ofInt 5))]) rfl rfl rfl rfl ?_
              refine h_iinc (pc' := 103) (b := 6) (M := fun z24 => [(3, .int z24), (2, .int (Int32.ofInt 0)), (0, .ref 98), (1, .int (Int32.ofInt 1))]) rfl rfl rfl rfl ci_5 ci_1 rfl (by omega) (by omega) (fun _ => rfl) (fun z24 hz24 => ?_)
              refine h_goto (pc' := 51) rfl rfl ?_
              have qz24 : z24 = (Int32.ofInt 6) := h_lit hz24 ci_6
              subst qz24
              exact h_wk [(0, .ref 98), (1, .int (Int32.ofInt 1)), (2, .int (Int32.ofInt 0)), (3, .int (Int32.ofInt 6))] ⟨rfl, rfl, rfl, rfl, trivial⟩ (ih.2.2.2.2.2.2.2.2.2.2.2.2.2.2.2.2.2.2.2.2.2.1 (Int32.ofInt 0) _ ci_0 (by omega) ex0 (Or.inr ⟨by omega, fun h => by unfold g_nm1 at h; omega⟩) (by omega))
            · refine h_iconst (pc' := 95) (x := (Int32.ofInt 1)) rfl rfl rfl ?_
              refine h_goto (pc' := 99) rfl rfl ?_
              refine h_istore_n (pc' := 100) (M := [(2, .int (Int32.ofInt 1)), (0, .ref 98), (1, .int (Int32.ofInt 1)), (3, .int (Int32.ofInt 5))]) rfl rfl rfl rfl ?_
              refine h_iinc (pc' := 103) (b := 6) (M := fun z25 => [(3, .int z25), (2, .int (Int32.ofInt 1)), (0, .ref 98), (1, .int (Int32.ofInt 1))]) rfl rfl rfl rfl ci_5 ci_1 rfl (by omega) (by omega) (fun _ => rfl) (fun z25 hz25 => ?_)
              refine h_goto (pc' := 51) rfl rfl ?_
              have qz25 : z25 = (Int32.ofInt 6) := h_lit hz25 ci_6
              subst qz25
              exact h_wk [(0, .ref 98), (1, .int (Int32.ofInt 1)), (2, .int (Int32.ofInt 1)), (3, .int (Int32.ofInt 6))] ⟨rfl, rfl, rfl, rfl, trivial⟩ (ih.2.2.2.2.2.2.2.2.2.2.2.2.2.2.2.2.2.2.2.2.2.1 (Int32.ofInt 1) _ ci_1 (by omega) ex0 (Or.inl ⟨by omega, by omega, by omega, by omega, by omega, by omega, by omega, by omega⟩) (by omega))
    · intro  y2 b2 hy2 ry2 ex0 ex1 hm; have gh0 := tf_98_11 hI; have gh1 := tf_98_15 hI; have gh2 := tf_98_16 hI
      refine h_iload_n (pc' := 52) rfl rfl rfl ?_
      refine h_zeq (tg := 106) (pc' := 55) rfl rfl rfl hy2 (fun c1 => ?_) (fun c1 => ?_)
      · refine h_iload_n (pc' := 107) rfl rfl rfl ?_
        refine h_zeq (tg := 112) (pc' := 110) rfl rfl rfl hy2 (fun c2 => ?_) (fun c2 => absurd c2 (by omega))
        refine h_iinc (pc' := 115) (b := 2) (M := fun z3 => [(1, .int z3), (0, .ref 98), (2, .int y2), (3, .int (Int32.ofInt 6))]) rfl rfl rfl rfl ci_1 ci_1 rfl (by omega) (by omega) (fun _ => rfl) (fun z3 hz3 => ?_)
        refine h_goto (pc' := 2) rfl rfl ?_
        have qz3 : z3 = (Int32.ofInt 2) := h_lit hz3 ci_2
        subst qz3
        exact h_wk [(0, .ref 98), (1, .int (Int32.ofInt 2)), (2, .int y2), (3, .int (Int32.ofInt 6))] ⟨rfl, rfl, rfl, rfl, trivial⟩ (ih.2.2.1 y2 _ hy2 (by omega) (Int32.ofInt 6) _ ci_6 (by omega) ex0 (ex1.elim (fun h => absurd h.1 (by omega)) (fun h => h.2)) (by omega))
      · refine h_iload_n (pc' := 56) rfl rfl rfl ?_
        refine h_aload_n (pc' := 57) rfl rfl rfl ?_
        refine h_getI (pc' := 60) (v := σ 98 15) rfl rfl rfl rfl rfl rfl (fun z4 hz4 => ?_)
        have tz4 := tf_98_15 hI
        refine h_aload_n (pc' := 61) rfl rfl rfl ?_
        refine h_getI (pc' := 64) (v := σ 98 16) rfl rfl rfl rfl rfl rfl (fun z5 hz5 => ?_)
        have tz5 := tf_98_16 hI
        refine h_isub (pc' := 65) rfl rfl hz4 hz5 rfl (by omega) (by omega) (fun z6 hz6 => ?_)
        refine h_cge (tg := 106) (pc' := 68) rfl rfl rfl ci_6 hz6 (fun c7 => ?_) (fun c7 => ?_)
        · refine h_iload_n (pc' := 107) rfl rfl rfl ?_
          refine h_zeq (tg := 112) (pc' := 110) rfl rfl rfl hy2 (fun c8 => absurd c8 (by omega)) (fun c8 => ?_)
          refine h_iload_n (pc' := 111) rfl rfl rfl ?_
          exact h_iret rfl rfl (kk _ _ ci_1 (by omega) (fun _ => (Or.inr (Or.inr (Or.inl ⟨rfl, ex0, ⟨by omega, by omega, by omega, by omega, by omega, by omega, by omega, by omega⟩⟩)))) (Or.inl (by omega)))
        · refine h_aload_n (pc' := 69) rfl rfl rfl ?_
          refine h_aload_n (pc' := 70) rfl rfl rfl ?_
          refine h_getI (pc' := 73) (v := σ 98 16) rfl rfl rfl rfl rfl rfl (fun z9 hz9 => ?_)
          have tz9 := tf_98_16 hI
          refine h_iload_n (pc' := 74) rfl rfl rfl ?_
          refine h_iadd (pc' := 75) rfl rfl hz9 ci_6 rfl (by omega) (by omega) (fun z10 hz10 => ?_)
          refine h_call (sp := false) (pc' := 78) (M := [(0, .ref 98), (1, .int z10)]) rfl rfl rfl rfl rfl rfl rfl rfl ?_
          refine h_iload_n (pc' := 1) rfl rfl rfl ?_
          refine h_aload_n (pc' := 2) rfl rfl rfl ?_
          refine h_getI (pc' := 5) (v := σ 98 11) rfl rfl rfl rfl rfl rfl (fun z11 hz11 => ?_)
          have tz11 := tf_98_11 hI
          refine h_cge (tg := 17) (pc' := 8) rfl rfl rfl hz10 hz11 (fun c12 => ?_) (fun c12 => ?_)
          · refine h_bipush (pc' := 19) (x := (Int32.ofInt (-4))) rfl rfl cb_m4 ?_
            refine h_iret rfl rfl (h_Kv ?_)
            refine h_aload_n (pc' := 79) rfl rfl rfl ?_
            refine h_getR (pc' := 82) rfl rfl rfl rfl rfl ?_
            refine h_aload_n (pc' := 83) rfl rfl rfl ?_
            refine h_getR (pc' := 86) rfl rfl rfl rfl rfl ?_
            refine h_iload_n (pc' := 87) rfl rfl rfl ?_
            refine h_iald (pc' := 88) (v := 5) rfl rfl rfl ci_1 (by omega) (by omega) (tx_103_1 hI) (fun z13 hz13 => ?_)
            refine h_iload_n (pc' := 89) rfl rfl rfl ?_
            refine h_iadd (pc' := 90) rfl rfl hz13 ci_6 rfl (by omega) (by omega) (fun z14 hz14 => ?_)
            refine h_iald (pc' := 91) (v := σ 104 (5 + 6)) rfl rfl rfl hz14 (by omega) (by omega) rfl (fun z15 hz15 => ?_)
            have tz15 := ty_104 hI (5 + 6)
            refine h_cne (tg := 98) (pc' := 94) rfl rfl rfl ci_m4 hz15 (fun c16 => ?_) (fun c16 => ?_)
            · refine h_iconst (pc' := 99) (x := (Int32.ofInt 0)) rfl rfl rfl ?_
              refine h_istore_n (pc' := 100) (M := [(2, .int (Int32.ofInt 0)), (0, .ref 98), (1, .int (Int32.ofInt 1)), (3, .int (Int32.ofInt 6))]) rfl rfl rfl rfl ?_
              refine h_iinc (pc' := 103) (b := 7) (M := fun z17 => [(3, .int z17), (2, .int (Int32.ofInt 0)), (0, .ref 98), (1, .int (Int32.ofInt 1))]) rfl rfl rfl rfl ci_6 ci_1 rfl (by omega) (by omega) (fun _ => rfl) (fun z17 hz17 => ?_)
              refine h_goto (pc' := 51) rfl rfl ?_
              have qz17 : z17 = (Int32.ofInt 7) := h_lit hz17 ci_7
              subst qz17
              exact h_wk [(0, .ref 98), (1, .int (Int32.ofInt 1)), (2, .int (Int32.ofInt 0)), (3, .int (Int32.ofInt 7))] ⟨rfl, rfl, rfl, rfl, trivial⟩ (ih.2.2.2.2.2.2.2.2.2.2.2.2.2.2.2.2.2.2.2.2.2.2.1 (Int32.ofInt 0) _ ci_0 (by omega) ex0 (Or.inr ⟨by omega, fun h => by unfold g_nm1 at h; omega⟩) (by omega))
            · refine h_iconst (pc' := 95) (x := (Int32.ofInt 1)) rfl rfl rfl ?_
              refine h_goto (pc' := 99) rfl rfl ?_
              refine h_istore_n (pc' := 100) (M := [(2, .int (Int32.ofInt 1)), (0, .ref 98), (1, .int (Int32.ofInt 1)), (3, .int (Int32.ofInt 6))]) rfl rfl rfl rfl ?_
              refine h_iinc (pc' := 103) (b := 7) (M := fun z18 => [(3, .int z18), (2, .int (Int32.ofInt 1)), (0, .ref 98), (1, .int (Int32.ofInt 1))]) rfl rfl rfl rfl ci_6 ci_1 rfl (by omega) (by omega) (fun _ => rfl) (fun z18 hz18 => ?_)
              refine h_goto (pc' := 51) rfl rfl ?_
              have qz18 : z18 = (Int32.ofInt 7) := h_lit hz18 ci_7
              subst qz18
              exact h_wk [(0, .ref 98), (1, .int (Int32.ofInt 1)), (2, .int (Int32.ofInt 1)), (3, .int (Int32.ofInt 7))] ⟨rfl, rfl, rfl, rfl, trivial⟩ (ih.2.2.2.2.2.2.2.2.2.2.2.2.2.2.2.2.2.2.2.2.2.2.1 (Int32.ofInt 1) _ ci_1 (by omega) ex0 (Or.inl ⟨by omega, by omega, by omega, by omega, by omega, by omega, by omega, by omega, by omega⟩) (by omega))
          · refine h_aload_n (pc' := 9) rfl rfl rfl ?_
            refine h_getR (pc' := 12) rfl rfl rfl rfl rfl ?_
            refine h_iload_n (pc' := 13) rfl rfl rfl ?_
            refine h_iald (pc' := 14) (v := σ 102 ((σ 98 16) + 6)) rfl rfl rfl hz10 (by omega) (by omega) rfl (fun z19 hz19 => ?_)
            have tz19 := ty_102 hI ((σ 98 16) + 6)
            refine h_goto (pc' := 19) rfl rfl ?_
            refine h_iret rfl rfl (h_Kv ?_)
            refine h_aload_n (pc' := 79) rfl rfl rfl ?_
            refine h_getR (pc' := 82) rfl rfl rfl rfl rfl ?_
            refine h_aload_n (pc' := 83) rfl rfl rfl ?_
            refine h_getR (pc' := 86) rfl rfl rfl rfl rfl ?_
            refine h_iload_n (pc' := 87) rfl rfl rfl ?_
            refine h_iald (pc' := 88) (v := 5) rfl rfl rfl ci_1 (by omega) (by omega) (tx_103_1 hI) (fun z20 hz20 => ?_)
            refine h_iload_n (pc' := 89) rfl rfl rfl ?_
            refine h_iadd (pc' := 90) rfl rfl hz20 ci_6 rfl (by omega) (by omega) (fun z21 hz21 => ?_)
            refine h_iald (pc' := 91) (v := σ 104 (5 + 6)) rfl rfl rfl hz21 (by omega) (by omega) rfl (fun z22 hz22 => ?_)
            have tz22 := ty_104 hI (5 + 6)
            refine h_cne (tg := 98) (pc' := 94) rfl rfl rfl hz19 hz22 (fun c23 => ?_) (fun c23 => ?_)
            · refine h_iconst (pc' := 99) (x := (Int32.ofInt 0)) rfl rfl rfl ?_
              refine h_istore_n (pc' := 100) (M := [(2, .int (Int32.ofInt 0)), (0, .ref 98), (1, .int (Int32.ofInt 1)), (3, .int (Int32.ofInt 6))]) rfl rfl rfl rfl ?_
              refine h_iinc (pc' := 103) (b := 7) (M := fun z24 => [(3, .int z24), (2, .int (Int32.ofInt 0)), (0, .ref 98), (1, .int (Int32.ofInt 1))]) rfl rfl rfl rfl ci_6 ci_1 rfl (by omega) (by omega) (fun _ => rfl) (fun z24 hz24 => ?_)
              refine h_goto (pc' := 51) rfl rfl ?_
              have qz24 : z24 = (Int32.ofInt 7) := h_lit hz24 ci_7
              subst qz24
              exact h_wk [(0, .ref 98), (1, .int (Int32.ofInt 1)), (2, .int (Int32.ofInt 0)), (3, .int (Int32.ofInt 7))] ⟨rfl, rfl, rfl, rfl, trivial⟩ (ih.2.2.2.2.2.2.2.2.2.2.2.2.2.2.2.2.2.2.2.2.2.2.1 (Int32.ofInt 0) _ ci_0 (by omega) ex0 (Or.inr ⟨by omega, fun h => by unfold g_nm1 at h; omega⟩) (by omega))
            · refine h_iconst (pc' := 95) (x := (Int32.ofInt 1)) rfl rfl rfl ?_
              refine h_goto (pc' := 99) rfl rfl ?_
              refine h_istore_n (pc' := 100) (M := [(2, .int (Int32.ofInt 1)), (0, .ref 98), (1, .int (Int32.ofInt 1)), (3, .int (Int32.ofInt 6))]) rfl rfl rfl rfl ?_
              refine h_iinc (pc' := 103) (b := 7) (M := fun z25 => [(3, .int z25), (2, .int (Int32.ofInt 1)), (0, .ref 98), (1, .int (Int32.ofInt 1))]) rfl rfl rfl rfl ci_6 ci_1 rfl (by omega) (by omega) (fun _ => rfl) (fun z25 hz25 => ?_)
              refine h_goto (pc' := 51) rfl rfl ?_
              have qz25 : z25 = (Int32.ofInt 7) := h_lit hz25 ci_7
              subst qz25
              exact h_wk [(0, .ref 98), (1, .int (Int32.ofInt 1)), (2, .int (Int32.ofInt 1)), (3, .int (Int32.ofInt 7))] ⟨rfl, rfl, rfl, rfl, trivial⟩ (ih.2.2.2.2.2.2.2.2.2.2.2.2.2.2.2.2.2.2.2.2.2.2.1 (Int32.ofInt 1) _ ci_1 (by omega) ex0 (Or.inl ⟨by omega, by omega, by omega, by omega, by omega, by omega, by omega, by omega, by omega⟩) (by omega))
    · intro  y2 b2 hy2 ry2 ex0 ex1 hm; have gh0 := tf_98_11 hI; have gh1 := tf_98_15 hI; have gh2 := tf_98_16 hI
      refine h_iload_n (pc' := 52) rfl rfl rfl ?_
      refine h_zeq (tg := 106) (pc' := 55) rfl rfl rfl hy2 (fun c1 => ?_) (fun c1 => ?_)
      · refine h_iload_n (pc' := 107) rfl rfl rfl ?_
        refine h_zeq (tg := 112) (pc' := 110) rfl rfl rfl hy2 (fun c2 => ?_) (fun c2 => absurd c2 (by omega))
        refine h_iinc (pc' := 115) (b := 2) (M := fun z3 => [(1, .int z3), (0, .ref 98), (2, .int y2), (3, .int (Int32.ofInt 7))]) rfl rfl rfl rfl ci_1 ci_1 rfl (by omega) (by omega) (fun _ => rfl) (fun z3 hz3 => ?_)
        refine h_goto (pc' := 2) rfl rfl ?_
        have qz3 : z3 = (Int32.ofInt 2) := h_lit hz3 ci_2
        subst qz3
        exact h_wk [(0, .ref 98), (1, .int (Int32.ofInt 2)), (2, .int y2), (3, .int (Int32.ofInt 7))] ⟨rfl, rfl, rfl, rfl, trivial⟩ (ih.2.2.1 y2 _ hy2 (by omega) (Int32.ofInt 7) _ ci_7 (by omega) ex0 (ex1.elim (fun h => absurd h.1 (by omega)) (fun h => h.2)) (by omega))
      · refine h_iload_n (pc' := 56) rfl rfl rfl ?_
        refine h_aload_n (pc' := 57) rfl rfl rfl ?_
        refine h_getI (pc' := 60) (v := σ 98 15) rfl rfl rfl rfl rfl rfl (fun z4 hz4 => ?_)
        have tz4 := tf_98_15 hI
        refine h_aload_n (pc' := 61) rfl rfl rfl ?_
        refine h_getI (pc' := 64) (v := σ 98 16) rfl rfl rfl rfl rfl rfl (fun z5 hz5 => ?_)
        have tz5 := tf_98_16 hI
        refine h_isub (pc' := 65) rfl rfl hz4 hz5 rfl (by omega) (by omega) (fun z6 hz6 => ?_)
        refine h_cge (tg := 106) (pc' := 68) rfl rfl rfl ci_7 hz6 (fun c7 => ?_) (fun c7 => ?_)
        · refine h_iload_n (pc' := 107) rfl rfl rfl ?_
          refine h_zeq (tg := 112) (pc' := 110) rfl rfl rfl hy2 (fun c8 => absurd c8 (by omega)) (fun c8 => ?_)
          refine h_iload_n (pc' := 111) rfl rfl rfl ?_
          exact h_iret rfl rfl (kk _ _ ci_1 (by omega) (fun _ => (Or.inr (Or.inr (Or.inl ⟨rfl, ex0, ⟨by omega, by omega, by omega, by omega, by omega, by omega, by omega, by omega⟩⟩)))) (Or.inl (by omega)))
        · exfalso; omega
    · intro  y2 b2 hy2 ry2 ex0 ex1 ex2 hm; have gh0 := tf_98_11 hI; have gh1 := tf_98_15 hI; have gh2 := tf_98_16 hI
      refine h_iload_n (pc' := 52) rfl rfl rfl ?_
      refine h_zeq (tg := 106) (pc' := 55) rfl rfl rfl hy2 (fun c1 => ?_) (fun c1 => ?_)
      · refine h_iload_n (pc' := 107) rfl rfl rfl ?_
        refine h_zeq (tg := 112) (pc' := 110) rfl rfl rfl hy2 (fun c2 => ?_) (fun c2 => absurd c2 (by omega))
        refine h_iinc (pc' := 115) (b := 3) (M := fun z3 => [(1, .int z3), (0, .ref 98), (2, .int y2), (3, .int (Int32.ofInt 0))]) rfl rfl rfl rfl ci_2 ci_1 rfl (by omega) (by omega) (fun _ => rfl) (fun z3 hz3 => ?_)
        refine h_goto (pc' := 2) rfl rfl ?_
        have qz3 : z3 = (Int32.ofInt 3) := h_lit hz3 ci_3
        subst qz3
        exact h_wk [(0, .ref 98), (1, .int (Int32.ofInt 3)), (2, .int y2), (3, .int (Int32.ofInt 0))] ⟨rfl, rfl, rfl, rfl, trivial⟩ (ih.2.2.2.1 y2 _ hy2 (by omega) (Int32.ofInt 0) _ ci_0 (by omega) ex0 ex1 (ex2.elim (fun h => absurd h.1 (by omega)) (fun h => h.2)) (by omega))
      · refine h_iload_n (pc' := 56) rfl rfl rfl ?_
        refine h_aload_n (pc' := 57) rfl rfl rfl ?_
        refine h_getI (pc' := 60) (v := σ 98 15) rfl rfl rfl rfl rfl rfl (fun z4 hz4 => ?_)
        have tz4 := tf_98_15 hI
        refine h_aload_n (pc' := 61) rfl rfl rfl ?_
        refine h_getI (pc' := 64) (v := σ 98 16) rfl rfl rfl rfl rfl rfl (fun z5 hz5 => ?_)
        have tz5 := tf_98_16 hI
        refine h_isub (pc' := 65) rfl rfl hz4 hz5 rfl (by omega) (by omega) (fun z6 hz6 => ?_)
        refine h_cge (tg := 106) (pc' := 68) rfl rfl rfl ci_0 hz6 (fun c7 => ?_) (fun c7 => ?_)
        · refine h_iload_n (pc' := 107) rfl rfl rfl ?_
          refine h_zeq (tg := 112) (pc' := 110) rfl rfl rfl hy2 (fun c8 => absurd c8 (by omega)) (fun c8 => ?_)
          refine h_iload_n (pc' := 111) rfl rfl rfl ?_
          exact h_iret rfl rfl (kk _ _ ci_2 (by omega) (fun _ => (Or.inr (Or.inr (Or.inr (Or.inl ⟨rfl, ex0, ex1, ⟨by omega, by omega, by omega, by omega, by omega, by omega, by omega, by omega⟩⟩))))) (Or.inl (by omega)))
        · refine h_aload_n (pc' := 69) rfl rfl rfl ?_
          refine h_aload_n (pc' := 70) rfl rfl rfl ?_
          refine h_getI (pc' := 73) (v := σ 98 16) rfl rfl rfl rfl rfl rfl (fun z9 hz9 => ?_)
          have tz9 := tf_98_16 hI
          refine h_iload_n (pc' := 74) rfl rfl rfl ?_
          refine h_iadd (pc' := 75) rfl rfl hz9 ci_0 rfl (by omega) (by omega) (fun z10 hz10 => ?_)
          refine h_call (sp := false) (pc' := 78) (M := [(0, .ref 98), (1, .int z10)]) rfl rfl rfl rfl rfl rfl rfl rfl ?_
          refine h_iload_n (pc' := 1) rfl rfl rfl ?_
          refine h_aload_n (pc' := 2) rfl rfl rfl ?_
          refine h_getI (pc' := 5) (v := σ 98 11) rfl rfl rfl rfl rfl rfl (fun z11 hz11 => ?_)
          have tz11 := tf_98_11 hI
          refine h_cge (tg := 17) (pc' := 8) rfl rfl rfl hz10 hz11 (fun c12 => ?_) (fun c12 => ?_)
          · refine h_bipush (pc' := 19) (x := (Int32.ofInt (-4))) rfl rfl cb_m4 ?_
            refine h_iret rfl rfl (h_Kv ?_)
            refine h_aload_n (pc' := 79) rfl rfl rfl ?_
            refine h_getR (pc' := 82) rfl rfl rfl rfl rfl ?_
            refine h_aload_n (pc' := 83) rfl rfl rfl ?_
            refine h_getR (pc' := 86) rfl rfl rfl rfl rfl ?_
            refine h_iload_n (pc' := 87) rfl rfl rfl ?_
            refine h_iald (pc' := 88) (v := 12) rfl rfl rfl ci_2 (by omega) (by omega) (tx_103_2 hI) (fun z13 hz13 => ?_)
            refine h_iload_n (pc' := 89) rfl rfl rfl ?_
            refine h_iadd (pc' := 90) rfl rfl hz13 ci_0 rfl (by omega) (by omega) (fun z14 hz14 => ?_)
            refine h_iald (pc' := 91) (v := σ 104 (12 + 0)) rfl rfl rfl hz14 (by omega) (by omega) rfl (fun z15 hz15 => ?_)
            have tz15 := ty_104 hI (12 + 0)
            refine h_cne (tg := 98) (pc' := 94) rfl rfl rfl ci_m4 hz15 (fun c16 => ?_) (fun c16 => ?_)
            · refine h_iconst (pc' := 99) (x := (Int32.ofInt 0)) rfl rfl rfl ?_
              refine h_istore_n (pc' := 100) (M := [(2, .int (Int32.ofInt 0)), (0, .ref 98), (1, .int (Int32.ofInt 2)), (3, .int (Int32.ofInt 0))]) rfl rfl rfl rfl ?_
              refine h_iinc (pc' := 103) (b := 1) (M := fun z17 => [(3, .int z17), (2, .int (Int32.ofInt 0)), (0, .ref 98), (1, .int (Int32.ofInt 2))]) rfl rfl rfl rfl ci_0 ci_1 rfl (by omega) (by omega) (fun _ => rfl) (fun z17 hz17 => ?_)
              refine h_goto (pc' := 51) rfl rfl ?_
              have qz17 : z17 = (Int32.ofInt 1) := h_lit hz17 ci_1
              subst qz17
              exact h_wk [(0, .ref 98), (1, .int (Int32.ofInt 2)), (2, .int (Int32.ofInt 0)), (3, .int (Int32.ofInt 1))] ⟨rfl, rfl, rfl, rfl, trivial⟩ (ih.2.2.2.2.2.2.2.2.2.2.2.2.2.2.2.2.2.2.2.2.2.2.2.2.1 (Int32.ofInt 0) _ ci_0 (by omega) ex0 ex1 (Or.inr ⟨by omega, fun h => by unfold g_nm2 at h; omega⟩) (by omega))
            · refine h_iconst (pc' := 95) (x := (Int32.ofInt 1)) rfl rfl rfl ?_
              refine h_goto (pc' := 99) rfl rfl ?_
              refine h_istore_n (pc' := 100) (M := [(2, .int (Int32.ofInt 1)), (0, .ref 98), (1, .int (Int32.ofInt 2)), (3, .int (Int32.ofInt 0))]) rfl rfl rfl rfl ?_
              refine h_iinc (pc' := 103) (b := 1) (M := fun z18 => [(3, .int z18), (2, .int (Int32.ofInt 1)), (0, .ref 98), (1, .int (Int32.ofInt 2))]) rfl rfl rfl rfl ci_0 ci_1 rfl (by omega) (by omega) (fun _ => rfl) (fun z18 hz18 => ?_)
              refine h_goto (pc' := 51) rfl rfl ?_
              have qz18 : z18 = (Int32.ofInt 1) := h_lit hz18 ci_1
              subst qz18
              exact h_wk [(0, .ref 98), (1, .int (Int32.ofInt 2)), (2, .int (Int32.ofInt 1)), (3, .int (Int32.ofInt 1))] ⟨rfl, rfl, rfl, rfl, trivial⟩ (ih.2.2.2.2.2.2.2.2.2.2.2.2.2.2.2.2.2.2.2.2.2.2.2.2.1 (Int32.ofInt 1) _ ci_1 (by omega) ex0 ex1 (Or.inl ⟨by omega, by omega, by omega⟩) (by omega))
          · refine h_aload_n (pc' := 9) rfl rfl rfl ?_
            refine h_getR (pc' := 12) rfl rfl rfl rfl rfl ?_
            refine h_iload_n (pc' := 13) rfl rfl rfl ?_
            refine h_iald (pc' := 14) (v := σ 102 ((σ 98 16) + 0)) rfl rfl rfl hz10 (by omega) (by omega) rfl (fun z19 hz19 => ?_)
            have tz19 := ty_102 hI ((σ 98 16) + 0)
            refine h_goto (pc' := 19) rfl rfl ?_
            refine h_iret rfl rfl (h_Kv ?_)
            refine h_aload_n (pc' := 79) rfl rfl rfl ?_
            refine h_getR (pc' := 82) rfl rfl rfl rfl rfl ?_
            refine h_aload_n (pc' := 83) rfl rfl rfl ?_
            refine h_getR (pc' := 86) rfl rfl rfl rfl rfl ?_
            refine h_iload_n (pc' := 87) rfl rfl rfl ?_
            refine h_iald (pc' := 88) (v := 12) rfl rfl rfl ci_2 (by omega) (by omega) (tx_103_2 hI) (fun z20 hz20 => ?_)
            refine h_iload_n (pc' := 89) rfl rfl rfl ?_
            refine h_iadd (pc' := 90) rfl rfl hz20 ci_0 rfl (by omega) (by omega) (fun z21 hz21 => ?_)
            refine h_iald (pc' := 91) (v := σ 104 (12 + 0)) rfl rfl rfl hz21 (by omega) (by omega) rfl (fun z22 hz22 => ?_)
            have tz22 := ty_104 hI (12 + 0)
            refine h_cne (tg := 98) (pc' := 94) rfl rfl rfl hz19 hz22 (fun c23 => ?_) (fun c23 => ?_)
            · refine h_iconst (pc' := 99) (x := (Int32.ofInt 0)) rfl rfl rfl ?_
              refine h_istore_n (pc' := 100) (M := [(2, .int (Int32.ofInt 0)), (0, .ref 98), (1, .int (Int32.ofInt 2)), (3, .int (Int32.ofInt 0))]) rfl rfl rfl rfl ?_
              refine h_iinc (pc' := 103) (b := 1) (M := fun z24 => [(3, .int z24), (2, .int (Int32.ofInt 0)), (0, .ref 98), (1, .int (Int32.ofInt 2))]) rfl rfl rfl rfl ci_0 ci_1 rfl (by omega) (by omega) (fun _ => rfl) (fun z24 hz24 => ?_)
              refine h_goto (pc' := 51) rfl rfl ?_
              have qz24 : z24 = (Int32.ofInt 1) := h_lit hz24 ci_1
              subst qz24
              exact h_wk [(0, .ref 98), (1, .int (Int32.ofInt 2)), (2, .int (Int32.ofInt 0)), (3, .int (Int32.ofInt 1))] ⟨rfl, rfl, rfl, rfl, trivial⟩ (ih.2.2.2.2.2.2.2.2.2.2.2.2.2.2.2.2.2.2.2.2.2.2.2.2.1 (Int32.ofInt 0) _ ci_0 (by omega) ex0 ex1 (Or.inr ⟨by omega, fun h => by unfold g_nm2 at h; omega⟩) (by omega))
            · refine h_iconst (pc' := 95) (x := (Int32.ofInt 1)) rfl rfl rfl ?_
              refine h_goto (pc' := 99) rfl rfl ?_
              refine h_istore_n (pc' := 100) (M := [(2, .int (Int32.ofInt 1)), (0, .ref 98), (1, .int (Int32.ofInt 2)), (3, .int (Int32.ofInt 0))]) rfl rfl rfl rfl ?_
              refine h_iinc (pc' := 103) (b := 1) (M := fun z25 => [(3, .int z25), (2, .int (Int32.ofInt 1)), (0, .ref 98), (1, .int (Int32.ofInt 2))]) rfl rfl rfl rfl ci_0 ci_1 rfl (by omega) (by omega) (fun _ => rfl) (fun z25 hz25 => ?_)
              refine h_goto (pc' := 51) rfl rfl ?_
              have qz25 : z25 = (Int32.ofInt 1) := h_lit hz25 ci_1
              subst qz25
              exact h_wk [(0, .ref 98), (1, .int (Int32.ofInt 2)), (2, .int (Int32.ofInt 1)), (3, .int (Int32.ofInt 1))] ⟨rfl, rfl, rfl, rfl, trivial⟩ (ih.2.2.2.2.2.2.2.2.2.2.2.2.2.2.2.2.2.2.2.2.2.2.2.2.1 (Int32.ofInt 1) _ ci_1 (by omega) ex0 ex1 (Or.inl ⟨by omega, by omega, by omega⟩) (by omega))
    · intro  y2 b2 hy2 ry2 ex0 ex1 ex2 hm; have gh0 := tf_98_11 hI; have gh1 := tf_98_15 hI; have gh2 := tf_98_16 hI
      refine h_iload_n (pc' := 52) rfl rfl rfl ?_
      refine h_zeq (tg := 106) (pc' := 55) rfl rfl rfl hy2 (fun c1 => ?_) (fun c1 => ?_)
      · refine h_iload_n (pc' := 107) rfl rfl rfl ?_
        refine h_zeq (tg := 112) (pc' := 110) rfl rfl rfl hy2 (fun c2 => ?_) (fun c2 => absurd c2 (by omega))
        refine h_iinc (pc' := 115) (b := 3) (M := fun z3 => [(1, .int z3), (0, .ref 98), (2, .int y2), (3, .int (Int32.ofInt 1))]) rfl rfl rfl rfl ci_2 ci_1 rfl (by omega) (by omega) (fun _ => rfl) (fun z3 hz3 => ?_)
        refine h_goto (pc' := 2) rfl rfl ?_
        have qz3 : z3 = (Int32.ofInt 3) := h_lit hz3 ci_3
        subst qz3
        exact h_wk [(0, .ref 98), (1, .int (Int32.ofInt 3)), (2, .int y2), (3, .int (Int32.ofInt 1))] ⟨rfl, rfl, rfl, rfl, trivial⟩ (ih.2.2.2.1 y2 _ hy2 (by omega) (Int32.ofInt 1) _ ci_1 (by omega) ex0 ex1 (ex2.elim (fun h => absurd h.1 (by omega)) (fun h => h.2)) (by omega))
      · refine h_iload_n (pc' := 56) rfl rfl rfl ?_
        refine h_aload_n (pc' := 57) rfl rfl rfl ?_
        refine h_getI (pc' := 60) (v := σ 98 15) rfl rfl rfl rfl rfl rfl (fun z4 hz4 => ?_)
        have tz4 := tf_98_15 hI
        refine h_aload_n (pc' := 61) rfl rfl rfl ?_
        refine h_getI (pc' := 64) (v := σ 98 16) rfl rfl rfl rfl rfl rfl (fun z5 hz5 => ?_)
        have tz5 := tf_98_16 hI
        refine h_isub (pc' := 65) rfl rfl hz4 hz5 rfl (by omega) (by omega) (fun z6 hz6 => ?_)
        refine h_cge (tg := 106) (pc' := 68) rfl rfl rfl ci_1 hz6 (fun c7 => ?_) (fun c7 => ?_)
        · refine h_iload_n (pc' := 107) rfl rfl rfl ?_
          refine h_zeq (tg := 112) (pc' := 110) rfl rfl rfl hy2 (fun c8 => absurd c8 (by omega)) (fun c8 => ?_)
          refine h_iload_n (pc' := 111) rfl rfl rfl ?_
          exact h_iret rfl rfl (kk _ _ ci_2 (by omega) (fun _ => (Or.inr (Or.inr (Or.inr (Or.inl ⟨rfl, ex0, ex1, ⟨by omega, by omega, by omega, by omega, by omega, by omega, by omega, by omega⟩⟩))))) (Or.inl (by omega)))
        · refine h_aload_n (pc' := 69) rfl rfl rfl ?_
          refine h_aload_n (pc' := 70) rfl rfl rfl ?_
          refine h_getI (pc' := 73) (v := σ 98 16) rfl rfl rfl rfl rfl rfl (fun z9 hz9 => ?_)
          have tz9 := tf_98_16 hI
          refine h_iload_n (pc' := 74) rfl rfl rfl ?_
          refine h_iadd (pc' := 75) rfl rfl hz9 ci_1 rfl (by omega) (by omega) (fun z10 hz10 => ?_)
          refine h_call (sp := false) (pc' := 78) (M := [(0, .ref 98), (1, .int z10)]) rfl rfl rfl rfl rfl rfl rfl rfl ?_
          refine h_iload_n (pc' := 1) rfl rfl rfl ?_
          refine h_aload_n (pc' := 2) rfl rfl rfl ?_
          refine h_getI (pc' := 5) (v := σ 98 11) rfl rfl rfl rfl rfl rfl (fun z11 hz11 => ?_)
          have tz11 := tf_98_11 hI
          refine h_cge (tg := 17) (pc' := 8) rfl rfl rfl hz10 hz11 (fun c12 => ?_) (fun c12 => ?_)
          · refine h_bipush (pc' := 19) (x := (Int32.ofInt (-4))) rfl rfl cb_m4 ?_
            refine h_iret rfl rfl (h_Kv ?_)
            refine h_aload_n (pc' := 79) rfl rfl rfl ?_
            refine h_getR (pc' := 82) rfl rfl rfl rfl rfl ?_
            refine h_aload_n (pc' := 83) rfl rfl rfl ?_
            refine h_getR (pc' := 86) rfl rfl rfl rfl rfl ?_
            refine h_iload_n (pc' := 87) rfl rfl rfl ?_
            refine h_iald (pc' := 88) (v := 12) rfl rfl rfl ci_2 (by omega) (by omega) (tx_103_2 hI) (fun z13 hz13 => ?_)
            refine h_iload_n (pc' := 89) rfl rfl rfl ?_
            refine h_iadd (pc' := 90) rfl rfl hz13 ci_1 rfl (by omega) (by omega) (fun z14 hz14 => ?_)
            refine h_iald (pc' := 91) (v := σ 104 (12 + 1)) rfl rfl rfl hz14 (by omega) (by omega) rfl (fun z15 hz15 => ?_)
            have tz15 := ty_104 hI (12 + 1)
            refine h_cne (tg := 98) (pc' := 94) rfl rfl rfl ci_m4 hz15 (fun c16 => ?_) (fun c16 => ?_)
            · refine h_iconst (pc' := 99) (x := (Int32.ofInt 0)) rfl rfl rfl ?_
              refine h_istore_n (pc' := 100) (M := [(2, .int (Int32.ofInt 0)), (0, .ref 98), (1, .int (Int32.ofInt 2)), (3, .int (Int32.ofInt 1))]) rfl rfl rfl rfl ?_
              refine h_iinc (pc' := 103) (b := 2) (M := fun z17 => [(3, .int z17), (2, .int (Int32.ofInt 0)), (0, .ref 98), (1, .int (Int32.ofInt 2))]) rfl rfl rfl rfl ci_1 ci_1 rfl (by omega) (by omega) (fun _ => rfl) (fun z17 hz17 => ?_)
              refine h_goto (pc' := 51) rfl rfl ?_
              have qz17 : z17 = (Int32.ofInt 2) := h_lit hz17 ci_2
              subst qz17
              exact h_wk [(0, .ref 98), (1, .int (Int32.ofInt 2)), (2, .int (Int32.ofInt 0)), (3, .int (Int32.ofInt 2))] ⟨rfl, rfl, rfl, rfl, trivial⟩ (ih.2.2.2.2.2.2.2.2.2.2.2.2.2.2.2.2.2.2.2.2.2.2.2.2.2.1 (Int32.ofInt 0) _ ci_0 (by omega) ex0 ex1 (Or.inr ⟨by omega, fun h => by unfold g_nm2 at h; omega⟩) (by omega))
            · refine h_iconst (pc' := 95) (x := (Int32.ofInt 1)) rfl rfl rfl ?_
              refine h_goto (pc' := 99) rfl rfl ?_
              refine h_istore_n (pc' := 100) (M := [(2, .int (Int32.ofInt 1)), (0, .ref 98), (1, .int (Int32.ofInt 2)), (3, .int (Int32.ofInt 1))]) rfl rfl rfl rfl ?_
              refine h_iinc (pc' := 103) (b := 2) (M := fun z18 => [(3, .int z18), (2, .int (Int32.ofInt 1)), (0, .ref 98), (1, .int (Int32.ofInt 2))]) rfl rfl rfl rfl ci_1 ci_1 rfl (by omega) (by omega) (fun _ => rfl) (fun z18 hz18 => ?_)
              refine h_goto (pc' := 51) rfl rfl ?_
              have qz18 : z18 = (Int32.ofInt 2) := h_lit hz18 ci_2
              subst qz18
              exact h_wk [(0, .ref 98), (1, .int (Int32.ofInt 2)), (2, .int (Int32.ofInt 1)), (3, .int (Int32.ofInt 2))] ⟨rfl, rfl, rfl, rfl, trivial⟩ (ih.2.2.2.2.2.2.2.2.2.2.2.2.2.2.2.2.2.2.2.2.2.2.2.2.2.1 (Int32.ofInt 1) _ ci_1 (by omega) ex0 ex1 (Or.inl ⟨by omega, by omega, by omega, by omega⟩) (by omega))
          · refine h_aload_n (pc' := 9) rfl rfl rfl ?_
            refine h_getR (pc' := 12) rfl rfl rfl rfl rfl ?_
            refine h_iload_n (pc' := 13) rfl rfl rfl ?_
            refine h_iald (pc' := 14) (v := σ 102 ((σ 98 16) + 1)) rfl rfl rfl hz10 (by omega) (by omega) rfl (fun z19 hz19 => ?_)
            have tz19 := ty_102 hI ((σ 98 16) + 1)
            refine h_goto (pc' := 19) rfl rfl ?_
            refine h_iret rfl rfl (h_Kv ?_)
            refine h_aload_n (pc' := 79) rfl rfl rfl ?_
            refine h_getR (pc' := 82) rfl rfl rfl rfl rfl ?_
            refine h_aload_n (pc' := 83) rfl rfl rfl ?_
            refine h_getR (pc' := 86) rfl rfl rfl rfl rfl ?_
            refine h_iload_n (pc' := 87) rfl rfl rfl ?_
            refine h_iald (pc' := 88) (v := 12) rfl rfl rfl ci_2 (by omega) (by omega) (tx_103_2 hI) (fun z20 hz20 => ?_)
            refine h_iload_n (pc' := 89) rfl rfl rfl ?_
            refine h_iadd (pc' := 90) rfl rfl hz20 ci_1 rfl (by omega) (by omega) (fun z21 hz21 => ?_)
            refine h_iald (pc' := 91) (v := σ 104 (12 + 1)) rfl rfl rfl hz21 (by omega) (by omega) rfl (fun z22 hz22 => ?_)
            have tz22 := ty_104 hI (12 + 1)
            refine h_cne (tg := 98) (pc' := 94) rfl rfl rfl hz19 hz22 (fun c23 => ?_) (fun c23 => ?_)
            · refine h_iconst (pc' := 99) (x := (Int32.ofInt 0)) rfl rfl rfl ?_
              refine h_istore_n (pc' := 100) (M := [(2, .int (Int32.ofInt 0)), (0, .ref 98), (1, .int (Int32.ofInt 2)), (3, .int (Int32.ofInt 1))]) rfl rfl rfl rfl ?_
              refine h_iinc (pc' := 103) (b := 2) (M := fun z24 => [(3, .int z24), (2, .int (Int32.ofInt 0)), (0, .ref 98), (1, .int (Int32.ofInt 2))]) rfl rfl rfl rfl ci_1 ci_1 rfl (by omega) (by omega) (fun _ => rfl) (fun z24 hz24 => ?_)
              refine h_goto (pc' := 51) rfl rfl ?_
              have qz24 : z24 = (Int32.ofInt 2) := h_lit hz24 ci_2
              subst qz24
              exact h_wk [(0, .ref 98), (1, .int (Int32.ofInt 2)), (2, .int (Int32.ofInt 0)), (3, .int (Int32.ofInt 2))] ⟨rfl, rfl, rfl, rfl, trivial⟩ (ih.2.2.2.2.2.2.2.2.2.2.2.2.2.2.2.2.2.2.2.2.2.2.2.2.2.1 (Int32.ofInt 0) _ ci_0 (by omega) ex0 ex1 (Or.inr ⟨by omega, fun h => by unfold g_nm2 at h; omega⟩) (by omega))
            · refine h_iconst (pc' := 95) (x := (Int32.ofInt 1)) rfl rfl rfl ?_
              refine h_goto (pc' := 99) rfl rfl ?_
              refine h_istore_n (pc' := 100) (M := [(2, .int (Int32.ofInt 1)), (0, .ref 98), (1, .int (Int32.ofInt 2)), (3, .int (Int32.ofInt 1))]) rfl rfl rfl rfl ?_
              refine h_iinc (pc' := 103) (b := 2) (M := fun z25 => [(3, .int z25), (2, .int (Int32.ofInt 1)), (0, .ref 98), (1, .int (Int32.ofInt 2))]) rfl rfl rfl rfl ci_1 ci_1 rfl (by omega) (by omega) (fun _ => rfl) (fun z25 hz25 => ?_)
              refine h_goto (pc' := 51) rfl rfl ?_
              have qz25 : z25 = (Int32.ofInt 2) := h_lit hz25 ci_2
              subst qz25
              exact h_wk [(0, .ref 98), (1, .int (Int32.ofInt 2)), (2, .int (Int32.ofInt 1)), (3, .int (Int32.ofInt 2))] ⟨rfl, rfl, rfl, rfl, trivial⟩ (ih.2.2.2.2.2.2.2.2.2.2.2.2.2.2.2.2.2.2.2.2.2.2.2.2.2.1 (Int32.ofInt 1) _ ci_1 (by omega) ex0 ex1 (Or.inl ⟨by omega, by omega, by omega, by omega⟩) (by omega))
    · intro  y2 b2 hy2 ry2 ex0 ex1 ex2 hm; have gh0 := tf_98_11 hI; have gh1 := tf_98_15 hI; have gh2 := tf_98_16 hI
      refine h_iload_n (pc' := 52) rfl rfl rfl ?_
      refine h_zeq (tg := 106) (pc' := 55) rfl rfl rfl hy2 (fun c1 => ?_) (fun c1 => ?_)
      · refine h_iload_n (pc' := 107) rfl rfl rfl ?_
        refine h_zeq (tg := 112) (pc' := 110) rfl rfl rfl hy2 (fun c2 => ?_) (fun c2 => absurd c2 (by omega))
        refine h_iinc (pc' := 115) (b := 3) (M := fun z3 => [(1, .int z3), (0, .ref 98), (2, .int y2), (3, .int (Int32.ofInt 2))]) rfl rfl rfl rfl ci_2 ci_1 rfl (by omega) (by omega) (fun _ => rfl) (fun z3 hz3 => ?_)
        refine h_goto (pc' := 2) rfl rfl ?_
        have qz3 : z3 = (Int32.ofInt 3) := h_lit hz3 ci_3
        subst qz3
        exact h_wk [(0, .ref 98), (1, .int (Int32.ofInt 3)), (2, .int y2), (3, .int (Int32.ofInt 2))] ⟨rfl, rfl, rfl, rfl, trivial⟩ (ih.2.2.2.1 y2 _ hy2 (by omega) (Int32.ofInt 2) _ ci_2 (by omega) ex0 ex1 (ex2.elim (fun h => absurd h.1 (by omega)) (fun h => h.2)) (by omega))
      · refine h_iload_n (pc' := 56) rfl rfl rfl ?_
        refine h_aload_n (pc' := 57) rfl rfl rfl ?_
        refine h_getI (pc' := 60) (v := σ 98 15) rfl rfl rfl rfl rfl rfl (fun z4 hz4 => ?_)
        have tz4 := tf_98_15 hI
        refine h_aload_n (pc' := 61) rfl rfl rfl ?_
        refine h_getI (pc' := 64) (v := σ 98 16) rfl rfl rfl rfl rfl rfl (fun z5 hz5 => ?_)
        have tz5 := tf_98_16 hI
        refine h_isub (pc' := 65) rfl rfl hz4 hz5 rfl (by omega) (by omega) (fun z6 hz6 => ?_)
        refine h_cge (tg := 106) (pc' := 68) rfl rfl rfl ci_2 hz6 (fun c7 => ?_) (fun c7 => ?_)
        · refine h_iload_n (pc' := 107) rfl rfl rfl ?_
          refine h_zeq (tg := 112) (pc' := 110) rfl rfl rfl hy2 (fun c8 => absurd c8 (by omega)) (fun c8 => ?_)
          refine h_iload_n (pc' := 111) rfl rfl rfl ?_
          exact h_iret rfl rfl (kk _ _ ci_2 (by omega) (fun _ => (Or.inr (Or.inr (Or.inr (Or.inl ⟨rfl, ex0, ex1, ⟨by omega, by omega, by omega, by omega, by omega, by omega, by omega, by omega⟩⟩))))) (Or.inl (by omega)))
        · refine h_aload_n (pc' := 69) rfl rfl rfl ?_
          refine h_aload_n (pc' := 70) rfl rfl rfl ?_
          refine h_getI (pc' := 73) (v := σ 98 16) rfl rfl rfl rfl rfl rfl (fun z9 hz9 => ?_)
          have tz9 := tf_98_16 hI
          refine h_iload_n (pc' := 74) rfl rfl rfl ?_
          refine h_iadd (pc' := 75) rfl rfl hz9 ci_2 rfl (by omega) (by omega) (fun z10 hz10 => ?_)
          refine h_call (sp := false) (pc' := 78) (M := [(0, .ref 98), (1, .int z10)]) rfl rfl rfl rfl rfl rfl rfl rfl ?_
          refine h_iload_n (pc' := 1) rfl rfl rfl ?_
          refine h_aload_n (pc' := 2) rfl rfl rfl ?_
          refine h_getI (pc' := 5) (v := σ 98 11) rfl rfl rfl rfl rfl rfl (fun z11 hz11 => ?_)
          have tz11 := tf_98_11 hI
          refine h_cge (tg := 17) (pc' := 8) rfl rfl rfl hz10 hz11 (fun c12 => ?_) (fun c12 => ?_)
          · refine h_bipush (pc' := 19) (x := (Int32.ofInt (-4))) rfl rfl cb_m4 ?_
            refine h_iret rfl rfl (h_Kv ?_)
            refine h_aload_n (pc' := 79) rfl rfl rfl ?_
            refine h_getR (pc' := 82) rfl rfl rfl rfl rfl ?_
            refine h_aload_n (pc' := 83) rfl rfl rfl ?_
            refine h_getR (pc' := 86) rfl rfl rfl rfl rfl ?_
            refine h_iload_n (pc' := 87) rfl rfl rfl ?_
            refine h_iald (pc' := 88) (v := 12) rfl rfl rfl ci_2 (by omega) (by omega) (tx_103_2 hI) (fun z13 hz13 => ?_)
            refine h_iload_n (pc' := 89) rfl rfl rfl ?_
            refine h_iadd (pc' := 90) rfl rfl hz13 ci_2 rfl (by omega) (by omega) (fun z14 hz14 => ?_)
            refine h_iald (pc' := 91) (v := σ 104 (12 + 2)) rfl rfl rfl hz14 (by omega) (by omega) rfl (fun z15 hz15 => ?_)
            have tz15 := ty_104 hI (12 + 2)
            refine h_cne (tg := 98) (pc' := 94) rfl rfl rfl ci_m4 hz15 (fun c16 => ?_) (fun c16 => ?_)
            · refine h_iconst (pc' := 99) (x := (Int32.ofInt 0)) rfl rfl rfl ?_
              refine h_istore_n (pc' := 100) (M := [(2, .int (Int32.ofInt 0)), (0, .ref 98), (1, .int (Int32.ofInt 2)), (3, .int (Int32.ofInt 2))]) rfl rfl rfl rfl ?_
              refine h_iinc (pc' := 103) (b := 3) (M := fun z17 => [(3, .int z17), (2, .int (Int32.ofInt 0)), (0, .ref 98), (1, .int (Int32.ofInt 2))]) rfl rfl rfl rfl ci_2 ci_1 rfl (by omega) (by omega) (fun _ => rfl) (fun z17 hz17 => ?_)
              refine h_goto (pc' := 51) rfl rfl ?_
              have qz17 : z17 = (Int32.ofInt 3) := h_lit hz17 ci_3
              subst qz17
              exact h_wk [(0, .ref 98), (1, .int (Int32.ofInt 2)), (2, .int (Int32.ofInt 0)), (3, .int (Int32.ofInt 3))] ⟨rfl, rfl, rfl, rfl, trivial⟩ (ih.2.2.2.2.2.2.2.2.2.2.2.2.2.2.2.2.2.2.2.2.2.2.2.2.2.2.1 (Int32.ofInt 0) _ ci_0 (by omega) ex0 ex1 (Or.inr ⟨by omega, fun h => by unfold g_nm2 at h; omega⟩) (by omega))
            · refine h_iconst (pc' := 95) (x := (Int32.ofInt 1)) rfl rfl rfl ?_
              refine h_goto (pc' := 99) rfl rfl ?_
              refine h_istore_n (pc' := 100) (M := [(2, .int (Int32.ofInt 1)), (0, .ref 98), (1, .int (Int32.ofInt 2)), (3, .int (Int32.ofInt 2))]) rfl rfl rfl rfl ?_
              refine h_iinc (pc' := 103) (b := 3) (M := fun z18 => [(3, .int z18), (2, .int (Int32.ofInt 1)), (0, .ref 98), (1, .int (Int32.ofInt 2))]) rfl rfl rfl rfl ci_2 ci_1 rfl (by omega) (by omega) (fun _ => rfl) (fun z18 hz18 => ?_)
              refine h_goto (pc' := 51) rfl rfl ?_
              have qz18 : z18 = (Int32.ofInt 3) := h_lit hz18 ci_3
              subst qz18
              exact h_wk [(0, .ref 98), (1, .int (Int32.ofInt 2)), (2, .int (Int32.ofInt 1)), (3, .int (Int32.ofInt 3))] ⟨rfl, rfl, rfl, rfl, trivial⟩ (ih.2.2.2.2.2.2.2.2.2.2.2.2.2.2.2.2.2.2.2.2.2.2.2.2.2.2.1 (Int32.ofInt 1) _ ci_1 (by omega) ex0 ex1 (Or.inl ⟨by omega, by omega, by omega, by omega, by omega⟩) (by omega))
          · refine h_aload_n (pc' := 9) rfl rfl rfl ?_
            refine h_getR (pc' := 12) rfl rfl rfl rfl rfl ?_
            refine h_iload_n (pc' := 13) rfl rfl rfl ?_
            refine h_iald (pc' := 14) (v := σ 102 ((σ 98 16) + 2)) rfl rfl rfl hz10 (by omega) (by omega) rfl (fun z19 hz19 => ?_)
            have tz19 := ty_102 hI ((σ 98 16) + 2)
            refine h_goto (pc' := 19) rfl rfl ?_
            refine h_iret rfl rfl (h_Kv ?_)
            refine h_aload_n (pc' := 79) rfl rfl rfl ?_
            refine h_getR (pc' := 82) rfl rfl rfl rfl rfl ?_
            refine h_aload_n (pc' := 83) rfl rfl rfl ?_
            refine h_getR (pc' := 86) rfl rfl rfl rfl rfl ?_
            refine h_iload_n (pc' := 87) rfl rfl rfl ?_
            refine h_iald (pc' := 88) (v := 12) rfl rfl rfl ci_2 (by omega) (by omega) (tx_103_2 hI) (fun z20 hz20 => ?_)
            refine h_iload_n (pc' := 89) rfl rfl rfl ?_
            refine h_iadd (pc' := 90) rfl rfl hz20 ci_2 rfl (by omega) (by omega) (fun z21 hz21 => ?_)
            refine h_iald (pc' := 91) (v := σ 104 (12 + 2)) rfl rfl rfl hz21 (by omega) (by omega) rfl (fun z22 hz22 => ?_)
            have tz22 := ty_104 hI (12 + 2)
            refine h_cne (tg := 98) (pc' := 94) rfl rfl rfl hz19 hz22 (fun c23 => ?_) (fun c23 => ?_)
            · refine h_iconst (pc' := 99) (x := (Int32.ofInt 0)) rfl rfl rfl ?_
              refine h_istore_n (pc' := 100) (M := [(2, .int (Int32.ofInt 0)), (0, .ref 98), (1, .int (Int32.ofInt 2)), (3, .int (Int32.ofInt 2))]) rfl rfl rfl rfl ?_
              refine h_iinc (pc' := 103) (b := 3) (M := fun z24 => [(3, .int z24), (2, .int (Int32.ofInt 0)), (0, .ref 98), (1, .int (Int32.ofInt 2))]) rfl rfl rfl rfl ci_2 ci_1 rfl (by omega) (by omega) (fun _ => rfl) (fun z24 hz24 => ?_)
              refine h_goto (pc' := 51) rfl rfl ?_
              have qz24 : z24 = (Int32.ofInt 3) := h_lit hz24 ci_3
              subst qz24
              exact h_wk [(0, .ref 98), (1, .int (Int32.ofInt 2)), (2, .int (Int32.ofInt 0)), (3, .int (Int32.ofInt 3))] ⟨rfl, rfl, rfl, rfl, trivial⟩ (ih.2.2.2.2.2.2.2.2.2.2.2.2.2.2.2.2.2.2.2.2.2.2.2.2.2.2.1 (Int32.ofInt 0) _ ci_0 (by omega) ex0 ex1 (Or.inr ⟨by omega, fun h => by unfold g_nm2 at h; omega⟩) (by omega))
            · refine h_iconst (pc' := 95) (x := (Int32.ofInt 1)) rfl rfl rfl ?_
              refine h_goto (pc' := 99) rfl rfl ?_
              refine h_istore_n (pc' := 100) (M := [(2, .int (Int32.ofInt 1)), (0, .ref 98), (1, .int (Int32.ofInt 2)), (3, .int (Int32.ofInt 2))]) rfl rfl rfl rfl ?_
              refine h_iinc (pc' := 103) (b := 3) (M := fun z25 => [(3, .int z25), (2, .int (Int32.ofInt 1)), (0, .ref 98), (1, .int (Int32.ofInt 2))]) rfl rfl rfl rfl ci_2 ci_1 rfl (by omega) (by omega) (fun _ => rfl) (fun z25 hz25 => ?_)
              refine h_goto (pc' := 51) rfl rfl ?_
              have qz25 : z25 = (Int32.ofInt 3) := h_lit hz25 ci_3
              subst qz25
              exact h_wk [(0, .ref 98), (1, .int (Int32.ofInt 2)), (2, .int (Int32.ofInt 1)), (3, .int (Int32.ofInt 3))] ⟨rfl, rfl, rfl, rfl, trivial⟩ (ih.2.2.2.2.2.2.2.2.2.2.2.2.2.2.2.2.2.2.2.2.2.2.2.2.2.2.1 (Int32.ofInt 1) _ ci_1 (by omega) ex0 ex1 (Or.inl ⟨by omega, by omega, by omega, by omega, by omega⟩) (by omega))
    · intro  y2 b2 hy2 ry2 ex0 ex1 ex2 hm; have gh0 := tf_98_11 hI; have gh1 := tf_98_15 hI; have gh2 := tf_98_16 hI
      refine h_iload_n (pc' := 52) rfl rfl rfl ?_
      refine h_zeq (tg := 106) (pc' := 55) rfl rfl rfl hy2 (fun c1 => ?_) (fun c1 => ?_)
      · refine h_iload_n (pc' := 107) rfl rfl rfl ?_
        refine h_zeq (tg := 112) (pc' := 110) rfl rfl rfl hy2 (fun c2 => ?_) (fun c2 => absurd c2 (by omega))
        refine h_iinc (pc' := 115) (b := 3) (M := fun z3 => [(1, .int z3), (0, .ref 98), (2, .int y2), (3, .int (Int32.ofInt 3))]) rfl rfl rfl rfl ci_2 ci_1 rfl (by omega) (by omega) (fun _ => rfl) (fun z3 hz3 => ?_)
        refine h_goto (pc' := 2) rfl rfl ?_
        have qz3 : z3 = (Int32.ofInt 3) := h_lit hz3 ci_3
        subst qz3
        exact h_wk [(0, .ref 98), (1, .int (Int32.ofInt 3)), (2, .int y2), (3, .int (Int32.ofInt 3))] ⟨rfl, rfl, rfl, rfl, trivial⟩ (ih.2.2.2.1 y2 _ hy2 (by omega) (Int32.ofInt 3) _ ci_3 (by omega) ex0 ex1 (ex2.elim (fun h => absurd h.1 (by omega)) (fun h => h.2)) (by omega))
      · refine h_iload_n (pc' := 56) rfl rfl rfl ?_
        refine h_aload_n (pc' := 57) rfl rfl rfl ?_
        refine h_getI (pc' := 60) (v := σ 98 15) rfl rfl rfl rfl rfl rfl (fun z4 hz4 => ?_)
        have tz4 := tf_98_15 hI
        refine h_aload_n (pc' := 61) rfl rfl rfl ?_
        refine h_getI (pc' := 64) (v := σ 98 16) rfl rfl rfl rfl rfl rfl (fun z5 hz5 => ?_)
        have tz5 := tf_98_16 hI
        refine h_isub (pc' := 65) rfl rfl hz4 hz5 rfl (by omega) (by omega) (fun z6 hz6 => ?_)
        refine h_cge (tg := 106) (pc' := 68) rfl rfl rfl ci_3 hz6 (fun c7 => ?_) (fun c7 => ?_)
        · refine h_iload_n (pc' := 107) rfl rfl rfl ?_
          refine h_zeq (tg := 112) (pc' := 110) rfl rfl rfl hy2 (fun c8 => absurd c8 (by omega)) (fun c8 => ?_)
          refine h_iload_n (pc' := 111) rfl rfl rfl ?_
          exact h_iret rfl rfl (kk _ _ ci_2 (by omega) (fun _ => (Or.inr (Or.inr (Or.inr (Or.inl ⟨rfl, ex0, ex1, ⟨by omega, by omega, by omega, by omega, by omega, by omega, by omega, by omega⟩⟩))))) (Or.inl (by omega)))
        · refine h_aload_n (pc' := 69) rfl rfl rfl ?_
          refine h_aload_n (pc' := 70) rfl rfl rfl ?_
          refine h_getI (pc' := 73) (v := σ 98 16) rfl rfl rfl rfl rfl rfl (fun z9 hz9 => ?_)
          have tz9 := tf_98_16 hI
          refine h_iload_n (pc' := 74) rfl rfl rfl ?_
          refine h_iadd (pc' := 75) rfl rfl hz9 ci_3 rfl (by omega) (by omega) (fun z10 hz10 => ?_)
          refine h_call (sp := false) (pc' := 78) (M := [(0, .ref 98), (1, .int z10)]) rfl rfl rfl rfl rfl rfl rfl rfl ?_
          refine h_iload_n (pc' := 1) rfl rfl rfl ?_
          refine h_aload_n (pc' := 2) rfl rfl rfl ?_
          refine h_getI (pc' := 5) (v := σ 98 11) rfl rfl rfl rfl rfl rfl (fun z11 hz11 => ?_)
          have tz11 := tf_98_11 hI
          refine h_cge (tg := 17) (pc' := 8) rfl rfl rfl hz10 hz11 (fun c12 => ?_) (fun c12 => ?_)
          · refine h_bipush (pc' := 19) (x := (Int32.ofInt (-4))) rfl rfl cb_m4 ?_
            refine h_iret rfl rfl (h_Kv ?_)
            refine h_aload_n (pc' := 79) rfl rfl rfl ?_
            refine h_getR (pc' := 82) rfl rfl rfl rfl rfl ?_
            refine h_aload_n (pc' := 83) rfl rfl rfl ?_
            refine h_getR (pc' := 86) rfl rfl rfl rfl rfl ?_
            refine h_iload_n (pc' := 87) rfl rfl rfl ?_
            refine h_iald (pc' := 88) (v := 12) rfl rfl rfl ci_2 (by omega) (by omega) (tx_103_2 hI) (fun z13 hz13 => ?_)
            refine h_iload_n (pc' := 89) rfl rfl rfl ?_
            refine h_iadd (pc' := 90) rfl rfl hz13 ci_3 rfl (by omega) (by omega) (fun z14 hz14 => ?_)
            refine h_iald (pc' := 91) (v := σ 104 (12 + 3)) rfl rfl rfl hz14 (by omega) (by omega) rfl (fun z15 hz15 => ?_)
            have tz15 := ty_104 hI (12 + 3)
            refine h_cne (tg := 98) (pc' := 94) rfl rfl rfl ci_m4 hz15 (fun c16 => ?_) (fun c16 => ?_)
            · refine h_iconst (pc' := 99) (x := (Int32.ofInt 0)) rfl rfl rfl ?_
              refine h_istore_n (pc' := 100) (M := [(2, .int (Int32.ofInt 0)), (0, .ref 98), (1, .int (Int32.ofInt 2)), (3, .int (Int32.ofInt 3))]) rfl rfl rfl rfl ?_
              refine h_iinc (pc' := 103) (b := 4) (M := fun z17 => [(3, .int z17), (2, .int (Int32.ofInt 0)), (0, .ref 98), (1, .int (Int32.ofInt 2))]) rfl rfl rfl rfl ci_3 ci_1 rfl (by omega) (by omega) (fun _ => rfl) (fun z17 hz17 => ?_)
              refine h_goto (pc' := 51) rfl rfl ?_
              have qz17 : z17 = (Int32.ofInt 4) := h_lit hz17 ci_4
              subst qz17
              exact h_wk [(0, .ref 98), (1, .int (Int32.ofInt 2)), (2, .int (Int32.ofInt 0)), (3, .int (Int32.ofInt 4))] ⟨rfl, rfl, rfl, rfl, trivial⟩ (ih.2.2.2.2.2.2.2.2.2.2.2.2.2.2.2.2.2.2.2.2.2.2.2.2.2.2.2.1 (Int32.ofInt 0) _ ci_0 (by omega) ex0 ex1 (Or.inr ⟨by omega, fun h => by unfold g_nm2 at h; omega⟩) (by omega))
            · refine h_iconst (pc' := 95) (x := (Int32.ofInt 1)) rfl rfl rfl ?_
              refine h_goto (pc' := 99) rfl rfl ?_
              refine h_istore_n (pc' := 100) (M := [(2, .int (Int32.ofInt 1)), (0, .ref 98), (1, .int (Int32.ofInt 2)), (3, .int (Int32.ofInt 3))]) rfl rfl rfl rfl ?_
              refine h_iinc (pc' := 103) (b := 4) (M := fun z18 => [(3, .int z18), (2, .int (Int32.ofInt 1)), (0, .ref 98), (1, .int (Int32.ofInt 2))]) rfl rfl rfl rfl ci_3 ci_1 rfl (by omega) (by omega) (fun _ => rfl) (fun z18 hz18 => ?_)
              refine h_goto (pc' := 51) rfl rfl ?_
              have qz18 : z18 = (Int32.ofInt 4) := h_lit hz18 ci_4
              subst qz18
              exact h_wk [(0, .ref 98), (1, .int (Int32.ofInt 2)), (2, .int (Int32.ofInt 1)), (3, .int (Int32.ofInt 4))] ⟨rfl, rfl, rfl, rfl, trivial⟩ (ih.2.2.2.2.2.2.2.2.2.2.2.2.2.2.2.2.2.2.2.2.2.2.2.2.2.2.2.1 (Int32.ofInt 1) _ ci_1 (by omega) ex0 ex1 (Or.inl ⟨by omega, by omega, by omega, by omega, by omega, by omega⟩) (by omega))
          · refine h_aload_n (pc' := 9) rfl rfl rfl ?_
            refine h_getR (pc' := 12) rfl rfl rfl rfl rfl ?_
            refine h_iload_n (pc' := 13) rfl rfl rfl ?_
            refine h_iald (pc' := 14) (v := σ 102 ((σ 98 16) + 3)) rfl rfl rfl hz10 (by omega) (by omega) rfl (fun z19 hz19 => ?_)
            have tz19 := ty_102 hI ((σ 98 16) + 3)
            refine h_goto (pc' := 19) rfl rfl ?_
            refine h_iret rfl rfl (h_Kv ?_)
            refine h_aload_n (pc' := 79) rfl rfl rfl ?_
            refine h_getR (pc' := 82) rfl rfl rfl rfl rfl ?_
            refine h_aload_n (pc' := 83) rfl rfl rfl ?_
            refine h_getR (pc' := 86) rfl rfl rfl rfl rfl ?_
            refine h_iload_n (pc' := 87) rfl rfl rfl ?_
            refine h_iald (pc' := 88) (v := 12) rfl rfl rfl ci_2 (by omega) (by omega) (tx_103_2 hI) (fun z20 hz20 => ?_)
            refine h_iload_n (pc' := 89) rfl rfl rfl ?_
            refine h_iadd (pc' := 90) rfl rfl hz20 ci_3 rfl (by omega) (by omega) (fun z21 hz21 => ?_)
            refine h_iald (pc' := 91) (v := σ 104 (12 + 3)) rfl rfl rfl hz21 (by omega) (by omega) rfl (fun z22 hz22 => ?_)
            have tz22 := ty_104 hI (12 + 3)
            refine h_cne (tg := 98) (pc' := 94) rfl rfl rfl hz19 hz22 (fun c23 => ?_) (fun c23 => ?_)
            · refine h_iconst (pc' := 99) (x := (Int32.ofInt 0)) rfl rfl rfl ?_
              refine h_istore_n (pc' := 100) (M := [(2, .int (Int32.ofInt 0)), (0, .ref 98), (1, .int (Int32.ofInt 2)), (3, .int (Int32.ofInt 3))]) rfl rfl rfl rfl ?_
              refine h_iinc (pc' := 103) (b := 4) (M := fun z24 => [(3, .int z24), (2, .int (Int32.ofInt 0)), (0, .ref 98), (1, .int (Int32.ofInt 2))]) rfl rfl rfl rfl ci_3 ci_1 rfl (by omega) (by omega) (fun _ => rfl) (fun z24 hz24 => ?_)
              refine h_goto (pc' := 51) rfl rfl ?_
              have qz24 : z24 = (Int32.ofInt 4) := h_lit hz24 ci_4
              subst qz24
              exact h_wk [(0, .ref 98), (1, .int (Int32.ofInt 2)), (2, .int (Int32.ofInt 0)), (3, .int (Int32.ofInt 4))] ⟨rfl, rfl, rfl, rfl, trivial⟩ (ih.2.2.2.2.2.2.2.2.2.2.2.2.2.2.2.2.2.2.2.2.2.2.2.2.2.2.2.1 (Int32.ofInt 0) _ ci_0 (by omega) ex0 ex1 (Or.inr ⟨by omega, fun h => by unfold g_nm2 at h; omega⟩) (by omega))
            · refine h_iconst (pc' := 95) (x := (Int32.ofInt 1)) rfl rfl rfl ?_
              refine h_goto (pc' := 99) rfl rfl ?_
              refine h_istore_n (pc' := 100) (M := [(2, .int (Int32.ofInt 1)), (0, .ref 98), (1, .int (Int32.ofInt 2)), (3, .int (Int32.ofInt 3))]) rfl rfl rfl rfl ?_
              refine h_iinc (pc' := 103) (b := 4) (M := fun z25 => [(3, .int z25), (2, .int (Int32.ofInt 1)), (0, .ref 98), (1, .int (Int32.ofInt 2))]) rfl rfl rfl rfl ci_3 ci_1 rfl (by omega) (by omega) (fun _ => rfl) (fun z25 hz25 => ?_)
              refine h_goto (pc' := 51) rfl rfl ?_
              have qz25 : z25 = (Int32.ofInt 4) := h_lit hz25 ci_4
              subst qz25
              exact h_wk [(0, .ref 98), (1, .int (Int32.ofInt 2)), (2, .int (Int32.ofInt 1)), (3, .int (Int32.ofInt 4))] ⟨rfl, rfl, rfl, rfl, trivial⟩ (ih.2.2.2.2.2.2.2.2.2.2.2.2.2.2.2.2.2.2.2.2.2.2.2.2.2.2.2.1 (Int32.ofInt 1) _ ci_1 (by omega) ex0 ex1 (Or.inl ⟨by omega, by omega, by omega, by omega, by omega, by omega⟩) (by omega))
    · intro  y2 b2 hy2 ry2 ex0 ex1 ex2 hm; have gh0 := tf_98_11 hI; have gh1 := tf_98_15 hI; have gh2 := tf_98_16 hI
      refine h_iload_n (pc' := 52) rfl rfl rfl ?_
      refine h_zeq (tg := 106) (pc' := 55) rfl rfl rfl hy2 (fun c1 => ?_) (fun c1 => ?_)
      · refine h_iload_n (pc' := 107) rfl rfl rfl ?_
        refine h_zeq (tg := 112) (pc' := 110) rfl rfl rfl hy2 (fun c2 => ?_) (fun c2 => absurd c2 (by omega))
        refine h_iinc (pc' := 115) (b := 3) (M := fun z3 => [(1, .int z3), (0, .ref 98), (2, .int y2), (3, .int (Int32.ofInt 4))]) rfl rfl rfl rfl ci_2 ci_1 rfl (by omega) (by omega) (fun _ => rfl) (fun z3 hz3 => ?_)
        refine h_goto (pc' := 2) rfl rfl ?_
        have qz3 : z3 = (Int32.ofInt 3) := h_lit hz3 ci_3
        subst qz3
        exact h_wk [(0, .ref 98), (1, .int (Int32.ofInt 3)), (2, .int y2), (3, .int (Int32.ofInt 4))] ⟨rfl, rfl, rfl, rfl, trivial⟩ (ih.2.2.2.1 y2 _ hy2 (by omega) (Int32.ofInt 4) _ ci_4 (by omega) ex0 ex1 (ex2.elim (fun h => absurd h.1 (by omega)) (fun h => h.2)) (by omega))
      · refine h_iload_n (pc' := 56) rfl rfl rfl ?_
        refine h_aload_n (pc' := 57) rfl rfl rfl ?_
        refine h_getI (pc' := 60) (v := σ 98 15) rfl rfl rfl rfl rfl rfl (fun z4 hz4 => ?_)
        have tz4 := tf_98_15 hI
        refine h_aload_n (pc' := 61) rfl rfl rfl ?_
        refine h_getI (pc' := 64) (v := σ 98 16) rfl rfl rfl rfl rfl rfl (fun z5 hz5 => ?_)
        have tz5 := tf_98_16 hI
        refine h_isub (pc' := 65) rfl rfl hz4 hz5 rfl (by omega) (by omega) (fun z6 hz6 => ?_)
        refine h_cge (tg := 106) (pc' := 68) rfl rfl rfl ci_4 hz6 (fun c7 => ?_) (fun c7 => ?_)
        · refine h_iload_n (pc' := 107) rfl rfl rfl ?_
          refine h_zeq (tg := 112) (pc' := 110) rfl rfl rfl hy2 (fun c8 => absurd c8 (by omega)) (fun c8 => ?_)
          refine h_iload_n (pc' := 111) rfl rfl rfl ?_
          exact h_iret rfl rfl (kk _ _ ci_2 (by omega) (fun _ => (Or.inr (Or.inr (Or.inr (Or.inl ⟨rfl, ex0, ex1, ⟨by omega, by omega, by omega, by omega, by omega, by omega, by omega, by omega⟩⟩))))) (Or.inl (by omega)))
        · refine h_aload_n (pc' := 69) rfl rfl rfl ?_
          refine h_aload_n (pc' := 70) rfl rfl rfl ?_
          refine h_getI (pc' := 73) (v := σ 98 16) rfl rfl rfl rfl rfl rfl (fun z9 hz9 => ?_)
          have tz9 := tf_98_16 hI
          refine h_iload_n (pc' := 74) rfl rfl rfl ?_
          refine h_iadd (pc' := 75) rfl rfl hz9 ci_4 rfl (by omega) (by omega) (fun z10 hz10 => ?_)
          refine h_call (sp := false) (pc' := 78) (M := [(0, .ref 98), (1, .int z10)]) rfl rfl rfl rfl rfl rfl rfl rfl ?_
          refine h_iload_n (pc' := 1) rfl rfl rfl ?_
          refine h_aload_n (pc' := 2) rfl rfl rfl ?_
          refine h_getI (pc' := 5) (v := σ 98 11) rfl rfl rfl rfl rfl rfl (fun z11 hz11 => ?_)
          have tz11 := tf_98_11 hI
          refine h_cge (tg := 17) (pc' := 8) rfl rfl rfl hz10 hz11 (fun c12 => ?_) (fun c12 => ?_)
          · refine h_bipush (pc' := 19) (x := (Int32.ofInt (-4))) rfl rfl cb_m4 ?_
            refine h_iret rfl rfl (h_Kv ?_)
            refine h_aload_n (pc' := 79) rfl rfl rfl ?_
            refine h_getR (pc' := 82) rfl rfl rfl rfl rfl ?_
            refine h_aload_n (pc' := 83) rfl rfl rfl ?_
            refine h_getR (pc' := 86) rfl rfl rfl rfl rfl ?_
            refine h_iload_n (pc' := 87) rfl rfl rfl ?_
            refine h_iald (pc' := 88) (v := 12) rfl rfl rfl ci_2 (by omega) (by omega) (tx_103_2 hI) (fun z13 hz13 => ?_)
            refine h_iload_n (pc' := 89) rfl rfl rfl ?_
            refine h_iadd (pc' := 90) rfl rfl hz13 ci_4 rfl (by omega) (by omega) (fun z14 hz14 => ?_)
            refine h_iald (pc' := 91) (v := σ 104 (12 + 4)) rfl rfl rfl hz14 (by omega) (by omega) rfl (fun z15 hz15 => ?_)
            have tz15 := ty_104 hI (12 + 4)
            refine h_cne (tg := 98) (pc' := 94) rfl rfl rfl ci_m4 hz15 (fun c16 => ?_) (fun c16 => ?_)
            · refine h_iconst (pc' := 99) (x := (Int32.ofInt 0)) rfl rfl rfl ?_
              refine h_istore_n (pc' := 100) (M := [(2, .int (Int32.ofInt 0)), (0, .ref 98), (1, .int (Int32.ofInt 2)), (3, .int (Int32.ofInt 4))]) rfl rfl rfl rfl ?_
              refine h_iinc (pc' := 103) (b := 5) (M := fun z17 => [(3, .int z17), (2, .int (Int32.ofInt 0)), (0, .ref 98), (1, .int (Int32.ofInt 2))]) rfl rfl rfl rfl ci_4 ci_1 rfl (by omega) (by omega) (fun _ => rfl) (fun z17 hz17 => ?_)
              refine h_goto (pc' := 51) rfl rfl ?_
              have qz17 : z17 = (Int32.ofInt 5) := h_lit hz17 ci_5
              subst qz17
              exact h_wk [(0, .ref 98), (1, .int (Int32.ofInt 2)), (2, .int (Int32.ofInt 0)), (3, .int (Int32.ofInt 5))] ⟨rfl, rfl, rfl, rfl, trivial⟩ (ih.2.2.2.2.2.2.2.2.2.2.2.2.2.2.2.2.2.2.2.2.2.2.2.2.2.2.2.2.1 (Int32.ofInt 0) _ ci_0 (by omega) ex0 ex1 (Or.inr ⟨by omega, fun h => by unfold g_nm2 at h; omega⟩) (by omega))
            · refine h_iconst (pc' := 95) (x := (Int32.ofInt 1)) rfl rfl rfl ?_
              refine h_goto (pc' := 99) rfl rfl ?_
              refine h_istore_n (pc' := 100) (M := [(2, .int (Int32.ofInt 1)), (0, .ref 98), (1, .int (Int32.ofInt 2)), (3, .int (Int32.ofInt 4))]) rfl rfl rfl rfl ?_
              refine h_iinc (pc' := 103) (b := 5) (M := fun z18 => [(3, .int z18), (2, .int (Int32.ofInt 1)), (0, .ref 98), (1, .int (Int32.ofInt 2))]) rfl rfl rfl rfl ci_4 ci_1 rfl (by omega) (by omega) (fun _ => rfl) (fun z18 hz18 => ?_)
              refine h_goto (pc' := 51) rfl rfl ?_
              have qz18 : z18 = (Int32.ofInt 5) := h_lit hz18 ci_5
              subst qz18
              exact h_wk [(0, .ref 98), (1, .int (Int32.ofInt 2)), (2, .int (Int32.ofInt 1)), (3, .int (Int32.ofInt 5))] ⟨rfl, rfl, rfl, rfl, trivial⟩ (ih.2.2.2.2.2.2.2.2.2.2.2.2.2.2.2.2.2.2.2.2.2.2.2.2.2.2.2.2.1 (Int32.ofInt 1) _ ci_1 (by omega) ex0 ex1 (Or.inl ⟨by omega, by omega, by omega, by omega, by omega, by omega, by omega⟩) (by omega))
          · refine h_aload_n (pc' := 9) rfl rfl rfl ?_
            refine h_getR (pc' := 12) rfl rfl rfl rfl rfl ?_
            refine h_iload_n (pc' := 13) rfl rfl rfl ?_
            refine h_iald (pc' := 14) (v := σ 102 ((σ 98 16) + 4)) rfl rfl rfl hz10 (by omega) (by omega) rfl (fun z19 hz19 => ?_)
            have tz19 := ty_102 hI ((σ 98 16) + 4)
            refine h_goto (pc' := 19) rfl rfl ?_
            refine h_iret rfl rfl (h_Kv ?_)
            refine h_aload_n (pc' := 79) rfl rfl rfl ?_
            refine h_getR (pc' := 82) rfl rfl rfl rfl rfl ?_
            refine h_aload_n (pc' := 83) rfl rfl rfl ?_
            refine h_getR (pc' := 86) rfl rfl rfl rfl rfl ?_
            refine h_iload_n (pc' := 87) rfl rfl rfl ?_
            refine h_iald (pc' := 88) (v := 12) rfl rfl rfl ci_2 (by omega) (by omega) (tx_103_2 hI) (fun z20 hz20 => ?_)
            refine h_iload_n (pc' := 89) rfl rfl rfl ?_
            refine h_iadd (pc' := 90) rfl rfl hz20 ci_4 rfl (by omega) (by omega) (fun z21 hz21 => ?_)
            refine h_iald (pc' := 91) (v := σ 104 (12 + 4)) rfl rfl rfl hz21 (by omega) (by omega) rfl (fun z22 hz22 => ?_)
            have tz22 := ty_104 hI (12 + 4)
            refine h_cne (tg := 98) (pc' := 94) rfl rfl rfl hz19 hz22 (fun c23 => ?_) (fun c23 => ?_)
            · refine h_iconst (pc' := 99) (x := (Int32.ofInt 0)) rfl rfl rfl ?_
              refine h_istore_n (pc' := 100) (M := [(2, .int (Int32.ofInt 0)), (0, .ref 98), (1, .int (Int32.ofInt 2)), (3, .int (Int32.ofInt 4))]) rfl rfl rfl rfl ?_
              refine h_iinc (pc' := 103) (b := 5) (M := fun z24 => [(3, .int z24), (2, .int (Int32.ofInt 0)), (0, .ref 98), (1, .int (Int32.ofInt 2))]) rfl rfl rfl rfl ci_4 ci_1 rfl (by omega) (by omega) (fun _ => rfl) (fun z24 hz24 => ?_)
              refine h_goto (pc' := 51) rfl rfl ?_
              have qz24 : z24 = (Int32.ofInt 5) := h_lit hz24 ci_5
              subst qz24
              exact h_wk [(0, .ref 98), (1, .int (Int32.ofInt 2)), (2, .int (Int32.ofInt 0)), (3, .int (Int32.ofInt 5))] ⟨rfl, rfl, rfl, rfl, trivial⟩ (ih.2.2.2.2.2.2.2.2.2.2.2.2.2.2.2.2.2.2.2.2.2.2.2.2.2.2.2.2.1 (Int32.ofInt 0) _ ci_0 (by omega) ex0 ex1 (Or.inr ⟨by omega, fun h => by unfold g_nm2 at h; omega⟩) (by omega))
            · refine h_iconst (pc' := 95) (x := (Int32.ofInt 1)) rfl rfl rfl ?_
              refine h_goto (pc' := 99) rfl rfl ?_
              refine h_istore_n (pc' := 100) (M := [(2, .int (Int32.ofInt 1)), (0, .ref 98), (1, .int (Int32.ofInt 2)), (3, .int (Int32.ofInt 4))]) rfl rfl rfl rfl ?_
              refine h_iinc (pc' := 103) (b := 5) (M := fun z25 => [(3, .int z25), (2, .int (Int32.ofInt 1)), (0, .ref 98), (1, .int (Int32.ofInt 2))]) rfl rfl rfl rfl ci_4 ci_1 rfl (by omega) (by omega) (fun _ => rfl) (fun z25 hz25 => ?_)
              refine h_goto (pc' := 51) rfl rfl ?_
              have qz25 : z25 = (Int32.ofInt 5) := h_lit hz25 ci_5
              subst qz25
              exact h_wk [(0, .ref 98), (1, .int (Int32.ofInt 2)), (2, .int (Int32.ofInt 1)), (3, .int (Int32.ofInt 5))] ⟨rfl, rfl, rfl, rfl, trivial⟩ (ih.2.2.2.2.2.2.2.2.2.2.2.2.2.2.2.2.2.2.2.2.2.2.2.2.2.2.2.2.1 (Int32.ofInt 1) _ ci_1 (by omega) ex0 ex1 (Or.inl ⟨by omega, by omega, by omega, by omega, by omega, by omega, by omega⟩) (by omega))
    · intro  y2 b2 hy2 ry2 ex0 ex1 ex2 hm; have gh0 := tf_98_11 hI; have gh1 := tf_98_15 hI; have gh2 := tf_98_16 hI
      refine h_iload_n (pc' := 52) rfl rfl rfl ?_
      refine h_zeq (tg := 106) (pc' := 55) rfl rfl rfl hy2 (fun c1 => ?_) (fun c1 => ?_)
      · refine h_iload_n (pc' := 107) rfl rfl rfl ?_
        refine h_zeq (tg := 112) (pc' := 110) rfl rfl rfl hy2 (fun c2 => ?_) (fun c2 => absurd c2 (by omega))
        refine h_iinc (pc' := 115) (b := 3) (M := fun z3 => [(1, .int z3), (0, .ref 98), (2, .int y2), (3, .int (Int32.ofInt 5))]) rfl rfl rfl rfl ci_2 ci_1 rfl (by omega) (by omega) (fun _ => rfl) (fun z3 hz3 => ?_)
        refine h_goto (pc' := 2) rfl rfl ?_
        have qz3 : z3 = (Int32.ofInt 3) := h_lit hz3 ci_3
        subst qz3
        exact h_wk [(0, .ref 98), (1, .int (Int32.ofInt 3)), (2, .int y2), (3, .int (Int32.ofInt 5))] ⟨rfl, rfl, rfl, rfl, trivial⟩ (ih.2.2.2.1 y2 _ hy2 (by omega) (Int32.ofInt 5) _ ci_5 (by omega) ex0 ex1 (ex2.elim (fun h => absurd h.1 (by omega)) (fun h => h.2)) (by omega))
      · refine h_iload_n (pc' := 56) rfl rfl rfl ?_
        refine h_aload_n (pc' := 57) rfl rfl rfl ?_
        refine h_getI (pc' := 60) (v := σ 98 15) rfl rfl rfl rfl rfl rfl (fun z4 hz4 => ?_)
        have tz4 := tf_98_15 hI
        refine h_aload_n (pc' := 61) rfl rfl rfl ?_
        refine h_getI (pc' := 64) (v := σ 98 16) rfl rfl rfl rfl rfl rfl (fun z5 hz5 => ?_)
        have tz5 := tf_98_16 hI
        refine h_isub (pc' := 65) rfl rfl hz4 hz5 rfl (by omega) (by omega) (fun z6 hz6 => ?_)
        refine h_cge (tg := 106) (pc' := 68) rfl rfl rfl ci_5 hz6 (fun c7 => ?_) (fun c7 => ?_)
        · refine h_iload_n (pc' := 107) rfl rfl rfl ?_
          refine h_zeq (tg := 112) (pc' := 110) rfl rfl rfl hy2 (fun c8 => absurd c8 (by omega)) (fun c8 => ?_)
          refine h_iload_n (pc' := 111) rfl rfl rfl ?_
          exact h_iret rfl rfl (kk _ _ ci_2 (by omega) (fun _ => (Or.inr (Or.inr (Or.inr (Or.inl ⟨rfl, ex0, ex1, ⟨by omega, by omega, by omega, by omega, by omega, by omega, by omega, by omega⟩⟩))))) (Or.inl (by omega)))
        · refine h_aload_n (pc' := 69) rfl rfl rfl ?_
          refine h_aload_n (pc' := 70) rfl rfl rfl ?_
          refine h_getI (pc' := 73) (v := σ 98 16) rfl rfl rfl rfl rfl rfl (fun z9 hz9 => ?_)
          have tz9 := tf_98_16 hI
          refine h_iload_n (pc' := 74) rfl rfl rfl ?_
          refine h_iadd (pc' := 75) rfl rfl hz9 ci_5 rfl (by omega) (by omega) (fun z10 hz10 => ?_)
          refine h_call (sp := false) (pc' := 78) (M := [(0, .ref 98), (1, .int z10)]) rfl rfl rfl rfl rfl rfl rfl rfl ?_
          refine h_iload_n (pc' := 1) rfl rfl rfl ?_
          refine h_aload_n (pc' := 2) rfl rfl rfl ?_
          refine h_getI (pc' := 5) (v := σ 98 11) rfl rfl rfl rfl rfl rfl (fun z11 hz11 => ?_)
          have tz11 := tf_98_11 hI
          refine h_cge (tg := 17) (pc' := 8) rfl rfl rfl hz10 hz11 (fun c12 => ?_) (fun c12 => ?_)
          · refine h_bipush (pc' := 19) (x := (Int32.ofInt (-4))) rfl rfl cb_m4 ?_
            refine h_iret rfl rfl (h_Kv ?_)
            refine h_aload_n (pc' := 79) rfl rfl rfl ?_
            refine h_getR (pc' := 82) rfl rfl rfl rfl rfl ?_
            refine h_aload_n (pc' := 83) rfl rfl rfl ?_
            refine h_getR (pc' := 86) rfl rfl rfl rfl rfl ?_
            refine h_iload_n (pc' := 87) rfl rfl rfl ?_
            refine h_iald (pc' := 88) (v := 12) rfl rfl rfl ci_2 (by omega) (by omega) (tx_103_2 hI) (fun z13 hz13 => ?_)
            refine h_iload_n (pc' := 89) rfl rfl rfl ?_
            refine h_iadd (pc' := 90) rfl rfl hz13 ci_5 rfl (by omega) (by omega) (fun z14 hz14 => ?_)
            refine h_iald (pc' := 91) (v := σ 104 (12 + 5)) rfl rfl rfl hz14 (by omega) (by omega) rfl (fun z15 hz15 => ?_)
            have tz15 := ty_104 hI (12 + 5)
            refine h_cne (tg := 98) (pc' := 94) rfl rfl rfl ci_m4 hz15 (fun c16 => ?_) (fun c16 => ?_)
            · refine h_iconst (pc' := 99) (x := (Int32.ofInt 0)) rfl rfl rfl ?_
              refine h_istore_n (pc' := 100) (M := [(2, .int (Int32.ofInt 0)), (0, .ref 98), (1, .int (Int32.ofInt 2)), (3, .int (Int32.ofInt 5))]) rfl rfl rfl rfl ?_
              refine h_iinc (pc' := 103) (b := 6) (M := fun z17 => [(3, .int z17), (2, .int (Int32.ofInt 0)), (0, .ref 98), (1, .int (Int32.ofInt 2))]) rfl rfl rfl rfl ci_5 ci_1 rfl (by omega) (by omega) (fun _ => rfl) (fun z17 hz17 => ?_)
              refine h_goto (pc' := 51) rfl rfl ?_
              have qz17 : z17 = (Int32.ofInt 6) := h_lit hz17 ci_6
              subst qz17
              exact h_wk [(0, .ref 98), (1, .int (Int32.ofInt 2)), (2, .int (Int32.ofInt 0)), (3, .int (Int32.ofInt 6))] ⟨rfl, rfl, rfl, rfl, trivial⟩ (ih.2.2.2.2.2.2.2.2.2.2.2.2.2.2.2.2.2.2.2.2.2.2.2.2.2.2.2.2.2.1 (Int32.ofInt 0) _ ci_0 (by omega) ex0 ex1 (Or.inr ⟨by omega, fun h => by unfold g_nm2 at h; omega⟩) (by omega))
            · refine h_iconst (pc' := 95) (x := (Int32.ofInt 1)) rfl rfl rfl ?_
              refine h_goto (pc' := 99) rfl rfl ?_
              refine h_istore_n (pc' := 100) (M := [(2, .int (Int32.ofInt 1)), (0, .ref 98), (1, .int (Int32.ofInt 2)), (3, .int (Int32.ofInt 5))]) rfl rfl rfl rfl ?_
              refine h_iinc (pc' := 103) (b := 6) (M := fun z18 => [(3, .int z18), (2, .int (Int32.ofInt 1)), (0, .ref 98), (1, .int (Int32.ofInt 2))]) rfl rfl rfl rfl ci_5 ci_1 rfl (by omega) (by omega) (fun _ => rfl) (fun z18 hz18 => ?_)
              refine h_goto (pc' := 51) rfl rfl ?_
              have qz18 : z18 = (Int32.ofInt 6) := h_lit hz18 ci_6
              subst qz18
              exact h_wk [(0, .ref 98), (1, .int (Int32.ofInt 2)), (2, .int (Int32.ofInt 1)), (3, .int (Int32.ofInt 6))] ⟨rfl, rfl, rfl, rfl, trivial⟩ (ih.2.2.2.2.2.2.2.2.2.2.2.2.2.2.2.2.2.2.2.2.2.2.2.2.2.2.2.2.2.1 (Int32.ofInt 1) _ ci_1 (by omega) ex0 ex1 (Or.inl ⟨by omega, by omega, by omega, by omega, by omega, by omega, by omega, by omega⟩) (by omega))
          · refine h_aload_n (pc' := 9) rfl rfl rfl ?_
            refine h_getR (pc' := 12) rfl rfl rfl rfl rfl ?_
            refine h_iload_n (pc' := 13) rfl rfl rfl ?_
            refine h_iald (pc' := 14) (v := σ 102 ((σ 98 16) + 5)) rfl rfl rfl hz10 (by omega) (by omega) rfl (fun z19 hz19 => ?_)
            have tz19 := ty_102 hI ((σ 98 16) + 5)
            refine h_goto (pc' := 19) rfl rfl ?_
            refine h_iret rfl rfl (h_Kv ?_)
            refine h_aload_n (pc' := 79) rfl rfl rfl ?_
            refine h_getR (pc' := 82) rfl rfl rfl rfl rfl ?_
            refine h_aload_n (pc' := 83) rfl rfl rfl ?_
            refine h_getR (pc' := 86) rfl rfl rfl rfl rfl ?_
            refine h_iload_n (pc' := 87) rfl rfl rfl ?_
            refine h_iald (pc' := 88) (v := 12) rfl rfl rfl ci_2 (by omega) (by omega) (tx_103_2 hI) (fun z20 hz20 => ?_)
            refine h_iload_n (pc' := 89) rfl rfl rfl ?_
            refine h_iadd (pc' := 90) rfl rfl hz20 ci_5 rfl (by omega) (by omega) (fun z21 hz21 => ?_)
            refine h_iald (pc' := 91) (v := σ 104 (12 + 5)) rfl rfl rfl hz21 (by omega) (by omega) rfl (fun z22 hz22 => ?_)
            have tz22 := ty_104 hI (12 + 5)
            refine h_cne (tg := 98) (pc' := 94) rfl rfl rfl hz19 hz22 (fun c23 => ?_) (fun c23 => ?_)
            · refine h_iconst (pc' := 99) (x := (Int32.ofInt 0)) rfl rfl rfl ?_
              refine h_istore_n (pc' := 100) (M := [(2, .int (Int32.ofInt 0)), (0, .ref 98), (1, .int (Int32.ofInt 2)), (3, .int (Int32.ofInt 5))]) rfl rfl rfl rfl ?_
              refine h_iinc (pc' := 103) (b := 6) (M := fun z24 => [(3, .int z24), (2, .int (Int32.ofInt 0)), (0, .ref 98), (1, .int (Int32.ofInt 2))]) rfl rfl rfl rfl ci_5 ci_1 rfl (by omega) (by omega) (fun _ => rfl) (fun z24 hz24 => ?_)
              refine h_goto (pc' := 51) rfl rfl ?_
              have qz24 : z24 = (Int32.ofInt 6) := h_lit hz24 ci_6
              subst qz24
              exact h_wk [(0, .ref 98), (1, .int (Int32.ofInt 2)), (2, .int (Int32.ofInt 0)), (3, .int (Int32.ofInt 6))] ⟨rfl, rfl, rfl, rfl, trivial⟩ (ih.2.2.2.2.2.2.2.2.2.2.2.2.2.2.2.2.2.2.2.2.2.2.2.2.2.2.2.2.2.1 (Int32.ofInt 0) _ ci_0 (by omega) ex0 ex1 (Or.inr ⟨by omega, fun h => by unfold g_nm2 at h; omega⟩) (by omega))
            · refine h_iconst (pc' := 95) (x := (Int32.ofInt 1)) rfl rfl rfl ?_
              refine h_goto (pc' := 99) rfl rfl ?_
              refine h_istore_n (pc' := 100) (M := [(2, .int (Int32.ofInt 1)), (0, .ref 98), (1, .int (Int32.ofInt 2)), (3, .int (Int32.ofInt 5))]) rfl rfl rfl rfl ?_
              refine h_iinc (pc' := 103) (b := 6) (M := fun z25 => [(3, .int z25), (2, .int (Int32.ofInt 1)), (0, .ref 98), (1, .int (Int32.ofInt 2))]) rfl rfl rfl rfl ci_5 ci_1 rfl (by omega) (by omega) (fun _ => rfl) (fun z25 hz25 => ?_)
              refine h_goto (pc' := 51) rfl rfl ?_
              have qz25 : z25 = (Int32.ofInt 6) := h_lit hz25 ci_6
              subst qz25
              exact h_wk [(0, .ref 98), (1, .int (Int32.ofInt 2)), (2, .int (Int32.ofInt 1)), (3, .int (Int32.ofInt 6))] ⟨rfl, rfl, rfl, rfl, trivial⟩ (ih.2.2.2.2.2.2.2.2.2.2.2.2.2.2.2.2.2.2.2.2.2.2.2.2.2.2.2.2.2.1 (Int32.ofInt 1) _ ci_1 (by omega) ex0 ex1 (Or.inl ⟨by omega, by omega, by omega, by omega, by omega, by omega, by omega, by omega⟩) (by omega))
    · intro  y2 b2 hy2 ry2 ex0 ex1 ex2 hm; have gh0 := tf_98_11 hI; have gh1 := tf_98_15 hI; have gh2 := tf_98_16 hI
      refine h_iload_n (pc' := 52) rfl rfl rfl ?_
      refine h_zeq (tg := 106) (pc' := 55) rfl rfl rfl hy2 (fun c1 => ?_) (fun c1 => ?_)
      · refine h_iload_n (pc' := 107) rfl rfl rfl ?_
        refine h_zeq (tg := 112) (pc' := 110) rfl rfl rfl hy2 (fun c2 => ?_) (fun c2 => absurd c2 (by omega))
        refine h_iinc (pc' := 115) (b := 3) (M := fun z3 => [(1, .int z3), (0, .ref 98), (2, .int y2), (3, .int (Int32.ofInt 6))]) rfl rfl rfl rfl ci_2 ci_1 rfl (by omega) (by omega) (fun _ => rfl) (fun z3 hz3 => ?_)
        refine h_goto (pc' := 2) rfl rfl ?_
        have qz3 : z3 = (Int32.ofInt 3) := h_lit hz3 ci_3
        subst qz3
        exact h_wk [(0, .ref 98), (1, .int (Int32.ofInt 3)), (2, .int y2), (3, .int (Int32.ofInt 6))] ⟨rfl, rfl, rfl, rfl, trivial⟩ (ih.2.2.2.1 y2 _ hy2 (by omega) (Int32.ofInt 6) _ ci_6 (by omega) ex0 ex1 (ex2.elim (fun h => absurd h.1 (by omega)) (fun h => h.2)) (by omega))
      · refine h_iload_n (pc' := 56) rfl rfl rfl ?_
        refine h_aload_n (pc' := 57) rfl rfl rfl ?_
        refine h_getI (pc' := 60) (v := σ 98 15) rfl rfl rfl rfl rfl rfl (fun z4 hz4 => ?_)
        have tz4 := tf_98_15 hI
        refine h_aload_n (pc' := 61) rfl rfl rfl ?_
        refine h_getI (pc' := 64) (v := σ 98 16) rfl rfl rfl rfl rfl rfl (fun z5 hz5 => ?_)
        have tz5 := tf_98_16 hI
        refine h_isub (pc' := 65) rfl rfl hz4 hz5 rfl (by omega) (by omega) (fun z6 hz6 => ?_)
        refine h_cge (tg := 106) (pc' := 68) rfl rfl rfl ci_6 hz6 (fun c7 => ?_) (fun c7 => ?_)
        · refine h_iload_n (pc' := 107) rfl rfl rfl ?_
          refine h_zeq (tg := 112) (pc' := 110) rfl rfl rfl hy2 (fun c8 => absurd c8 (by omega)) (fun c8 => ?_)
          refine h_iload_n (pc' := 111) rfl rfl rfl ?_
          exact h_iret rfl rfl (kk _ _ ci_2 (by omega) (fun _ => (Or.inr (Or.inr (Or.inr (Or.inl ⟨rfl, ex0, ex1, ⟨by omega, by omega, by omega, by omega, by omega, by omega, by omega, by omega⟩⟩))))) (Or.inl (by omega)))
        · refine h_aload_n (pc' := 69) rfl rfl rfl ?_
          refine h_aload_n (pc' := 70) rfl rfl rfl ?_
          refine h_getI (pc' := 73) (v := σ 98 16) rfl rfl rfl rfl rfl rfl (fun z9 hz9 => ?_)
          have tz9 := tf_98_16 hI
          refine h_iload_n (pc' := 74) rfl rfl rfl ?_
          refine h_iadd (pc' := 75) rfl rfl hz9 ci_6 rfl (by omega) (by omega) (fun z10 hz10 => ?_)
          refine h_call (sp := false) (pc' := 78) (M := [(0, .ref 98), (1, .int z10)]) rfl rfl rfl rfl rfl rfl rfl rfl ?_
          refine h_iload_n (pc' := 1) rfl rfl rfl ?_
          refine h_aload_n (pc' := 2) rfl rfl rfl ?_
          refine h_getI (pc' := 5) (v := σ 98 11) rfl rfl rfl rfl rfl rfl (fun z11 hz11 => ?_)
          have tz11 := tf_98_11 hI
          refine h_cge (tg := 17) (pc' := 8) rfl rfl rfl hz10 hz11 (fun c12 => ?_) (fun c12 => ?_)
          · refine h_bipush (pc' := 19) (x := (Int32.ofInt (-4))) rfl rfl cb_m4 ?_
            refine h_iret rfl rfl (h_Kv ?_)
            refine h_aload_n (pc' := 79) rfl rfl rfl ?_
            refine h_getR (pc' := 82) rfl rfl rfl rfl rfl ?_
            refine h_aload_n (pc' := 83) rfl rfl rfl ?_
            refine h_getR (pc' := 86) rfl rfl rfl rfl rfl ?_
            refine h_iload_n (pc' := 87) rfl rfl rfl ?_
            refine h_iald (pc' := 88) (v := 12) rfl rfl rfl ci_2 (by omega) (by omega) (tx_103_2 hI) (fun z13 hz13 => ?_)
            refine h_iload_n (pc' := 89) rfl rfl rfl ?_
            refine h_iadd (pc' := 90) rfl rfl hz13 ci_6 rfl (by omega) (by omega) (fun z14 hz14 => ?_)
            refine h_iald (pc' := 91) (v := σ 104 (12 + 6)) rfl rfl rfl hz14 (by omega) (by omega) rfl (fun z15 hz15 => ?_)
            have tz15 := ty_104 hI (12 + 6)
            refine h_cne (tg := 98) (pc' := 94) rfl rfl rfl ci_m4 hz15 (fun c16 => ?_) (fun c16 => ?_)
            · refine h_iconst (pc' := 99) (x := (Int32.ofInt 0)) rfl rfl rfl ?_
              refine h_istore_n (pc' := 100) (M := [(2, .int (Int32.ofInt 0)), (0, .ref 98), (1, .int (Int32.ofInt 2)), (3, .int (Int32.ofInt 6))]) rfl rfl rfl rfl ?_
              refine h_iinc (pc' := 103) (b := 7) (M := fun z17 => [(3, .int z17), (2, .int (Int32.ofInt 0)), (0, .ref 98), (1, .int (Int32.ofInt 2))]) rfl rfl rfl rfl ci_6 ci_1 rfl (by omega) (by omega) (fun _ => rfl) (fun z17 hz17 => ?_)
              refine h_goto (pc' := 51) rfl rfl ?_
              have qz17 : z17 = (Int32.ofInt 7) := h_lit hz17 ci_7
              subst qz17
              exact h_wk [(0, .ref 98), (1, .int (Int32.ofInt 2)), (2, .int (Int32.ofInt 0)), (3, .int (Int32.ofInt 7))] ⟨rfl, rfl, rfl, rfl, trivial⟩ (ih.2.2.2.2.2.2.2.2.2.2.2.2.2.2.2.2.2.2.2.2.2.2.2.2.2.2.2.2.2.2.1 (Int32.ofInt 0) _ ci_0 (by omega) ex0 ex1 (Or.inr ⟨by omega, fun h => by unfold g_nm2 at h; omega⟩) (by omega))
            · refine h_iconst (pc' := 95) (x := (Int32.ofInt 1)) rfl rfl rfl ?_
              refine h_goto (pc' := 99) rfl rfl ?_
              refine h_istore_n (pc' := 100) (M := [(2, .int (Int32.ofInt 1)), (0, .ref 98), (1, .int (Int32.ofInt 2)), (3, .int (Int32.ofInt 6))]) rfl rfl rfl rfl ?_
              refine h_iinc (pc' := 103) (b := 7) (M := fun z18 => [(3, .int z18), (2, .int (Int32.ofInt 1)), (0, .ref 98), (1, .int (Int32.ofInt 2))]) rfl rfl rfl rfl ci_6 ci_1 rfl (by omega) (by omega) (fun _ => rfl) (fun z18 hz18 => ?_)
              refine h_goto (pc' := 51) rfl rfl ?_
              have qz18 : z18 = (Int32.ofInt 7) := h_lit hz18 ci_7
              subst qz18
              exact h_wk [(0, .ref 98), (1, .int (Int32.ofInt 2)), (2, .int (Int32.ofInt 1)), (3, .int (Int32.ofInt 7))] ⟨rfl, rfl, rfl, rfl, trivial⟩ (ih.2.2.2.2.2.2.2.2.2.2.2.2.2.2.2.2.2.2.2.2.2.2.2.2.2.2.2.2.2.2.1 (Int32.ofInt 1) _ ci_1 (by omega) ex0 ex1 (Or.inl ⟨by omega, by omega, by omega, by omega, by omega, by omega, by omega, by omega, by omega⟩) (by omega))
          · refine h_aload_n (pc' := 9) rfl rfl rfl ?_
            refine h_getR (pc' := 12) rfl rfl rfl rfl rfl ?_
            refine h_iload_n (pc' := 13) rfl rfl rfl ?_
            refine h_iald (pc' := 14) (v := σ 102 ((σ 98 16) + 6)) rfl rfl rfl hz10 (by omega) (by omega) rfl (fun z19 hz19 => ?_)
            have tz19 := ty_102 hI ((σ 98 16) + 6)
            refine h_goto (pc' := 19) rfl rfl ?_
            refine h_iret rfl rfl (h_Kv ?_)
            refine h_aload_n (pc' := 79) rfl rfl rfl ?_
            refine h_getR (pc' := 82) rfl rfl rfl rfl rfl ?_
            refine h_aload_n (pc' := 83) rfl rfl rfl ?_
            refine h_getR (pc' := 86) rfl rfl rfl rfl rfl ?_
            refine h_iload_n (pc' := 87) rfl rfl rfl ?_
            refine h_iald (pc' := 88) (v := 12) rfl rfl rfl ci_2 (by omega) (by omega) (tx_103_2 hI) (fun z20 hz20 => ?_)
            refine h_iload_n (pc' := 89) rfl rfl rfl ?_
            refine h_iadd (pc' := 90) rfl rfl hz20 ci_6 rfl (by omega) (by omega) (fun z21 hz21 => ?_)
            refine h_iald (pc' := 91) (v := σ 104 (12 + 6)) rfl rfl rfl hz21 (by omega) (by omega) rfl (fun z22 hz22 => ?_)
            have tz22 := ty_104 hI (12 + 6)
            refine h_cne (tg := 98) (pc' := 94) rfl rfl rfl hz19 hz22 (fun c23 => ?_) (fun c23 => ?_)
            · refine h_iconst (pc' := 99) (x := (Int32.ofInt 0)) rfl rfl rfl ?_
              refine h_istore_n (pc' := 100) (M := [(2, .int (Int32.ofInt 0)), (0, .ref 98), (1, .int (Int32.ofInt 2)), (3, .int (Int32.ofInt 6))]) rfl rfl rfl rfl ?_
              refine h_iinc (pc' := 103) (b := 7) (M := fun z24 => [(3, .int z24), (2, .int (Int32.ofInt 0)), (0, .ref 98), (1, .int (Int32.ofInt 2))]) rfl rfl rfl rfl ci_6 ci_1 rfl (by omega) (by omega) (fun _ => rfl) (fun z24 hz24 => ?_)
              refine h_goto (pc' := 51) rfl rfl ?_
              have qz24 : z24 = (Int32.ofInt 7) := h_lit hz24 ci_7
              subst qz24
              exact h_wk [(0, .ref 98), (1, .int (Int32.ofInt 2)), (2, .int (Int32.ofInt 0)), (3, .int (Int32.ofInt 7))] ⟨rfl, rfl, rfl, rfl, trivial⟩ (ih.2.2.2.2.2.2.2.2.2.2.2.2.2.2.2.2.2.2.2.2.2.2.2.2.2.2.2.2.2.2.1 (Int32.ofInt 0) _ ci_0 (by omega) ex0 ex1 (Or.inr ⟨by omega, fun h => by unfold g_nm2 at h; omega⟩) (by omega))
            · refine h_iconst (pc' := 95) (x := (Int32.ofInt 1)) rfl rfl rfl ?_
              refine h_goto (pc' := 99) rfl rfl ?_
              refine h_istore_n (pc' := 100) (M := [(2, .int (Int32.ofInt 1)), (0, .ref 98), (1, .int (Int32.ofInt 2)), (3, .int (Int32.ofInt 6))]) rfl rfl rfl rfl ?_
              refine h_iinc (pc' := 103) (b := 7) (M := fun z25 => [(3, .int z25), (2, .int (Int32.ofInt 1)), (0, .ref 98), (1, .int (Int32.ofInt 2))]) rfl rfl rfl rfl ci_6 ci_1 rfl (by omega) (by omega) (fun _ => rfl) (fun z25 hz25 => ?_)
              refine h_goto (pc' := 51) rfl rfl ?_
              have qz25 : z25 = (Int32.ofInt 7) := h_lit hz25 ci_7
              subst qz25
              exact h_wk [(0, .ref 98), (1, .int (Int32.ofInt 2)), (2, .int (Int32.ofInt 1)), (3, .int (Int32.ofInt 7))] ⟨rfl, rfl, rfl, rfl, trivial⟩ (ih.2.2.2.2.2.2.2.2.2.2.2.2.2.2.2.2.2.2.2.2.2.2.2.2.2.2.2.2.2.2.1 (Int32.ofInt 1) _ ci_1 (by omega) ex0 ex1 (Or.inl ⟨by omega, by omega, by omega, by omega, by omega, by omega, by omega, by omega, by omega⟩) (by omega))
    · intro  y2 b2 hy2 ry2 ex0 ex1 ex2 hm; have gh0 := tf_98_11 hI; have gh1 := tf_98_15 hI; have gh2 := tf_98_16 hI
      refine h_iload_n (pc' := 52) rfl rfl rfl ?_
      refine h_zeq (tg := 106) (pc' := 55) rfl rfl rfl hy2 (fun c1 => ?_) (fun c1 => ?_)
      · refine h_iload_n (pc' := 107) rfl rfl rfl ?_
        refine h_zeq (tg := 112) (pc' := 110) rfl rfl rfl hy2 (fun c2 => ?_) (fun c2 => absurd c2 (by omega))
        refine h_iinc (pc' := 115) (b := 3) (M := fun z3 => [(1, .int z3), (0, .ref 98), (2, .int y2), (3, .int (Int32.ofInt 7))]) rfl rfl rfl rfl ci_2 ci_1 rfl (by omega) (by omega) (fun _ => rfl) (fun z3 hz3 => ?_)
        refine h_goto (pc' := 2) rfl rfl ?_
        have qz3 : z3 = (Int32.ofInt 3) := h_lit hz3 ci_3
        subst qz3
        exact h_wk [(0, .ref 98), (1, .int (Int32.ofInt 3)), (2, .int y2), (3, .int (Int32.ofInt 7))] ⟨rfl, rfl, rfl, rfl, trivial⟩ (ih.2.2.2.1 y2 _ hy2 (by omega) (Int32.ofInt 7) _ ci_7 (by omega) ex0 ex1 (ex2.elim (fun h => absurd h.1 (by omega)) (fun h => h.2)) (by omega))
      · refine h_iload_n (pc' := 56) rfl rfl rfl ?_
        refine h_aload_n (pc' := 57) rfl rfl rfl ?_
        refine h_getI (pc' := 60) (v := σ 98 15) rfl rfl rfl rfl rfl rfl (fun z4 hz4 => ?_)
        have tz4 := tf_98_15 hI
        refine h_aload_n (pc' := 61) rfl rfl rfl ?_
        refine h_getI (pc' := 64) (v := σ 98 16) rfl rfl rfl rfl rfl rfl (fun z5 hz5 => ?_)
        have tz5 := tf_98_16 hI
        refine h_isub (pc' := 65) rfl rfl hz4 hz5 rfl (by omega) (by omega) (fun z6 hz6 => ?_)
        refine h_cge (tg := 106) (pc' := 68) rfl rfl rfl ci_7 hz6 (fun c7 => ?_) (fun c7 => ?_)
        · refine h_iload_n (pc' := 107) rfl rfl rfl ?_
          refine h_zeq (tg := 112) (pc' := 110) rfl rfl rfl hy2 (fun c8 => absurd c8 (by omega)) (fun c8 => ?_)
          refine h_iload_n (pc' := 111) rfl rfl rfl ?_
          exact h_iret rfl rfl (kk _ _ ci_2 (by omega) (fun _ => (Or.inr (Or.inr (Or.inr (Or.inl ⟨rfl, ex0, ex1, ⟨by omega, by omega, by omega, by omega, by omega, by omega, by omega, by omega⟩⟩))))) (Or.inl (by omega)))
        · exfalso; omega
    · intro  y2 b2 hy2 ry2 ex0 ex1 ex2 ex3 hm; have gh0 := tf_98_11 hI; have gh1 := tf_98_15 hI; have gh2 := tf_98_16 hI
      refine h_iload_n (pc' := 52) rfl rfl rfl ?_
      refine h_zeq (tg := 106) (pc' := 55) rfl rfl rfl hy2 (fun c1 => ?_) (fun c1 => ?_)
      · refine h_iload_n (pc' := 107) rfl rfl rfl ?_
        refine h_zeq (tg := 112) (pc' := 110) rfl rfl rfl hy2 (fun c2 => ?_) (fun c2 => absurd c2 (by omega))
        refine h_iinc (pc' := 115) (b := 4) (M := fun z3 => [(1, .int z3), (0, .ref 98), (2, .int y2), (3, .int (Int32.ofInt 0))]) rfl rfl rfl rfl ci_3 ci_1 rfl (by omega) (by omega) (fun _ => rfl) (fun z3 hz3 => ?_)
        refine h_goto (pc' := 2) rfl rfl ?_
        have qz3 : z3 = (Int32.ofInt 4) := h_lit hz3 ci_4
        subst qz3
        exact h_wk [(0, .ref 98), (1, .int (Int32.ofInt 4)), (2, .int y2), (3, .int (Int32.ofInt 0))] ⟨rfl, rfl, rfl, rfl, trivial⟩ (ih.2.2.2.2.1 y2 _ hy2 (by omega) (Int32.ofInt 0) _ ci_0 (by omega) ex0 ex1 ex2 (ex3.elim (fun h => absurd h.1 (by omega)) (fun h => h.2)) (by omega))
      · refine h_iload_n (pc' := 56) rfl rfl rfl ?_
        refine h_aload_n (pc' := 57) rfl rfl rfl ?_
        refine h_getI (pc' := 60) (v := σ 98 15) rfl rfl rfl rfl rfl rfl (fun z4 hz4 => ?_)
        have tz4 := tf_98_15 hI
        refine h_aload_n (pc' := 61) rfl rfl rfl ?_
        refine h_getI (pc' := 64) (v := σ 98 16) rfl rfl rfl rfl rfl rfl (fun z5 hz5 => ?_)
        have tz5 := tf_98_16 hI
        refine h_isub (pc' := 65) rfl rfl hz4 hz5 rfl (by omega) (by omega) (fun z6 hz6 => ?_)
        refine h_cge (tg := 106) (pc' := 68) rfl rfl rfl ci_0 hz6 (fun c7 => ?_) (fun c7 => ?_)
        · refine h_iload_n (pc' := 107) rfl rfl rfl ?_
          refine h_zeq (tg := 112) (pc' := 110) rfl rfl rfl hy2 (fun c8 => absurd c8 (by omega)) (fun c8 => ?_)
          refine h_iload_n (pc' := 111) rfl rfl rfl ?_
          exact h_iret rfl rfl (kk _ _ ci_3 (by omega) (fun _ => (Or.inr (Or.inr (Or.inr (Or.inr (Or.inl ⟨rfl, ex0, ex1, ex2, ⟨by omega, by omega, by omega, by omega, by omega, by omega, by omega, by omega, by omega⟩⟩)))))) (Or.inl (by omega)))
        · refine h_aload_n (pc' := 69) rfl rfl rfl ?_
          refine h_aload_n (pc' := 70) rfl rfl rfl ?_
          refine h_getI (pc' := 73) (v := σ 98 16) rfl rfl rfl rfl rfl rfl (fun z9 hz9 => ?_)
          have tz9 := tf_98_16 hI
          refine h_iload_n (pc' := 74) rfl rfl rfl ?_
          refine h_iadd (pc' := 75) rfl rfl hz9 ci_0 rfl (by omega) (by omega) (fun z10 hz10 => ?_)
          refine h_call (sp := false) (pc' := 78) (M := [(0, .ref 98), (1, .int z10)]) rfl rfl rfl rfl rfl rfl rfl rfl ?_
          refine h_iload_n (pc' := 1) rfl rfl rfl ?_
          refine h_aload_n (pc' := 2) rfl rfl rfl ?_
          refine h_getI (pc' := 5) (v := σ 98 11) rfl rfl rfl rfl rfl rfl (fun z11 hz11 => ?_)
          have tz11 := tf_98_11 hI
          refine h_cge (tg := 17) (pc' := 8) rfl rfl rfl hz10 hz11 (fun c12 => ?_) (fun c12 => ?_)
          · refine h_bipush (pc' := 19) (x := (Int32.ofInt (-4))) rfl rfl cb_m4 ?_
            refine h_iret rfl rfl (h_Kv ?_)
            refine h_aload_n (pc' := 79) rfl rfl rfl ?_
            refine h_getR (pc' := 82) rfl rfl rfl rfl rfl ?_
            refine h_aload_n (pc' := 83) rfl rfl rfl ?_
            refine h_getR (pc' := 86) rfl rfl rfl rfl rfl ?_
            refine h_iload_n (pc' := 87) rfl rfl rfl ?_
            refine h_iald (pc' := 88) (v := 19) rfl rfl rfl ci_3 (by omega) (by omega) (tx_103_3 hI) (fun z13 hz13 => ?_)
            refine h_iload_n (pc' := 89) rfl rfl rfl ?_
            refine h_iadd (pc' := 90) rfl rfl hz13 ci_0 rfl (by omega) (by omega) (fun z14 hz14 => ?_)
            refine h_iald (pc' := 91) (v := σ 104 (19 + 0)) rfl rfl rfl hz14 (by omega) (by omega) rfl (fun z15 hz15 => ?_)
            have tz15 := ty_104 hI (19 + 0)
            refine h_cne (tg := 98) (pc' := 94) rfl rfl rfl ci_m4 hz15 (fun c16 => ?_) (fun c16 => ?_)
            · refine h_iconst (pc' := 99) (x := (Int32.ofInt 0)) rfl rfl rfl ?_
              refine h_istore_n (pc' := 100) (M := [(2, .int (Int32.ofInt 0)), (0, .ref 98), (1, .int (Int32.ofInt 3)), (3, .int (Int32.ofInt 0))]) rfl rfl rfl rfl ?_
              refine h_iinc (pc' := 103) (b := 1) (M := fun z17 => [(3, .int z17), (2, .int (Int32.ofInt 0)), (0, .ref 98), (1, .int (Int32.ofInt 3))]) rfl rfl rfl rfl ci_0 ci_1 rfl (by omega) (by omega) (fun _ => rfl) (fun z17 hz17 => ?_)
              refine h_goto (pc' := 51) rfl rfl ?_
              have qz17 : z17 = (Int32.ofInt 1) := h_lit hz17 ci_1
              subst qz17
              exact h_wk [(0, .ref 98), (1, .int (Int32.ofInt 3)), (2, .int (Int32.ofInt 0)), (3, .int (Int32.ofInt 1))] ⟨rfl, rfl, rfl, rfl, trivial⟩ (ih.2.2.2.2.2.2.2.2.2.2.2.2.2.2.2.2.2.2.2.2.2.2.2.2.2.2.2.2.2.2.2.2.1 (Int32.ofInt 0) _ ci_0 (by omega) ex0 ex1 ex2 (Or.inr ⟨by omega, fun h => by unfold g_nm3 at h; omega⟩) (by omega))
            · refine h_iconst (pc' := 95) (x := (Int32.ofInt 1)) rfl rfl rfl ?_
              refine h_goto (pc' := 99) rfl rfl ?_
              refine h_istore_n (pc' := 100) (M := [(2, .int (Int32.ofInt 1)), (0, .ref 98), (1, .int (Int32.ofInt 3)), (3, .int (Int32.ofInt 0))]) rfl rfl rfl rfl ?_
              refine h_iinc (pc' := 103) (b := 1) (M := fun z18 => [(3, .int z18), (2, .int (Int32.ofInt 1)), (0, .ref 98), (1, .int (Int32.ofInt 3))]) rfl rfl rfl rfl ci_0 ci_1 rfl (by omega) (by omega) (fun _ => rfl) (fun z18 hz18 => ?_)
              refine h_goto (pc' := 51) rfl rfl ?_
              have qz18 : z18 = (Int32.ofInt 1) := h_lit hz18 ci_1
              subst qz18
              exact h_wk [(0, .ref 98), (1, .int (Int32.ofInt 3)), (2, .int (Int32.ofInt 1)), (3, .int (Int32.ofInt 1))] ⟨rfl, rfl, rfl, rfl, trivial⟩ (ih.2.2.2.2.2.2.2.2.2.2.2.2.2.2.2.2.2.2.2.2.2.2.2.2.2.2.2.2.2.2.2.2.1 (Int32.ofInt 1) _ ci_1 (by omega) ex0 ex1 ex2 (Or.inl ⟨by omega, by omega, by omega⟩) (by omega))
          · refine h_aload_n (pc' := 9) rfl rfl rfl ?_
            refine h_getR (pc' := 12) rfl rfl rfl rfl rfl ?_
            refine h_iload_n (pc' := 13) rfl rfl rfl ?_
            refine h_iald (pc' := 14) (v := σ 102 ((σ 98 16) + 0)) rfl rfl rfl hz10 (by omega) (by omega) rfl (fun z19 hz19 => ?_)
            have tz19 := ty_102 hI ((σ 98 16) + 0)
            refine h_goto (pc' := 19) rfl rfl ?_
            refine h_iret rfl rfl (h_Kv ?_)
            refine h_aload_n (pc' := 79) rfl rfl rfl ?_
            refine h_getR (pc' := 82) rfl rfl rfl rfl rfl ?_
            refine h_aload_n (pc' := 83) rfl rfl rfl ?_
            refine h_getR (pc' := 86) rfl rfl rfl rfl rfl ?_
            refine h_iload_n (pc' := 87) rfl rfl rfl ?_
            refine h_iald (pc' := 88) (v := 19) rfl rfl rfl ci_3 (by omega) (by omega) (tx_103_3 hI) (fun z20 hz20 => ?_)
            refine h_iload_n (pc' := 89) rfl rfl rfl ?_
            refine h_iadd (pc' := 90) rfl rfl hz20 ci_0 rfl (by omega) (by omega) (fun z21 hz21 => ?_)
            refine h_iald (pc' := 91) (v := σ 104 (19 + 0)) rfl rfl rfl hz21 (by omega) (by omega) rfl (fun z22 hz22 => ?_)
            have tz22 := ty_104 hI (19 + 0)
            refine h_cne (tg := 98) (pc' := 94) rfl rfl rfl hz19 hz22 (fun c23 => ?_) (fun c23 => ?_)
            · refine h_iconst (pc' := 99) (x := (Int32.ofInt 0)) rfl rfl rfl ?_
              refine h_istore_n (pc' := 100) (M := [(2, .int (Int32.ofInt 0)), (0, .ref 98), (1, .int (Int32.ofInt 3)), (3, .int (Int32.ofInt 0))]) rfl rfl rfl rfl ?_
              refine h_iinc (pc' := 103) (b := 1) (M := fun z24 => [(3, .int z24), (2, .int (Int32.ofInt 0)), (0, .ref 98), (1, .int (Int32.ofInt 3))]) rfl rfl rfl rfl ci_0 ci_1 rfl (by omega) (by omega) (fun _ => rfl) (fun z24 hz24 => ?_)
              refine h_goto (pc' := 51) rfl rfl ?_
              have qz24 : z24 = (Int32.ofInt 1) := h_lit hz24 ci_1
              subst qz24
              exact h_wk [(0, .ref 98), (1, .int (Int32.ofInt 3)), (2, .int (Int32.ofInt 0)), (3, .int (Int32.ofInt 1))] ⟨rfl, rfl, rfl, rfl, trivial⟩ (ih.2.2.2.2.2.2.2.2.2.2.2.2.2.2.2.2.2.2.2.2.2.2.2.2.2.2.2.2.2.2.2.2.1 (Int32.ofInt 0) _ ci_0 (by omega) ex0 ex1 ex2 (Or.inr ⟨by omega, fun h => by unfold g_nm3 at h; omega⟩) (by omega))
            · refine h_iconst (pc' := 95) (x := (Int32.ofInt 1)) rfl rfl rfl ?_
              refine h_goto (pc' := 99) rfl rfl ?_
              refine h_istore_n (pc' := 100) (M := [(2, .int (Int32.ofInt 1)), (0, .ref 98), (1, .int (Int32.ofInt 3)), (3, .int (Int32.ofInt 0))]) rfl rfl rfl rfl ?_
              refine h_iinc (pc' := 103) (b := 1) (M := fun z25 => [(3, .int z25), (2, .int (Int32.ofInt 1)), (0, .ref 98), (1, .int (Int32.ofInt 3))]) rfl rfl rfl rfl ci_0 ci_1 rfl (by omega) (by omega) (fun _ => rfl) (fun z25 hz25 => ?_)
              refine h_goto (pc' := 51) rfl rfl ?_
              have qz25 : z25 = (Int32.ofInt 1) := h_lit hz25 ci_1
              subst qz25
              exact h_wk [(0, .ref 98), (1, .int (Int32.ofInt 3)), (2, .int (Int32.ofInt 1)), (3, .int (Int32.ofInt 1))] ⟨rfl, rfl, rfl, rfl, trivial⟩ (ih.2.2.2.2.2.2.2.2.2.2.2.2.2.2.2.2.2.2.2.2.2.2.2.2.2.2.2.2.2.2.2.2.1 (Int32.ofInt 1) _ ci_1 (by omega) ex0 ex1 ex2 (Or.inl ⟨by omega, by omega, by omega⟩) (by omega))
    · intro  y2 b2 hy2 ry2 ex0 ex1 ex2 ex3 hm; have gh0 := tf_98_11 hI; have gh1 := tf_98_15 hI; have gh2 := tf_98_16 hI
      refine h_iload_n (pc' := 52) rfl rfl rfl ?_
      refine h_zeq (tg := 106) (pc' := 55) rfl rfl rfl hy2 (fun c1 => ?_) (fun c1 => ?_)
      · refine h_iload_n (pc' := 107) rfl rfl rfl ?_
        refine h_zeq (tg := 112) (pc' := 110) rfl rfl rfl hy2 (fun c2 => ?_) (fun c2 => absurd c2 (by omega))
        refine h_iinc (pc' := 115) (b := 4) (M := fun z3 => [(1, .int z3), (0, .ref 98), (2, .int y2), (3, .int (Int32.ofInt 1))]) rfl rfl rfl rfl ci_3 ci_1 rfl (by omega) (by omega) (fun _ => rfl) (fun z3 hz3 => ?_)
        refine h_goto (pc' := 2) rfl rfl ?_
        have qz3 : z3 = (Int32.ofInt 4) := h_lit hz3 ci_4
        subst qz3
        exact h_wk [(0, .ref 98), (1, .int (Int32.ofInt 4)), (2, .int y2), (3, .int (Int32.ofInt 1))] ⟨rfl, rfl, rfl, rfl, trivial⟩ (ih.2.2.2.2.1 y2 _ hy2 (by omega) (Int32.ofInt 1) _ ci_1 (by omega) ex0 ex1 ex2 (ex3.elim (fun h => absurd h.1 (by omega)) (fun h => h.2)) (by omega))
      · refine h_iload_n (pc' := 56) rfl rfl rfl ?_
        refine h_aload_n (pc' := 57) rfl rfl rfl ?_
        refine h_getI (pc' := 60) (v := σ 98 15) rfl rfl rfl rfl rfl rfl (fun z4 hz4 => ?_)
        have tz4 := tf_98_15 hI
        refine h_aload_n (pc' := 61) rfl rfl rfl ?_
        refine h_getI (pc' := 64) (v := σ 98 16) rfl rfl rfl rfl rfl rfl (fun z5 hz5 => ?_)
        have tz5 := tf_98_16 hI
        refine h_isub (pc' := 65) rfl rfl hz4 hz5 rfl (by omega) (by omega) (fun z6 hz6 => ?_)
        refine h_cge (tg := 106) (pc' := 68) rfl rfl rfl ci_1 hz6 (fun c7 => ?_) (fun c7 => ?_)
        · refine h_iload_n (pc' := 107) rfl rfl rfl ?_
          refine h_zeq (tg := 112) (pc' := 110) rfl rfl rfl hy2 (fun c8 => absurd c8 (by omega)) (fun c8 => ?_)
          refine h_iload_n (pc' := 111) rfl rfl rfl ?_
          exact h_iret rfl rfl (kk _ _ ci_3 (by omega) (fun _ => (Or.inr (Or.inr (Or.inr (Or.inr (Or.inl ⟨rfl, ex0, ex1, ex2, ⟨by omega, by omega, by omega, by omega, by omega, by omega, by omega, by omega, by omega⟩⟩)))))) (Or.inl (by omega)))
        · refine h_aload_n (pc' := 69) rfl rfl rfl ?_
          refine h_aload_n (pc' := 70) rfl rfl rfl ?_
          refine h_getI (pc' := 73) (v := σ 98 16) rfl rfl rfl rfl rfl rfl (fun z9 hz9 => ?_)
          have tz9 := tf_98_16 hI
          refine h_iload_n (pc' := 74) rfl rfl rfl ?_
          refine h_iadd (pc' := 75) rfl rfl hz9 ci_1 rfl (by omega) (by omega) (fun z10 hz10 => ?_)
          refine h_call (sp := false) (pc' := 78) (M := [(0, .ref 98), (1, .int z10)]) rfl rfl rfl rfl rfl rfl rfl rfl ?_
          refine h_iload_n (pc' := 1) rfl rfl rfl ?_
          refine h_aload_n (pc' := 2) rfl rfl rfl ?_
          refine h_getI (pc' := 5) (v := σ 98 11) rfl rfl rfl rfl rfl rfl (fun z11 hz11 => ?_)
          have tz11 := tf_98_11 hI
          refine h_cge (tg := 17) (pc' := 8) rfl rfl rfl hz10 hz11 (fun c12 => ?_) (fun c12 => ?_)
          · refine h_bipush (pc' := 19) (x := (Int32.ofInt (-4))) rfl rfl cb_m4 ?_
            refine h_iret rfl rfl (h_Kv ?_)
            refine h_aload_n (pc' := 79) rfl rfl rfl ?_
            refine h_getR (pc' := 82) rfl rfl rfl rfl rfl ?_
            refine h_aload_n (pc' := 83) rfl rfl rfl ?_
            refine h_getR (pc' := 86) rfl rfl rfl rfl rfl ?_
            refine h_iload_n (pc' := 87) rfl rfl rfl ?_
            refine h_iald (pc' := 88) (v := 19) rfl rfl rfl ci_3 (by omega) (by omega) (tx_103_3 hI) (fun z13 hz13 => ?_)
            refine h_iload_n (pc' := 89) rfl rfl rfl ?_
            refine h_iadd (pc' := 90) rfl rfl hz13 ci_1 rfl (by omega) (by omega) (fun z14 hz14 => ?_)
            refine h_iald (pc' := 91) (v := σ 104 (19 + 1)) rfl rfl rfl hz14 (by omega) (by omega) rfl (fun z15 hz15 => ?_)
            have tz15 := ty_104 hI (19 + 1)
            refine h_cne (tg := 98) (pc' := 94) rfl rfl rfl ci_m4 hz15 (fun c16 => ?_) (fun c16 => ?_)
            · refine h_iconst (pc' := 99) (x := (Int32.ofInt 0)) rfl rfl rfl ?_
              refine h_istore_n (pc' := 100) (M := [(2, .int (Int32.ofInt 0)), (0, .ref 98), (1, .int (Int32.ofInt 3)), (3, .int (Int32.ofInt 1))]) rfl rfl rfl rfl ?_
              refine h_iinc (pc' := 103) (b := 2) (M := fun z17 => [(3, .int z17), (2, .int (Int32.ofInt 0)), (0, .ref 98), (1, .int (Int32.ofInt 3))]) rfl rfl rfl rfl ci_1 ci_1 rfl (by omega) (by omega) (fun _ => rfl) (fun z17 hz17 => ?_)
              refine h_goto (pc' := 51) rfl rfl ?_
              have qz17 : z17 = (Int32.ofInt 2) := h_lit hz17 ci_2
              subst qz17
              exact h_wk [(0, .ref 98), (1, .int (Int32.ofInt 3)), (2, .int (Int32.ofInt 0)), (3, .int (Int32.ofInt 2))] ⟨rfl, rfl, rfl, rfl, trivial⟩ (ih.2.2.2.2.2.2.2.2.2.2.2.2.2.2.2.2.2.2.2.2.2.2.2.2.2.2.2.2.2.2.2.2.2.1 (Int32.ofInt 0) _ ci_0 (by omega) ex0 ex1 ex2 (Or.inr ⟨by omega, fun h => by unfold g_nm3 at h; omega⟩) (by omega))
            · refine h_iconst (pc' := 95) (x := (Int32.ofInt 1)) rfl rfl rfl ?_
              refine h_goto (pc' := 99) rfl rfl ?_
              refine h_istore_n (pc' := 100) (M := [(2, .int (Int32.ofInt 1)), (0, .ref 98), (1, .int (Int32.ofInt 3)), (3, .int (Int32.ofInt 1))]) rfl rfl rfl rfl ?_
              refine h_iinc (pc' := 103) (b := 2) (M := fun z18 => [(3, .int z18), (2, .int (Int32.ofInt 1)), (0, .ref 98), (1, .int (Int32.ofInt 3))]) rfl rfl rfl rfl ci_1 ci_1 rfl (by omega) (by omega) (fun _ => rfl) (fun z18 hz18 => ?_)
              refine h_goto (pc' := 51) rfl rfl ?_
              have qz18 : z18 = (Int32.ofInt 2) := h_lit hz18 ci_2
              subst qz18
              exact h_wk [(0, .ref 98), (1, .int (Int32.ofInt 3)), (2, .int (Int32.ofInt 1)), (3, .int (Int32.ofInt 2))] ⟨rfl, rfl, rfl, rfl, trivial⟩ (ih.2.2.2.2.2.2.2.2.2.2.2.2.2.2.2.2.2.2.2.2.2.2.2.2.2.2.2.2.2.2.2.2.2.1 (Int32.ofInt 1) _ ci_1 (by omega) ex0 ex1 ex2 (Or.inl ⟨by omega, by omega, by omega, by omega⟩) (by omega))
          · refine h_aload_n (pc' := 9) rfl rfl rfl ?_
            refine h_getR (pc' := 12) rfl rfl rfl rfl rfl ?_
            refine h_iload_n (pc' := 13) rfl rfl rfl ?_
            refine h_iald (pc' := 14) (v := σ 102 ((σ 98 16) + 1)) rfl rfl rfl hz10 (by omega) (by omega) rfl (fun z19 hz19 => ?_)
            have tz19 := ty_102 hI ((σ 98 16) + 1)
            refine h_goto (pc' := 19) rfl rfl ?_
            refine h_iret rfl rfl (h_Kv ?_)
            refine h_aload_n (pc' := 79) rfl rfl rfl ?_
            refine h_getR (pc' := 82) rfl rfl rfl rfl rfl ?_
            refine h_aload_n (pc' := 83) rfl rfl rfl ?_
            refine h_getR (pc' := 86) rfl rfl rfl rfl rfl ?_
            refine h_iload_n (pc' := 87) rfl rfl rfl ?_
            refine h_iald (pc' := 88) (v := 19) rfl rfl rfl ci_3 (by omega) (by omega) (tx_103_3 hI) (fun z20 hz20 => ?_)
            refine h_iload_n (pc' := 89) rfl rfl rfl ?_
            refine h_iadd (pc' := 90) rfl rfl hz20 ci_1 rfl (by omega) (by omega) (fun z21 hz21 => ?_)
            refine h_iald (pc' := 91) (v := σ 104 (19 + 1)) rfl rfl rfl hz21 (by omega) (by omega) rfl (fun z22 hz22 => ?_)
            have tz22 := ty_104 hI (19 + 1)
            refine h_cne (tg := 98) (pc' := 94) rfl rfl rfl hz19 hz22 (fun c23 => ?_) (fun c23 => ?_)
            · refine h_iconst (pc' := 99) (x := (Int32.ofInt 0)) rfl rfl rfl ?_
              refine h_istore_n (pc' := 100) (M := [(2, .int (Int32.ofInt 0)), (0, .ref 98), (1, .int (Int32.ofInt 3)), (3, .int (Int32.ofInt 1))]) rfl rfl rfl rfl ?_
              refine h_iinc (pc' := 103) (b := 2) (M := fun z24 => [(3, .int z24), (2, .int (Int32.ofInt 0)), (0, .ref 98), (1, .int (Int32.ofInt 3))]) rfl rfl rfl rfl ci_1 ci_1 rfl (by omega) (by omega) (fun _ => rfl) (fun z24 hz24 => ?_)
              refine h_goto (pc' := 51) rfl rfl ?_
              have qz24 : z24 = (Int32.ofInt 2) := h_lit hz24 ci_2
              subst qz24
              exact h_wk [(0, .ref 98), (1, .int (Int32.ofInt 3)), (2, .int (Int32.ofInt 0)), (3, .int (Int32.ofInt 2))] ⟨rfl, rfl, rfl, rfl, trivial⟩ (ih.2.2.2.2.2.2.2.2.2.2.2.2.2.2.2.2.2.2.2.2.2.2.2.2.2.2.2.2.2.2.2.2.2.1 (Int32.ofInt 0) _ ci_0 (by omega) ex0 ex1 ex2 (Or.inr ⟨by omega, fun h => by unfold g_nm3 at h; omega⟩) (by omega))
            · refine h_iconst (pc' := 95) (x := (Int32.ofInt 1)) rfl rfl rfl ?_
              refine h_goto (pc' := 99) rfl rfl ?_
              refine h_istore_n (pc' := 100) (M := [(2, .int (Int32.ofInt 1)), (0, .ref 98), (1, .int (Int32.ofInt 3)), (3, .int (Int32.ofInt 1))]) rfl rfl rfl rfl ?_
              refine h_iinc (pc' := 103) (b := 2) (M := fun z25 => [(3, .int z25), (2, .int (Int32.ofInt 1)), (0, .ref 98), (1, .int (Int32.ofInt 3))]) rfl rfl rfl rfl ci_1 ci_1 rfl (by omega) (by omega) (fun _ => rfl) (fun z25 hz25 => ?_)
              refine h_goto (pc' := 51) rfl rfl ?_
              have qz25 : z25 = (Int32.ofInt 2) := h_lit hz25 ci_2
              subst qz25
              exact h_wk [(0, .ref 98), (1, .int (Int32.ofInt 3)), (2, .int (Int32.ofInt 1)), (3, .int (Int32.ofInt 2))] ⟨rfl, rfl, rfl, rfl, trivial⟩ (ih.2.2.2.2.2.2.2.2.2.2.2.2.2.2.2.2.2.2.2.2.2.2.2.2.2.2.2.2.2.2.2.2.2.1 (Int32.ofInt 1) _ ci_1 (by omega) ex0 ex1 ex2 (Or.inl ⟨by omega, by omega, by omega, by omega⟩) (by omega))
    · intro  y2 b2 hy2 ry2 ex0 ex1 ex2 ex3 hm; have gh0 := tf_98_11 hI; have gh1 := tf_98_15 hI; have gh2 := tf_98_16 hI
      refine h_iload_n (pc' := 52) rfl rfl rfl ?_
      refine h_zeq (tg := 106) (pc' := 55) rfl rfl rfl hy2 (fun c1 => ?_) (fun c1 => ?_)
      · refine h_iload_n (pc' := 107) rfl rfl rfl ?_
        refine h_zeq (tg := 112) (pc' := 110) rfl rfl rfl hy2 (fun c2 => ?_) (fun c2 => absurd c2 (by omega))
        refine h_iinc (pc' := 115) (b := 4) (M := fun z3 => [(1, .int z3), (0, .ref 98), (2, .int y2), (3, .int (Int32.ofInt 2))]) rfl rfl rfl rfl ci_3 ci_1 rfl (by omega) (by omega) (fun _ => rfl) (fun z3 hz3 => ?_)
        refine h_goto (pc' := 2) rfl rfl ?_
        have qz3 : z3 = (Int32.ofInt 4) := h_lit hz3 ci_4
        subst qz3
        exact h_wk [(0, .ref 98), (1, .int (Int32.ofInt 4)), (2, .int y2), (3, .int (Int32.ofInt 2))] ⟨rfl, rfl, rfl, rfl, trivial⟩ (ih.2.2.2.2.1 y2 _ hy2 (by omega) (Int32.ofInt 2) _ ci_2 (by omega) ex0 ex1 ex2 (ex3.elim (fun h => absurd h.1 (by omega)) (fun h => h.2)) (by omega))
      · refine h_iload_n (pc' := 56) rfl rfl rfl ?_
        refine h_aload_n (pc' := 57) rfl rfl rfl ?_
        refine h_getI (pc' := 60) (v := σ 98 15) rfl rfl rfl rfl rfl rfl (fun z4 hz4 => ?_)
        have tz4 := tf_98_15 hI
        refine h_aload_n (pc' := 61) rfl rfl rfl ?_
        refine h_getI (pc' := 64) (v := σ 98 16) rfl rfl rfl rfl rfl rfl (fun z5 hz5 => ?_)
        have tz5 := tf_98_16 hI
        refine h_isub (pc' := 65) rfl rfl hz4 hz5 rfl (by omega) (by omega) (fun z6 hz6 => ?_)
        refine h_cge (tg := 106) (pc' := 68) rfl rfl rfl ci_2 hz6 (fun c7 => ?_) (fun c7 => ?_)
        · refine h_iload_n (pc' := 107) rfl rfl rfl ?_
          refine h_zeq (tg := 112) (pc' := 110) rfl rfl rfl hy2 (fun c8 => absurd c8 (by omega)) (fun c8 => ?_)
          refine h_iload_n (pc' := 111) rfl rfl rfl ?_
          exact h_iret rfl rfl (kk _ _ ci_3 (by omega) (fun _ => (Or.inr (Or.inr (Or.inr (Or.inr (Or.inl ⟨rfl, ex0, ex1, ex2, ⟨by omega, by omega, by omega, by omega, by omega, by omega, by omega, by omega, by omega⟩⟩)))))) (Or.inl (by omega)))
        · refine h_aload_n (pc' := 69) rfl rfl rfl ?_
          refine h_aload_n (pc' := 70) rfl rfl rfl ?_
          refine h_getI (pc' := 73) (v := σ 98 16) rfl rfl rfl rfl rfl rfl (fun z9 hz9 => ?_)
          have tz9 := tf_98_16 hI
          refine h_iload_n (pc' := 74) rfl rfl rfl ?_
          refine h_iadd (pc' := 75) rfl rfl hz9 ci_2 rfl (by omega) (by omega) (fun z10 hz10 => ?_)
          refine h_call (sp := false) (pc' := 78) (M := [(0, .ref 98), (1, .int z10)]) rfl rfl rfl rfl rfl rfl rfl rfl ?_
          refine h_iload_n (pc' := 1) rfl rfl rfl ?_
          refine h_aload_n (pc' := 2) rfl rfl rfl ?_
          refine h_getI (pc' := 5) (v := σ 98 11) rfl rfl rfl rfl rfl rfl (fun z11 hz11 => ?_)
          have tz11 := tf_98_11 hI
          refine h_cge (tg := 17) (pc' := 8) rfl rfl rfl hz10 hz11 (fun c12 => ?_) (fun c12 => ?_)
          · refine h_bipush (pc' := 19) (x := (Int32.ofInt (-4))) rfl rfl cb_m4 ?_
            refine h_iret rfl rfl (h_Kv ?_)
            refine h_aload_n (pc' := 79) rfl rfl rfl ?_
            refine h_getR (pc' := 82) rfl rfl rfl rfl rfl ?_
            refine h_aload_n (pc' := 83) rfl rfl rfl ?_
            refine h_getR (pc' := 86) rfl rfl rfl rfl rfl ?_
            refine h_iload_n (pc' := 87) rfl rfl rfl ?_
            refine h_iald (pc' := 88) (v := 19) rfl rfl rfl ci_3 (by omega) (by omega) (tx_103_3 hI) (fun z13 hz13 => ?_)
            refine h_iload_n (pc' := 89) rfl rfl rfl ?_
            refine h_iadd (pc' := 90) rfl rfl hz13 ci_2 rfl (by omega) (by omega) (fun z14 hz14 => ?_)
            refine h_iald (pc' := 91) (v := σ 104 (19 + 2)) rfl rfl rfl hz14 (by omega) (by omega) rfl (fun z15 hz15 => ?_)
            have tz15 := ty_104 hI (19 + 2)
            refine h_cne (tg := 98) (pc' := 94) rfl rfl rfl ci_m4 hz15 (fun c16 => ?_) (fun c16 => ?_)
            · refine h_iconst (pc' := 99) (x := (Int32.ofInt 0)) rfl rfl rfl ?_
              refine h_istore_n (pc' := 100) (M := [(2, .int (Int32.ofInt 0)), (0, .ref 98), (1, .int (Int32.ofInt 3)), (3, .int (Int32.ofInt 2))]) rfl rfl rfl rfl ?_
              refine h_iinc (pc' := 103) (b := 3) (M := fun z17 => [(3, .int z17), (2, .int (Int32.ofInt 0)), (0, .ref 98), (1, .int (Int32.ofInt 3))]) rfl rfl rfl rfl ci_2 ci_1 rfl (by omega) (by omega) (fun _ => rfl) (fun z17 hz17 => ?_)
              refine h_goto (pc' := 51) rfl rfl ?_
              have qz17 : z17 = (Int32.ofInt 3) := h_lit hz17 ci_3
              subst qz17
              exact h_wk [(0, .ref 98), (1, .int (Int32.ofInt 3)), (2, .int (Int32.ofInt 0)), (3, .int (Int32.ofInt 3))] ⟨rfl, rfl, rfl, rfl, trivial⟩ (ih.2.2.2.2.2.2.2.2.2.2.2.2.2.2.2.2.2.2.2.2.2.2.2.2.2.2.2.2.2.2.2.2.2.2.1 (Int32.ofInt 0) _ ci_0 (by omega) ex0 ex1 ex2 (Or.inr ⟨by omega, fun h => by unfold g_nm3 at h; omega⟩) (by omega))
            · refine h_iconst (pc' := 95) (x := (Int32.ofInt 1)) rfl rfl rfl ?_
              refine h_goto (pc' := 99) rfl rfl ?_
              refine h_istore_n (pc' := 100) (M := [(2, .int (Int32.ofInt 1)), (0, .ref 98), (1, .int (Int32.ofInt 3)), (3, .int (Int32.ofInt 2))]) rfl rfl rfl rfl ?_
              refine h_iinc (pc' := 103) (b := 3) (M := fun z18 => [(3, .int z18), (2, .int (Int32.ofInt 1)), (0, .ref 98), (1, .int (Int32.ofInt 3))]) rfl rfl rfl rfl ci_2 ci_1 rfl (by omega) (by omega) (fun _ => rfl) (fun z18 hz18 => ?_)
              refine h_goto (pc' := 51) rfl rfl ?_
              have qz18 : z18 = (Int32.ofInt 3) := h_lit hz18 ci_3
              subst qz18
              exact h_wk [(0, .ref 98), (1, .int (Int32.ofInt 3)), (2, .int (Int32.ofInt 1)), (3, .int (Int32.ofInt 3))] ⟨rfl, rfl, rfl, rfl, trivial⟩ (ih.2.2.2.2.2.2.2.2.2.2.2.2.2.2.2.2.2.2.2.2.2.2.2.2.2.2.2.2.2.2.2.2.2.2.1 (Int32.ofInt 1) _ ci_1 (by omega) ex0 ex1 ex2 (Or.inl ⟨by omega, by omega, by omega, by omega, by omega⟩) (by omega))
          · refine h_aload_n (pc' := 9) rfl rfl rfl ?_
            refine h_getR (pc' := 12) rfl rfl rfl rfl rfl ?_
            refine h_iload_n (pc' := 13) rfl rfl rfl ?_
            refine h_iald (pc' := 14) (v := σ 102 ((σ 98 16) + 2)) rfl rfl rfl hz10 (by omega) (by omega) rfl (fun z19 hz19 => ?_)
            have tz19 := ty_102 hI ((σ 98 16) + 2)
            refine h_goto (pc' := 19) rfl rfl ?_
            refine h_iret rfl rfl (h_Kv ?_)
            refine h_aload_n (pc' := 79) rfl rfl rfl ?_
            refine h_getR (pc' := 82) rfl rfl rfl rfl rfl ?_
            refine h_aload_n (pc' := 83) rfl rfl rfl ?_
            refine h_getR (pc' := 86) rfl rfl rfl rfl rfl ?_
            refine h_iload_n (pc' := 87) rfl rfl rfl ?_
            refine h_iald (pc' := 88) (v := 19) rfl rfl rfl ci_3 (by omega) (by omega) (tx_103_3 hI) (fun z20 hz20 => ?_)
            refine h_iload_n (pc' := 89) rfl rfl rfl ?_
            refine h_iadd (pc' := 90) rfl rfl hz20 ci_2 rfl (by omega) (by omega) (fun z21 hz21 => ?_)
            refine h_iald (pc' := 91) (v := σ 104 (19 + 2)) rfl rfl rfl hz21 (by omega) (by omega) rfl (fun z22 hz22 => ?_)
            have tz22 := ty_104 hI (19 + 2)
            refine h_cne (tg := 98) (pc' := 94) rfl rfl rfl hz19 hz22 (fun c23 => ?_) (fun c23 => ?_)
            · refine h_iconst (pc' := 99) (x := (Int32.ofInt 0)) rfl rfl rfl ?_
              refine h_istore_n (pc' := 100) (M := [(2, .int (Int32.ofInt 0)), (0, .ref 98), (1, .int (Int32.ofInt 3)), (3, .int (Int32.ofInt 2))]) rfl rfl rfl rfl ?_
              refine h_iinc (pc' := 103) (b := 3) (M := fun z24 => [(3, .int z24), (2, .int (Int32.ofInt 0)), (0, .ref 98), (1, .int (Int32.ofInt 3))]) rfl rfl rfl rfl ci_2 ci_1 rfl (by omega) (by omega) (fun _ => rfl) (fun z24 hz24 => ?_)
              refine h_goto (pc' := 51) rfl rfl ?_
              have qz24 : z24 = (Int32.ofInt 3) := h_lit hz24 ci_3
              subst qz24
              exact h_wk [(0, .ref 98), (1, .int (Int32.ofInt 3)), (2, .int (Int32.ofInt 0)), (3, .int (Int32.ofInt 3))] ⟨rfl, rfl, rfl, rfl, trivial⟩ (ih.2.2.2.2.2.2.2.2.2.2.2.2.2.2.2.2.2.2.2.2.2.2.2.2.2.2.2.2.2.2.2.2.2.2.1 (Int32.ofInt 0) _ ci_0 (by omega) ex0 ex1 ex2 (Or.inr ⟨by omega, fun h => by unfold g_nm3 at h; omega⟩) (by omega))
            · refine h_iconst (pc' := 95) (x := (Int32.ofInt 1)) rfl rfl rfl ?_
              refine h_goto (pc' := 99) rfl rfl ?_
              refine h_istore_n (pc' := 100) (M := [(2, .int (Int32.ofInt 1)), (0, .ref 98), (1, .int (Int32.ofInt 3)), (3, .int (Int32.ofInt 2))]) rfl rfl rfl rfl ?_
              refine h_iinc (pc' := 103) (b := 3) (M := fun z25 => [(3, .int z25), (2, .int (Int32.ofInt 1)), (0, .ref 98), (1, .int (Int32.ofInt 3))]) rfl rfl rfl rfl ci_2 ci_1 rfl (by omega) (by omega) (fun _ => rfl) (fun z25 hz25 => ?_)
              refine h_goto (pc' := 51) rfl rfl ?_
              have qz25 : z25 = (Int32.ofInt 3) := h_lit hz25 ci_3
              subst qz25
              exact h_wk [(0, .ref 98), (1, .int (Int32.ofInt 3)), (2, .int (Int32.ofInt 1)), (3, .int (Int32.ofInt 3))] ⟨rfl, rfl, rfl, rfl, trivial⟩ (ih.2.2.2.2.2.2.2.2.2.2.2.2.2.2.2.2.2.2.2.2.2.2.2.2.2.2.2.2.2.2.2.2.2.2.1 (Int32.ofInt 1) _ ci_1 (by omega) ex0 ex1 ex2 (Or.inl ⟨by omega, by omega, by omega, by omega, by omega⟩) (by omega))
    · intro  y2 b2 hy2 ry2 ex0 ex1 ex2 ex3 hm; have gh0 := tf_98_11 hI; have gh1 := tf_98_15 hI; have gh2 := tf_98_16 hI
      refine h_iload_n (pc' := 52) rfl rfl rfl ?_
      refine h_zeq (tg := 106) (pc' := 55) rfl rfl rfl hy2 (fun c1 => ?_) (fun c1 => ?_)
      · refine h_iload_n (pc' := 107) rfl rfl rfl ?_
        refine h_zeq (tg := 112) (pc' := 110) rfl rfl rfl hy2 (fun c2 => ?_) (fun c2 => absurd c2 (by omega))
        refine h_iinc (pc' := 115) (b := 4) (M := fun z3 => [(1, .int z3), (0, .ref 98), (2, .int y2), (3, .int (Int32.ofInt 3))]) rfl rfl rfl rfl ci_3 ci_1 rfl (by omega) (by omega) (fun _ => rfl) (fun z3 hz3 => ?_)
        refine h_goto (pc' := 2) rfl rfl ?_
        have qz3 : z3 = (Int32.ofInt 4) := h_lit hz3 ci_4
        subst qz3
        exact h_wk [(0, .ref 98), (1, .int (Int32.ofInt 4)), (2, .int y2), (3, .int (Int32.ofInt 3))] ⟨rfl, rfl, rfl, rfl, trivial⟩ (ih.2.2.2.2.1 y2 _ hy2 (by omega) (Int32.ofInt 3) _ ci_3 (by omega) ex0 ex1 ex2 (ex3.elim (fun h => absurd h.1 (by omega)) (fun h => h.2)) (by omega))
      · refine h_iload_n (pc' := 56) rfl rfl rfl ?_
        refine h_aload_n (pc' := 57) rfl rfl rfl ?_
        refine h_getI (pc' := 60) (v := σ 98 15) rfl rfl rfl rfl rfl rfl (fun z4 hz4 => ?_)
        have tz4 := tf_98_15 hI
        refine h_aload_n (pc' := 61) rfl rfl rfl ?_
        refine h_getI (pc' := 64) (v := σ 98 16) rfl rfl rfl rfl rfl rfl (fun z5 hz5 => ?_)
        have tz5 := tf_98_16 hI
        refine h_isub (pc' := 65) rfl rfl hz4 hz5 rfl (by omega) (by omega) (fun z6 hz6 => ?_)
        refine h_cge (tg := 106) (pc' := 68) rfl rfl rfl ci_3 hz6 (fun c7 => ?_) (fun c7 => ?_)
        · refine h_iload_n (pc' := 107) rfl rfl rfl ?_
          refine h_zeq (tg := 112) (pc' := 110) rfl rfl rfl hy2 (fun c8 => absurd c8 (by omega)) (fun c8 => ?_)
          refine h_iload_n (pc' := 111) rfl rfl rfl ?_
          exact h_iret rfl rfl (kk _ _ ci_3 (by omega) (fun _ => (Or.inr (Or.inr (Or.inr (Or.inr (Or.inl ⟨rfl, ex0, ex1, ex2, ⟨by omega, by omega, by omega, by omega, by omega, by omega, by omega, by omega, by omega⟩⟩)))))) (Or.inl (by omega)))
        · refine h_aload_n (pc' := 69) rfl rfl rfl ?_
          refine h_aload_n (pc' := 70) rfl rfl rfl ?_
          refine h_getI (pc' := 73) (v := σ 98 16) rfl rfl rfl rfl rfl rfl (fun z9 hz9 => ?_)
          have tz9 := tf_98_16 hI
          refine h_iload_n (pc' := 74) rfl rfl rfl ?_
          refine h_iadd (pc' := 75) rfl rfl hz9 ci_3 rfl (by omega) (by omega) (fun z10 hz10 => ?_)
          refine h_call (sp := false) (pc' := 78) (M := [(0, .ref 98), (1, .int z10)]) rfl rfl rfl rfl rfl rfl rfl rfl ?_
          refine h_iload_n (pc' := 1) rfl rfl rfl ?_
          refine h_aload_n (pc' := 2) rfl rfl rfl ?_
          refine h_getI (pc' := 5) (v := σ 98 11) rfl rfl rfl rfl rfl rfl (fun z11 hz11 => ?_)
          have tz11 := tf_98_11 hI
          refine h_cge (tg := 17) (pc' := 8) rfl rfl rfl hz10 hz11 (fun c12 => ?_) (fun c12 => ?_)
          · refine h_bipush (pc' := 19) (x := (Int32.ofInt (-4))) rfl rfl cb_m4 ?_
            refine h_iret rfl rfl (h_Kv ?_)
            refine h_aload_n (pc' := 79) rfl rfl rfl ?_
            refine h_getR (pc' := 82) rfl rfl rfl rfl rfl ?_
            refine h_aload_n (pc' := 83) rfl rfl rfl ?_
            refine h_getR (pc' := 86) rfl rfl rfl rfl rfl ?_
            refine h_iload_n (pc' := 87) rfl rfl rfl ?_
            refine h_iald (pc' := 88) (v := 19) rfl rfl rfl ci_3 (by omega) (by omega) (tx_103_3 hI) (fun z13 hz13 => ?_)
            refine h_iload_n (pc' := 89) rfl rfl rfl ?_
            refine h_iadd (pc' := 90) rfl rfl hz13 ci_3 rfl (by omega) (by omega) (fun z14 hz14 => ?_)
            refine h_iald (pc' := 91) (v := σ 104 (19 + 3)) rfl rfl rfl hz14 (by omega) (by omega) rfl (fun z15 hz15 => ?_)
            have tz15 := ty_104 hI (19 + 3)
            refine h_cne (tg := 98) (pc' := 94) rfl rfl rfl ci_m4 hz15 (fun c16 => ?_) (fun c16 => ?_)
            · refine h_iconst (pc' := 99) (x := (Int32.ofInt 0)) rfl rfl rfl ?_
              refine h_istore_n (pc' := 100) (M := [(2, .int (Int32.ofInt 0)), (0, .ref 98), (1, .int (Int32.ofInt 3)), (3, .int (Int32.ofInt 3))]) rfl rfl rfl rfl ?_
              refine h_iinc (pc' := 103) (b := 4) (M := fun z17 => [(3, .int z17), (2, .int (Int32.ofInt 0)), (0, .ref 98), (1, .int (Int32.ofInt 3))]) rfl rfl rfl rfl ci_3 ci_1 rfl (by omega) (by omega) (fun _ => rfl) (fun z17 hz17 => ?_)
              refine h_goto (pc' := 51) rfl rfl ?_
              have qz17 : z17 = (Int32.ofInt 4) := h_lit hz17 ci_4
              subst qz17
              exact h_wk [(0, .ref 98), (1, .int (Int32.ofInt 3)), (2, .int (Int32.ofInt 0)), (3, .int (Int32.ofInt 4))] ⟨rfl, rfl, rfl, rfl, trivial⟩ (ih.2.2.2.2.2.2.2.2.2.2.2.2.2.2.2.2.2.2.2.2.2.2.2.2.2.2.2.2.2.2.2.2.2.2.2.1 (Int32.ofInt 0) _ ci_0 (by omega) ex0 ex1 ex2 (Or.inr ⟨by omega, fun h => by unfold g_nm3 at h; omega⟩) (by omega))
            · refine h_iconst (pc' := 95) (x := (Int32.ofInt 1)) rfl rfl rfl ?_
              refine h_goto (pc' := 99) rfl rfl ?_
              refine h_istore_n (pc' := 100) (M := [(2, .int (Int32.ofInt 1)), (0, .ref 98), (1, .int (Int32.ofInt 3)), (3, .int (Int32.ofInt 3))]) rfl rfl rfl rfl ?_
              refine h_iinc (pc' := 103) (b := 4) (M := fun z18 => [(3, .int z18), (2, .int (Int32.ofInt 1)), (0, .ref 98), (1, .int (Int32.ofInt 3))]) rfl rfl rfl rfl ci_3 ci_1 rfl (by omega) (by omega) (fun _ => rfl) (fun z18 hz18 => ?_)
              refine h_goto (pc' := 51) rfl rfl ?_
              have qz18 : z18 = (Int32.ofInt 4) := h_lit hz18 ci_4
              subst qz18
              exact h_wk [(0, .ref 98), (1, .int (Int32.ofInt 3)), (2, .int (Int32.ofInt 1)), (3, .int (Int32.ofInt 4))] ⟨rfl, rfl, rfl, rfl, trivial⟩ (ih.2.2.2.2.2.2.2.2.2.2.2.2.2.2.2.2.2.2.2.2.2.2.2.2.2.2.2.2.2.2.2.2.2.2.2.1 (Int32.ofInt 1) _ ci_1 (by omega) ex0 ex1 ex2 (Or.inl ⟨by omega, by omega, by omega, by omega, by omega, by omega⟩) (by omega))
          · refine h_aload_n (pc' := 9) rfl rfl rfl ?_
            refine h_getR (pc' := 12) rfl rfl rfl rfl rfl ?_
            refine h_iload_n (pc' := 13) rfl rfl rfl ?_
            refine h_iald (pc' := 14) (v := σ 102 ((σ 98 16) + 3)) rfl rfl rfl hz10 (by omega) (by omega) rfl (fun z19 hz19 => ?_)
            have tz19 := ty_102 hI ((σ 98 16) + 3)
            refine h_goto (pc' := 19) rfl rfl ?_
            refine h_iret rfl rfl (h_Kv ?_)
            refine h_aload_n (pc' := 79) rfl rfl rfl ?_
            refine h_getR (pc' := 82) rfl rfl rfl rfl rfl ?_
            refine h_aload_n (pc' := 83) rfl rfl rfl ?_
            refine h_getR (pc' := 86) rfl rfl rfl rfl rfl ?_
            refine h_iload_n (pc' := 87) rfl rfl rfl ?_
            refine h_iald (pc' := 88) (v := 19) rfl rfl rfl ci_3 (by omega) (by omega) (tx_103_3 hI) (fun z20 hz20 => ?_)
            refine h_iload_n (pc' := 89) rfl rfl rfl ?_
            refine h_iadd (pc' := 90) rfl rfl hz20 ci_3 rfl (by omega) (by omega) (fun z21 hz21 => ?_)
            refine h_iald (pc' := 91) (v := σ 104 (19 + 3)) rfl rfl rfl hz21 (by omega) (by omega) rfl (fun z22 hz22 => ?_)
            have tz22 := ty_104 hI (19 + 3)
            refine h_cne (tg := 98) (pc' := 94) rfl rfl rfl hz19 hz22 (fun c23 => ?_) (fun c23 => ?_)
            · refine h_iconst (pc' := 99) (x := (Int32.ofInt 0)) rfl rfl rfl ?_
              refine h_istore_n (pc' := 100) (M := [(2, .int (Int32.ofInt 0)), (0, .ref 98), (1, .int (Int32.ofInt 3)), (3, .int (Int32.ofInt 3))]) rfl rfl rfl rfl ?_
              refine h_iinc (pc' := 103) (b := 4) (M := fun z24 => [(3, .int z24), (2, .int (Int32.ofInt 0)), (0, .ref 98), (1, .int (Int32.ofInt 3))]) rfl rfl rfl rfl ci_3 ci_1 rfl (by omega) (by omega) (fun _ => rfl) (fun z24 hz24 => ?_)
              refine h_goto (pc' := 51) rfl rfl ?_
              have qz24 : z24 = (Int32.ofInt 4) := h_lit hz24 ci_4
              subst qz24
              exact h_wk [(0, .ref 98), (1, .int (Int32.ofInt 3)), (2, .int (Int32.ofInt 0)), (3, .int (Int32.ofInt 4))] ⟨rfl, rfl, rfl, rfl, trivial⟩ (ih.2.2.2.2.2.2.2.2.2.2.2.2.2.2.2.2.2.2.2.2.2.2.2.2.2.2.2.2.2.2.2.2.2.2.2.1 (Int32.ofInt 0) _ ci_0 (by omega) ex0 ex1 ex2 (Or.inr ⟨by omega, fun h => by unfold g_nm3 at h; omega⟩) (by omega))
            · refine h_iconst (pc' := 95) (x := (Int32.ofInt 1)) rfl rfl rfl ?_
              refine h_goto (pc' := 99) rfl rfl ?_
              refine h_istore_n (pc' := 100) (M := [(2, .int (Int32.ofInt 1)), (0, .ref 98), (1, .int (Int32.ofInt 3)), (3, .int (Int32.ofInt 3))]) rfl rfl rfl rfl ?_
              refine h_iinc (pc' := 103) (b := 4) (M := fun z25 => [(3, .int z25), (2, .int (Int32.ofInt 1)), (0, .ref 98), (1, .int (Int32.ofInt 3))]) rfl rfl rfl rfl ci_3 ci_1 rfl (by omega) (by omega) (fun _ => rfl) (fun z25 hz25 => ?_)
              refine h_goto (pc' := 51) rfl rfl ?_
              have qz25 : z25 = (Int32.ofInt 4) := h_lit hz25 ci_4
              subst qz25
              exact h_wk [(0, .ref 98), (1, .int (Int32.ofInt 3)), (2, .int (Int32.ofInt 1)), (3, .int (Int32.ofInt 4))] ⟨rfl, rfl, rfl, rfl, trivial⟩ (ih.2.2.2.2.2.2.2.2.2.2.2.2.2.2.2.2.2.2.2.2.2.2.2.2.2.2.2.2.2.2.2.2.2.2.2.1 (Int32.ofInt 1) _ ci_1 (by omega) ex0 ex1 ex2 (Or.inl ⟨by omega, by omega, by omega, by omega, by omega, by omega⟩) (by omega))
    · intro  y2 b2 hy2 ry2 ex0 ex1 ex2 ex3 hm; have gh0 := tf_98_11 hI; have gh1 := tf_98_15 hI; have gh2 := tf_98_16 hI
      refine h_iload_n (pc' := 52) rfl rfl rfl ?_
      refine h_zeq (tg := 106) (pc' := 55) rfl rfl rfl hy2 (fun c1 => ?_) (fun c1 => ?_)
      · refine h_iload_n (pc' := 107) rfl rfl rfl ?_
        refine h_zeq (tg := 112) (pc' := 110) rfl rfl rfl hy2 (fun c2 => ?_) (fun c2 => absurd c2 (by omega))
        refine h_iinc (pc' := 115) (b := 4) (M := fun z3 => [(1, .int z3), (0, .ref 98), (2, .int y2), (3, .int (Int32.ofInt 4))]) rfl rfl rfl rfl ci_3 ci_1 rfl (by omega) (by omega) (fun _ => rfl) (fun z3 hz3 => ?_)
        refine h_goto (pc' := 2) rfl rfl ?_
        have qz3 : z3 = (Int32.ofInt 4) := h_lit hz3 ci_4
        subst qz3
        exact h_wk [(0, .ref 98), (1, .int (Int32.ofInt 4)), (2, .int y2), (3, .int (Int32.ofInt 4))] ⟨rfl, rfl, rfl, rfl, trivial⟩ (ih.2.2.2.2.1 y2 _ hy2 (by omega) (Int32.ofInt 4) _ ci_4 (by omega) ex0 ex1 ex2 (ex3.elim (fun h => absurd h.1 (by omega)) (fun h => h.2)) (by omega))
      · refine h_iload_n (pc' := 56) rfl rfl rfl ?_
        refine h_aload_n (pc' := 57) rfl rfl rfl ?_
        refine h_getI (pc' := 60) (v := σ 98 15) rfl rfl rfl rfl rfl rfl (fun z4 hz4 => ?_)
        have tz4 := tf_98_15 hI
        refine h_aload_n (pc' := 61) rfl rfl rfl ?_
        refine h_getI (pc' := 64) (v := σ 98 16) rfl rfl rfl rfl rfl rfl (fun z5 hz5 => ?_)
        have tz5 := tf_98_16 hI
        refine h_isub (pc' := 65) rfl rfl hz4 hz5 rfl (by omega) (by omega) (fun z6 hz6 => ?_)
        refine h_cge (tg := 106) (pc' := 68) rfl rfl rfl ci_4 hz6 (fun c7 => ?_) (fun c7 => ?_)
        · refine h_iload_n (pc' := 107) rfl rfl rfl ?_
          refine h_zeq (tg := 112) (pc' := 110) rfl rfl rfl hy2 (fun c8 => absurd c8 (by omega)) (fun c8 => ?_)
          refine h_iload_n (pc' := 111) rfl rfl rfl ?_
          exact h_iret rfl rfl (kk _ _ ci_3 (by omega) (fun _ => (Or.inr (Or.inr (Or.inr (Or.inr (Or.inl ⟨rfl, ex0, ex1, ex2, ⟨by omega, by omega, by omega, by omega, by omega, by omega, by omega, by omega, by omega⟩⟩)))))) (Or.inl (by omega)))
        · refine h_aload_n (pc' := 69) rfl rfl rfl ?_
          refine h_aload_n (pc' := 70) rfl rfl rfl ?_
          refine h_getI (pc' := 73) (v := σ 98 16) rfl rfl rfl rfl rfl rfl (fun z9 hz9 => ?_)
          have tz9 := tf_98_16 hI
          refine h_iload_n (pc' := 74) rfl rfl rfl ?_
          refine h_iadd (pc' := 75) rfl rfl hz9 ci_4 rfl (by omega) (by omega) (fun z10 hz10 => ?_)
          refine h_call (sp := false) (pc' := 78) (M := [(0, .ref 98), (1, .int z10)]) rfl rfl rfl rfl rfl rfl rfl rfl ?_
          refine h_iload_n (pc' := 1) rfl rfl rfl ?_
          refine h_aload_n (pc' := 2) rfl rfl rfl ?_
          refine h_getI (pc' := 5) (v := σ 98 11) rfl rfl rfl rfl rfl rfl (fun z11 hz11 => ?_)
          have tz11 := tf_98_11 hI
          refine h_cge (tg := 17) (pc' := 8) rfl rfl rfl hz10 hz11 (fun c12 => ?_) (fun c12 => ?_)
          · refine h_bipush (pc' := 19) (x := (Int32.ofInt (-4))) rfl rfl cb_m4 ?_
            refine h_iret rfl rfl (h_Kv ?_)
            refine h_aload_n (pc' := 79) rfl rfl rfl ?_
            refine h_getR (pc' := 82) rfl rfl rfl rfl rfl ?_
            refine h_aload_n (pc' := 83) rfl rfl rfl ?_
            refine h_getR (pc' := 86) rfl rfl rfl rfl rfl ?_
            refine h_iload_n (pc' := 87) rfl rfl rfl ?_
            refine h_iald (pc' := 88) (v := 19) rfl rfl rfl ci_3 (by omega) (by omega) (tx_103_3 hI) (fun z13 hz13 => ?_)
            refine h_iload_n (pc' := 89) rfl rfl rfl ?_
            refine h_iadd (pc' := 90) rfl rfl hz13 ci_4 rfl (by omega) (by omega) (fun z14 hz14 => ?_)
            refine h_iald (pc' := 91) (v := σ 104 (19 + 4)) rfl rfl rfl hz14 (by omega) (by omega) rfl (fun z15 hz15 => ?_)
            have tz15 := ty_104 hI (19 + 4)
            refine h_cne (tg := 98) (pc' := 94) rfl rfl rfl ci_m4 hz15 (fun c16 => ?_) (fun c16 => ?_)
            · refine h_iconst (pc' := 99) (x := (Int32.ofInt 0)) rfl rfl rfl ?_
              refine h_istore_n (pc' := 100) (M := [(2, .int (Int32.ofInt 0)), (0, .ref 98), (1, .int (Int32.ofInt 3)), (3, .int (Int32.ofInt 4))]) rfl rfl rfl rfl ?_
              refine h_iinc (pc' := 103) (b := 5) (M := fun z17 => [(3, .int z17), (2, .int (Int32.ofInt 0)), (0, .ref 98), (1, .int (Int32.ofInt 3))]) rfl rfl rfl rfl ci_4 ci_1 rfl (by omega) (by omega) (fun _ => rfl) (fun z17 hz17 => ?_)
              refine h_goto (pc' := 51) rfl rfl ?_
              have qz17 : z17 = (Int32.ofInt 5) := h_lit hz17 ci_5
              subst qz17
              exact h_wk [(0, .ref 98), (1, .int (Int32.ofInt 3)), (2, .int (Int32.ofInt 0)), (3, .int (Int32.ofInt 5))] ⟨rfl, rfl, rfl, rfl, trivial⟩ (ih.2.2.2.2.2.2.2.2.2.2.2.2.2.2.2.2.2.2.2.2.2.2.2.2.2.2.2.2.2.2.2.2.2.2.2.2.1 (Int32.ofInt 0) _ ci_0 (by omega) ex0 ex1 ex2 (Or.inr ⟨by omega, fun h => by unfold g_nm3 at h; omega⟩) (by omega))
            · refine h_iconst (pc' := 95) (x := (Int32.ofInt 1)) rfl rfl rfl ?_
              refine h_goto (pc' := 99) rfl rfl ?_
              refine h_istore_n (pc' := 100) (M := [(2, .int (Int32.ofInt 1)), (0, .ref 98), (1, .int (Int32.ofInt 3)), (3, .int (Int32.ofInt 4))]) rfl rfl rfl rfl ?_
              refine h_iinc (pc' := 103) (b := 5) (M := fun z18 => [(3, .int z18), (2, .int (Int32.ofInt 1)), (0, .ref 98), (1, .int (Int32.ofInt 3))]) rfl rfl rfl rfl ci_4 ci_1 rfl (by omega) (by omega) (fun _ => rfl) (fun z18 hz18 => ?_)
              refine h_goto (pc' := 51) rfl rfl ?_
              have qz18 : z18 = (Int32.ofInt 5) := h_lit hz18 ci_5
              subst qz18
              exact h_wk [(0, .ref 98), (1, .int (Int32.ofInt 3)), (2, .int (Int32.ofInt 1)), (3, .int (Int32.ofInt 5))] ⟨rfl, rfl, rfl, rfl, trivial⟩ (ih.2.2.2.2.2.2.2.2.2.2.2.2.2.2.2.2.2.2.2.2.2.2.2.2.2.2.2.2.2.2.2.2.2.2.2.2.1 (Int32.ofInt 1) _ ci_1 (by omega) ex0 ex1 ex2 (Or.inl ⟨by omega, by omega, by omega, by omega, by omega, by omega, by omega⟩) (by omega))
          · refine h_aload_n (pc' := 9) rfl rfl rfl ?_
            refine h_getR (pc' := 12) rfl rfl rfl rfl rfl ?_
            refine h_iload_n (pc' := 13) rfl rfl rfl ?_
            refine h_iald (pc' := 14) (v := σ 102 ((σ 98 16) + 4)) rfl rfl rfl hz10 (by omega) (by omega) rfl (fun z19 hz19 => ?_)
            have tz19 := ty_102 hI ((σ 98 16) + 4)
            refine h_goto (pc' := 19) rfl rfl ?_
            refine h_iret rfl rfl (h_Kv ?_)
            refine h_aload_n (pc' := 79) rfl rfl rfl ?_
            refine h_getR (pc' := 82) rfl rfl rfl rfl rfl ?_
            refine h_aload_n (pc' := 83) rfl rfl rfl ?_
            refine h_getR (pc' := 86) rfl rfl rfl rfl rfl ?_
            refine h_iload_n (pc' := 87) rfl rfl rfl ?_
            refine h_iald (pc' := 88) (v := 19) rfl rfl rfl ci_3 (by omega) (by omega) (tx_103_3 hI) (fun z20 hz20 => ?_)
            refine h_iload_n (pc' := 89) rfl rfl rfl ?_
            refine h_iadd (pc' := 90) rfl rfl hz20 ci_4 rfl (by omega) (by omega) (fun z21 hz21 => ?_)
            refine h_iald (pc' := 91) (v := σ 104 (19 + 4)) rfl rfl rfl hz21 (by omega) (by omega) rfl (fun z22 hz22 => ?_)
            have tz22 := ty_104 hI (19 + 4)
            refine h_cne (tg := 98) (pc' := 94) rfl rfl rfl hz19 hz22 (fun c23 => ?_) (fun c23 => ?_)
            · refine h_iconst (pc' := 99) (x := (Int32.ofInt 0)) rfl rfl rfl ?_
              refine h_istore_n (pc' := 100) (M := [(2, .int (Int32.ofInt 0)), (0, .ref 98), (1, .int (Int32.ofInt 3)), (3, .int (Int32.ofInt 4))]) rfl rfl rfl rfl ?_
              refine h_iinc (pc' := 103) (b := 5) (M := fun z24 => [(3, .int z24), (2, .int (Int32.ofInt 0)), (0, .ref 98), (1, .int (Int32.ofInt 3))]) rfl rfl rfl rfl ci_4 ci_1 rfl (by omega) (by omega) (fun _ => rfl) (fun z24 hz24 => ?_)
              refine h_goto (pc' := 51) rfl rfl ?_
              have qz24 : z24 = (Int32.ofInt 5) := h_lit hz24 ci_5
              subst qz24
              exact h_wk [(0, .ref 98), (1, .int (Int32.ofInt 3)), (2, .int (Int32.ofInt 0)), (3, .int (Int32.ofInt 5))] ⟨rfl, rfl, rfl, rfl, trivial⟩ (ih.2.2.2.2.2.2.2.2.2.2.2.2.2.2.2.2.2.2.2.2.2.2.2.2.2.2.2.2.2.2.2.2.2.2.2.2.1 (Int32.ofInt 0) _ ci_0 (by omega) ex0 ex1 ex2 (Or.inr ⟨by omega, fun h => by unfold g_nm3 at h; omega⟩) (by omega))
            · refine h_iconst (pc' := 95) (x := (Int32.ofInt 1)) rfl rfl rfl ?_
              refine h_goto (pc' := 99) rfl rfl ?_
              refine h_istore_n (pc' := 100) (M := [(2, .int (Int32.ofInt 1)), (0, .ref 98), (1, .int (Int32.ofInt 3)), (3, .int (Int32.ofInt 4))]) rfl rfl rfl rfl ?_
              refine h_iinc (pc' := 103) (b := 5) (M := fun z25 => [(3, .int z25), (2, .int (Int32.ofInt 1)), (0, .ref 98), (1, .int (Int32.ofInt 3))]) rfl rfl rfl rfl ci_4 ci_1 rfl (by omega) (by omega) (fun _ => rfl) (fun z25 hz25 => ?_)
              refine h_goto (pc' := 51) rfl rfl ?_
              have qz25 : z25 = (Int32.ofInt 5) := h_lit hz25 ci_5
              subst qz25
              exact h_wk [(0, .ref 98), (1, .int (Int32.ofInt 3)), (2, .int (Int32.ofInt 1)), (3, .int (Int32.ofInt 5))] ⟨rfl, rfl, rfl, rfl, trivial⟩ (ih.2.2.2.2.2.2.2.2.2.2.2.2.2.2.2.2.2.2.2.2.2.2.2.2.2.2.2.2.2.2.2.2.2.2.2.2.1 (Int32.ofInt 1) _ ci_1 (by omega) ex0 ex1 ex2 (Or.inl ⟨by omega, by omega, by omega, by omega, by omega, by omega, by omega⟩) (by omega))
    · intro  y2 b2 hy2 ry2 ex0 ex1 ex2 ex3 hm; have gh0 := tf_98_11 hI; have gh1 := tf_98_15 hI; have gh2 := tf_98_16 hI
      refine h_iload_n (pc' := 52) rfl rfl rfl ?_
      refine h_zeq (tg := 106) (pc' := 55) rfl rfl rfl hy2 (fun c1 => ?_) (fun c1 => ?_)
      · refine h_iload_n (pc' := 107) rfl rfl rfl ?_
        refine h_zeq (tg := 112) (pc' := 110) rfl rfl rfl hy2 (fun c2 => ?_) (fun c2 => absurd c2 (by omega))
        refine h_iinc (pc' := 115) (b := 4) (M := fun z3 => [(1, .int z3), (0, .ref 98), (2, .int y2), (3, .int (Int32.ofInt 5))]) rfl rfl rfl rfl ci_3 ci_1 rfl (by omega) (by omega) (fun _ => rfl) (fun z3 hz3 => ?_)
        refine h_goto (pc' := 2) rfl rfl ?_
        have qz3 : z3 = (Int32.ofInt 4) := h_lit hz3 ci_4
        subst qz3
        exact h_wk [(0, .ref 98), (1, .int (Int32.ofInt 4)), (2, .int y2), (3, .int (Int32.ofInt 5))] ⟨rfl, rfl, rfl, rfl, trivial⟩ (ih.2.2.2.2.1 y2 _ hy2 (by omega) (Int32.ofInt 5) _ ci_5 (by omega) ex0 ex1 ex2 (ex3.elim (fun h => absurd h.1 (by omega)) (fun h => h.2)) (by omega))
      · refine h_iload_n (pc' := 56) rfl rfl rfl ?_
        refine h_aload_n (pc' := 57) rfl rfl rfl ?_
        refine h_getI (pc' := 60) (v := σ 98 15) rfl rfl rfl rfl rfl rfl (fun z4 hz4 => ?_)
        have tz4 := tf_98_15 hI
        refine h_aload_n (pc' := 61) rfl rfl rfl ?_
        refine h_getI (pc' := 64) (v := σ 98 16) rfl rfl rfl rfl rfl rfl (fun z5 hz5 => ?_)
        have tz5 := tf_98_16 hI
        refine h_isub (pc' := 65) rfl rfl hz4 hz5 rfl (by omega) (by omega) (fun z6 hz6 => ?_)
        refine h_cge (tg := 106) (pc' := 68) rfl rfl rfl ci_5 hz6 (fun c7 => ?_) (fun c7 => ?_)
        · refine h_iload_n (pc' := 107) rfl rfl rfl ?_
          refine h_zeq (tg := 112) (pc' := 110) rfl rfl rfl hy2 (fun c8 => absurd c8 (by omega)) (fun c8 => ?_)
          refine h_iload_n (pc' := 111) rfl rfl rfl ?_
          exact h_iret rfl rfl (kk _ _ ci_3 (by omega) (fun _ => (Or.inr (Or.inr (Or.inr (Or.inr (Or.inl ⟨rfl, ex0, ex1, ex2, ⟨by omega, by omega, by omega, by omega, by omega, by omega, by omega, by omega, by omega⟩⟩)))))) (Or.inl (by omega)))
        · refine h_aload_n (pc' := 69) rfl rfl rfl ?_
          refine h_aload_n (pc' := 70) rfl rfl rfl ?_
          refine h_getI (pc' := 73) (v := σ 98 16) rfl rfl rfl rfl rfl rfl (fun z9 hz9 => ?_)
          have tz9 := tf_98_16 hI
          refine h_iload_n (pc' := 74) rfl rfl rfl ?_
          refine h_iadd (pc' := 75) rfl rfl hz9 ci_5 rfl (by omega) (by omega) (fun z10 hz10 => ?_)
          refine h_call (sp := false) (pc' := 78) (M := [(0, .ref 98), (1, .int z10)]) rfl rfl rfl rfl rfl rfl rfl rfl ?_
          refine h_iload_n (pc' := 1) rfl rfl rfl ?_
          refine h_aload_n (pc' := 2) rfl rfl rfl ?_
          refine h_getI (pc' := 5) (v := σ 98 11) rfl rfl rfl rfl rfl rfl (fun z11 hz11 => ?_)
          have tz11 := tf_98_11 hI
          refine h_cge (tg := 17) (pc' := 8) rfl rfl rfl hz10 hz11 (fun c12 => ?_) (fun c12 => ?_)
          · refine h_bipush (pc' := 19) (x := (Int32.ofInt (-4))) rfl rfl cb_m4 ?_
            refine h_iret rfl rfl (h_Kv ?_)
            refine h_aload_n (pc' := 79) rfl rfl rfl ?_
            refine h_getR (pc' := 82) rfl rfl rfl rfl rfl ?_
            refine h_aload_n (pc' := 83) rfl rfl rfl ?_
            refine h_getR (pc' := 86) rfl rfl rfl rfl rfl ?_
            refine h_iload_n (pc' := 87) rfl rfl rfl ?_
            refine h_iald (pc' := 88) (v := 19) rfl rfl rfl ci_3 (by omega) (by omega) (tx_103_3 hI) (fun z13 hz13 => ?_)
            refine h_iload_n (pc' := 89) rfl rfl rfl ?_
            refine h_iadd (pc' := 90) rfl rfl hz13 ci_5 rfl (by omega) (by omega) (fun z14 hz14 => ?_)
            refine h_iald (pc' := 91) (v := σ 104 (19 + 5)) rfl rfl rfl hz14 (by omega) (by omega) rfl (fun z15 hz15 => ?_)
            have tz15 := ty_104 hI (19 + 5)
            refine h_cne (tg := 98) (pc' := 94) rfl rfl rfl ci_m4 hz15 (fun c16 => ?_) (fun c16 => ?_)
            · refine h_iconst (pc' := 99) (x := (Int32.ofInt 0)) rfl rfl rfl ?_
              refine h_istore_n (pc' := 100) (M := [(2, .int (Int32.ofInt 0)), (0, .ref 98), (1, .int (Int32.ofInt 3)), (3, .int (Int32.ofInt 5))]) rfl rfl rfl rfl ?_
              refine h_iinc (pc' := 103) (b := 6) (M := fun z17 => [(3, .int z17), (2, .int (Int32.ofInt 0)), (0, .ref 98), (1, .int (Int32.ofInt 3))]) rfl rfl rfl rfl ci_5 ci_1 rfl (by omega) (by omega) (fun _ => rfl) (fun z17 hz17 => ?_)
              refine h_goto (pc' := 51) rfl rfl ?_
              have qz17 : z17 = (Int32.ofInt 6) := h_lit hz17 ci_6
              subst qz17
              exact h_wk [(0, .ref 98), (1, .int (Int32.ofInt 3)), (2, .int (Int32.ofInt 0)), (3, .int (Int32.ofInt 6))] ⟨rfl, rfl, rfl, rfl, trivial⟩ (ih.2.2.2.2.2.2.2.2.2.2.2.2.2.2.2.2.2.2.2.2.2.2.2.2.2.2.2.2.2.2.2.2.2.2.2.2.2.1 (Int32.ofInt 0) _ ci_0 (by omega) ex0 ex1 ex2 (Or.inr ⟨by omega, fun h => by unfold g_nm3 at h; omega⟩) (by omega))
            · refine h_iconst (pc' := 95) (x := (Int32.ofInt 1)) rfl rfl rfl ?_
              refine h_goto (pc' := 99) rfl rfl ?_
              refine h_istore_n (pc' := 100) (M := [(2, .int (Int32.ofInt 1)), (0, .ref 98), (1, .int (Int32.ofInt 3)), (3, .int (Int32.ofInt 5))]) rfl rfl rfl rfl ?_
              refine h_iinc (pc' := 103) (b := 6) (M := fun z18 => [(3, .int z18), (2, .int (Int32.ofInt 1)), (0, .ref 98), (1, .int (Int32.ofInt 3))]) rfl rfl rfl rfl ci_5 ci_1 rfl (by omega) (by omega) (fun _ => rfl) (fun z18 hz18 => ?_)
              refine h_goto (pc' := 51) rfl rfl ?_
              have qz18 : z18 = (Int32.ofInt 6) := h_lit hz18 ci_6
              subst qz18
              exact h_wk [(0, .ref 98), (1, .int (Int32.ofInt 3)), (2, .int (Int32.ofInt 1)), (3, .int (Int32.ofInt 6))] ⟨rfl, rfl, rfl, rfl, trivial⟩ (ih.2.2.2.2.2.2.2.2.2.2.2.2.2.2.2.2.2.2.2.2.2.2.2.2.2.2.2.2.2.2.2.2.2.2.2.2.2.1 (Int32.ofInt 1) _ ci_1 (by omega) ex0 ex1 ex2 (Or.inl ⟨by omega, by omega, by omega, by omega, by omega, by omega, by omega, by omega⟩) (by omega))
          · refine h_aload_n (pc' := 9) rfl rfl rfl ?_
            refine h_getR (pc' := 12) rfl rfl rfl rfl rfl ?_
            refine h_iload_n (pc' := 13) rfl rfl rfl ?_
            refine h_iald (pc' := 14) (v := σ 102 ((σ 98 16) + 5)) rfl rfl rfl hz10 (by omega) (by omega) rfl (fun z19 hz19 => ?_)
            have tz19 := ty_102 hI ((σ 98 16) + 5)
            refine h_goto (pc' := 19) rfl rfl ?_
            refine h_iret rfl rfl (h_Kv ?_)
            refine h_aload_n (pc' := 79) rfl rfl rfl ?_
            refine h_getR (pc' := 82) rfl rfl rfl rfl rfl ?_
            refine h_aload_n (pc' := 83) rfl rfl rfl ?_
            refine h_getR (pc' := 86) rfl rfl rfl rfl rfl ?_
            refine h_iload_n (pc' := 87) rfl rfl rfl ?_
            refine h_iald (pc' := 88) (v := 19) rfl rfl rfl ci_3 (by omega) (by omega) (tx_103_3 hI) (fun z20 hz20 => ?_)
            refine h_iload_n (pc' := 89) rfl rfl rfl ?_
            refine h_iadd (pc' := 90) rfl rfl hz20 ci_5 rfl (by omega) (by omega) (fun z21 hz21 => ?_)
            refine h_iald (pc' := 91) (v := σ 104 (19 + 5)) rfl rfl rfl hz21 (by omega) (by omega) rfl (fun z22 hz22 => ?_)
            have tz22 := ty_104 hI (19 + 5)
            refine h_cne (tg := 98) (pc' := 94) rfl rfl rfl hz19 hz22 (fun c23 => ?_) (fun c23 => ?_)
            · refine h_iconst (pc' := 99) (x := (Int32.ofInt 0)) rfl rfl rfl ?_
              refine h_istore_n (pc' := 100) (M := [(2, .int (Int32.ofInt 0)), (0, .ref 98), (1, .int (Int32.ofInt 3)), (3, .int (Int32.ofInt 5))]) rfl rfl rfl rfl ?_
              refine h_iinc (pc' := 103) (b := 6) (M := fun z24 => [(3, .int z24), (2, .int (Int32.ofInt 0)), (0, .ref 98), (1, .int (Int32.ofInt 3))]) rfl rfl rfl rfl ci_5 ci_1 rfl (by omega) (by omega) (fun _ => rfl) (fun z24 hz24 => ?_)
              refine h_goto (pc' := 51) rfl rfl ?_
              have qz24 : z24 = (Int32.ofInt 6) := h_lit hz24 ci_6
              subst qz24
              exact h_wk [(0, .ref 98), (1, .int (Int32.ofInt 3)), (2, .int (Int32.ofInt 0)), (3, .int (Int32.ofInt 6))] ⟨rfl, rfl, rfl, rfl, trivial⟩ (ih.2.2.2.2.2.2.2.2.2.2.2.2.2.2.2.2.2.2.2.2.2.2.2.2.2.2.2.2.2.2.2.2.2.2.2.2.2.1 (Int32.ofInt 0) _ ci_0 (by omega) ex0 ex1 ex2 (Or.inr ⟨by omega, fun h => by unfold g_nm3 at h; omega⟩) (by omega))
            · refine h_iconst (pc' := 95) (x := (Int32.ofInt 1)) rfl rfl rfl ?_
              refine h_goto (pc' := 99) rfl rfl ?_
              refine h_istore_n (pc' := 100) (M := [(2, .int (Int32.ofInt 1)), (0, .ref 98), (1, .int (Int32.ofInt 3)), (3, .int (Int32.ofInt 5))]) rfl rfl rfl rfl ?_
              refine h_iinc (pc' := 103) (b := 6) (M := fun z25 => [(3, .int z25), (2, .int (Int32.ofInt 1)), (0, .ref 98), (1, .int (Int32.ofInt 3))]) rfl rfl rfl rfl ci_5 ci_1 rfl (by omega) (by omega) (fun _ => rfl) (fun z25 hz25 => ?_)
              refine h_goto (pc' := 51) rfl rfl ?_
              have qz25 : z25 = (Int32.ofInt 6) := h_lit hz25 ci_6
              subst qz25
              exact h_wk [(0, .ref 98), (1, .int (Int32.ofInt 3)), (2, .int (Int32.ofInt 1)), (3, .int (Int32.ofInt 6))] ⟨rfl, rfl, rfl, rfl, trivial⟩ (ih.2.2.2.2.2.2.2.2.2.2.2.2.2.2.2.2.2.2.2.2.2.2.2.2.2.2.2.2.2.2.2.2.2.2.2.2.2.1 (Int32.ofInt 1) _ ci_1 (by omega) ex0 ex1 ex2 (Or.inl ⟨by omega, by omega, by omega, by omega, by omega, by omega, by omega, by omega⟩) (by omega))
    · intro  y2 b2 hy2 ry2 ex0 ex1 ex2 ex3 hm; have gh0 := tf_98_11 hI; have gh1 := tf_98_15 hI; have gh2 := tf_98_16 hI
      refine h_iload_n (pc' := 52) rfl rfl rfl ?_
      refine h_zeq (tg := 106) (pc' := 55) rfl rfl rfl hy2 (fun c1 => ?_) (fun c1 => ?_)
      · refine h_iload_n (pc' := 107) rfl rfl rfl ?_
        refine h_zeq (tg := 112) (pc' := 110) rfl rfl rfl hy2 (fun c2 => ?_) (fun c2 => absurd c2 (by omega))
        refine h_iinc (pc' := 115) (b := 4) (M := fun z3 => [(1, .int z3), (0, .ref 98), (2, .int y2), (3, .int (Int32.ofInt 6))]) rfl rfl rfl rfl ci_3 ci_1 rfl (by omega) (by omega) (fun _ => rfl) (fun z3 hz3 => ?_)
        refine h_goto (pc' := 2) rfl rfl ?_
        have qz3 : z3 = (Int32.ofInt 4) := h_lit hz3 ci_4
        subst qz3
        exact h_wk [(0, .ref 98), (1, .int (Int32.ofInt 4)), (2, .int y2), (3, .int (Int32.ofInt 6))] ⟨rfl, rfl, rfl, rfl, trivial⟩ (ih.2.2.2.2.1 y2 _ hy2 (by omega) (Int32.ofInt 6) _ ci_6 (by omega) ex0 ex1 ex2 (ex3.elim (fun h => absurd h.1 (by omega)) (fun h => h.2)) (by omega))
      · refine h_iload_n (pc' := 56) rfl rfl rfl ?_
        refine h_aload_n (pc' := 57) rfl rfl rfl ?_
        refine h_getI (pc' := 60) (v := σ 98 15) rfl rfl rfl rfl rfl rfl (fun z4 hz4 => ?_)
        have tz4 := tf_98_15 hI
        refine h_aload_n (pc' := 61) rfl rfl rfl ?_
        refine h_getI (pc' := 64) (v := σ 98 16) rfl rfl rfl rfl rfl rfl (fun z5 hz5 => ?_)
        have tz5 := tf_98_16 hI
        refine h_isub (pc' := 65) rfl rfl hz4 hz5 rfl (by omega) (by omega) (fun z6 hz6 => ?_)
        refine h_cge (tg := 106) (pc' := 68) rfl rfl rfl ci_6 hz6 (fun c7 => ?_) (fun c7 => ?_)
        · refine h_iload_n (pc' := 107) rfl rfl rfl ?_
          refine h_zeq (tg := 112) (pc' := 110) rfl rfl rfl hy2 (fun c8 => absurd c8 (by omega)) (fun c8 => ?_)
          refine h_iload_n (pc' := 111) rfl rfl rfl ?_
          exact h_iret rfl rfl (kk _ _ ci_3 (by omega) (fun _ => (Or.inr (Or.inr (Or.inr (Or.inr (Or.inl ⟨rfl, ex0, ex1, ex2, ⟨by omega, by omega, by omega, by omega, by omega, by omega, by omega, by omega, by omega⟩⟩)))))) (Or.inl (by omega)))
        · refine h_aload_n (pc' := 69) rfl rfl rfl ?_
          refine h_aload_n (pc' := 70) rfl rfl rfl ?_
          refine h_getI (pc' := 73) (v := σ 98 16) rfl rfl rfl rfl rfl rfl (fun z9 hz9 => ?_)
          have tz9 := tf_98_16 hI
          refine h_iload_n (pc' := 74) rfl rfl rfl ?_
          refine h_iadd (pc' := 75) rfl rfl hz9 ci_6 rfl (by omega) (by omega) (fun z10 hz10 => ?_)
          refine h_call (sp := false) (pc' := 78) (M := [(0, .ref 98), (1, .int z10)]) rfl rfl rfl rfl rfl rfl rfl rfl ?_
          refine h_iload_n (pc' := 1) rfl rfl rfl ?_
          refine h_aload_n (pc' := 2) rfl rfl rfl ?_
          refine h_getI (pc' := 5) (v := σ 98 11) rfl rfl rfl rfl rfl rfl (fun z11 hz11 => ?_)
          have tz11 := tf_98_11 hI
          refine h_cge (tg := 17) (pc' := 8) rfl rfl rfl hz10 hz11 (fun c12 => ?_) (fun c12 => ?_)
          · refine h_bipush (pc' := 19) (x := (Int32.ofInt (-4))) rfl rfl cb_m4 ?_
            refine h_iret rfl rfl (h_Kv ?_)
            refine h_aload_n (pc' := 79) rfl rfl rfl ?_
            refine h_getR (pc' := 82) rfl rfl rfl rfl rfl ?_
            refine h_aload_n (pc' := 83) rfl rfl rfl ?_
            refine h_getR (pc' := 86) rfl rfl rfl rfl rfl ?_
            refine h_iload_n (pc' := 87) rfl rfl rfl ?_
            refine h_iald (pc' := 88) (v := 19) rfl rfl rfl ci_3 (by omega) (by omega) (tx_103_3 hI) (fun z13 hz13 => ?_)
            refine h_iload_n (pc' := 89) rfl rfl rfl ?_
            refine h_iadd (pc' := 90) rfl rfl hz13 ci_6 rfl (by omega) (by omega) (fun z14 hz14 => ?_)
            refine h_iald (pc' := 91) (v := σ 104 (19 + 6)) rfl rfl rfl hz14 (by omega) (by omega) rfl (fun z15 hz15 => ?_)
            have tz15 := ty_104 hI (19 + 6)
            refine h_cne (tg := 98) (pc' := 94) rfl rfl rfl ci_m4 hz15 (fun c16 => ?_) (fun c16 => ?_)
            · refine h_iconst (pc' := 99) (x := (Int32.ofInt 0)) rfl rfl rfl ?_
              refine h_istore_n (pc' := 100) (M := [(2, .int (Int32.ofInt 0)), (0, .ref 98), (1, .int (Int32.ofInt 3)), (3, .int (Int32.ofInt 6))]) rfl rfl rfl rfl ?_
              refine h_iinc (pc' := 103) (b := 7) (M := fun z17 => [(3, .int z17), (2, .int (Int32.ofInt 0)), (0, .ref 98), (1, .int (Int32.ofInt 3))]) rfl rfl rfl rfl ci_6 ci_1 rfl (by omega) (by omega) (fun _ => rfl) (fun z17 hz17 => ?_)
              refine h_goto (pc' := 51) rfl rfl ?_
              have qz17 : z17 = (Int32.ofInt 7) := h_lit hz17 ci_7
              subst qz17
              exact h_wk [(0, .ref 98), (1, .int (Int32.ofInt 3)), (2, .int (Int32.ofInt 0)), (3, .int (Int32.ofInt 7))] ⟨rfl, rfl, rfl, rfl, trivial⟩ (ih.2.2.2.2.2.2.2.2.2.2.2.2.2.2.2.2.2.2.2.2.2.2.2.2.2.2.2.2.2.2.2.2.2.2.2.2.2.2.1 (Int32.ofInt 0) _ ci_0 (by omega) ex0 ex1 ex2 (Or.inr ⟨by omega, fun h => by unfold g_nm3 at h; omega⟩) (by omega))
            · refine h_iconst (pc' := 95) (x := (Int32.ofInt 1)) rfl rfl rfl ?_
              refine h_goto (pc' := 99) rfl rfl ?_
              refine h_istore_n (pc' := 100) (M := [(2, .int (Int32.ofInt 1)), (0, .ref 98), (1, .int (Int32.ofInt 3)), (3, .int (Int32.ofInt 6))]) rfl rfl rfl rfl ?_
              refine h_iinc (pc' := 103) (b := 7) (M := fun z18 => [(3, .int z18), (2, .int (Int32.ofInt 1)), (0, .ref 98), (1, .int (Int32.ofInt 3))]) rfl rfl rfl rfl ci_6 ci_1 rfl (by omega) (by omega) (fun _ => rfl) (fun z18 hz18 => ?_)
              refine h_goto (pc' := 51) rfl rfl ?_
              have qz18 : z18 = (Int32.ofInt 7) := h_lit hz18 ci_7
              subst qz18
              exact h_wk [(0, .ref 98), (1, .int (Int32.ofInt 3)), (2, .int (Int32.ofInt 1)), (3, .int (Int32.ofInt 7))] ⟨rfl, rfl, rfl, rfl, trivial⟩ (ih.2.2.2.2.2.2.2.2.2.2.2.2.2.2.2.2.2.2.2.2.2.2.2.2.2.2.2.2.2.2.2.2.2.2.2.2.2.2.1 (Int32.ofInt 1) _ ci_1 (by omega) ex0 ex1 ex2 (Or.inl ⟨by omega, by omega, by omega, by omega, by omega, by omega, by omega, by omega, by omega⟩) (by omega))
          · refine h_aload_n (pc' := 9) rfl rfl rfl ?_
            refine h_getR (pc' := 12) rfl rfl rfl rfl rfl ?_
            refine h_iload_n (pc' := 13) rfl rfl rfl ?_
            refine h_iald (pc' := 14) (v := σ 102 ((σ 98 16) + 6)) rfl rfl rfl hz10 (by omega) (by omega) rfl (fun z19 hz19 => ?_)
            have tz19 := ty_102 hI ((σ 98 16) + 6)
            refine h_goto (pc' := 19) rfl rfl ?_
            refine h_iret rfl rfl (h_Kv ?_)
            refine h_aload_n (pc' := 79) rfl rfl rfl ?_
            refine h_getR (pc' := 82) rfl rfl rfl rfl rfl ?_
            refine h_aload_n (pc' := 83) rfl rfl rfl ?_
            refine h_getR (pc' := 86) rfl rfl rfl rfl rfl ?_
            refine h_iload_n (pc' := 87) rfl rfl rfl ?_
            refine h_iald (pc' := 88) (v := 19) rfl rfl rfl ci_3 (by omega) (by omega) (tx_103_3 hI) (fun z20 hz20 => ?_)
            refine h_iload_n (pc' := 89) rfl rfl rfl ?_
            refine h_iadd (pc' := 90) rfl rfl hz20 ci_6 rfl (by omega) (by omega) (fun z21 hz21 => ?_)
            refine h_iald (pc' := 91) (v := σ 104 (19 + 6)) rfl rfl rfl hz21 (by omega) (by omega) rfl (fun z22 hz22 => ?_)
            have tz22 := ty_104 hI (19 + 6)
            refine h_cne (tg := 98) (pc' := 94) rfl rfl rfl hz19 hz22 (fun c23 => ?_) (fun c23 => ?_)
            · refine h_iconst (pc' := 99) (x := (Int32.ofInt 0)) rfl rfl rfl ?_
              refine h_istore_n (pc' := 100) (M := [(2, .int (Int32.ofInt 0)), (0, .ref 98), (1, .int (Int32.ofInt 3)), (3, .int (Int32.ofInt 6))]) rfl rfl rfl rfl ?_
              refine h_iinc (pc' := 103) (b := 7) (M := fun z24 => [(3, .int z24), (2, .int (Int32.ofInt 0)), (0, .ref 98), (1, .int (Int32.ofInt 3))]) rfl rfl rfl rfl ci_6 ci_1 rfl (by omega) (by omega) (fun _ => rfl) (fun z24 hz24 => ?_)
              refine h_goto (pc' := 51) rfl rfl ?_
              have qz24 : z24 = (Int32.ofInt 7) := h_lit hz24 ci_7
              subst qz24
              exact h_wk [(0, .ref 98), (1, .int (Int32.ofInt 3)), (2, .int (Int32.ofInt 0)), (3, .int (Int32.ofInt 7))] ⟨rfl, rfl, rfl, rfl, trivial⟩ (ih.2.2.2.2.2.2.2.2.2.2.2.2.2.2.2.2.2.2.2.2.2.2.2.2.2.2.2.2.2.2.2.2.2.2.2.2.2.2.1 (Int32.ofInt 0) _ ci_0 (by omega) ex0 ex1 ex2 (Or.inr ⟨by omega, fun h => by unfold g_nm3 at h; omega⟩) (by omega))
            · refine h_iconst (pc' := 95) (x := (Int32.ofInt 1)) rfl rfl rfl ?_
              refine h_goto (pc' := 99) rfl rfl ?_
              refine h_istore_n (pc' := 100) (M := [(2, .int (Int32.ofInt 1)), (0, .ref 98), (1, .int (Int32.ofInt 3)), (3, .int (Int32.ofInt 6))]) rfl rfl rfl rfl ?_
              refine h_iinc (pc' := 103) (b := 7) (M := fun z25 => [(3, .int z25), (2, .int (Int32.ofInt 1)), (0, .ref 98), (1, .int (Int32.ofInt 3))]) rfl rfl rfl rfl ci_6 ci_1 rfl (by omega) (by omega) (fun _ => rfl) (fun z25 hz25 => ?_)
              refine h_goto (pc' := 51) rfl rfl ?_
              have qz25 : z25 = (Int32.ofInt 7) := h_lit hz25 ci_7
              subst qz25
              exact h_wk [(0, .ref 98), (1, .int (Int32.ofInt 3)), (2, .int (Int32.ofInt 1)), (3, .int (Int32.ofInt 7))] ⟨rfl, rfl, rfl, rfl, trivial⟩ (ih.2.2.2.2.2.2.2.2.2.2.2.2.2.2.2.2.2.2.2.2.2.2.2.2.2.2.2.2.2.2.2.2.2.2.2.2.2.2.1 (Int32.ofInt 1) _ ci_1 (by omega) ex0 ex1 ex2 (Or.inl ⟨by omega, by omega, by omega, by omega, by omega, by omega, by omega, by omega, by omega⟩) (by omega))
    · intro  y2 b2 hy2 ry2 ex0 ex1 ex2 ex3 hm; have gh0 := tf_98_11 hI; have gh1 := tf_98_15 hI; have gh2 := tf_98_16 hI
      refine h_iload_n (pc' := 52) rfl rfl rfl ?_
      refine h_zeq (tg := 106) (pc' := 55) rfl rfl rfl hy2 (fun c1 => ?_) (fun c1 => ?_)
      · refine h_iload_n (pc' := 107) rfl rfl rfl ?_
        refine h_zeq (tg := 112) (pc' := 110) rfl rfl rfl hy2 (fun c2 => ?_) (fun c2 => absurd c2 (by omega))
        refine h_iinc (pc' := 115) (b := 4) (M := fun z3 => [(1, .int z3), (0, .ref 98), (2, .int y2), (3, .int (Int32.ofInt 7))]) rfl rfl rfl rfl ci_3 ci_1 rfl (by omega) (by omega) (fun _ => rfl) (fun z3 hz3 => ?_)
        refine h_goto (pc' := 2) rfl rfl ?_
        have qz3 : z3 = (Int32.ofInt 4) := h_lit hz3 ci_4
        subst qz3
        exact h_wk [(0, .ref 98), (1, .int (Int32.ofInt 4)), (2, .int y2), (3, .int (Int32.ofInt 7))] ⟨rfl, rfl, rfl, rfl, trivial⟩ (ih.2.2.2.2.1 y2 _ hy2 (by omega) (Int32.ofInt 7) _ ci_7 (by omega) ex0 ex1 ex2 (ex3.elim (fun h => absurd h.1 (by omega)) (fun h => h.2)) (by omega))
      · refine h_iload_n (pc' := 56) rfl rfl rfl ?_
        refine h_aload_n (pc' := 57) rfl rfl rfl ?_
        refine h_getI (pc' := 60) (v := σ 98 15) rfl rfl rfl rfl rfl rfl (fun z4 hz4 => ?_)
        have tz4 := tf_98_15 hI
        refine h_aload_n (pc' := 61) rfl rfl rfl ?_
        refine h_getI (pc' := 64) (v := σ 98 16) rfl rfl rfl rfl rfl rfl (fun z5 hz5 => ?_)
        have tz5 := tf_98_16 hI
        refine h_isub (pc' := 65) rfl rfl hz4 hz5 rfl (by omega) (by omega) (fun z6 hz6 => ?_)
        refine h_cge (tg := 106) (pc' := 68) rfl rfl rfl ci_7 hz6 (fun c7 => ?_) (fun c7 => ?_)
        · refine h_iload_n (pc' := 107) rfl rfl rfl ?_
          refine h_zeq (tg := 112) (pc' := 110) rfl rfl rfl hy2 (fun c8 => absurd c8 (by omega)) (fun c8 => ?_)
          refine h_iload_n (pc' := 111) rfl rfl rfl ?_
          exact h_iret rfl rfl (kk _ _ ci_3 (by omega) (fun _ => (Or.inr (Or.inr (Or.inr (Or.inr (Or.inl ⟨rfl, ex0, ex1, ex2, ⟨by omega, by omega, by omega, by omega, by omega, by omega, by omega, by omega, by omega⟩⟩)))))) (Or.inl (by omega)))
        · refine h_aload_n (pc' := 69) rfl rfl rfl ?_
          refine h_aload_n (pc' := 70) rfl rfl rfl ?_
          refine h_getI (pc' := 73) (v := σ 98 16) rfl rfl rfl rfl rfl rfl (fun z9 hz9 => ?_)
          have tz9 := tf_98_16 hI
          refine h_iload_n (pc' := 74) rfl rfl rfl ?_
          refine h_iadd (pc' := 75) rfl rfl hz9 ci_7 rfl (by omega) (by omega) (fun z10 hz10 => ?_)
          refine h_call (sp := false) (pc' := 78) (M := [(0, .ref 98), (1, .int z10)]) rfl rfl rfl rfl rfl rfl rfl rfl ?_
          refine h_iload_n (pc' := 1) rfl rfl rfl ?_
          refine h_aload_n (pc' := 2) rfl rfl rfl ?_
          refine h_getI (pc' := 5) (v := σ 98 11) rfl rfl rfl rfl rfl rfl (fun z11 hz11 => ?_)
          have tz11 := tf_98_11 hI
          refine h_cge (tg := 17) (pc' := 8) rfl rfl rfl hz10 hz11 (fun c12 => ?_) (fun c12 => ?_)
          · refine h_bipush (pc' := 19) (x := (Int32.ofInt (-4))) rfl rfl cb_m4 ?_
            refine h_iret rfl rfl (h_Kv ?_)
            refine h_aload_n (pc' := 79) rfl rfl rfl ?_
            refine h_getR (pc' := 82) rfl rfl rfl rfl rfl ?_
            refine h_aload_n (pc' := 83) rfl rfl rfl ?_
            refine h_getR (pc' := 86) rfl rfl rfl rfl rfl ?_
            refine h_iload_n (pc' := 87) rfl rfl rfl ?_
            refine h_iald (pc' := 88) (v := 19) rfl rfl rfl ci_3 (by omega) (by omega) (tx_103_3 hI) (fun z13 hz13 => ?_)
            refine h_iload_n (pc' := 89) rfl rfl rfl ?_
            refine h_iadd (pc' := 90) rfl rfl hz13 ci_7 rfl (by omega) (by omega) (fun z14 hz14 => ?_)
            refine h_iald (pc' := 91) (v := σ 104 (19 + 7)) rfl rfl rfl hz14 (by omega) (by omega) rfl (fun z15 hz15 => ?_)
            have tz15 := ty_104 hI (19 + 7)
            refine h_cne (tg := 98) (pc' := 94) rfl rfl rfl ci_m4 hz15 (fun c16 => ?_) (fun c16 => ?_)
            · refine h_iconst (pc' := 99) (x := (Int32.ofInt 0)) rfl rfl rfl ?_
              refine h_istore_n (pc' := 100) (M := [(2, .int (Int32.ofInt 0)), (0, .ref 98), (1, .int (Int32.ofInt 3)), (3, .int (Int32.ofInt 7))]) rfl rfl rfl rfl ?_
              refine h_iinc (pc' := 103) (b := 8) (M := fun z17 => [(3, .int z17), (2, .int (Int32.ofInt 0)), (0, .ref 98), (1, .int (Int32.ofInt 3))]) rfl rfl rfl rfl ci_7 ci_1 rfl (by omega) (by omega) (fun _ => rfl) (fun z17 hz17 => ?_)
              refine h_goto (pc' := 51) rfl rfl ?_
              have qz17 : z17 = (Int32.ofInt 8) := h_lit hz17 ci_8
              subst qz17
              exact h_wk [(0, .ref 98), (1, .int (Int32.ofInt 3)), (2, .int (Int32.ofInt 0)), (3, .int (Int32.ofInt 8))] ⟨rfl, rfl, rfl, rfl, trivial⟩ (ih.2.2.2.2.2.2.2.2.2.2.2.2.2.2.2.2.2.2.2.2.2.2.2.2.2.2.2.2.2.2.2.2.2.2.2.2.2.2.2.1 (Int32.ofInt 0) _ ci_0 (by omega) ex0 ex1 ex2 (Or.inr ⟨by omega, fun h => by unfold g_nm3 at h; omega⟩) (by omega))
            · refine h_iconst (pc' := 95) (x := (Int32.ofInt 1)) rfl rfl rfl ?_
              refine h_goto (pc' := 99) rfl rfl ?_
              refine h_istore_n (pc' := 100) (M := [(2, .int (Int32.ofInt 1)), (0, .ref 98), (1, .int (Int32.ofInt 3)), (3, .int (Int32.ofInt 7))]) rfl rfl rfl rfl ?_
              refine h_iinc (pc' := 103) (b := 8) (M := fun z18 => [(3, .int z18), (2, .int (Int32.ofInt 1)), (0, .ref 98), (1, .int (Int32.ofInt 3))]) rfl rfl rfl rfl ci_7 ci_1 rfl (by omega) (by omega) (fun _ => rfl) (fun z18 hz18 => ?_)
              refine h_goto (pc' := 51) rfl rfl ?_
              have qz18 : z18 = (Int32.ofInt 8) := h_lit hz18 ci_8
              subst qz18
              exact h_wk [(0, .ref 98), (1, .int (Int32.ofInt 3)), (2, .int (Int32.ofInt 1)), (3, .int (Int32.ofInt 8))] ⟨rfl, rfl, rfl, rfl, trivial⟩ (ih.2.2.2.2.2.2.2.2.2.2.2.2.2.2.2.2.2.2.2.2.2.2.2.2.2.2.2.2.2.2.2.2.2.2.2.2.2.2.2.1 (Int32.ofInt 1) _ ci_1 (by omega) ex0 ex1 ex2 (Or.inl ⟨by omega, by omega, by omega, by omega, by omega, by omega, by omega, by omega, by omega, by omega⟩) (by omega))
          · refine h_aload_n (pc' := 9) rfl rfl rfl ?_
            refine h_getR (pc' := 12) rfl rfl rfl rfl rfl ?_
            refine h_iload_n (pc' := 13) rfl rfl rfl ?_
            refine h_iald (pc' := 14) (v := σ 102 ((σ 98 16) + 7)) rfl rfl rfl hz10 (by omega) (by omega) rfl (fun z19 hz19 => ?_)
            have tz19 := ty_102 hI ((σ 98 16) + 7)
            refine h_goto (pc' := 19) rfl rfl ?_
            refine h_iret rfl rfl (h_Kv ?_)
            refine h_aload_n (pc' := 79) rfl rfl rfl ?_
            refine h_getR (pc' := 82) rfl rfl rfl rfl rfl ?_
            refine h_aload_n (pc' := 83) rfl rfl rfl ?_
            refine h_getR (pc' := 86) rfl rfl rfl rfl rfl ?_
            refine h_iload_n (pc' := 87) rfl rfl rfl ?_
            refine h_iald (pc' := 88) (v := 19) rfl rfl rfl ci_3 (by omega) (by omega) (tx_103_3 hI) (fun z20 hz20 => ?_)
            refine h_iload_n (pc' := 89) rfl rfl rfl ?_
            refine h_iadd (pc' := 90) rfl rfl hz20 ci_7 rfl (by omega) (by omega) (fun z21 hz21 => ?_)
            refine h_iald (pc' := 91) (v := σ 104 (19 + 7)) rfl rfl rfl hz21 (by omega) (by omega) rfl (fun z22 hz22 => ?_)
            have tz22 := ty_104 hI (19 + 7)
            refine h_cne (tg := 98) (pc' := 94) rfl rfl rfl hz19 hz22 (fun c23 => ?_) (fun c23 => ?_)
            · refine h_iconst (pc' := 99) (x := (Int32.ofInt 0)) rfl rfl rfl ?_
              refine h_istore_n (pc' := 100) (M := [(2, .int (Int32.ofInt 0)), (0, .ref 98), (1, .int (Int32.ofInt 3)), (3, .int (Int32.ofInt 7))]) rfl rfl rfl rfl ?_
              refine h_iinc (pc' := 103) (b := 8) (M := fun z24 => [(3, .int z24), (2, .int (Int32.ofInt 0)), (0, .ref 98), (1, .int (Int32.ofInt 3))]) rfl rfl rfl rfl ci_7 ci_1 rfl (by omega) (by omega) (fun _ => rfl) (fun z24 hz24 => ?_)
              refine h_goto (pc' := 51) rfl rfl ?_
              have qz24 : z24 = (Int32.ofInt 8) := h_lit hz24 ci_8
              subst qz24
              exact h_wk [(0, .ref 98), (1, .int (Int32.ofInt 3)), (2, .int (Int32.ofInt 0)), (3, .int (Int32.ofInt 8))] ⟨rfl, rfl, rfl, rfl, trivial⟩ (ih.2.2.2.2.2.2.2.2.2.2.2.2.2.2.2.2.2.2.2.2.2.2.2.2.2.2.2.2.2.2.2.2.2.2.2.2.2.2.2.1 (Int32.ofInt 0) _ ci_0 (by omega) ex0 ex1 ex2 (Or.inr ⟨by omega, fun h => by unfold g_nm3 at h; omega⟩) (by omega))
            · refine h_iconst (pc' := 95) (x := (Int32.ofInt 1)) rfl rfl rfl ?_
              refine h_goto (pc' := 99) rfl rfl ?_
              refine h_istore_n (pc' := 100) (M := [(2, .int (Int32.ofInt 1)), (0, .ref 98), (1, .int (Int32.ofInt 3)), (3, .int (Int32.ofInt 7))]) rfl rfl rfl rfl ?_
              refine h_iinc (pc' := 103) (b := 8) (M := fun z25 => [(3, .int z25), (2, .int (Int32.ofInt 1)), (0, .ref 98), (1, .int (Int32.ofInt 3))]) rfl rfl rfl rfl ci_7 ci_1 rfl (by omega) (by omega) (fun _ => rfl) (fun z25 hz25 => ?_)
              refine h_goto (pc' := 51) rfl rfl ?_
              have qz25 : z25 = (Int32.ofInt 8) := h_lit hz25 ci_8
              subst qz25
              exact h_wk [(0, .ref 98), (1, .int (Int32.ofInt 3)), (2, .int (Int32.ofInt 1)), (3, .int (Int32.ofInt 8))] ⟨rfl, rfl, rfl, rfl, trivial⟩ (ih.2.2.2.2.2.2.2.2.2.2.2.2.2.2.2.2.2.2.2.2.2.2.2.2.2.2.2.2.2.2.2.2.2.2.2.2.2.2.2.1 (Int32.ofInt 1) _ ci_1 (by omega) ex0 ex1 ex2 (Or.inl ⟨by omega, by omega, by omega, by omega, by omega, by omega, by omega, by omega, by omega, by omega⟩) (by omega))
    · intro  y2 b2 hy2 ry2 ex0 ex1 ex2 ex3 hm; have gh0 := tf_98_11 hI; have gh1 := tf_98_15 hI; have gh2 := tf_98_16 hI
      refine h_iload_n (pc' := 52) rfl rfl rfl ?_
      refine h_zeq (tg := 106) (pc' := 55) rfl rfl rfl hy2 (fun c1 => ?_) (fun c1 => ?_)
      · refine h_iload_n (pc' := 107) rfl rfl rfl ?_
        refine h_zeq (tg := 112) (pc' := 110) rfl rfl rfl hy2 (fun c2 => ?_) (fun c2 => absurd c2 (by omega))
        refine h_iinc (pc' := 115) (b := 4) (M := fun z3 => [(1, .int z3), (0, .ref 98), (2, .int y2), (3, .int (Int32.ofInt 8))]) rfl rfl rfl rfl ci_3 ci_1 rfl (by omega) (by omega) (fun _ => rfl) (fun z3 hz3 => ?_)
        refine h_goto (pc' := 2) rfl rfl ?_
        have qz3 : z3 = (Int32.ofInt 4) := h_lit hz3 ci_4
        subst qz3
        exact h_wk [(0, .ref 98), (1, .int (Int32.ofInt 4)), (2, .int y2), (3, .int (Int32.ofInt 8))] ⟨rfl, rfl, rfl, rfl, trivial⟩ (ih.2.2.2.2.1 y2 _ hy2 (by omega) (Int32.ofInt 8) _ ci_8 (by omega) ex0 ex1 ex2 (ex3.elim (fun h => absurd h.1 (by omega)) (fun h => h.2)) (by omega))
      · refine h_iload_n (pc' := 56) rfl rfl rfl ?_
        refine h_aload_n (pc' := 57) rfl rfl rfl ?_
        refine h_getI (pc' := 60) (v := σ 98 15) rfl rfl rfl rfl rfl rfl (fun z4 hz4 => ?_)
        have tz4 := tf_98_15 hI
        refine h_aload_n (pc' := 61) rfl rfl rfl ?_
        refine h_getI (pc' := 64) (v := σ 98 16) rfl rfl rfl rfl rfl rfl (fun z5 hz5 => ?_)
        have tz5 := tf_98_16 hI
        refine h_isub (pc' := 65) rfl rfl hz4 hz5 rfl (by omega) (by omega) (fun z6 hz6 => ?_)
        refine h_cge (tg := 106) (pc' := 68) rfl rfl rfl ci_8 hz6 (fun c7 => ?_) (fun c7 => ?_)
        · refine h_iload_n (pc' := 107) rfl rfl rfl ?_
          refine h_zeq (tg := 112) (pc' := 110) rfl rfl rfl hy2 (fun c8 => absurd c8 (by omega)) (fun c8 => ?_)
          refine h_iload_n (pc' := 111) rfl rfl rfl ?_
          exact h_iret rfl rfl (kk _ _ ci_3 (by omega) (fun _ => (Or.inr (Or.inr (Or.inr (Or.inr (Or.inl ⟨rfl, ex0, ex1, ex2, ⟨by omega, by omega, by omega, by omega, by omega, by omega, by omega, by omega, by omega⟩⟩)))))) (Or.inl (by omega)))
        · exfalso; omega
    · intro  y2 b2 hy2 ry2 ex0 ex1 ex2 ex3 ex4 hm; have gh0 := tf_98_11 hI; have gh1 := tf_98_15 hI; have gh2 := tf_98_16 hI
      refine h_iload_n (pc' := 52) rfl rfl rfl ?_
      refine h_zeq (tg := 106) (pc' := 55) rfl rfl rfl hy2 (fun c1 => ?_) (fun c1 => ?_)
      · refine h_iload_n (pc' := 107) rfl rfl rfl ?_
        refine h_zeq (tg := 112) (pc' := 110) rfl rfl rfl hy2 (fun c2 => ?_) (fun c2 => absurd c2 (by omega))
        refine h_iinc (pc' := 115) (b := 5) (M := fun z3 => [(1, .int z3), (0, .ref 98), (2, .int y2), (3, .int (Int32.ofInt 0))]) rfl rfl rfl rfl ci_4 ci_1 rfl (by omega) (by omega) (fun _ => rfl) (fun z3 hz3 => ?_)
        refine h_goto (pc' := 2) rfl rfl ?_
        have qz3 : z3 = (Int32.ofInt 5) := h_lit hz3 ci_5
        subst qz3
        exact h_wk [(0, .ref 98), (1, .int (Int32.ofInt 5)), (2, .int y2), (3, .int (Int32.ofInt 0))] ⟨rfl, rfl, rfl, rfl, trivial⟩ (ih.2.2.2.2.2.1 y2 _ hy2 (by omega) (Int32.ofInt 0) _ ci_0 (by omega) ex0 ex1 ex2 ex3 (ex4.elim (fun h => absurd h.1 (by omega)) (fun h => h.2)) (by omega))
      · refine h_iload_n (pc' := 56) rfl rfl rfl ?_
        refine h_aload_n (pc' := 57) rfl rfl rfl ?_
        refine h_getI (pc' := 60) (v := σ 98 15) rfl rfl rfl rfl rfl rfl (fun z4 hz4 => ?_)
        have tz4 := tf_98_15 hI
        refine h_aload_n (pc' := 61) rfl rfl rfl ?_
        refine h_getI (pc' := 64) (v := σ 98 16) rfl rfl rfl rfl rfl rfl (fun z5 hz5 => ?_)
        have tz5 := tf_98_16 hI
        refine h_isub (pc' := 65) rfl rfl hz4 hz5 rfl (by omega) (by omega) (fun z6 hz6 => ?_)
        refine h_cge (tg := 106) (pc' := 68) rfl rfl rfl ci_0 hz6 (fun c7 => ?_) (fun c7 => ?_)
        · refine h_iload_n (pc' := 107) rfl rfl rfl ?_
          refine h_zeq (tg := 112) (pc' := 110) rfl rfl rfl hy2 (fun c8 => absurd c8 (by omega)) (fun c8 => ?_)
          refine h_iload_n (pc' := 111) rfl rfl rfl ?_
          exact h_iret rfl rfl (kk _ _ ci_4 (by omega) (fun _ => (Or.inr (Or.inr (Or.inr (Or.inr (Or.inr (Or.inl ⟨rfl, ex0, ex1, ex2, ex3, ⟨by omega, by omega, by omega, by omega, by omega, by omega⟩⟩))))))) (Or.inl (by omega)))
        · refine h_aload_n (pc' := 69) rfl rfl rfl ?_
          refine h_aload_n (pc' := 70) rfl rfl rfl ?_
          refine h_getI (pc' := 73) (v := σ 98 16) rfl rfl rfl rfl rfl rfl (fun z9 hz9 => ?_)
          have tz9 := tf_98_16 hI
          refine h_iload_n (pc' := 74) rfl rfl rfl ?_
          refine h_iadd (pc' := 75) rfl rfl hz9 ci_0 rfl (by omega) (by omega) (fun z10 hz10 => ?_)
          refine h_call (sp := false) (pc' := 78) (M := [(0, .ref 98), (1, .int z10)]) rfl rfl rfl rfl rfl rfl rfl rfl ?_
          refine h_iload_n (pc' := 1) rfl rfl rfl ?_
          refine h_aload_n (pc' := 2) rfl rfl rfl ?_
          refine h_getI (pc' := 5) (v := σ 98 11) rfl rfl rfl rfl rfl rfl (fun z11 hz11 => ?_)
          have tz11 := tf_98_11 hI
          refine h_cge (tg := 17) (pc' := 8) rfl rfl rfl hz10 hz11 (fun c12 => ?_) (fun c12 => ?_)
          · refine h_bipush (pc' := 19) (x := (Int32.ofInt (-4))) rfl rfl cb_m4 ?_
            refine h_iret rfl rfl (h_Kv ?_)
            refine h_aload_n (pc' := 79) rfl rfl rfl ?_
            refine h_getR (pc' := 82) rfl rfl rfl rfl rfl ?_
            refine h_aload_n (pc' := 83) rfl rfl rfl ?_
            refine h_getR (pc' := 86) rfl rfl rfl rfl rfl ?_
            refine h_iload_n (pc' := 87) rfl rfl rfl ?_
            refine h_iald (pc' := 88) (v := 27) rfl rfl rfl ci_4 (by omega) (by omega) (tx_103_4 hI) (fun z13 hz13 => ?_)
            refine h_iload_n (pc' := 89) rfl rfl rfl ?_
            refine h_iadd (pc' := 90) rfl rfl hz13 ci_0 rfl (by omega) (by omega) (fun z14 hz14 => ?_)
            refine h_iald (pc' := 91) (v := σ 104 (27 + 0)) rfl rfl rfl hz14 (by omega) (by omega) rfl (fun z15 hz15 => ?_)
            have tz15 := ty_104 hI (27 + 0)
            refine h_cne (tg := 98) (pc' := 94) rfl rfl rfl ci_m4 hz15 (fun c16 => ?_) (fun c16 => ?_)
            · refine h_iconst (pc' := 99) (x := (Int32.ofInt 0)) rfl rfl rfl ?_
              refine h_istore_n (pc' := 100) (M := [(2, .int (Int32.ofInt 0)), (0, .ref 98), (1, .int (Int32.ofInt 4)), (3, .int (Int32.ofInt 0))]) rfl rfl rfl rfl ?_
              refine h_iinc (pc' := 103) (b := 1) (M := fun z17 => [(3, .int z17), (2, .int (Int32.ofInt 0)), (0, .ref 98), (1, .int (Int32.ofInt 4))]) rfl rfl rfl rfl ci_0 ci_1 rfl (by omega) (by omega) (fun _ => rfl) (fun z17 hz17 => ?_)
              refine h_goto (pc' := 51) rfl rfl ?_
              have qz17 : z17 = (Int32.ofInt 1) := h_lit hz17 ci_1
              subst qz17
              exact h_wk [(0, .ref 98), (1, .int (Int32.ofInt 4)), (2, .int (Int32.ofInt 0)), (3, .int (Int32.ofInt 1))] ⟨rfl, rfl, rfl, rfl, trivial⟩ (ih.2.2.2.2.2.2.2.2.2.2.2.2.2.2.2.2.2.2.2.2.2.2.2.2.2.2.2.2.2.2.2.2.2.2.2.2.2.2.2.2.2.1 (Int32.ofInt 0) _ ci_0 (by omega) ex0 ex1 ex2 ex3 (Or.inr ⟨by omega, fun h => by unfold g_nm4 at h; omega⟩) (by omega))
            · refine h_iconst (pc' := 95) (x := (Int32.ofInt 1)) rfl rfl rfl ?_
              refine h_goto (pc' := 99) rfl rfl ?_
              refine h_istore_n (pc' := 100) (M := [(2, .int (Int32.ofInt 1)), (0, .ref 98), (1, .int (Int32.ofInt 4)), (3, .int (Int32.ofInt 0))]) rfl rfl rfl rfl ?_
              refine h_iinc (pc' := 103) (b := 1) (M := fun z18 => [(3, .int z18), (2, .int (Int32.ofInt 1)), (0, .ref 98), (1, .int (Int32.ofInt 4))]) rfl rfl rfl rfl ci_0 ci_1 rfl (by omega) (by omega) (fun _ => rfl) (fun z18 hz18 => ?_)
              refine h_goto (pc' := 51) rfl rfl ?_
              have qz18 : z18 = (Int32.ofInt 1) := h_lit hz18 ci_1
              subst qz18
              exact h_wk [(0, .ref 98), (1, .int (Int32.ofInt 4)), (2, .int (Int32.ofInt 1)), (3, .int (Int32.ofInt 1))] ⟨rfl, rfl, rfl, rfl, trivial⟩ (ih.2.2.2.2.2.2.2.2.2.2.2.2.2.2.2.2.2.2.2.2.2.2.2.2.2.2.2.2.2.2.2.2.2.2.2.2.2.2.2.2.2.1 (Int32.ofInt 1) _ ci_1 (by omega) ex0 ex1 ex2 ex3 (Or.inl ⟨by omega, by omega, by omega⟩) (by omega))
          · refine h_aload_n (pc' := 9) rfl rfl rfl ?_
            refine h_getR (pc' := 12) rfl rfl rfl rfl rfl ?_
            refine h_iload_n (pc' := 13) rfl rfl rfl ?_
            refine h_iald (pc' := 14) (v := σ 102 ((σ 98 16) + 0)) rfl rfl rfl hz10 (by omega) (by omega) rfl (fun z19 hz19 => ?_)
            have tz19 := ty_102 hI ((σ 98 16) + 0)
            refine h_goto (pc' := 19) rfl rfl ?_
            refine h_iret rfl rfl (h_Kv ?_)
            refine h_aload_n (pc' := 79) rfl rfl rfl ?_
            refine h_getR (pc' := 82) rfl rfl rfl rfl rfl ?_
            refine h_aload_n (pc' := 83) rfl rfl rfl ?_
            refine h_getR (pc' := 86) rfl rfl rfl rfl rfl ?_
            refine h_iload_n (pc' := 87) rfl rfl rfl ?_
            refine h_iald (pc' := 88) (v := 27) rfl rfl rfl ci_4 (by omega) (by omega) (tx_103_4 hI) (fun z20 hz20 => ?_)
            refine h_iload_n (pc' := 89) rfl rfl rfl ?_
            refine h_iadd (pc' := 90) rfl rfl hz20 ci_0 rfl (by omega) (by omega) (fun z21 hz21 => ?_)
            refine h_iald (pc' := 91) (v := σ 104 (27 + 0)) rfl rfl rfl hz21 (by omega) (by omega) rfl (fun z22 hz22 => ?_)
            have tz22 := ty_104 hI (27 + 0)
            refine h_cne (tg := 98) (pc' := 94) rfl rfl rfl hz19 hz22 (fun c23 => ?_) (fun c23 => ?_)
            · refine h_iconst (pc' := 99) (x := (Int32.ofInt 0)) rfl rfl rfl ?_
              refine h_istore_n (pc' := 100) (M := [(2, .int (Int32.ofInt 0)), (0, .ref 98), (1, .int (Int32.ofInt 4)), (3, .int (Int32.ofInt 0))]) rfl rfl rfl rfl ?_
              refine h_iinc (pc' := 103) (b := 1) (M := fun z24 => [(3, .int z24), (2, .int (Int32.ofInt 0)), (0, .ref 98), (1, .int (Int32.ofInt 4))]) rfl rfl rfl rfl ci_0 ci_1 rfl (by omega) (by omega) (fun _ => rfl) (fun z24 hz24 => ?_)
              refine h_goto (pc' := 51) rfl rfl ?_
              have qz24 : z24 = (Int32.ofInt 1) := h_lit hz24 ci_1
              subst qz24
              exact h_wk [(0, .ref 98), (1, .int (Int32.ofInt 4)), (2, .int (Int32.ofInt 0)), (3, .int (Int32.ofInt 1))] ⟨rfl, rfl, rfl, rfl, trivial⟩ (ih.2.2.2.2.2.2.2.2.2.2.2.2.2.2.2.2.2.2.2.2.2.2.2.2.2.2.2.2.2.2.2.2.2.2.2.2.2.2.2.2.2.1 (Int32.ofInt 0) _ ci_0 (by omega) ex0 ex1 ex2 ex3 (Or.inr ⟨by omega, fun h => by unfold g_nm4 at h; omega⟩) (by omega))
            · refine h_iconst (pc' := 95) (x := (Int32.ofInt 1)) rfl rfl rfl ?_
              refine h_goto (pc' := 99) rfl rfl ?_
              refine h_istore_n (pc' := 100) (M := [(2, .int (Int32.ofInt 1)), (0, .ref 98), (1, .int (Int32.ofInt 4)), (3, .int (Int32.ofInt 0))]) rfl rfl rfl rfl ?_
              refine h_iinc (pc' := 103) (b := 1) (M := fun z25 => [(3, .int z25), (2, .int (Int32.ofInt 1)), (0, .ref 98), (1, .int (Int32.ofInt 4))]) rfl rfl rfl rfl ci_0 ci_1 rfl (by omega) (by omega) (fun _ => rfl) (fun z25 hz25 => ?_)
              refine h_goto (pc' := 51) rfl rfl ?_
              have qz25 : z25 = (Int32.ofInt 1) := h_lit hz25 ci_1
              subst qz25
              exact h_wk [(0, .ref 98), (1, .int (Int32.ofInt 4)), (2, .int (Int32.ofInt 1)), (3, .int (Int32.ofInt 1))] ⟨rfl, rfl, rfl, rfl, trivial⟩ (ih.2.2.2.2.2.2.2.2.2.2.2.2.2.2.2.2.2.2.2.2.2.2.2.2.2.2.2.2.2.2.2.2.2.2.2.2.2.2.2.2.2.1 (Int32.ofInt 1) _ ci_1 (by omega) ex0 ex1 ex2 ex3 (Or.inl ⟨by omega, by omega, by omega⟩) (by omega))
    · intro  y2 b2 hy2 ry2 ex0 ex1 ex2 ex3 ex4 hm; have gh0 := tf_98_11 hI; have gh1 := tf_98_15 hI; have gh2 := tf_98_16 hI
      refine h_iload_n (pc' := 52) rfl rfl rfl ?_
      refine h_zeq (tg := 106) (pc' := 55) rfl rfl rfl hy2 (fun c1 => ?_) (fun c1 => ?_)
      · refine h_iload_n (pc' := 107) rfl rfl rfl ?_
        refine h_zeq (tg := 112) (pc' := 110) rfl rfl rfl hy2 (fun c2 => ?_) (fun c2 => absurd c2 (by omega))
        refine h_iinc (pc' := 115) (b := 5) (M := fun z3 => [(1, .int z3), (0, .ref 98), (2, .int y2), (3, .int (Int32.ofInt 1))]) rfl rfl rfl rfl ci_4 ci_1 rfl (by omega) (by omega) (fun _ => rfl) (fun z3 hz3 => ?_)
        refine h_goto (pc' := 2) rfl rfl ?_
        have qz3 : z3 = (Int32.ofInt 5) := h_lit hz3 ci_5
        subst qz3
        exact h_wk [(0, .ref 98), (1, .int (Int32.ofInt 5)), (2, .int y2), (3, .int (Int32.ofInt 1))] ⟨rfl, rfl, rfl, rfl, trivial⟩ (ih.2.2.2.2.2.1 y2 _ hy2 (by omega) (Int32.ofInt 1) _ ci_1 (by omega) ex0 ex1 ex2 ex3 (ex4.elim (fun h => absurd h.1 (by omega)) (fun h => h.2)) (by omega))
      · refine h_iload_n (pc' := 56) rfl rfl rfl ?_
        refine h_aload_n (pc' := 57) rfl rfl rfl ?_
        refine h_getI (pc' := 60) (v := σ 98 15) rfl rfl rfl rfl rfl rfl (fun z4 hz4 => ?_)
        have tz4 := tf_98_15 hI
        refine h_aload_n (pc' := 61) rfl rfl rfl ?_
        refine h_getI (pc' := 64) (v := σ 98 16) rfl rfl rfl rfl rfl rfl (fun z5 hz5 => ?_)
        have tz5 := tf_98_16 hI
        refine h_isub (pc' := 65) rfl rfl hz4 hz5 rfl (by omega) (by omega) (fun z6 hz6 => ?_)
        refine h_cge (tg := 106) (pc' := 68) rfl rfl rfl ci_1 hz6 (fun c7 => ?_) (fun c7 => ?_)
        · refine h_iload_n (pc' := 107) rfl rfl rfl ?_
          refine h_zeq (tg := 112) (pc' := 110) rfl rfl rfl hy2 (fun c8 => absurd c8 (by omega)) (fun c8 => ?_)
          refine h_iload_n (pc' := 111) rfl rfl rfl ?_
          exact h_iret rfl rfl (kk _ _ ci_4 (by omega) (fun _ => (Or.inr (Or.inr (Or.inr (Or.inr (Or.inr (Or.inl ⟨rfl, ex0, ex1, ex2, ex3, ⟨by omega, by omega, by omega, by omega, by omega, by omega⟩⟩))))))) (Or.inl (by omega)))
        · refine h_aload_n (pc' := 69) rfl rfl rfl ?_
          refine h_aload_n (pc' := 70) rfl rfl rfl ?_
          refine h_getI (pc' := 73) (v := σ 98 16) rfl rfl rfl rfl rfl rfl (fun z9 hz9 => ?_)
          have tz9 := tf_98_16 hI
          refine h_iload_n (pc' := 74) rfl rfl rfl ?_
          refine h_iadd (pc' := 75) rfl rfl hz9 ci_1 rfl (by omega) (by omega) (fun z10 hz10 => ?_)
          refine h_call (sp := false) (pc' := 78) (M := [(0, .ref 98), (1, .int z10)]) rfl rfl rfl rfl rfl rfl rfl rfl ?_
          refine h_iload_n (pc' := 1) rfl rfl rfl ?_
          refine h_aload_n (pc' := 2) rfl rfl rfl ?_
          refine h_getI (pc' := 5) (v := σ 98 11) rfl rfl rfl rfl rfl rfl (fun z11 hz11 => ?_)
          have tz11 := tf_98_11 hI
          refine h_cge (tg := 17) (pc' := 8) rfl rfl rfl hz10 hz11 (fun c12 => ?_) (fun c12 => ?_)
          · refine h_bipush (pc' := 19) (x := (Int32.ofInt (-4))) rfl rfl cb_m4 ?_
            refine h_iret rfl rfl (h_Kv ?_)
            refine h_aload_n (pc' := 79) rfl rfl rfl ?_
            refine h_getR (pc' := 82) rfl rfl rfl rfl rfl ?_
            refine h_aload_n (pc' := 83) rfl rfl rfl ?_
            refine h_getR (pc' := 86) rfl rfl rfl rfl rfl ?_
            refine h_iload_n (pc' := 87) rfl rfl rfl ?_
            refine h_iald (pc' := 88) (v := 27) rfl rfl rfl ci_4 (by omega) (by omega) (tx_103_4 hI) (fun z13 hz13 => ?_)
            refine h_iload_n (pc' := 89) rfl rfl rfl ?_
            refine h_iadd (pc' := 90) rfl rfl hz13 ci_1 rfl (by omega) (by omega) (fun z14 hz14 => ?_)
            refine h_iald (pc' := 91) (v := σ 104 (27 + 1)) rfl rfl rfl hz14 (by omega) (by omega) rfl (fun z15 hz15 => ?_)
            have tz15 := ty_104 hI (27 + 1)
            refine h_cne (tg := 98) (pc' := 94) rfl rfl rfl ci_m4 hz15 (fun c16 => ?_) (fun c16 => ?_)
            · refine h_iconst (pc' := 99) (x := (Int32.ofInt 0)) rfl rfl rfl ?_
              refine h_istore_n (pc' := 100) (M := [(2, .int (Int32.ofInt 0)), (0, .ref 98), (1, .int (Int32.ofInt 4)), (3, .int (Int32.ofInt 1))]) rfl rfl rfl rfl ?_
              refine h_iinc (pc' := 103) (b := 2) (M := fun z17 => [(3, .int z17), (2, .int (Int32.ofInt 0)), (0, .ref 98), (1, .int (Int32.ofInt 4))]) rfl rfl rfl rfl ci_1 ci_1 rfl (by omega) (by omega) (fun _ => rfl) (fun z17 hz17 => ?_)
              refine h_goto (pc' := 51) rfl rfl ?_
              have qz17 : z17 = (Int32.ofInt 2) := h_lit hz17 ci_2
              subst qz17
              exact h_wk [(0, .ref 98), (1, .int (Int32.ofInt 4)), (2, .int (Int32.ofInt 0)), (3, .int (Int32.ofInt 2))] ⟨rfl, rfl, rfl, rfl, trivial⟩ (ih.2.2.2.2.2.2.2.2.2.2.2.2.2.2.2.2.2.2.2.2.2.2.2.2.2.2.2.2.2.2.2.2.2.2.2.2.2.2.2.2.2.2.1 (Int32.ofInt 0) _ ci_0 (by omega) ex0 ex1 ex2 ex3 (Or.inr ⟨by omega, fun h => by unfold g_nm4 at h; omega⟩) (by omega))
            · refine h_iconst (pc' := 95) (x := (Int32.ofInt 1)) rfl rfl rfl ?_
              refine h_goto (pc' := 99) rfl rfl ?_
              refine h_istore_n (pc' := 100) (M := [(2, .int (Int32.ofInt 1)), (0, .ref 98), (1, .int (Int32.ofInt 4)), (3, .int (Int32.ofInt 1))]) rfl rfl rfl rfl ?_
              refine h_iinc (pc' := 103) (b := 2) (M := fun z18 => [(3, .int z18), (2, .int (Int32.ofInt 1)), (0, .ref 98), (1, .int (Int32.ofInt 4))]) rfl rfl rfl rfl ci_1 ci_1 rfl (by omega) (by omega) (fun _ => rfl) (fun z18 hz18 => ?_)
              refine h_goto (pc' := 51) rfl rfl ?_
              have qz18 : z18 = (Int32.ofInt 2) := h_lit hz18 ci_2
              subst qz18
              exact h_wk [(0, .ref 98), (1, .int (Int32.ofInt 4)), (2, .int (Int32.ofInt 1)), (3, .int (Int32.ofInt 2))] ⟨rfl, rfl, rfl, rfl, trivial⟩ (ih.2.2.2.2.2.2.2.2.2.2.2.2.2.2.2.2.2.2.2.2.2.2.2.2.2.2.2.2.2.2.2.2.2.2.2.2.2.2.2.2.2.2.1 (Int32.ofInt 1) _ ci_1 (by omega) ex0 ex1 ex2 ex3 (Or.inl ⟨by omega, by omega, by omega, by omega⟩) (by omega))
          · refine h_aload_n (pc' := 9) rfl rfl rfl ?_
            refine h_getR (pc' := 12) rfl rfl rfl rfl rfl ?_
            refine h_iload_n (pc' := 13) rfl rfl rfl ?_
            refine h_iald (pc' := 14) (v := σ 102 ((σ 98 16) + 1)) rfl rfl rfl hz10 (by omega) (by omega) rfl (fun z19 hz19 => ?_)
            have tz19 := ty_102 hI ((σ 98 16) + 1)
            refine h_goto (pc' := 19) rfl rfl ?_
            refine h_iret rfl rfl (h_Kv ?_)
            refine h_aload_n (pc' := 79) rfl rfl rfl ?_
            refine h_getR (pc' := 82) rfl rfl rfl rfl rfl ?_
            refine h_aload_n (pc' := 83) rfl rfl rfl ?_
            refine h_getR (pc' := 86) rfl rfl rfl rfl rfl ?_
            refine h_iload_n (pc' := 87) rfl rfl rfl ?_
            refine h_iald (pc' := 88) (v := 27) rfl rfl rfl ci_4 (by omega) (by omega) (tx_103_4 hI) (fun z20 hz20 => ?_)
            refine h_iload_n (pc' := 89) rfl rfl rfl ?_
            refine h_iadd (pc' := 90) rfl rfl hz20 ci_1 rfl (by omega) (by omega) (fun z21 hz21 => ?_)
            refine h_iald (pc' := 91) (v := σ 104 (27 + 1)) rfl rfl rfl hz21 (by omega) (by omega) rfl (fun z22 hz22 => ?_)
            have tz22 := ty_104 hI (27 + 1)
            refine h_cne (tg := 98) (pc' := 94) rfl rfl rfl hz19 hz22 (fun c23 => ?_) (fun c23 => ?_)
            · refine h_iconst (pc' := 99) (x := (Int32.ofInt 0)) rfl rfl rfl ?_
              refine h_istore_n (pc' := 100) (M := [(2, .int (Int32.ofInt 0)), (0, .ref 98), (1, .int (Int32.ofInt 4)), (3, .int (Int32.ofInt 1))]) rfl rfl rfl rfl ?_
              refine h_iinc (pc' := 103) (b := 2) (M := fun z24 => [(3, .int z24), (2, .int (Int32.ofInt 0)), (0, .ref 98), (1, .int (Int32.ofInt 4))]) rfl rfl rfl rfl ci_1 ci_1 rfl (by omega) (by omega) (fun _ => rfl) (fun z24 hz24 => ?_)
              refine h_goto (pc' := 51) rfl rfl ?_
              have qz24 : z24 = (Int32.ofInt 2) := h_lit hz24 ci_2
              subst qz24
              exact h_wk [(0, .ref 98), (1, .int (Int32.ofInt 4)), (2, .int (Int32.ofInt 0)), (3, .int (Int32.ofInt 2))] ⟨rfl, rfl, rfl, rfl, trivial⟩ (ih.2.2.2.2.2.2.2.2.2.2.2.2.2.2.2.2.2.2.2.2.2.2.2.2.2.2.2.2.2.2.2.2.2.2.2.2.2.2.2.2.2.2.1 (Int32.ofInt 0) _ ci_0 (by omega) ex0 ex1 ex2 ex3 (Or.inr ⟨by omega, fun h => by unfold g_nm4 at h; omega⟩) (by omega))
            · refine h_iconst (pc' := 95) (x := (Int32.ofInt 1)) rfl rfl rfl ?_
              refine h_goto (pc' := 99) rfl rfl ?_
              refine h_istore_n (pc' := 100) (M := [(2, .int (Int32.ofInt 1)), (0, .ref 98), (1, .int (Int32.ofInt 4)), (3, .int (Int32.ofInt 1))]) rfl rfl rfl rfl ?_
              refine h_iinc (pc' := 103) (b := 2) (M := fun z25 => [(3, .int z25), (2, .int (Int32.ofInt 1)), (0, .ref 98), (1, .int (Int32.ofInt 4))]) rfl rfl rfl rfl ci_1 ci_1 rfl (by omega) (by omega) (fun _ => rfl) (fun z25 hz25 => ?_)
              refine h_goto (pc' := 51) rfl rfl ?_
              have qz25 : z25 = (Int32.ofInt 2) := h_lit hz25 ci_2
              subst qz25
              exact h_wk [(0, .ref 98), (1, .int (Int32.ofInt 4)), (2, .int (Int32.ofInt 1)), (3, .int (Int32.ofInt 2))] ⟨rfl, rfl, rfl, rfl, trivial⟩ (ih.2.2.2.2.2.2.2.2.2.2.2.2.2.2.2.2.2.2.2.2.2.2.2.2.2.2.2.2.2.2.2.2.2.2.2.2.2.2.2.2.2.2.1 (Int32.ofInt 1) _ ci_1 (by omega) ex0 ex1 ex2 ex3 (Or.inl ⟨by omega, by omega, by omega, by omega⟩) (by omega))
    · intro  y2 b2 hy2 ry2 ex0 ex1 ex2 ex3 ex4 hm; have gh0 := tf_98_11 hI; have gh1 := tf_98_15 hI; have gh2 := tf_98_16 hI
      refine h_iload_n (pc' := 52) rfl rfl rfl ?_
      refine h_zeq (tg := 106) (pc' := 55) rfl rfl rfl hy2 (fun c1 => ?_) (fun c1 => ?_)
      · refine h_iload_n (pc' := 107) rfl rfl rfl ?_
        refine h_zeq (tg := 112) (pc' := 110) rfl rfl rfl hy2 (fun c2 => ?_) (fun c2 => absurd c2 (by omega))
        refine h_iinc (pc' := 115) (b := 5) (M := fun z3 => [(1, .int z3), (0, .ref 98), (2, .int y2), (3, .int (Int32.ofInt 2))]) rfl rfl rfl rfl ci_4 ci_1 rfl (by omega) (by omega) (fun _ => rfl) (fun z3 hz3 => ?_)
        refine h_goto (pc' := 2) rfl rfl ?_
        have qz3 : z3 = (Int32.ofInt 5) := h_lit hz3 ci_5
        subst qz3
        exact h_wk [(0, .ref 98), (1, .int (Int32.ofInt 5)), (2, .int y2), (3, .int (Int32.ofInt 2))] ⟨rfl, rfl, rfl, rfl, trivial⟩ (ih.2.2.2.2.2.1 y2 _ hy2 (by omega) (Int32.ofInt 2) _ ci_2 (by omega) ex0 ex1 ex2 ex3 (ex4.elim (fun h => absurd h.1 (by omega)) (fun h => h.2)) (by omega))
      · refine h_iload_n (pc' := 56) rfl rfl rfl ?_
        refine h_aload_n (pc' := 57) rfl rfl rfl ?_
        refine h_getI (pc' := 60) (v := σ 98 15) rfl rfl rfl rfl rfl rfl (fun z4 hz4 => ?_)
        have tz4 := tf_98_15 hI
        refine h_aload_n (pc' := 61) rfl rfl rfl ?_
        refine h_getI (pc' := 64) (v := σ 98 16) rfl rfl rfl rfl rfl rfl (fun z5 hz5 => ?_)
        have tz5 := tf_98_16 hI
        refine h_isub (pc' := 65) rfl rfl hz4 hz5 rfl (by omega) (by omega) (fun z6 hz6 => ?_)
        refine h_cge (tg := 106) (pc' := 68) rfl rfl rfl ci_2 hz6 (fun c7 => ?_) (fun c7 => ?_)
        · refine h_iload_n (pc' := 107) rfl rfl rfl ?_
          refine h_zeq (tg := 112) (pc' := 110) rfl rfl rfl hy2 (fun c8 => absurd c8 (by omega)) (fun c8 => ?_)
          refine h_iload_n (pc' := 111) rfl rfl rfl ?_
          exact h_iret rfl rfl (kk _ _ ci_4 (by omega) (fun _ => (Or.inr (Or.inr (Or.inr (Or.inr (Or.inr (Or.inl ⟨rfl, ex0, ex1, ex2, ex3, ⟨by omega, by omega, by omega, by omega, by omega, by omega⟩⟩))))))) (Or.inl (by omega)))
        · refine h_aload_n (pc' := 69) rfl rfl rfl ?_
          refine h_aload_n (pc' := 70) rfl rfl rfl ?_
          refine h_getI (pc' := 73) (v := σ 98 16) rfl rfl rfl rfl rfl rfl (fun z9 hz9 => ?_)
          have tz9 := tf_98_16 hI
          refine h_iload_n (pc' := 74) rfl rfl rfl ?_
          refine h_iadd (pc' := 75) rfl rfl hz9 ci_2 rfl (by omega) (by omega) (fun z10 hz10 => ?_)
          refine h_call (sp := false) (pc' := 78) (M := [(0, .ref 98), (1, .int z10)]) rfl rfl rfl rfl rfl rfl rfl rfl ?_
          refine h_iload_n (pc' := 1) rfl rfl rfl ?_
          refine h_aload_n (pc' := 2) rfl rfl rfl ?_
          refine h_getI (pc' := 5) (v := σ 98 11) rfl rfl rfl rfl rfl rfl (fun z11 hz11 => ?_)
          have tz11 := tf_98_11 hI
          refine h_cge (tg := 17) (pc' := 8) rfl rfl rfl hz10 hz11 (fun c12 => ?_) (fun c12 => ?_)
          · refine h_bipush (pc' := 19) (x := (Int32.ofInt (-4))) rfl rfl cb_m4 ?_
            refine h_iret rfl rfl (h_Kv ?_)
            refine h_aload_n (pc' := 79) rfl rfl rfl ?_
            refine h_getR (pc' := 82) rfl rfl rfl rfl rfl ?_
            refine h_aload_n (pc' := 83) rfl rfl rfl ?_
            refine h_getR (pc' := 86) rfl rfl rfl rfl rfl ?_
            refine h_iload_n (pc' := 87) rfl rfl rfl ?_
            refine h_iald (pc' := 88) (v := 27) rfl rfl rfl ci_4 (by omega) (by omega) (tx_103_4 hI) (fun z13 hz13 => ?_)
            refine h_iload_n (pc' := 89) rfl rfl rfl ?_
            refine h_iadd (pc' := 90) rfl rfl hz13 ci_2 rfl (by omega) (by omega) (fun z14 hz14 => ?_)
            refine h_iald (pc' := 91) (v := σ 104 (27 + 2)) rfl rfl rfl hz14 (by omega) (by omega) rfl (fun z15 hz15 => ?_)
            have tz15 := ty_104 hI (27 + 2)
            refine h_cne (tg := 98) (pc' := 94) rfl rfl rfl ci_m4 hz15 (fun c16 => ?_) (fun c16 => ?_)
            · refine h_iconst (pc' := 99) (x := (Int32.ofInt 0)) rfl rfl rfl ?_
              refine h_istore_n (pc' := 100) (M := [(2, .int (Int32.ofInt 0)), (0, .ref 98), (1, .int (Int32.ofInt 4)), (3, .int (Int32.ofInt 2))]) rfl rfl rfl rfl ?_
              refine h_iinc (pc' := 103) (b := 3) (M := fun z17 => [(3, .int z17), (2, .int (Int32.ofInt 0)), (0, .ref 98), (1, .int (Int32.ofInt 4))]) rfl rfl rfl rfl ci_2 ci_1 rfl (by omega) (by omega) (fun _ => rfl) (fun z17 hz17 => ?_)
              refine h_goto (pc' := 51) rfl rfl ?_
              have qz17 : z17 = (Int32.ofInt 3) := h_lit hz17 ci_3
              subst qz17
              exact h_wk [(0, .ref 98), (1, .int (Int32.ofInt 4)), (2, .int (Int32.ofInt 0)), (3, .int (Int32.ofInt 3))] ⟨rfl, rfl, rfl, rfl, trivial⟩ (ih.2.2.2.2.2.2.2.2.2.2.2.2.2.2.2.2.2.2.2.2.2.2.2.2.2.2.2.2.2.2.2.2.2.2.2.2.2.2.2.2.2.2.2.1 (Int32.ofInt 0) _ ci_0 (by omega) ex0 ex1 ex2 ex3 (Or.inr ⟨by omega, fun h => by unfold g_nm4 at h; omega⟩) (by omega))
            · refine h_iconst (pc' := 95) (x := (Int32.ofInt 1)) rfl rfl rfl ?_
              refine h_goto (pc' := 99) rfl rfl ?_
              refine h_istore_n (pc' := 100) (M := [(2, .int (Int32.ofInt 1)), (0, .ref 98), (1, .int (Int32.ofInt 4)), (3, .int (Int32.ofInt 2))]) rfl rfl rfl rfl ?_
              refine h_iinc (pc' := 103) (b := 3) (M := fun z18 => [(3, .int z18), (2, .int (Int32.ofInt 1)), (0, .ref 98), (1, .int (Int32.ofInt 4))]) rfl rfl rfl rfl ci_2 ci_1 rfl (by omega) (by omega) (fun _ => rfl) (fun z18 hz18 => ?_)
              refine h_goto (pc' := 51) rfl rfl ?_
              have qz18 : z18 = (Int32.ofInt 3) := h_lit hz18 ci_3
              subst qz18
              exact h_wk [(0, .ref 98), (1, .int (Int32.ofInt 4)), (2, .int (Int32.ofInt 1)), (3, .int (Int32.ofInt 3))] ⟨rfl, rfl, rfl, rfl, trivial⟩ (ih.2.2.2.2.2.2.2.2.2.2.2.2.2.2.2.2.2.2.2.2.2.2.2.2.2.2.2.2.2.2.2.2.2.2.2.2.2.2.2.2.2.2.2.1 (Int32.ofInt 1) _ ci_1 (by omega) ex0 ex1 ex2 ex3 (Or.inl ⟨by omega, by omega, by omega, by omega, by omega⟩) (by omega))
          · refine h_aload_n (pc' := 9) rfl rfl rfl ?_
            refine h_getR (pc' := 12) rfl rfl rfl rfl rfl ?_
            refine h_iload_n (pc' := 13) rfl rfl rfl ?_
            refine h_iald (pc' := 14) (v := σ 102 ((σ 98 16) + 2)) rfl rfl rfl hz10 (by omega) (by omega) rfl (fun z19 hz19 => ?_)
            have tz19 := ty_102 hI ((σ 98 16) + 2)
            refine h_goto (pc' := 19) rfl rfl ?_
            refine h_iret rfl rfl (h_Kv ?_)
            refine h_aload_n (pc' := 79) rfl rfl rfl ?_
            refine h_getR (pc' := 82) rfl rfl rfl rfl rfl ?_
            refine h_aload_n (pc' := 83) rfl rfl rfl ?_
            refine h_getR (pc' := 86) rfl rfl rfl rfl rfl ?_
            refine h_iload_n (pc' := 87) rfl rfl rfl ?_
            refine h_iald (pc' := 88) (v := 27) rfl rfl rfl ci_4 (by omega) (by omega) (tx_103_4 hI) (fun z20 hz20 => ?_)
            refine h_iload_n (pc' := 89) rfl rfl rfl ?_
            refine h_iadd (pc' := 90) rfl rfl hz20 ci_2 rfl (by omega) (by omega) (fun z21 hz21 => ?_)
            refine h_iald (pc' := 91) (v := σ 104 (27 + 2)) rfl rfl rfl hz21 (by omega) (by omega) rfl (fun z22 hz22 => ?_)
            have tz22 := ty_104 hI (27 + 2)
            refine h_cne (tg := 98) (pc' := 94) rfl rfl rfl hz19 hz22 (fun c23 => ?_) (fun c23 => ?_)
            · refine h_iconst (pc' := 99) (x := (Int32.ofInt 0)) rfl rfl rfl ?_
              refine h_istore_n (pc' := 100) (M := [(2, .int (Int32.ofInt 0)), (0, .ref 98), (1, .int (Int32.ofInt 4)), (3, .int (Int32.ofInt 2))]) rfl rfl rfl rfl ?_
              refine h_iinc (pc' := 103) (b := 3) (M := fun z24 => [(3, .int z24), (2, .int (Int32.ofInt 0)), (0, .ref 98), (1, .int (Int32.ofInt 4))]) rfl rfl rfl rfl ci_2 ci_1 rfl (by omega) (by omega) (fun _ => rfl) (fun z24 hz24 => ?_)
              refine h_goto (pc' := 51) rfl rfl ?_
              have qz24 : z24 = (Int32.ofInt 3) := h_lit hz24 ci_3
              subst qz24
              exact h_wk [(0, .ref 98), (1, .int (Int32.ofInt 4)), (2, .int (Int32.ofInt 0)), (3, .int (Int32.ofInt 3))] ⟨rfl, rfl, rfl, rfl, trivial⟩ (ih.2.2.2.2.2.2.2.2.2.2.2.2.2.2.2.2.2.2.2.2.2.2.2.2.2.2.2.2.2.2.2.2.2.2.2.2.2.2.2.2.2.2.2.1 (Int32.ofInt 0) _ ci_0 (by omega) ex0 ex1 ex2 ex3 (Or.inr ⟨by omega, fun h => by unfold g_nm4 at h; omega⟩) (by omega))
            · refine h_iconst (pc' := 95) (x := (Int32.ofInt 1)) rfl rfl rfl ?_
              refine h_goto (pc' := 99) rfl rfl ?_
              refine h_istore_n (pc' := 100) (M := [(2, .int (Int32.ofInt 1)), (0, .ref 98), (1, .int (Int32.ofInt 4)), (3, .int (Int32.ofInt 2))]) rfl rfl rfl rfl ?_
              refine h_iinc (pc' := 103) (b := 3) (M := fun z25 => [(3, .int z25), (2, .int (Int32.ofInt 1)), (0, .ref 98), (1, .int (Int32.ofInt 4))]) rfl rfl rfl rfl ci_2 ci_1 rfl (by omega) (by omega) (fun _ => rfl) (fun z25 hz25 => ?_)
              refine h_goto (pc' := 51) rfl rfl ?_
              have qz25 : z25 = (Int32.ofInt 3) := h_lit hz25 ci_3
              subst qz25
              exact h_wk [(0, .ref 98), (1, .int (Int32.ofInt 4)), (2, .int (Int32.ofInt 1)), (3, .int (Int32.ofInt 3))] ⟨rfl, rfl, rfl, rfl, trivial⟩ (ih.2.2.2.2.2.2.2.2.2.2.2.2.2.2.2.2.2.2.2.2.2.2.2.2.2.2.2.2.2.2.2.2.2.2.2.2.2.2.2.2.2.2.2.1 (Int32.ofInt 1) _ ci_1 (by omega) ex0 ex1 ex2 ex3 (Or.inl ⟨by omega, by omega, by omega, by omega, by omega⟩) (by omega))
    · intro  y2 b2 hy2 ry2 ex0 ex1 ex2 ex3 ex4 hm; have gh0 := tf_98_11 hI; have gh1 := tf_98_15 hI; have gh2 := tf_98_16 hI
      refine h_iload_n (pc' := 52) rfl rfl rfl ?_
      refine h_zeq (tg := 106) (pc' := 55) rfl rfl rfl hy2 (fun c1 => ?_) (fun c1 => ?_)
      · refine h_iload_n (pc' := 107) rfl rfl rfl ?_
        refine h_zeq (tg := 112) (pc' := 110) rfl rfl rfl hy2 (fun c2 => ?_) (fun c2 => absurd c2 (by omega))
        refine h_iinc (pc' := 115) (b := 5) (M := fun z3 => [(1, .int z3), (0, .ref 98), (2, .int y2), (3, .int (Int32.ofInt 3))]) rfl rfl rfl rfl ci_4 ci_1 rfl (by omega) (by omega) (fun _ => rfl) (fun z3 hz3 => ?_)
        refine h_goto (pc' := 2) rfl rfl ?_
        have qz3 : z3 = (Int32.ofInt 5) := h_lit hz3 ci_5
        subst qz3
        exact h_wk [(0, .ref 98), (1, .int (Int32.ofInt 5)), (2, .int y2), (3, .int (Int32.ofInt 3))] ⟨rfl, rfl, rfl, rfl, trivial⟩ (ih.2.2.2.2.2.1 y2 _ hy2 (by omega) (Int32.ofInt 3) _ ci_3 (by omega) ex0 ex1 ex2 ex3 (ex4.elim (fun h => absurd h.1 (by omega)) (fun h => h.2)) (by omega))
      · refine h_iload_n (pc' := 56) rfl rfl rfl ?_
        refine h_aload_n (pc' := 57) rfl rfl rfl ?_
        refine h_getI (pc' := 60) (v := σ 98 15) rfl rfl rfl rfl rfl rfl (fun z4 hz4 => ?_)
        have tz4 := tf_98_15 hI
        refine h_aload_n (pc' := 61) rfl rfl rfl ?_
        refine h_getI (pc' := 64) (v := σ 98 16) rfl rfl rfl rfl rfl rfl (fun z5 hz5 => ?_)
        have tz5 := tf_98_16 hI
        refine h_isub (pc' := 65) rfl rfl hz4 hz5 rfl (by omega) (by omega) (fun z6 hz6 => ?_)
        refine h_cge (tg := 106) (pc' := 68) rfl rfl rfl ci_3 hz6 (fun c7 => ?_) (fun c7 => ?_)
        · refine h_iload_n (pc' := 107) rfl rfl rfl ?_
          refine h_zeq (tg := 112) (pc' := 110) rfl rfl rfl hy2 (fun c8 => absurd c8 (by omega)) (fun c8 => ?_)
          refine h_iload_n (pc' := 111) rfl rfl rfl ?_
          exact h_iret rfl rfl (kk _ _ ci_4 (by omega) (fun _ => (Or.inr (Or.inr (Or.inr (Or.inr (Or.inr (Or.inl ⟨rfl, ex0, ex1, ex2, ex3, ⟨by omega, by omega, by omega, by omega, by omega, by omega⟩⟩))))))) (Or.inl (by omega)))
        · refine h_aload_n (pc' := 69) rfl rfl rfl ?_
          refine h_aload_n (pc' := 70) rfl rfl rfl ?_
          refine h_getI (pc' := 73) (v := σ 98 16) rfl rfl rfl rfl rfl rfl (fun z9 hz9 => ?_)
          have tz9 := tf_98_16 hI
          refine h_iload_n (pc' := 74) rfl rfl rfl ?_
          refine h_iadd (pc' := 75) rfl rfl hz9 ci_3 rfl (by omega) (by omega) (fun z10 hz10 => ?_)
          refine h_call (sp := false) (pc' := 78) (M := [(0, .ref 98), (1, .int z10)]) rfl rfl rfl rfl rfl rfl rfl rfl ?_
          refine h_iload_n (pc' := 1) rfl rfl rfl ?_
          refine h_aload_n (pc' := 2) rfl rfl rfl ?_
          refine h_getI (pc' := 5) (v := σ 98 11) rfl rfl rfl rfl rfl rfl (fun z11 hz11 => ?_)
          have tz11 := tf_98_11 hI
          refine h_cge (tg := 17) (pc' := 8) rfl rfl rfl hz10 hz11 (fun c12 => ?_) (fun c12 => ?_)
          · refine h_bipush (pc' := 19) (x := (Int32.ofInt (-4))) rfl rfl cb_m4 ?_
            refine h_iret rfl rfl (h_Kv ?_)
            refine h_aload_n (pc' := 79) rfl rfl rfl ?_
            refine h_getR (pc' := 82) rfl rfl rfl rfl rfl ?_
            refine h_aload_n (pc' := 83) rfl rfl rfl ?_
            refine h_getR (pc' := 86) rfl rfl rfl rfl rfl ?_
            refine h_iload_n (pc' := 87) rfl rfl rfl ?_
            refine h_iald (pc' := 88) (v := 27) rfl rfl rfl ci_4 (by omega) (by omega) (tx_103_4 hI) (fun z13 hz13 => ?_)
            refine h_iload_n (pc' := 89) rfl rfl rfl ?_
            refine h_iadd (pc' := 90) rfl rfl hz13 ci_3 rfl (by omega) (by omega) (fun z14 hz14 => ?_)
            refine h_iald (pc' := 91) (v := σ 104 (27 + 3)) rfl rfl rfl hz14 (by omega) (by omega) rfl (fun z15 hz15 => ?_)
            have tz15 := ty_104 hI (27 + 3)
            refine h_cne (tg := 98) (pc' := 94) rfl rfl rfl ci_m4 hz15 (fun c16 => ?_) (fun c16 => ?_)
            · refine h_iconst (pc' := 99) (x := (Int32.ofInt 0)) rfl rfl rfl ?_
              refine h_istore_n (pc' := 100) (M := [(2, .int (Int32.ofInt 0)), (0, .ref 98), (1, .int (Int32.ofInt 4)), (3, .int (Int32.ofInt 3))]) rfl rfl rfl rfl ?_
              refine h_iinc (pc' := 103) (b := 4) (M := fun z17 => [(3, .int z17), (2, .int (Int32.ofInt 0)), (0, .ref 98), (1, .int (Int32.ofInt 4))]) rfl rfl rfl rfl ci_3 ci_1 rfl (by omega) (by omega) (fun _ => rfl) (fun z17 hz17 => ?_)
              refine h_goto (pc' := 51) rfl rfl ?_
              have qz17 : z17 = (Int32.ofInt 4) := h_lit hz17 ci_4
              subst qz17
              exact h_wk [(0, .ref 98), (1, .int (Int32.ofInt 4)), (2, .int (Int32.ofInt 0)), (3, .int (Int32.ofInt 4))] ⟨rfl, rfl, rfl, rfl, trivial⟩ (ih.2.2.2.2.2.2.2.2.2.2.2.2.2.2.2.2.2.2.2.2.2.2.2.2.2.2.2.2.2.2.2.2.2.2.2.2.2.2.2.2.2.2.2.2.1 (Int32.ofInt 0) _ ci_0 (by omega) ex0 ex1 ex2 ex3 (Or.inr ⟨by omega, fun h => by unfold g_nm4 at h; omega⟩) (by omega))
            · refine h_iconst (pc' := 95) (x := (Int32.ofInt 1)) rfl rfl rfl ?_
              refine h_goto (pc' := 99) rfl rfl ?_
              refine h_istore_n (pc' := 100) (M := [(2, .int (Int32.ofInt 1)), (0, .ref 98), (1, .int (Int32.ofInt 4)), (3, .int (Int32.ofInt 3))]) rfl rfl rfl rfl ?_
              refine h_iinc (pc' := 103) (b := 4) (M := fun z18 => [(3, .int z18), (2, .int (Int32.ofInt 1)), (0, .ref 98), (1, .int (Int32.ofInt 4))]) rfl rfl rfl rfl ci_3 ci_1 rfl (by omega) (by omega) (fun _ => rfl) (fun z18 hz18 => ?_)
              refine h_goto (pc' := 51) rfl rfl ?_
              have qz18 : z18 = (Int32.ofInt 4) := h_lit hz18 ci_4
              subst qz18
              exact h_wk [(0, .ref 98), (1, .int (Int32.ofInt 4)), (2, .int (Int32.ofInt 1)), (3, .int (Int32.ofInt 4))] ⟨rfl, rfl, rfl, rfl, trivial⟩ (ih.2.2.2.2.2.2.2.2.2.2.2.2.2.2.2.2.2.2.2.2.2.2.2.2.2.2.2.2.2.2.2.2.2.2.2.2.2.2.2.2.2.2.2.2.1 (Int32.ofInt 1) _ ci_1 (by omega) ex0 ex1 ex2 ex3 (Or.inl ⟨by omega, by omega, by omega, by omega, by omega, by omega⟩) (by omega))
          · refine h_aload_n (pc' := 9) rfl rfl rfl ?_
            refine h_getR (pc' := 12) rfl rfl rfl rfl rfl ?_
            refine h_iload_n (pc' := 13) rfl rfl rfl ?_
            refine h_iald (pc' := 14) (v := σ 102 ((σ 98 16) + 3)) rfl rfl rfl hz10 (by omega) (by omega) rfl (fun z19 hz19 => ?_)
            have tz19 := ty_102 hI ((σ 98 16) + 3)
            refine h_goto (pc' := 19) rfl rfl ?_
            refine h_iret rfl rfl (h_Kv ?_)
            refine h_aload_n (pc' := 79) rfl rfl rfl ?_
            refine h_getR (pc' := 82) rfl rfl rfl rfl rfl ?_
            refine h_aload_n (pc' := 83) rfl rfl rfl ?_
            refine h_getR (pc' := 86) rfl rfl rfl rfl rfl ?_
            refine h_iload_n (pc' := 87) rfl rfl rfl ?_
            refine h_iald (pc' := 88) (v := 27) rfl rfl rfl ci_4 (by omega) (by omega) (tx_103_4 hI) (fun z20 hz20 => ?_)
            refine h_iload_n (pc' := 89) rfl rfl rfl ?_
            refine h_iadd (pc' := 90) rfl rfl hz20 ci_3 rfl (by omega) (by omega) (fun z21 hz21 => ?_)
            refine h_iald (pc' := 91) (v := σ 104 (27 + 3)) rfl rfl rfl hz21 (by omega) (by omega) rfl (fun z22 hz22 => ?_)
            have tz22 := ty_104 hI (27 + 3)
            refine h_cne (tg := 98) (pc' := 94) rfl rfl rfl hz19 hz22 (fun c23 => ?_) (fun c23 => ?_)
            · refine h_iconst (pc' := 99) (x := (Int32.ofInt 0)) rfl rfl rfl ?_
              refine h_istore_n (pc' := 100) (M := [(2, .int (Int32.ofInt 0)), (0, .ref 98), (1, .int (Int32.ofInt 4)), (3, .int (Int32.ofInt 3))]) rfl rfl rfl rfl ?_
              refine h_iinc (pc' := 103) (b := 4) (M := fun z24 => [(3, .int z24), (2, .int (Int32.ofInt 0)), (0, .ref 98), (1, .int (Int32.ofInt 4))]) rfl rfl rfl rfl ci_3 ci_1 rfl (by omega) (by omega) (fun _ => rfl) (fun z24 hz24 => ?_)
              refine h_goto (pc' := 51) rfl rfl ?_
              have qz24 : z24 = (Int32.ofInt 4) := h_lit hz24 ci_4
              subst qz24
              exact h_wk [(0, .ref 98), (1, .int (Int32.ofInt 4)), (2, .int (Int32.ofInt 0)), (3, .int (Int32.ofInt 4))] ⟨rfl, rfl, rfl, rfl, trivial⟩ (ih.2.2.2.2.2.2.2.2.2.2.2.2.2.2.2.2.2.2.2.2.2.2.2.2.2.2.2.2.2.2.2.2.2.2.2.2.2.2.2.2.2.2.2.2.1 (Int32.ofInt 0) _ ci_0 (by omega) ex0 ex1 ex2 ex3 (Or.inr ⟨by omega, fun h => by unfold g_nm4 at h; omega⟩) (by omega))
            · refine h_iconst (pc' := 95) (x := (Int32.ofInt 1)) rfl rfl rfl ?_
              refine h_goto (pc' := 99) rfl rfl ?_
              refine h_istore_n (pc' := 100) (M := [(2, .int (Int32.ofInt 1)), (0, .ref 98), (1, .int (Int32.ofInt 4)), (3, .int (Int32.ofInt 3))]) rfl rfl rfl rfl ?_
              refine h_iinc (pc' := 103) (b := 4) (M := fun z25 => [(3, .int z25), (2, .int (Int32.ofInt 1)), (0, .ref 98), (1, .int (Int32.ofInt 4))]) rfl rfl rfl rfl ci_3 ci_1 rfl (by omega) (by omega) (fun _ => rfl) (fun z25 hz25 => ?_)
              refine h_goto (pc' := 51) rfl rfl ?_
              have qz25 : z25 = (Int32.ofInt 4) := h_lit hz25 ci_4
              subst qz25
              exact h_wk [(0, .ref 98), (1, .int (Int32.ofInt 4)), (2, .int (Int32.ofInt 1)), (3, .int (Int32.ofInt 4))] ⟨rfl, rfl, rfl, rfl, trivial⟩ (ih.2.2.2.2.2.2.2.2.2.2.2.2.2.2.2.2.2.2.2.2.2.2.2.2.2.2.2.2.2.2.2.2.2.2.2.2.2.2.2.2.2.2.2.2.1 (Int32.ofInt 1) _ ci_1 (by omega) ex0 ex1 ex2 ex3 (Or.inl ⟨by omega, by omega, by omega, by omega, by omega, by omega⟩) (by omega))
    · intro  y2 b2 hy2 ry2 ex0 ex1 ex2 ex3 ex4 hm; have gh0 := tf_98_11 hI; have gh1 := tf_98_15 hI; have gh2 := tf_98_16 hI
      refine h_iload_n (pc' := 52) rfl rfl rfl ?_
      refine h_zeq (tg := 106) (pc' := 55) rfl rfl rfl hy2 (fun c1 => ?_) (fun c1 => ?_)
      · refine h_iload_n (pc' := 107) rfl rfl rfl ?_
        refine h_zeq (tg := 112) (pc' := 110) rfl rfl rfl hy2 (fun c2 => ?_) (fun c2 => absurd c2 (by omega))
        refine h_iinc (pc' := 115) (b := 5) (M := fun z3 => [(1, .int z3), (0, .ref 98), (2, .int y2), (3, .int (Int32.ofInt 4))]) rfl rfl rfl rfl ci_4 ci_1 rfl (by omega) (by omega) (fun _ => rfl) (fun z3 hz3 => ?_)
        refine h_goto (pc' := 2) rfl rfl ?_
        have qz3 : z3 = (Int32.ofInt 5) := h_lit hz3 ci_5
        subst qz3
        exact h_wk [(0, .ref 98), (1, .int (Int32.ofInt 5)), (2, .int y2), (3, .int (Int32.ofInt 4))] ⟨rfl, rfl, rfl, rfl, trivial⟩ (ih.2.2.2.2.2.1 y2 _ hy2 (by omega) (Int32.ofInt 4) _ ci_4 (by omega) ex0 ex1 ex2 ex3 (ex4.elim (fun h => absurd h.1 (by omega)) (fun h => h.2)) (by omega))
      · refine h_iload_n (pc' := 56) rfl rfl rfl ?_
        refine h_aload_n (pc' := 57) rfl rfl rfl ?_
        refine h_getI (pc' := 60) (v := σ 98 15) rfl rfl rfl rfl rfl rfl (fun z4 hz4 => ?_)
        have tz4 := tf_98_15 hI
        refine h_aload_n (pc' := 61) rfl rfl rfl ?_
        refine h_getI (pc' := 64) (v := σ 98 16) rfl rfl rfl rfl rfl rfl (fun z5 hz5 => ?_)
        have tz5 := tf_98_16 hI
        refine h_isub (pc' := 65) rfl rfl hz4 hz5 rfl (by omega) (by omega) (fun z6 hz6 => ?_)
        refine h_cge (tg := 106) (pc' := 68) rfl rfl rfl ci_4 hz6 (fun c7 => ?_) (fun c7 => ?_)
        · refine h_iload_n (pc' := 107) rfl rfl rfl ?_
          refine h_zeq (tg := 112) (pc' := 110) rfl rfl rfl hy2 (fun c8 => absurd c8 (by omega)) (fun c8 => ?_)
          refine h_iload_n (pc' := 111) rfl rfl rfl ?_
          exact h_iret rfl rfl (kk _ _ ci_4 (by omega) (fun _ => (Or.inr (Or.inr (Or.inr (Or.inr (Or.inr (Or.inl ⟨rfl, ex0, ex1, ex2, ex3, ⟨by omega, by omega, by omega, by omega, by omega, by omega⟩⟩))))))) (Or.inl (by omega)))
        · refine h_aload_n (pc' := 69) rfl rfl rfl ?_
          refine h_aload_n (pc' := 70) rfl rfl rfl ?_
          refine h_getI (pc' := 73) (v := σ 98 16) rfl rfl rfl rfl rfl rfl (fun z9 hz9 => ?_)
          have tz9 := tf_98_16 hI
          refine h_iload_n (pc' := 74) rfl rfl rfl ?_
          refine h_iadd (pc' := 75) rfl rfl hz9 ci_4 rfl (by omega) (by omega) (fun z10 hz10 => ?_)
          refine h_call (sp := false) (pc' := 78) (M := [(0, .ref 98), (1, .int z10)]) rfl rfl rfl rfl rfl rfl rfl rfl ?_
          refine h_iload_n (pc' := 1) rfl rfl rfl ?_
          refine h_aload_n (pc' := 2) rfl rfl rfl ?_
          refine h_getI (pc' := 5) (v := σ 98 11) rfl rfl rfl rfl rfl rfl (fun z11 hz11 => ?_)
          have tz11 := tf_98_11 hI
          refine h_cge (tg := 17) (pc' := 8) rfl rfl rfl hz10 hz11 (fun c12 => ?_) (fun c12 => ?_)
          · refine h_bipush (pc' := 19) (x := (Int32.ofInt (-4))) rfl rfl cb_m4 ?_
            refine h_iret rfl rfl (h_Kv ?_)
            refine h_aload_n (pc' := 79) rfl rfl rfl ?_
            refine h_getR (pc' := 82) rfl rfl rfl rfl rfl ?_
            refine h_aload_n (pc' := 83) rfl rfl rfl ?_
            refine h_getR (pc' := 86) rfl rfl rfl rfl rfl ?_
            refine h_iload_n (pc' := 87) rfl rfl rfl ?_
            refine h_iald (pc' := 88) (v := 27) rfl rfl rfl ci_4 (by omega) (by omega) (tx_103_4 hI) (fun z13 hz13 => ?_)
            refine h_iload_n (pc' := 89) rfl rfl rfl ?_
            refine h_iadd (pc' := 90) rfl rfl hz13 ci_4 rfl (by omega) (by omega) (fun z14 hz14 => ?_)
            refine h_iald (pc' := 91) (v := σ 104 (27 + 4)) rfl rfl rfl hz14 (by omega) (by omega) rfl (fun z15 hz15 => ?_)
            have tz15 := ty_104 hI (27 + 4)
            refine h_cne (tg := 98) (pc' := 94) rfl rfl rfl ci_m4 hz15 (fun c16 => ?_) (fun c16 => ?_)
            · refine h_iconst (pc' := 99) (x := (Int32.ofInt 0)) rfl rfl rfl ?_
              refine h_istore_n (pc' := 100) (M := [(2, .int (Int32.ofInt 0)), (0, .ref 98), (1, .int (Int32.ofInt 4)), (3, .int (Int32.ofInt 4))]) rfl rfl rfl rfl ?_
              refine h_iinc (pc' := 103) (b := 5) (M := fun z17 => [(3, .int z17), (2, .int (Int32.ofInt 0)), (0, .ref 98), (1, .int (Int32.ofInt 4))]) rfl rfl rfl rfl ci_4 ci_1 rfl (by omega) (by omega) (fun _ => rfl) (fun z17 hz17 => ?_)
              refine h_goto (pc' := 51) rfl rfl ?_
              have qz17 : z17 = (Int32.ofInt 5) := h_lit hz17 ci_5
              subst qz17
              exact h_wk [(0, .ref 98), (1, .int (Int32.ofInt 4)), (2, .int (Int32.ofInt 0)), (3, .int (Int32.ofInt 5))] ⟨rfl, rfl, rfl, rfl, trivial⟩ (ih.2.2.2.2.2.2.2.2.2.2.2.2.2.2.2.2.2.2.2.2.2.2.2.2.2.2.2.2.2.2.2.2.2.2.2.2.2.2.2.2.2.2.2.2.2.1 (Int32.ofInt 0) _ ci_0 (by omega) ex0 ex1 ex2 ex3 (Or.inr ⟨by omega, fun h => by unfold g_nm4 at h; omega⟩) (by omega))
            · refine h_iconst (pc' := 95) (x := (Int32.ofInt 1)) rfl rfl rfl ?_
              refine h_goto (pc' := 99) rfl rfl ?_
              refine h_istore_n (pc' := 100) (M := [(2, .int (Int32.ofInt 1)), (0, .ref 98), (1, .int (Int32.ofInt 4)), (3, .int (Int32.ofInt 4))]) rfl rfl rfl rfl ?_
              refine h_iinc (pc' := 103) (b := 5) (M := fun z18 => [(3, .int z18), (2, .int (Int32.ofInt 1)), (0, .ref 98), (1, .int (Int32.ofInt 4))]) rfl rfl rfl rfl ci_4 ci_1 rfl (by omega) (by omega) (fun _ => rfl) (fun z18 hz18 => ?_)
              refine h_goto (pc' := 51) rfl rfl ?_
              have qz18 : z18 = (Int32.ofInt 5) := h_lit hz18 ci_5
              subst qz18
              exact h_wk [(0, .ref 98), (1, .int (Int32.ofInt 4)), (2, .int (Int32.ofInt 1)), (3, .int (Int32.ofInt 5))] ⟨rfl, rfl, rfl, rfl, trivial⟩ (ih.2.2.2.2.2.2.2.2.2.2.2.2.2.2.2.2.2.2.2.2.2.2.2.2.2.2.2.2.2.2.2.2.2.2.2.2.2.2.2.2.2.2.2.2.2.1 (Int32.ofInt 1) _ ci_1 (by omega) ex0 ex1 ex2 ex3 (Or.inl ⟨by omega, by omega, by omega, by omega, by omega, by omega, by omega⟩) (by omega))
          · refine h_aload_n (pc' := 9) rfl rfl rfl ?_
            refine h_getR (pc' := 12) rfl rfl rfl rfl rfl ?_
            refine h_iload_n (pc' := 13) rfl rfl rfl ?_
            refine h_iald (pc' := 14) (v := σ 102 ((σ 98 16) + 4)) rfl rfl rfl hz10 (by omega) (by omega) rfl (fun z19 hz19 => ?_)
            have tz19 := ty_102 hI ((σ 98 16) + 4)
            refine h_goto (pc' := 19) rfl rfl ?_
            refine h_iret rfl rfl (h_Kv ?_)
            refine h_aload_n (pc' := 79) rfl rfl rfl ?_
            refine h_getR (pc' := 82) rfl rfl rfl rfl rfl ?_
            refine h_aload_n (pc' := 83) rfl rfl rfl ?_
            refine h_getR (pc' := 86) rfl rfl rfl rfl rfl ?_
            refine h_iload_n (pc' := 87) rfl rfl rfl ?_
            refine h_iald (pc' := 88) (v := 27) rfl rfl rfl ci_4 (by omega) (by omega) (tx_103_4 hI) (fun z20 hz20 => ?_)
            refine h_iload_n (pc' := 89) rfl rfl rfl ?_
            refine h_iadd (pc' := 90) rfl rfl hz20 ci_4 rfl (by omega) (by omega) (fun z21 hz21 => ?_)
            refine h_iald (pc' := 91) (v := σ 104 (27 + 4)) rfl rfl rfl hz21 (by omega) (by omega) rfl (fun z22 hz22 => ?_)
            have tz22 := ty_104 hI (27 + 4)
            refine h_cne (tg := 98) (pc' := 94) rfl rfl rfl hz19 hz22 (fun c23 => ?_) (fun c23 => ?_)
            · refine h_iconst (pc' := 99) (x := (Int32.ofInt 0)) rfl rfl rfl ?_
              refine h_istore_n (pc' := 100) (M := [(2, .int (Int32.ofInt 0)), (0, .ref 98), (1, .int (Int32.ofInt 4)), (3, .int (Int32.ofInt 4))]) rfl rfl rfl rfl ?_
              refine h_iinc (pc' := 103) (b := 5) (M := fun z24 => [(3, .int z24), (2, .int (Int32.ofInt 0)), (0, .ref 98), (1, .int (Int32.ofInt 4))]) rfl rfl rfl rfl ci_4 ci_1 rfl (by omega) (by omega) (fun _ => rfl) (fun z24 hz24 => ?_)
              refine h_goto (pc' := 51) rfl rfl ?_
              have qz24 : z24 = (Int32.ofInt 5) := h_lit hz24 ci_5
              subst qz24
              exact h_wk [(0, .ref 98), (1, .int (Int32.ofInt 4)), (2, .int (Int32.ofInt 0)), (3, .int (Int32.ofInt 5))] ⟨rfl, rfl, rfl, rfl, trivial⟩ (ih.2.2.2.2.2.2.2.2.2.2.2.2.2.2.2.2.2.2.2.2.2.2.2.2.2.2.2.2.2.2.2.2.2.2.2.2.2.2.2.2.2.2.2.2.2.1 (Int32.ofInt 0) _ ci_0 (by omega) ex0 ex1 ex2 ex3 (Or.inr ⟨by omega, fun h => by unfold g_nm4 at h; omega⟩) (by omega))
            · refine h_iconst (pc' := 95) (x := (Int32.ofInt 1)) rfl rfl rfl ?_
              refine h_goto (pc' := 99) rfl rfl ?_
              refine h_istore_n (pc' := 100) (M := [(2, .int (Int32.ofInt 1)), (0, .ref 98), (1, .int (Int32.ofInt 4)), (3, .int (Int32.ofInt 4))]) rfl rfl rfl rfl ?_
              refine h_iinc (pc' := 103) (b := 5) (M := fun z25 => [(3, .int z25), (2, .int (Int32.ofInt 1)), (0, .ref 98), (1, .int (Int32.ofInt 4))]) rfl rfl rfl rfl ci_4 ci_1 rfl (by omega) (by omega) (fun _ => rfl) (fun z25 hz25 => ?_)
              refine h_goto (pc' := 51) rfl rfl ?_
              have qz25 : z25 = (Int32.ofInt 5) := h_lit hz25 ci_5
              subst qz25
              exact h_wk [(0, .ref 98), (1, .int (Int32.ofInt 4)), (2, .int (Int32.ofInt 1)), (3, .int (Int32.ofInt 5))] ⟨rfl, rfl, rfl, rfl, trivial⟩ (ih.2.2.2.2.2.2.2.2.2.2.2.2.2.2.2.2.2.2.2.2.2.2.2.2.2.2.2.2.2.2.2.2.2.2.2.2.2.2.2.2.2.2.2.2.2.1 (Int32.ofInt 1) _ ci_1 (by omega) ex0 ex1 ex2 ex3 (Or.inl ⟨by omega, by omega, by omega, by omega, by omega, by omega, by omega⟩) (by omega))
    · intro  y2 b2 hy2 ry2 ex0 ex1 ex2 ex3 ex4 hm; have gh0 := tf_98_11 hI; have gh1 := tf_98_15 hI; have gh2 := tf_98_16 hI
      refine h_iload_n (pc' := 52) rfl rfl rfl ?_
      refine h_zeq (tg := 106) (pc' := 55) rfl rfl rfl hy2 (fun c1 => ?_) (fun c1 => ?_)
      · refine h_iload_n (pc' := 107) rfl rfl rfl ?_
        refine h_zeq (tg := 112) (pc' := 110) rfl rfl rfl hy2 (fun c2 => ?_) (fun c2 => absurd c2 (by omega))
        refine h_iinc (pc' := 115) (b := 5) (M := fun z3 => [(1, .int z3), (0, .ref 98), (2, .int y2), (3, .int (Int32.ofInt 5))]) rfl rfl rfl rfl ci_4 ci_1 rfl (by omega) (by omega) (fun _ => rfl) (fun z3 hz3 => ?_)
        refine h_goto (pc' := 2) rfl rfl ?_
        have qz3 : z3 = (Int32.ofInt 5) := h_lit hz3 ci_5
        subst qz3
        exact h_wk [(0, .ref 98), (1, .int (Int32.ofInt 5)), (2, .int y2), (3, .int (Int32.ofInt 5))] ⟨rfl, rfl, rfl, rfl, trivial⟩ (ih.2.2.2.2.2.1 y2 _ hy2 (by omega) (Int32.ofInt 5) _ ci_5 (by omega) ex0 ex1 ex2 ex3 (ex4.elim (fun h => absurd h.1 (by omega)) (fun h => h.2)) (by omega))
      · refine h_iload_n (pc' := 56) rfl rfl rfl ?_
        refine h_aload_n (pc' := 57) rfl rfl rfl ?_
        refine h_getI (pc' := 60) (v := σ 98 15) rfl rfl rfl rfl rfl rfl (fun z4 hz4 => ?_)
        have tz4 := tf_98_15 hI
        refine h_aload_n (pc' := 61) rfl rfl rfl ?_
        refine h_getI (pc' := 64) (v := σ 98 16) rfl rfl rfl rfl rfl rfl (fun z5 hz5 => ?_)
        have tz5 := tf_98_16 hI
        refine h_isub (pc' := 65) rfl rfl hz4 hz5 rfl (by omega) (by omega) (fun z6 hz6 => ?_)
        refine h_cge (tg := 106) (pc' := 68) rfl rfl rfl ci_5 hz6 (fun c7 => ?_) (fun c7 => ?_)
        · refine h_iload_n (pc' := 107) rfl rfl rfl ?_
          refine h_zeq (tg := 112) (pc' := 110) rfl rfl rfl hy2 (fun c8 => absurd c8 (by omega)) (fun c8 => ?_)
          refine h_iload_n (pc' := 111) rfl rfl rfl ?_
          exact h_iret rfl rfl (kk _ _ ci_4 (by omega) (fun _ => (Or.inr (Or.inr (Or.inr (Or.inr (Or.inr (Or.inl ⟨rfl, ex0, ex1, ex2, ex3, ⟨by omega, by omega, by omega, by omega, by omega, by omega⟩⟩))))))) (Or.inl (by omega)))
        · exfalso; omega
    · intro  y2 b2 hy2 ry2 ex0 ex1 ex2 ex3 ex4 ex5 hm; have gh0 := tf_98_11 hI; have gh1 := tf_98_15 hI; have gh2 := tf_98_16 hI
      refine h_iload_n (pc' := 52) rfl rfl rfl ?_
      refine h_zeq (tg := 106) (pc' := 55) rfl rfl rfl hy2 (fun c1 => ?_) (fun c1 => ?_)
      · refine h_iload_n (pc' := 107) rfl rfl rfl ?_
        refine h_zeq (tg := 112) (pc' := 110) rfl rfl rfl hy2 (fun c2 => ?_) (fun c2 => absurd c2 (by omega))
        refine h_iinc (pc' := 115) (b := 6) (M := fun z3 => [(1, .int z3), (0, .ref 98), (2, .int y2), (3, .int (Int32.ofInt 0))]) rfl rfl rfl rfl ci_5 ci_1 rfl (by omega) (by omega) (fun _ => rfl) (fun z3 hz3 => ?_)
        refine h_goto (pc' := 2) rfl rfl ?_
        have qz3 : z3 = (Int32.ofInt 6) := h_lit hz3 ci_6
        subst qz3
        exact h_wk [(0, .ref 98), (1, .int (Int32.ofInt 6)), (2, .int y2), (3, .int (Int32.ofInt 0))] ⟨rfl, rfl, rfl, rfl, trivial⟩ (ih.2.2.2.2.2.2.1 y2 _ hy2 (by omega) (Int32.ofInt 0) _ ci_0 (by omega) ex0 ex1 ex2 ex3 ex4 (ex5.elim (fun h => absurd h.1 (by omega)) (fun h => h.2)) (by omega))
      · refine h_iload_n (pc' := 56) rfl rfl rfl ?_
        refine h_aload_n (pc' := 57) rfl rfl rfl ?_
        refine h_getI (pc' := 60) (v := σ 98 15) rfl rfl rfl rfl rfl rfl (fun z4 hz4 => ?_)
        have tz4 := tf_98_15 hI
        refine h_aload_n (pc' := 61) rfl rfl rfl ?_
        refine h_getI (pc' := 64) (v := σ 98 16) rfl rfl rfl rfl rfl rfl (fun z5 hz5 => ?_)
        have tz5 := tf_98_16 hI
        refine h_isub (pc' := 65) rfl rfl hz4 hz5 rfl (by omega) (by omega) (fun z6 hz6 => ?_)
        refine h_cge (tg := 106) (pc' := 68) rfl rfl rfl ci_0 hz6 (fun c7 => ?_) (fun c7 => ?_)
        · refine h_iload_n (pc' := 107) rfl rfl rfl ?_
          refine h_zeq (tg := 112) (pc' := 110) rfl rfl rfl hy2 (fun c8 => absurd c8 (by omega)) (fun c8 => ?_)
          refine h_iload_n (pc' := 111) rfl rfl rfl ?_
          exact h_iret rfl rfl (kk _ _ ci_5 (by omega) (fun _ => (Or.inr (Or.inr (Or.inr (Or.inr (Or.inr (Or.inr (Or.inl ⟨rfl, ex0, ex1, ex2, ex3, ex4, ⟨by omega, by omega, by omega, by omega, by omega⟩⟩)))))))) (Or.inl (by omega)))
        · refine h_aload_n (pc' := 69) rfl rfl rfl ?_
          refine h_aload_n (pc' := 70) rfl rfl rfl ?_
          refine h_getI (pc' := 73) (v := σ 98 16) rfl rfl rfl rfl rfl rfl (fun z9 hz9 => ?_)
          have tz9 := tf_98_16 hI
          refine h_iload_n (pc' := 74) rfl rfl rfl ?_
          refine h_iadd (pc' := 75) rfl rfl hz9 ci_0 rfl (by omega) (by omega) (fun z10 hz10 => ?_)
          refine h_call (sp := false) (pc' := 78) (M := [(0, .ref 98), (1, .int z10)]) rfl rfl rfl rfl rfl rfl rfl rfl ?_
          refine h_iload_n (pc' := 1) rfl rfl rfl ?_
          refine h_aload_n (pc' := 2) rfl rfl rfl ?_
          refine h_getI (pc' := 5) (v := σ 98 11) rfl rfl rfl rfl rfl rfl (fun z11 hz11 => ?_)
          have tz11 := tf_98_11 hI
          refine h_cge (tg := 17) (pc' := 8) rfl rfl rfl hz10 hz11 (fun c12 => ?_) (fun c12 => ?_)
          · refine h_bipush (pc' := 19) (x := (Int32.ofInt (-4))) rfl rfl cb_m4 ?_
            refine h_iret rfl rfl (h_Kv ?_)
            refine h_aload_n (pc' := 79) rfl rfl rfl ?_
            refine h_getR (pc' := 82) rfl rfl rfl rfl rfl ?_
            refine h_aload_n (pc' := 83) rfl rfl rfl ?_
            refine h_getR (pc' := 86) rfl rfl rfl rfl rfl ?_
            refine h_iload_n (pc' := 87) rfl rfl rfl ?_
            refine h_iald (pc' := 88) (v := 32) rfl rfl rfl ci_5 (by omega) (by omega) (tx_103_5 hI) (fun z13 hz13 => ?_)
            refine h_iload_n (pc' := 89) rfl rfl rfl ?_
            refine h_iadd (pc' := 90) rfl rfl hz13 ci_0 rfl (by omega) (by omega) (fun z14 hz14 => ?_)
            refine h_iald (pc' := 91) (v := σ 104 (32 + 0)) rfl rfl rfl hz14 (by omega) (by omega) rfl (fun z15 hz15 => ?_)
            have tz15 := ty_104 hI (32 + 0)
            refine h_cne (tg := 98) (pc' := 94) rfl rfl rfl ci_m4 hz15 (fun c16 => ?_) (fun c16 => ?_)
            · refine h_iconst (pc' := 99) (x := (Int32.ofInt 0)) rfl rfl rfl ?_
              refine h_istore_n (pc' := 100) (M := [(2, .int (Int32.ofInt 0)), (0, .ref 98), (1, .int (Int32.ofInt 5)), (3, .int (Int32.ofInt 0))]) rfl rfl rfl rfl ?_
              refine h_iinc (pc' := 103) (b := 1) (M := fun z17 => [(3, .int z17), (2, .int (Int32.ofInt 0)), (0, .ref 98), (1, .int (Int32.ofInt 5))]) rfl rfl rfl rfl ci_0 ci_1 rfl (by omega) (by omega) (fun _ => rfl) (fun z17 hz17 => ?_)
              refine h_goto (pc' := 51) rfl rfl ?_
              have qz17 : z17 = (Int32.ofInt 1) := h_lit hz17 ci_1
              subst qz17
              exact h_wk [(0, .ref 98), (1, .int (Int32.ofInt 5)), (2, .int (Int32.ofInt 0)), (3, .int (Int32.ofInt 1))] ⟨rfl, rfl, rfl, rfl, trivial⟩ (ih.2.2.2.2.2.2.2.2.2.2.2.2.2.2.2.2.2.2.2.2.2.2.2.2.2.2.2.2.2.2.2.2.2.2.2.2.2.2.2.2.2.2.2.2.2.2.2.1 (Int32.ofInt 0) _ ci_0 (by omega) ex0 ex1 ex2 ex3 ex4 (Or.inr ⟨by omega, fun h => by unfold g_nm5 at h; omega⟩) (by omega))
            · refine h_iconst (pc' := 95) (x := (Int32.ofInt 1)) rfl rfl rfl ?_
              refine h_goto (pc' := 99) rfl rfl ?_
              refine h_istore_n (pc' := 100) (M := [(2, .int (Int32.ofInt 1)), (0, .ref 98), (1, .int (Int32.ofInt 5)), (3, .int (Int32.ofInt 0))]) rfl rfl rfl rfl ?_
              refine h_iinc (pc' := 103) (b := 1) (M := fun z18 => [(3, .int z18), (2, .int (Int32.ofInt 1)), (0, .ref 98), (1, .int (Int32.ofInt 5))]) rfl rfl rfl rfl ci_0 ci_1 rfl (by omega) (by omega) (fun _ => rfl) (fun z18 hz18 => ?_)
              refine h_goto (pc' := 51) rfl rfl ?_
              have qz18 : z18 = (Int32.ofInt 1) := h_lit hz18 ci_1
              subst qz18
              exact h_wk [(0, .ref 98), (1, .int (Int32.ofInt 5)), (2, .int (Int32.ofInt 1)), (3, .int (Int32.ofInt 1))] ⟨rfl, rfl, rfl, rfl, trivial⟩ (ih.2.2.2.2.2.2.2.2.2.2.2.2.2.2.2.2.2.2.2.2.2.2.2.2.2.2.2.2.2.2.2.2.2.2.2.2.2.2.2.2.2.2.2.2.2.2.2.1 (Int32.ofInt 1) _ ci_1 (by omega) ex0 ex1 ex2 ex3 ex4 (Or.inl ⟨by omega, by omega, by omega⟩) (by omega))
          · refine h_aload_n (pc' := 9) rfl rfl rfl ?_
            refine h_getR (pc' := 12) rfl rfl rfl rfl rfl ?_
            refine h_iload_n (pc' := 13) rfl rfl rfl ?_
            refine h_iald (pc' := 14) (v := σ 102 ((σ 98 16) + 0)) rfl rfl rfl hz10 (by omega) (by omega) rfl (fun z19 hz19 => ?_)
            have tz19 := ty_102 hI ((σ 98 16) + 0)
            refine h_goto (pc' := 19) rfl rfl ?_
            refine h_iret rfl rfl (h_Kv ?_)
            refine h_aload_n (pc' := 79) rfl rfl rfl ?_
            refine h_getR (pc' := 82) rfl rfl rfl rfl rfl ?_
            refine h_aload_n (pc' := 83) rfl rfl rfl ?_
            refine h_getR (pc' := 86) rfl rfl rfl rfl rfl ?_
            refine h_iload_n (pc' := 87) rfl rfl rfl ?_
            refine h_iald (pc' := 88) (v := 32) rfl rfl rfl ci_5 (by omega) (by omega) (tx_103_5 hI) (fun z20 hz20 => ?_)
            refine h_iload_n (pc' := 89) rfl rfl rfl ?_
            refine h_iadd (pc' := 90) rfl rfl hz20 ci_0 rfl (by omega) (by omega) (fun z21 hz21 => ?_)
            refine h_iald (pc' := 91) (v := σ 104 (32 + 0)) rfl rfl rfl hz21 (by omega) (by omega) rfl (fun z22 hz22 => ?_)
            have tz22 := ty_104 hI (32 + 0)
            refine h_cne (tg := 98) (pc' := 94) rfl rfl rfl hz19 hz22 (fun c23 => ?_) (fun c23 => ?_)
            · refine h_iconst (pc' := 99) (x := (Int32.ofInt 0)) rfl rfl rfl ?_
              refine h_istore_n (pc' := 100) (M := [(2, .int (Int32.ofInt 0)), (0, .ref 98), (1, .int (Int32.ofInt 5)), (3, .int (Int32.ofInt 0))]) rfl rfl rfl rfl ?_
              refine h_iinc (pc' := 103) (b := 1) (M := fun z24 => [(3, .int z24), (2, .int (Int32.ofInt 0)), (0, .ref 98), (1, .int (Int32.ofInt 5))]) rfl rfl rfl rfl ci_0 ci_1 rfl (by omega) (by omega) (fun _ => rfl) (fun z24 hz24 => ?_)
              refine h_goto (pc' := 51) rfl rfl ?_
              have qz24 : z24 = (Int32.ofInt 1) := h_lit hz24 ci_1
              subst qz24
              exact h_wk [(0, .ref 98), (1, .int (Int32.ofInt 5)), (2, .int (Int32.ofInt 0)), (3, .int (Int32.ofInt 1))] ⟨rfl, rfl, rfl, rfl, trivial⟩ (ih.2.2.2.2.2.2.2.2.2.2.2.2.2.2.2.2.2.2.2.2.2.2.2.2.2.2.2.2.2.2.2.2.2.2.2.2.2.2.2.2.2.2.2.2.2.2.2.1 (Int32.ofInt 0) _ ci_0 (by omega) ex0 ex1 ex2 ex3 ex4 (Or.inr ⟨by omega, fun h => by unfold g_nm5 at h; omega⟩) (by omega))
            · refine h_iconst (pc' := 95) (x := (Int32.ofInt 1)) rfl rfl rfl ?_
              refine h_goto (pc' := 99) rfl rfl ?_
              refine h_istore_n (pc' := 100) (M := [(2, .int (Int32.ofInt 1)), (0, .ref 98), (1, .int (Int32.ofInt 5)), (3, .int (Int32.ofInt 0))]) rfl rfl rfl rfl ?_
              refine h_iinc (pc' := 103) (b := 1) (M := fun z25 => [(3, .int z25), (2, .int (Int32.ofInt 1)), (0, .ref 98), (1, .int (Int32.ofInt 5))]) rfl rfl rfl rfl ci_0 ci_1 rfl (by omega) (by omega) (fun _ => rfl) (fun z25 hz25 => ?_)
              refine h_goto (pc' := 51) rfl rfl ?_
              have qz25 : z25 = (Int32.ofInt 1) := h_lit hz25 ci_1
              subst qz25
              exact h_wk [(0, .ref 98), (1, .int (Int32.ofInt 5)), (2, .int (Int32.ofInt 1)), (3, .int (Int32.ofInt 1))] ⟨rfl, rfl, rfl, rfl, trivial⟩ (ih.2.2.2.2.2.2.2.2.2.2.2.2.2.2.2.2.2.2.2.2.2.2.2.2.2.2.2.2.2.2.2.2.2.2.2.2.2.2.2.2.2.2.2.2.2.2.2.1 (Int32.ofInt 1) _ ci_1 (by omega) ex0 ex1 ex2 ex3 ex4 (Or.inl ⟨by omega, by omega, by omega⟩) (by omega))
    · intro  y2 b2 hy2 ry2 ex0 ex1 ex2 ex3 ex4 ex5 hm; have gh0 := tf_98_11 hI; have gh1 := tf_98_15 hI; have gh2 := tf_98_16 hI
      refine h_iload_n (pc' := 52) rfl rfl rfl ?_
      refine h_zeq (tg := 106) (pc' := 55) rfl rfl rfl hy2 (fun c1 => ?_) (fun c1 => ?_)
      · refine h_iload_n (pc' := 107) rfl rfl rfl ?_
        refine h_zeq (tg := 112) (pc' := 110) rfl rfl rfl hy2 (fun c2 => ?_) (fun c2 => absurd c2 (by omega))
        refine h_iinc (pc' := 115) (b := 6) (M := fun z3 => [(1, .int z3), (0, .ref 98), (2, .int y2), (3, .int (Int32.ofInt 1))]) rfl rfl rfl rfl ci_5 ci_1 rfl (by omega) (by omega) (fun _ => rfl) (fun z3 hz3 => ?_)
        refine h_goto (pc' := 2) rfl rfl ?_
        have qz3 : z3 = (Int32.ofInt 6) := h_lit hz3 ci_6
        subst qz3
        exact h_wk [(0, .ref 98), (1, .int (Int32.ofInt 6)), (2, .int y2), (3, .int (Int32.ofInt 1))] ⟨rfl, rfl, rfl, rfl, trivial⟩ (ih.2.2.2.2.2.2.1 y2 _ hy2 (by omega) (Int32.ofInt 1) _ ci_1 (by omega) ex0 ex1 ex2 ex3 ex4 (ex5.elim (fun h => absurd h.1 (by omega)) (fun h => h.2)) (by omega))
      · refine h_iload_n (pc' := 56) rfl rfl rfl ?_
        refine h_aload_n (pc' := 57) rfl rfl rfl ?_
        refine h_getI (pc' := 60) (v := σ 98 15) rfl rfl rfl rfl rfl rfl (fun z4 hz4 => ?_)
        have tz4 := tf_98_15 hI
        refine h_aload_n (pc' := 61) rfl rfl rfl ?_
        refine h_getI (pc' := 64) (v := σ 98 16) rfl rfl rfl rfl rfl rfl (fun z5 hz5 => ?_)
        have tz5 := tf_98_16 hI
        refine h_isub (pc' := 65) rfl rfl hz4 hz5 rfl (by omega) (by omega) (fun z6 hz6 => ?_)
        refine h_cge (tg := 106) (pc' := 68) rfl rfl rfl ci_1 hz6 (fun c7 => ?_) (fun c7 => ?_)
        · refine h_iload_n (pc' := 107) rfl rfl rfl ?_
          refine h_zeq (tg := 112) (pc' := 110) rfl rfl rfl hy2 (fun c8 => absurd c8 (by omega)) (fun c8 => ?_)
          refine h_iload_n (pc' := 111) rfl rfl rfl ?_
          exact h_iret rfl rfl (kk _ _ ci_5 (by omega) (fun _ => (Or.inr (Or.inr (Or.inr (Or.inr (Or.inr (Or.inr (Or.inl ⟨rfl, ex0, ex1, ex2, ex3, ex4, ⟨by omega, by omega, by omega, by omega, by omega⟩⟩)))))))) (Or.inl (by omega)))
        · refine h_aload_n (pc' := 69) rfl rfl rfl ?_
          refine h_aload_n (pc' := 70) rfl rfl rfl ?_
          refine h_getI (pc' := 73) (v := σ 98 16) rfl rfl rfl rfl rfl rfl (fun z9 hz9 => ?_)
          have tz9 := tf_98_16 hI
          refine h_iload_n (pc' := 74) rfl rfl rfl ?_
          refine h_iadd (pc' := 75) rfl rfl hz9 ci_1 rfl (by omega) (by omega) (fun z10 hz10 => ?_)
          refine h_call (sp := false) (pc' := 78) (M := [(0, .ref 98), (1, .int z10)]) rfl rfl rfl rfl rfl rfl rfl rfl ?_
          refine h_iload_n (pc' := 1) rfl rfl rfl ?_
          refine h_aload_n (pc' := 2) rfl rfl rfl ?_
          refine h_getI (pc' := 5) (v := σ 98 11) rfl rfl rfl rfl rfl rfl (fun z11 hz11 => ?_)
          have tz11 := tf_98_11 hI
          refine h_cge (tg := 17) (pc' := 8) rfl rfl rfl hz10 hz11 (fun c12 => ?_) (fun c12 => ?_)
          · refine h_bipush (pc' := 19) (x := (Int32.ofInt (-4))) rfl rfl cb_m4 ?_
            refine h_iret rfl rfl (h_Kv ?_)
            refine h_aload_n (pc' := 79) rfl rfl rfl ?_
            refine h_getR (pc' := 82) rfl rfl rfl rfl rfl ?_
            refine h_aload_n (pc' := 83) rfl rfl rfl ?_
            refine h_getR (pc' := 86) rfl rfl rfl rfl rfl ?_
            refine h_iload_n (pc' := 87) rfl rfl rfl ?_
            refine h_iald (pc' := 88) (v := 32) rfl rfl rfl ci_5 (by omega) (by omega) (tx_103_5 hI) (fun z13 hz13 => ?_)
            refine h_iload_n (pc' := 89) rfl rfl rfl ?_
            refine h_iadd (pc' := 90) rfl rfl hz13 ci_1 rfl (by omega) (by omega) (fun z14 hz14 => ?_)
            refine h_iald (pc' := 91) (v := σ 104 (32 + 1)) rfl rfl rfl hz14 (by omega) (by omega) rfl (fun z15 hz15 => ?_)
            have tz15 := ty_104 hI (32 + 1)
            refine h_cne (tg := 98) (pc' := 94) rfl rfl rfl ci_m4 hz15 (fun c16 => ?_) (fun c16 => ?_)
            · refine h_iconst (pc' := 99) (x := (Int32.ofInt 0)) rfl rfl rfl ?_
              refine h_istore_n (pc' := 100) (M := [(2, .int (Int32.ofInt 0)), (0, .ref 98), (1, .int (Int32.ofInt 5)), (3, .int (Int32.ofInt 1))]) rfl rfl rfl rfl ?_
              refine h_iinc (pc' := 103) (b := 2) (M := fun z17 => [(3, .int z17), (2, .int (Int32.ofInt 0)), (0, .ref 98), (1, .int (Int32.ofInt 5))]) rfl rfl rfl rfl ci_1 ci_1 rfl (by omega) (by omega) (fun _ => rfl) (fun z17 hz17 => ?_)
              refine h_goto (pc' := 51) rfl rfl ?_
              have qz17 : z17 = (Int32.ofInt 2) := h_lit hz17 ci_2
              subst qz17
              exact h_wk [(0, .ref 98), (1, .int (Int32.ofInt 5)), (2, .int (Int32.ofInt 0)), (3, .int (Int32.ofInt 2))] ⟨rfl, rfl, rfl, rfl, trivial⟩ (ih.2.2.2.2.2.2.2.2.2.2.2.2.2.2.2.2.2.2.2.2.2.2.2.2.2.2.2.2.2.2.2.2.2.2.2.2.2.2.2.2.2.2.2.2.2.2.2.2.1 (Int32.ofInt 0) _ ci_0 (by omega) ex0 ex1 ex2 ex3 ex4 (Or.inr ⟨by omega, fun h => by unfold g_nm5 at h; omega⟩) (by omega))
            · refine h_iconst (pc' := 95) (x := (Int32.ofInt 1)) rfl rfl rfl ?_
              refine h_goto (pc' := 99) rfl rfl ?_
              refine h_istore_n (pc' := 100) (M := [(2, .int (Int32.ofInt 1)), (0, .ref 98), (1, .int (Int32.ofInt 5)), (3, .int (Int32.ofInt 1))]) rfl rfl rfl rfl ?_
              refine h_iinc (pc' := 103) (b := 2) (M := fun z18 => [(3, .int z18), (2, .int (Int32.ofInt 1)), (0, .ref 98), (1, .int (Int32.ofInt 5))]) rfl rfl rfl rfl ci_1 ci_1 rfl (by omega) (by omega) (fun _ => rfl) (fun z18 hz18 => ?_)
              refine h_goto (pc' := 51) rfl rfl ?_
              have qz18 : z18 = (Int32.ofInt 2) := h_lit hz18 ci_2
              subst qz18
              exact h_wk [(0, .ref 98), (1, .int (Int32.ofInt 5)), (2, .int (Int32.ofInt 1)), (3, .int (Int32.ofInt 2))] ⟨rfl, rfl, rfl, rfl, trivial⟩ (ih.2.2.2.2.2.2.2.2.2.2.2.2.2.2.2.2.2.2.2.2.2.2.2.2.2.2.2.2.2.2.2.2.2.2.2.2.2.2.2.2.2.2.2.2.2.2.2.2.1 (Int32.ofInt 1) _ ci_1 (by omega) ex0 ex1 ex2 ex3 ex4 (Or.inl ⟨by omega, by omega, by omega, by omega⟩) (by omega))
          · refine h_aload_n (pc' := 9) rfl rfl rfl ?_
            refine h_getR (pc' := 12) rfl rfl rfl rfl rfl ?_
            refine h_iload_n (pc' := 13) rfl rfl rfl ?_
            refine h_iald (pc' := 14) (v := σ 102 ((σ 98 16) + 1)) rfl rfl rfl hz10 (by omega) (by omega) rfl (fun z19 hz19 => ?_)
            have tz19 := ty_102 hI ((σ 98 16) + 1)
            refine h_goto (pc' := 19) rfl rfl ?_
            refine h_iret rfl rfl (h_Kv ?_)
            refine h_aload_n (pc' := 79) rfl rfl rfl ?_
            refine h_getR (pc' := 82) rfl rfl rfl rfl rfl ?_
            refine h_aload_n (pc' := 83) rfl rfl rfl ?_
            refine h_getR (pc' := 86) rfl rfl rfl rfl rfl ?_
            refine h_iload_n (pc' := 87) rfl rfl rfl ?_
            refine h_iald (pc' := 88) (v := 32) rfl rfl rfl ci_5 (by omega) (by omega) (tx_103_5 hI) (fun z20 hz20 => ?_)
            refine h_iload_n (pc' := 89) rfl rfl rfl ?_
            refine h_iadd (pc' := 90) rfl rfl hz20 ci_1 rfl (by omega) (by omega) (fun z21 hz21 => ?_)
            refine h_iald (pc' := 91) (v := σ 104 (32 + 1)) rfl rfl rfl hz21 (by omega) (by omega) rfl (fun z22 hz22 => ?_)
            have tz22 := ty_104 hI (32 + 1)
            refine h_cne (tg := 98) (pc' := 94) rfl rfl rfl hz19 hz22 (fun c23 => ?_) (fun c23 => ?_)
            · refine h_iconst (pc' := 99) (x := (Int32.ofInt 0)) rfl rfl rfl ?_
              refine h_istore_n (pc' := 100) (M := [(2, .int (Int32.ofInt 0)), (0, .ref 98), (1, .int (Int32.ofInt 5)), (3, .int (Int32.ofInt 1))]) rfl rfl rfl rfl ?_
              refine h_iinc (pc' := 103) (b := 2) (M := fun z24 => [(3, .int z24), (2, .int (Int32.ofInt 0)), (0, .ref 98), (1, .int (Int32.ofInt 5))]) rfl rfl rfl rfl ci_1 ci_1 rfl (by omega) (by omega) (fun _ => rfl) (fun z24 hz24 => ?_)
              refine h_goto (pc' := 51) rfl rfl ?_
              have qz24 : z24 = (Int32.ofInt 2) := h_lit hz24 ci_2
              subst qz24
              exact h_wk [(0, .ref 98), (1, .int (Int32.ofInt 5)), (2, .int (Int32.ofInt 0)), (3, .int (Int32.ofInt 2))] ⟨rfl, rfl, rfl, rfl, trivial⟩ (ih.2.2.2.2.2.2.2.2.2.2.2.2.2.2.2.2.2.2.2.2.2.2.2.2.2.2.2.2.2.2.2.2.2.2.2.2.2.2.2.2.2.2.2.2.2.2.2.2.1 (Int32.ofInt 0) _ ci_0 (by omega) ex0 ex1 ex2 ex3 ex4 (Or.inr ⟨by omega, fun h => by unfold g_nm5 at h; omega⟩) (by omega))
            · refine h_iconst (pc' := 95) (x := (Int32.ofInt 1)) rfl rfl rfl ?_
              refine h_goto (pc' := 99) rfl rfl ?_
              refine h_istore_n (pc' := 100) (M := [(2, .int (Int32.ofInt 1)), (0, .ref 98), (1, .int (Int32.ofInt 5)), (3, .int (Int32.ofInt 1))]) rfl rfl rfl rfl ?_
              refine h_iinc (pc' := 103) (b := 2) (M := fun z25 => [(3, .int z25), (2, .int (Int32.ofInt 1)), (0, .ref 98), (1, .int (Int32.ofInt 5))]) rfl rfl rfl rfl ci_1 ci_1 rfl (by omega) (by omega) (fun _ => rfl) (fun z25 hz25 => ?_)
              refine h_goto (pc' := 51) rfl rfl ?_
              have qz25 : z25 = (Int32.ofInt 2) := h_lit hz25 ci_2
              subst qz25
              exact h_wk [(0, .ref 98), (1, .int (Int32.ofInt 5)), (2, .int (Int32.ofInt 1)), (3, .int (Int32.ofInt 2))] ⟨rfl, rfl, rfl, rfl, trivial⟩ (ih.2.2.2.2.2.2.2.2.2.2.2.2.2.2.2.2.2.2.2.2.2.2.2.2.2.2.2.2.2.2.2.2.2.2.2.2.2.2.2.2.2.2.2.2.2.2.2.2.1 (Int32.ofInt 1) _ ci_1 (by omega) ex0 ex1 ex2 ex3 ex4 (Or.inl ⟨by omega, by omega, by omega, by omega⟩) (by omega))
    · intro  y2 b2 hy2 ry2 ex0 ex1 ex2 ex3 ex4 ex5 hm; have gh0 := tf_98_11 hI; have gh1 := tf_98_15 hI; have gh2 := tf_98_16 hI
      refine h_iload_n (pc' := 52) rfl rfl rfl ?_
      refine h_zeq (tg := 106) (pc' := 55) rfl rfl rfl hy2 (fun c1 => ?_) (fun c1 => ?_)
      · refine h_iload_n (pc' := 107) rfl rfl rfl ?_
        refine h_zeq (tg := 112) (pc' := 110) rfl rfl rfl hy2 (fun c2 => ?_) (fun c2 => absurd c2 (by omega))
        refine h_iinc (pc' := 115) (b := 6) (M := fun z3 => [(1, .int z3), (0, .ref 98), (2, .int y2), (3, .int (Int32.ofInt 2))]) rfl rfl rfl rfl ci_5 ci_1 rfl (by omega) (by omega) (fun _ => rfl) (fun z3 hz3 => ?_)
        refine h_goto (pc' := 2) rfl rfl ?_
        have qz3 : z3 = (Int32.ofInt 6) := h_lit hz3 ci_6
        subst qz3
        exact h_wk [(0, .ref 98), (1, .int (Int32.ofInt 6)), (2, .int y2), (3, .int (Int32.ofInt 2))] ⟨rfl, rfl, rfl, rfl, trivial⟩ (ih.2.2.2.2.2.2.1 y2 _ hy2 (by omega) (Int32.ofInt 2) _ ci_2 (by omega) ex0 ex1 ex2 ex3 ex4 (ex5.elim (fun h => absurd h.1 (by omega)) (fun h => h.2)) (by omega))
      · refine h_iload_n (pc' := 56) rfl rfl rfl ?_
        refine h_aload_n (pc' := 57) rfl rfl rfl ?_
        refine h_getI (pc' := 60) (v := σ 98 15) rfl rfl rfl rfl rfl rfl (fun z4 hz4 => ?_)
        have tz4 := tf_98_15 hI
        refine h_aload_n (pc' := 61) rfl rfl rfl ?_
        refine h_getI (pc' := 64) (v := σ 98 16) rfl rfl rfl rfl rfl rfl (fun z5 hz5 => ?_)
        have tz5 := tf_98_16 hI
        refine h_isub (pc' := 65) rfl rfl hz4 hz5 rfl (by omega) (by omega) (fun z6 hz6 => ?_)
        refine h_cge (tg := 106) (pc' := 68) rfl rfl rfl ci_2 hz6 (fun c7 => ?_) (fun c7 => ?_)
        · refine h_iload_n (pc' := 107) rfl rfl rfl ?_
          refine h_zeq (tg := 112) (pc' := 110) rfl rfl rfl hy2 (fun c8 => absurd c8 (by omega)) (fun c8 => ?_)
          refine h_iload_n (pc' := 111) rfl rfl rfl ?_
          exact h_iret rfl rfl (kk _ _ ci_5 (by omega) (fun _ => (Or.inr (Or.inr (Or.inr (Or.inr (Or.inr (Or.inr (Or.inl ⟨rfl, ex0, ex1, ex2, ex3, ex4, ⟨by omega, by omega, by omega, by omega, by omega⟩⟩)))))))) (Or.inl (by omega)))
        · refine h_aload_n (pc' := 69) rfl rfl rfl ?_
          refine h_aload_n (pc' := 70) rfl rfl rfl ?_
          refine h_getI (pc' := 73) (v := σ 98 16) rfl rfl rfl rfl rfl rfl (fun z9 hz9 => ?_)
          have tz9 := tf_98_16 hI
          refine h_iload_n (pc' := 74) rfl rfl rfl ?_
          refine h_iadd (pc' := 75) rfl rfl hz9 ci_2 rfl (by omega) (by omega) (fun z10 hz10 => ?_)
          refine h_call (sp := false) (pc' := 78) (M := [(0, .ref 98), (1, .int z10)]) rfl rfl rfl rfl rfl rfl rfl rfl ?_
          refine h_iload_n (pc' := 1) rfl rfl rfl ?_
          refine h_aload_n (pc' := 2) rfl rfl rfl ?_
          refine h_getI (pc' := 5) (v := σ 98 11) rfl rfl rfl rfl rfl rfl (fun z11 hz11 => ?_)
          have tz11 := tf_98_11 hI
          refine h_cge (tg := 17) (pc' := 8) rfl rfl rfl hz10 hz11 (fun c12 => ?_) (fun c12 => ?_)
          · refine h_bipush (pc' := 19) (x := (Int32.ofInt (-4))) rfl rfl cb_m4 ?_
            refine h_iret rfl rfl (h_Kv ?_)
            refine h_aload_n (pc' := 79) rfl rfl rfl ?_
            refine h_getR (pc' := 82) rfl rfl rfl rfl rfl ?_
            refine h_aload_n (pc' := 83) rfl rfl rfl ?_
            refine h_getR (pc' := 86) rfl rfl rfl rfl rfl ?_
            refine h_iload_n (pc' := 87) rfl rfl rfl ?_
            refine h_iald (pc' := 88) (v := 32) rfl rfl rfl ci_5 (by omega) (by omega) (tx_103_5 hI) (fun z13 hz13 => ?_)
            refine h_iload_n (pc' := 89) rfl rfl rfl ?_
            refine h_iadd (pc' := 90) rfl rfl hz13 ci_2 rfl (by omega) (by omega) (fun z14 hz14 => ?_)
            refine h_iald (pc' := 91) (v := σ 104 (32 + 2)) rfl rfl rfl hz14 (by omega) (by omega) rfl (fun z15 hz15 => ?_)
            have tz15 := ty_104 hI (32 + 2)
            refine h_cne (tg := 98) (pc' := 94) rfl rfl rfl ci_m4 hz15 (fun c16 => ?_) (fun c16 => ?_)
            · refine h_iconst (pc' := 99) (x := (Int32.ofInt 0)) rfl rfl rfl ?_
              refine h_istore_n (pc' := 100) (M := [(2, .int (Int32.ofInt 0)), (0, .ref 98), (1, .int (Int32.ofInt 5)), (3, .int (Int32.ofInt 2))]) rfl rfl rfl rfl ?_
              refine h_iinc (pc' := 103) (b := 3) (M := fun z17 => [(3, .int z17), (2, .int (Int32.ofInt 0)), (0, .ref 98), (1, .int (Int32.ofInt 5))]) rfl rfl rfl rfl ci_2 ci_1 rfl (by omega) (by omega) (fun _ => rfl) (fun z17 hz17 => ?_)
              refine h_goto (pc' := 51) rfl rfl ?_
              have qz17 : z17 = (Int32.ofInt 3) := h_lit hz17 ci_3
              subst qz17
              exact h_wk [(0, .ref 98), (1, .int (Int32.ofInt 5)), (2, .int (Int32.ofInt 0)), (3, .int (Int32.ofInt 3))] ⟨rfl, rfl, rfl, rfl, trivial⟩ (ih.2.2.2.2.2.2.2.2.2.2.2.2.2.2.2.2.2.2.2.2.2.2.2.2.2.2.2.2.2.2.2.2.2.2.2.2.2.2.2.2.2.2.2.2.2.2.2.2.2.1 (Int32.ofInt 0) _ ci_0 (by omega) ex0 ex1 ex2 ex3 ex4 (Or.inr ⟨by omega, fun h => by unfold g_nm5 at h; omega⟩) (by omega))
            · refine h_iconst (pc' := 95) (x := (Int32.ofInt 1)) rfl rfl rfl ?_
              refine h_goto (pc' := 99) rfl rfl ?_
              refine h_istore_n (pc' := 100) (M := [(2, .int (Int32.ofInt 1)), (0, .ref 98), (1, .int (Int32.ofInt 5)), (3, .int (Int32.ofInt 2))]) rfl rfl rfl rfl ?_
              refine h_iinc (pc' := 103) (b := 3) (M := fun z18 => [(3, .int z18), (2, .int (Int32.ofInt 1)), (0, .ref 98), (1, .int (Int32.ofInt 5))]) rfl rfl rfl rfl ci_2 ci_1 rfl (by omega) (by omega) (fun _ => rfl) (fun z18 hz18 => ?_)
              refine h_goto (pc' := 51) rfl rfl ?_
              have qz18 : z18 = (Int32.ofInt 3) := h_lit hz18 ci_3
              subst qz18
              exact h_wk [(0, .ref 98), (1, .int (Int32.ofInt 5)), (2, .int (Int32.ofInt 1)), (3, .int (Int32.ofInt 3))] ⟨rfl, rfl, rfl, rfl, trivial⟩ (ih.2.2.2.2.2.2.2.2.2.2.2.2.2.2.2.2.2.2.2.2.2.2.2.2.2.2.2.2.2.2.2.2.2.2.2.2.2.2.2.2.2.2.2.2.2.2.2.2.2.1 (Int32.ofInt 1) _ ci_1 (by omega) ex0 ex1 ex2 ex3 ex4 (Or.inl ⟨by omega, by omega, by omega, by omega, by omega⟩) (by omega))
          · refine h_aload_n (pc' := 9) rfl rfl rfl ?_
            refine h_getR (pc' := 12) rfl rfl rfl rfl rfl ?_
            refine h_iload_n (pc' := 13) rfl rfl rfl ?_
            refine h_iald (pc' := 14) (v := σ 102 ((σ 98 16) + 2)) rfl rfl rfl hz10 (by omega) (by omega) rfl (fun z19 hz19 => ?_)
            have tz19 := ty_102 hI ((σ 98 16) + 2)
            refine h_goto (pc' := 19) rfl rfl ?_
            refine h_iret rfl rfl (h_Kv ?_)
            refine h_aload_n (pc' := 79) rfl rfl rfl ?_
            refine h_getR (pc' := 82) rfl rfl rfl rfl rfl ?_
            refine h_aload_n (pc' := 83) rfl rfl rfl ?_
            refine h_getR (pc' := 86) rfl rfl rfl rfl rfl ?_
            refine h_iload_n (pc' := 87) rfl rfl rfl ?_
            refine h_iald (pc' := 88) (v := 32) rfl rfl rfl ci_5 (by omega) (by omega) (tx_103_5 hI) (fun z20 hz20 => ?_)
            refine h_iload_n (pc' := 89) rfl rfl rfl ?_
            refine h_iadd (pc' := 90) rfl rfl hz20 ci_2 rfl (by omega) (by omega) (fun z21 hz21 => ?_)
            refine h_iald (pc' := 91) (v := σ 104 (32 + 2)) rfl rfl rfl hz21 (by omega) (by omega) rfl (fun z22 hz22 => ?_)
            have tz22 := ty_104 hI (32 + 2)
            refine h_cne (tg := 98) (pc' := 94) rfl rfl rfl hz19 hz22 (fun c23 => ?_) (fun c23 => ?_)
            · refine h_iconst (pc' := 99) (x := (Int32.ofInt 0)) rfl rfl rfl ?_
              refine h_istore_n (pc' := 100) (M := [(2, .int (Int32.ofInt 0)), (0, .ref 98), (1, .int (Int32.ofInt 5)), (3, .int (Int32.ofInt 2))]) rfl rfl rfl rfl ?_
              refine h_iinc (pc' := 103) (b := 3) (M := fun z24 => [(3, .int z24), (2, .int (Int32.ofInt 0)), (0, .ref 98), (1, .int (Int32.ofInt 5))]) rfl rfl rfl rfl ci_2 ci_1 rfl (by omega) (by omega) (fun _ => rfl) (fun z24 hz24 => ?_)
              refine h_goto (pc' := 51) rfl rfl ?_
              have qz24 : z24 = (Int32.ofInt 3) := h_lit hz24 ci_3
              subst qz24
              exact h_wk [(0, .ref 98), (1, .int (Int32.ofInt 5)), (2, .int (Int32.ofInt 0)), (3, .int (Int32.ofInt 3))] ⟨rfl, rfl, rfl, rfl, trivial⟩ (ih.2.2.2.2.2.2.2.2.2.2.2.2.2.2.2.2.2.2.2.2.2.2.2.2.2.2.2.2.2.2.2.2.2.2.2.2.2.2.2.2.2.2.2.2.2.2.2.2.2.1 (Int32.ofInt 0) _ ci_0 (by omega) ex0 ex1 ex2 ex3 ex4 (Or.inr ⟨by omega, fun h => by unfold g_nm5 at h; omega⟩) (by omega))
            · refine h_iconst (pc' := 95) (x := (Int32.ofInt 1)) rfl rfl rfl ?_
              refine h_goto (pc' := 99) rfl rfl ?_
              refine h_istore_n (pc' := 100) (M := [(2, .int (Int32.ofInt 1)), (0, .ref 98), (1, .int (Int32.ofInt 5)), (3, .int (Int32.ofInt 2))]) rfl rfl rfl rfl ?_
              refine h_iinc (pc' := 103) (b := 3) (M := fun z25 => [(3, .int z25), (2, .int (Int32.ofInt 1)), (0, .ref 98), (1, .int (Int32.ofInt 5))]) rfl rfl rfl rfl ci_2 ci_1 rfl (by omega) (by omega) (fun _ => rfl) (fun z25 hz25 => ?_)
              refine h_goto (pc' := 51) rfl rfl ?_
              have qz25 : z25 = (Int32.ofInt 3) := h_lit hz25 ci_3
              subst qz25
              exact h_wk [(0, .ref 98), (1, .int (Int32.ofInt 5)), (2, .int (Int32.ofInt 1)), (3, .int (Int32.ofInt 3))] ⟨rfl, rfl, rfl, rfl, trivial⟩ (ih.2.2.2.2.2.2.2.2.2.2.2.2.2.2.2.2.2.2.2.2.2.2.2.2.2.2.2.2.2.2.2.2.2.2.2.2.2.2.2.2.2.2.2.2.2.2.2.2.2.1 (Int32.ofInt 1) _ ci_1 (by omega) ex0 ex1 ex2 ex3 ex4 (Or.inl ⟨by omega, by omega, by omega, by omega, by omega⟩) (by omega))
    · intro  y2 b2 hy2 ry2 ex0 ex1 ex2 ex3 ex4 ex5 hm; have gh0 := tf_98_11 hI; have gh1 := tf_98_15 hI; have gh2 := tf_98_16 hI
      refine h_iload_n (pc' := 52) rfl rfl rfl ?_
      refine h_zeq (tg := 106) (pc' := 55) rfl rfl rfl hy2 (fun c1 => ?_) (fun c1 => ?_)
      · refine h_iload_n (pc' := 107) rfl rfl rfl ?_
        refine h_zeq (tg := 112) (pc' := 110) rfl rfl rfl hy2 (fun c2 => ?_) (fun c2 => absurd c2 (by omega))
        refine h_iinc (pc' := 115) (b := 6) (M := fun z3 => [(1, .int z3), (0, .ref 98), (2, .int y2), (3, .int (Int32.ofInt 3))]) rfl rfl rfl rfl ci_5 ci_1 rfl (by omega) (by omega) (fun _ => rfl) (fun z3 hz3 => ?_)
        refine h_goto (pc' := 2) rfl rfl ?_
        have qz3 : z3 = (Int32.ofInt 6) := h_lit hz3 ci_6
        subst qz3
        exact h_wk [(0, .ref 98), (1, .int (Int32.ofInt 6)), (2, .int y2), (3, .int (Int32.ofInt 3))] ⟨rfl, rfl, rfl, rfl, trivial⟩ (ih.2.2.2.2.2.2.1 y2 _ hy2 (by omega) (Int32.ofInt 3) _ ci_3 (by omega) ex0 ex1 ex2 ex3 ex4 (ex5.elim (fun h => absurd h.1 (by omega)) (fun h => h.2)) (by omega))
      · refine h_iload_n (pc' := 56) rfl rfl rfl ?_
        refine h_aload_n (pc' := 57) rfl rfl rfl ?_
        refine h_getI (pc' := 60) (v := σ 98 15) rfl rfl rfl rfl rfl rfl (fun z4 hz4 => ?_)
        have tz4 := tf_98_15 hI
        refine h_aload_n (pc' := 61) rfl rfl rfl ?_
        refine h_getI (pc' := 64) (v := σ 98 16) rfl rfl rfl rfl rfl rfl (fun z5 hz5 => ?_)
        have tz5 := tf_98_16 hI
        refine h_isub (pc' := 65) rfl rfl hz4 hz5 rfl (by omega) (by omega) (fun z6 hz6 => ?_)
        refine h_cge (tg := 106) (pc' := 68) rfl rfl rfl ci_3 hz6 (fun c7 => ?_) (fun c7 => ?_)
        · refine h_iload_n (pc' := 107) rfl rfl rfl ?_
          refine h_zeq (tg := 112) (pc' := 110) rfl rfl rfl hy2 (fun c8 => absurd c8 (by omega)) (fun c8 => ?_)
          refine h_iload_n (pc' := 111) rfl rfl rfl ?_
          exact h_iret rfl rfl (kk _ _ ci_5 (by omega) (fun _ => (Or.inr (Or.inr (Or.inr (Or.inr (Or.inr (Or.inr (Or.inl ⟨rfl, ex0, ex1, ex2, ex3, ex4, ⟨by omega, by omega, by omega, by omega, by omega⟩⟩)))))))) (Or.inl (by omega)))
        · refine h_aload_n (pc' := 69) rfl rfl rfl ?_
          refine h_aload_n (pc' := 70) rfl rfl rfl ?_
          refine h_getI (pc' := 73) (v := σ 98 16) rfl rfl rfl rfl rfl rfl (fun z9 hz9 => ?_)
          have tz9 := tf_98_16 hI
          refine h_iload_n (pc' := 74) rfl rfl rfl ?_
          refine h_iadd (pc' := 75) rfl rfl hz9 ci_3 rfl (by omega) (by omega) (fun z10 hz10 => ?_)
          refine h_call (sp := false) (pc' := 78) (M := [(0, .ref 98), (1, .int z10)]) rfl rfl rfl rfl rfl rfl rfl rfl ?_
          refine h_iload_n (pc' := 1) rfl rfl rfl ?_
          refine h_aload_n (pc' := 2) rfl rfl rfl ?_
          refine h_getI (pc' := 5) (v := σ 98 11) rfl rfl rfl rfl rfl rfl (fun z11 hz11 => ?_)
          have tz11 := tf_98_11 hI
          refine h_cge (tg := 17) (pc' := 8) rfl rfl rfl hz10 hz11 (fun c12 => ?_) (fun c12 => ?_)
          · refine h_bipush (pc' := 19) (x := (Int32.ofInt (-4))) rfl rfl cb_m4 ?_
            refine h_iret rfl rfl (h_Kv ?_)
            refine h_aload_n (pc' := 79) rfl rfl rfl ?_
            refine h_getR (pc' := 82) rfl rfl rfl rfl rfl ?_
            refine h_aload_n (pc' := 83) rfl rfl rfl ?_
            refine h_getR (pc' := 86) rfl rfl rfl rfl rfl ?_
            refine h_iload_n (pc' := 87) rfl rfl rfl ?_
            refine h_iald (pc' := 88) (v := 32) rfl rfl rfl ci_5 (by omega) (by omega) (tx_103_5 hI) (fun z13 hz13 => ?_)
            refine h_iload_n (pc' := 89) rfl rfl rfl ?_
            refine h_iadd (pc' := 90) rfl rfl hz13 ci_3 rfl (by omega) (by omega) (fun z14 hz14 => ?_)
            refine h_iald (pc' := 91) (v := σ 104 (32 + 3)) rfl rfl rfl hz14 (by omega) (by omega) rfl (fun z15 hz15 => ?_)
            have tz15 := ty_104 hI (32 + 3)
            refine h_cne (tg := 98) (pc' := 94) rfl rfl rfl ci_m4 hz15 (fun c16 => ?_) (fun c16 => ?_)
            · refine h_iconst (pc' := 99) (x := (Int32.ofInt 0)) rfl rfl rfl ?_
              refine h_istore_n (pc' := 100) (M := [(2, .int (Int32.ofInt 0)), (0, .ref 98), (1, .int (Int32.ofInt 5)), (3, .int (Int32.ofInt 3))]) rfl rfl rfl rfl ?_
              refine h_iinc (pc' := 103) (b := 4) (M := fun z17 => [(3, .int z17), (2, .int (Int32.ofInt 0)), (0, .ref 98), (1, .int (Int32.ofInt 5))]) rfl rfl rfl rfl ci_3 ci_1 rfl (by omega) (by omega) (fun _ => rfl) (fun z17 hz17 => ?_)
              refine h_goto (pc' := 51) rfl rfl ?_
              have qz17 : z17 = (Int32.ofInt 4) := h_lit hz17 ci_4
              subst qz17
              exact h_wk [(0, .ref 98), (1, .int (Int32.ofInt 5)), (2, .int (Int32.ofInt 0)), (3, .int (Int32.ofInt 4))] ⟨rfl, rfl, rfl, rfl, trivial⟩ (ih.2.2.2.2.2.2.2.2.2.2.2.2.2.2.2.2.2.2.2.2.2.2.2.2.2.2.2.2.2.2.2.2.2.2.2.2.2.2.2.2.2.2.2.2.2.2.2.2.2.2.1 (Int32.ofInt 0) _ ci_0 (by omega) ex0 ex1 ex2 ex3 ex4 (Or.inr ⟨by omega, fun h => by unfold g_nm5 at h; omega⟩) (by omega))
            · refine h_iconst (pc' := 95) (x := (Int32.ofInt 1)) rfl rfl rfl ?_
              refine h_goto (pc' := 99) rfl rfl ?_
              refine h_istore_n (pc' := 100) (M := [(2, .int (Int32.ofInt 1)), (0, .ref 98), (1, .int (Int32.ofInt 5)), (3, .int (Int32.ofInt 3))]) rfl rfl rfl rfl ?_
              refine h_iinc (pc' := 103) (b := 4) (M := fun z18 => [(3, .int z18), (2, .int (Int32.ofInt 1)), (0, .ref 98), (1, .int (Int32.ofInt 5))]) rfl rfl rfl rfl ci_3 ci_1 rfl (by omega) (by omega) (fun _ => rfl) (fun z18 hz18 => ?_)
              refine h_goto (pc' := 51) rfl rfl ?_
              have qz18 : z18 = (Int32.ofInt 4) := h_lit hz18 ci_4
              subst qz18
              exact h_wk [(0, .ref 98), (1, .int (Int32.ofInt 5)), (2, .int (Int32.ofInt 1)), (3, .int (Int32.ofInt 4))] ⟨rfl, rfl, rfl, rfl, trivial⟩ (ih.2.2.2.2.2.2.2.2.2.2.2.2.2.2.2.2.2.2.2.2.2.2.2.2.2.2.2.2.2.2.2.2.2.2.2.2.2.2.2.2.2.2.2.2.2.2.2.2.2.2.1 (Int32.ofInt 1) _ ci_1 (by omega) ex0 ex1 ex2 ex3 ex4 (Or.inl ⟨by omega, by omega, by omega, by omega, by omega, by omega⟩) (by omega))
          · refine h_aload_n (pc' := 9) rfl rfl rfl ?_
            refine h_getR (pc' := 12) rfl rfl rfl rfl rfl ?_
            refine h_iload_n (pc' := 13) rfl rfl rfl ?_
            refine h_iald (pc' := 14) (v := σ 102 ((σ 98 16) + 3)) rfl rfl rfl hz10 (by omega) (by omega) rfl (fun z19 hz19 => ?_)
            have tz19 := ty_102 hI ((σ 98 16) + 3)
            refine h_goto (pc' := 19) rfl rfl ?_
            refine h_iret rfl rfl (h_Kv ?_)
            refine h_aload_n (pc' := 79) rfl rfl rfl ?_
            refine h_getR (pc' := 82) rfl rfl rfl rfl rfl ?_
            refine h_aload_n (pc' := 83) rfl rfl rfl ?_
            refine h_getR (pc' := 86) rfl rfl rfl rfl rfl ?_
            refine h_iload_n (pc' := 87) rfl rfl rfl ?_
            refine h_iald (pc' := 88) (v := 32) rfl rfl rfl ci_5 (by omega) (by omega) (tx_103_5 hI) (fun z20 hz20 => ?_)
            refine h_iload_n (pc' := 89) rfl rfl rfl ?_
            refine h_iadd (pc' := 90) rfl rfl hz20 ci_3 rfl (by omega) (by omega) (fun z21 hz21 => ?_)
            refine h_iald (pc' := 91) (v := σ 104 (32 + 3)) rfl rfl rfl hz21 (by omega) (by omega) rfl (fun z22 hz22 => ?_)
            have tz22 := ty_104 hI (32 + 3)
            refine h_cne (tg := 98) (pc' := 94) rfl rfl rfl hz19 hz22 (fun c23 => ?_) (fun c23 => ?_)
            · refine h_iconst (pc' := 99) (x := (Int32.ofInt 0)) rfl rfl rfl ?_
              refine h_istore_n (pc' := 100) (M := [(2, .int (Int32.ofInt 0)), (0, .ref 98), (1, .int (Int32.ofInt 5)), (3, .int (Int32.ofInt 3))]) rfl rfl rfl rfl ?_
              refine h_iinc (pc' := 103) (b := 4) (M := fun z24 => [(3, .int z24), (2, .int (Int32.ofInt 0)), (0, .ref 98), (1, .int (Int32.ofInt 5))]) rfl rfl rfl rfl ci_3 ci_1 rfl (by omega) (by omega) (fun _ => rfl) (fun z24 hz24 => ?_)
              refine h_goto (pc' := 51) rfl rfl ?_
              have qz24 : z24 = (Int32.ofInt 4) := h_lit hz24 ci_4
              subst qz24
              exact h_wk [(0, .ref 98), (1, .int (Int32.ofInt 5)), (2, .int (Int32.ofInt 0)), (3, .int (Int32.ofInt 4))] ⟨rfl, rfl, rfl, rfl, trivial⟩ (ih.2.2.2.2.2.2.2.2.2.2.2.2.2.2.2.2.2.2.2.2.2.2.2.2.2.2.2.2.2.2.2.2.2.2.2.2.2.2.2.2.2.2.2.2.2.2.2.2.2.2.1 (Int32.ofInt 0) _ ci_0 (by omega) ex0 ex1 ex2 ex3 ex4 (Or.inr ⟨by omega, fun h => by unfold g_nm5 at h; omega⟩) (by omega))
            · refine h_iconst (pc' := 95) (x := (Int32.ofInt 1)) rfl rfl rfl ?_
              refine h_goto (pc' := 99) rfl rfl ?_
              refine h_istore_n (pc' := 100) (M := [(2, .int (Int32.ofInt 1)), (0, .ref 98), (1, .int (Int32.ofInt 5)), (3, .int (Int32.ofInt 3))]) rfl rfl rfl rfl ?_
              refine h_iinc (pc' := 103) (b := 4) (M := fun z25 => [(3, .int z25), (2, .int (Int32.ofInt 1)), (0, .ref 98), (1, .int (Int32.ofInt 5))]) rfl rfl rfl rfl ci_3 ci_1 rfl (by omega) (by omega) (fun _ => rfl) (fun z25 hz25 => ?_)
              refine h_goto (pc' := 51) rfl rfl ?_
              have qz25 : z25 = (Int32.ofInt 4) := h_lit hz25 ci_4
              subst qz25
              exact h_wk [(0, .ref 98), (1, .int (Int32.ofInt 5)), (2, .int (Int32.ofInt 1)), (3, .int (Int32.ofInt 4))] ⟨rfl, rfl, rfl, rfl, trivial⟩ (ih.2.2.2.2.2.2.2.2.2.2.2.2.2.2.2.2.2.2.2.2.2.2.2.2.2.2.2.2.2.2.2.2.2.2.2.2.2.2.2.2.2.2.2.2.2.2.2.2.2.2.1 (Int32.ofInt 1) _ ci_1 (by omega) ex0 ex1 ex2 ex3 ex4 (Or.inl ⟨by omega, by omega, by omega, by omega, by omega, by omega⟩) (by omega))
    · intro  y2 b2 hy2 ry2 ex0 ex1 ex2 ex3 ex4 ex5 hm; have gh0 := tf_98_11 hI; have gh1 := tf_98_15 hI; have gh2 := tf_98_16 hI
      refine h_iload_n (pc' := 52) rfl rfl rfl ?_
      refine h_zeq (tg := 106) (pc' := 55) rfl rfl rfl hy2 (fun c1 => ?_) (fun c1 => ?_)
      · refine h_iload_n (pc' := 107) rfl rfl rfl ?_
        refine h_zeq (tg := 112) (pc' := 110) rfl rfl rfl hy2 (fun c2 => ?_) (fun c2 => absurd c2 (by omega))
        refine h_iinc (pc' := 115) (b := 6) (M := fun z3 => [(1, .int z3), (0, .ref 98), (2, .int y2), (3, .int (Int32.ofInt 4))]) rfl rfl rfl rfl ci_5 ci_1 rfl (by omega) (by omega) (fun _ => rfl) (fun z3 hz3 => ?_)
        refine h_goto (pc' := 2) rfl rfl ?_
        have qz3 : z3 = (Int32.ofInt 6) := h_lit hz3 ci_6
        subst qz3
        exact h_wk [(0, .ref 98), (1, .int (Int32.ofInt 6)), (2, .int y2), (3, .int (Int32.ofInt 4))] ⟨rfl, rfl, rfl, rfl, trivial⟩ (ih.2.2.2.2.2.2.1 y2 _ hy2 (by omega) (Int32.ofInt 4) _ ci_4 (by omega) ex0 ex1 ex2 ex3 ex4 (ex5.elim (fun h => absurd h.1 (by omega)) (fun h => h.2)) (by omega))
      · refine h_iload_n (pc' := 56) rfl rfl rfl ?_
        refine h_aload_n (pc' := 57) rfl rfl rfl ?_
        refine h_getI (pc' := 60) (v := σ 98 15) rfl rfl rfl rfl rfl rfl (fun z4 hz4 => ?_)
        have tz4 := tf_98_15 hI
        refine h_aload_n (pc' := 61) rfl rfl rfl ?_
        refine h_getI (pc' := 64) (v := σ 98 16) rfl rfl rfl rfl rfl rfl (fun z5 hz5 => ?_)
        have tz5 := tf_98_16 hI
        refine h_isub (pc' := 65) rfl rfl hz4 hz5 rfl (by omega) (by omega) (fun z6 hz6 => ?_)
        refine h_cge (tg := 106) (pc' := 68) rfl rfl rfl ci_4 hz6 (fun c7 => ?_) (fun c7 => ?_)
        · refine h_iload_n (pc' := 107) rfl rfl rfl ?_
          refine h_zeq (tg := 112) (pc' := 110) rfl rfl rfl hy2 (fun c8 => absurd c8 (by omega)) (fun c8 => ?_)
          refine h_iload_n (pc' := 111) rfl rfl rfl ?_
          exact h_iret rfl rfl (kk _ _ ci_5 (by omega) (fun _ => (Or.inr (Or.inr (Or.inr (Or.inr (Or.inr (Or.inr (Or.inl ⟨rfl, ex0, ex1, ex2, ex3, ex4, ⟨by omega, by omega, by omega, by omega, by omega⟩⟩)))))))) (Or.inl (by omega)))
        · exfalso; omega
    · intro  y2 b2 hy2 ry2 ex0 ex1 ex2 ex3 ex4 ex5 ex6 hm; have gh0 := tf_98_11 hI; have gh1 := tf_98_15 hI; have gh2 := tf_98_16 hI
      refine h_iload_n (pc' := 52) rfl rfl rfl ?_
      refine h_zeq (tg := 106) (pc' := 55) rfl rfl rfl hy2 (fun c1 => ?_) (fun c1 => ?_)
      · refine h_iload_n (pc' := 107) rfl rfl rfl ?_
        refine h_zeq (tg := 112) (pc' := 110) rfl rfl rfl hy2 (fun c2 => ?_) (fun c2 => absurd c2 (by omega))
        refine h_iinc (pc' := 115) (b := 7) (M := fun z3 => [(1, .int z3), (0, .ref 98), (2, .int y2), (3, .int (Int32.ofInt 0))]) rfl rfl rfl rfl ci_6 ci_1 rfl (by omega) (by omega) (fun _ => rfl) (fun z3 hz3 => ?_)
        refine h_goto (pc' := 2) rfl rfl ?_
        have qz3 : z3 = (Int32.ofInt 7) := h_lit hz3 ci_7
        subst qz3
        exact h_wk [(0, .ref 98), (1, .int (Int32.ofInt 7)), (2, .int y2), (3, .int (Int32.ofInt 0))] ⟨rfl, rfl, rfl, rfl, trivial⟩ (ih.2.2.2.2.2.2.2.1 y2 _ hy2 (by omega) (Int32.ofInt 0) _ ci_0 (by omega) ex0 ex1 ex2 ex3 ex4 ex5 (ex6.elim (fun h => absurd h.1 (by omega)) (fun h => h.2)) (by omega))
      · refine h_iload_n (pc' := 56) rfl rfl rfl ?_
        refine h_aload_n (pc' := 57) rfl rfl rfl ?_
        refine h_getI (pc' := 60) (v := σ 98 15) rfl rfl rfl rfl rfl rfl (fun z4 hz4 => ?_)
        have tz4 := tf_98_15 hI
        refine h_aload_n (pc' := 61) rfl rfl rfl ?_
        refine h_getI (pc' := 64) (v := σ 98 16) rfl rfl rfl rfl rfl rfl (fun z5 hz5 => ?_)
        have tz5 := tf_98_16 hI
        refine h_isub (pc' := 65) rfl rfl hz4 hz5 rfl (by omega) (by omega) (fun z6 hz6 => ?_)
        refine h_cge (tg := 106) (pc' := 68) rfl rfl rfl ci_0 hz6 (fun c7 => ?_) (fun c7 => ?_)
        · refine h_iload_n (pc' := 107) rfl rfl rfl ?_
          refine h_zeq (tg := 112) (pc' := 110) rfl rfl rfl hy2 (fun c8 => absurd c8 (by omega)) (fun c8 => ?_)
          refine h_iload_n (pc' := 111) rfl rfl rfl ?_
          exact h_iret rfl rfl (kk _ _ ci_6 (by omega) (fun _ => (Or.inr (Or.inr (Or.inr (Or.inr (Or.inr (Or.inr (Or.inr (Or.inl ⟨rfl, ex0, ex1, ex2, ex3, ex4, ex5, ⟨by omega, by omega, by omega, by omega, by omega⟩⟩))))))))) (Or.inl (by omega)))
        · refine h_aload_n (pc' := 69) rfl rfl rfl ?_
          refine h_aload_n (pc' := 70) rfl rfl rfl ?_
          refine h_getI (pc' := 73) (v := σ 98 16) rfl rfl rfl rfl rfl rfl (fun z9 hz9 => ?_)
          have tz9 := tf_98_16 hI
          refine h_iload_n (pc' := 74) rfl rfl rfl ?_
          refine h_iadd (pc' := 75) rfl rfl hz9 ci_0 rfl (by omega) (by omega) (fun z10 hz10 => ?_)
          refine h_call (sp := false) (pc' := 78) (M := [(0, .ref 98), (1, .int z10)]) rfl rfl rfl rfl rfl rfl rfl rfl ?_
          refine h_iload_n (pc' := 1) rfl rfl rfl ?_
          refine h_aload_n (pc' := 2) rfl rfl rfl ?_
          refine h_getI (pc' := 5) (v := σ 98 11) rfl rfl rfl rfl rfl rfl (fun z11 hz11 => ?_)
          have tz11 := tf_98_11 hI
          refine h_cge (tg := 17) (pc' := 8) rfl rfl rfl hz10 hz11 (fun c12 => ?_) (fun c12 => ?_)
          · refine h_bipush (pc' := 19) (x := (Int32.ofInt (-4))) rfl rfl cb_m4 ?_
            refine h_iret rfl rfl (h_Kv ?_)
            refine h_aload_n (pc' := 79) rfl rfl rfl ?_
            refine h_getR (pc' := 82) rfl rfl rfl rfl rfl ?_
            refine h_aload_n (pc' := 83) rfl rfl rfl ?_
            refine h_getR (pc' := 86) rfl rfl rfl rfl rfl ?_
            refine h_iload_n (pc' := 87) rfl rfl rfl ?_
            refine h_iald (pc' := 88) (v := 36) rfl rfl rfl ci_6 (by omega) (by omega) (tx_103_6 hI) (fun z13 hz13 => ?_)
            refine h_iload_n (pc' := 89) rfl rfl rfl ?_
            refine h_iadd (pc' := 90) rfl rfl hz13 ci_0 rfl (by omega) (by omega) (fun z14 hz14 => ?_)
            refine h_iald (pc' := 91) (v := σ 104 (36 + 0)) rfl rfl rfl hz14 (by omega) (by omega) rfl (fun z15 hz15 => ?_)
            have tz15 := ty_104 hI (36 + 0)
            refine h_cne (tg := 98) (pc' := 94) rfl rfl rfl ci_m4 hz15 (fun c16 => ?_) (fun c16 => ?_)
            · refine h_iconst (pc' := 99) (x := (Int32.ofInt 0)) rfl rfl rfl ?_
              refine h_istore_n (pc' := 100) (M := [(2, .int (Int32.ofInt 0)), (0, .ref 98), (1, .int (Int32.ofInt 6)), (3, .int (Int32.ofInt 0))]) rfl rfl rfl rfl ?_
              refine h_iinc (pc' := 103) (b := 1) (M := fun z17 => [(3, .int z17), (2, .int (Int32.ofInt 0)), (0, .ref 98), (1, .int (Int32.ofInt 6))]) rfl rfl rfl rfl ci_0 ci_1 rfl (by omega) (by omega) (fun _ => rfl) (fun z17 hz17 => ?_)
              refine h_goto (pc' := 51) rfl rfl ?_
              have qz17 : z17 = (Int32.ofInt 1) := h_lit hz17 ci_1
              subst qz17
              exact h_wk [(0, .ref 98), (1, .int (Int32.ofInt 6)), (2, .int (Int32.ofInt 0)), (3, .int (Int32.ofInt 1))] ⟨rfl, rfl, rfl, rfl, trivial⟩ (ih.2.2.2.2.2.2.2.2.2.2.2.2.2.2.2.2.2.2.2.2.2.2.2.2.2.2.2.2.2.2.2.2.2.2.2.2.2.2.2.2.2.2.2.2.2.2.2.2.2.2.2.2.1 (Int32.ofInt 0) _ ci_0 (by omega) ex0 ex1 ex2 ex3 ex4 ex5 (Or.inr ⟨by omega, fun h => by unfold g_nm6 at h; omega⟩) (by omega))
            · refine h_iconst (pc' := 95) (x := (Int32.ofInt 1)) rfl rfl rfl ?_
              refine h_goto (pc' := 99) rfl rfl ?_
              refine h_istore_n (pc' := 100) (M := [(2, .int (Int32.ofInt 1)), (0, .ref 98), (1, .int (Int32.ofInt 6)), (3, .int (Int32.ofInt 0))]) rfl rfl rfl rfl ?_
              refine h_iinc (pc' := 103) (b := 1) (M := fun z18 => [(3, .int z18), (2, .int (Int32.ofInt 1)), (0, .ref 98), (1, .int (Int32.ofInt 6))]) rfl rfl rfl rfl ci_0 ci_1 rfl (by omega) (by omega) (fun _ => rfl) (fun z18 hz18 => ?_)
              refine h_goto (pc' := 51) rfl rfl ?_
              have qz18 : z18 = (Int32.ofInt 1) := h_lit hz18 ci_1
              subst qz18
              exact h_wk [(0, .ref 98), (1, .int (Int32.ofInt 6)), (2, .int (Int32.ofInt 1)), (3, .int (Int32.ofInt 1))] ⟨rfl, rfl, rfl, rfl, trivial⟩ (ih.2.2.2.2.2.2.2.2.2.2.2.2.2.2.2.2.2.2.2.2.2.2.2.2.2.2.2.2.2.2.2.2.2.2.2.2.2.2.2.2.2.2.2.2.2.2.2.2.2.2.2.2.1 (Int32.ofInt 1) _ ci_1 (by omega) ex0 ex1 ex2 ex3 ex4 ex5 (Or.inl ⟨by omega, by omega, by omega⟩) (by omega))
          · refine h_aload_n (pc' := 9) rfl rfl rfl ?_
            refine h_getR (pc' := 12) rfl rfl rfl rfl rfl ?_
            refine h_iload_n (pc' := 13) rfl rfl rfl ?_
            refine h_iald (pc' := 14) (v := σ 102 ((σ 98 16) + 0)) rfl rfl rfl hz10 (by omega) (by omega) rfl (fun z19 hz19 => ?_)
            have tz19 := ty_102 hI ((σ 98 16) + 0)
            refine h_goto (pc' := 19) rfl rfl ?_
            refine h_iret rfl rfl (h_Kv ?_)
            refine h_aload_n (pc' := 79) rfl rfl rfl ?_
            refine h_getR (pc' := 82) rfl rfl rfl rfl rfl ?_
            refine h_aload_n (pc' := 83) rfl rfl rfl ?_
            refine h_getR (pc' := 86) rfl rfl rfl rfl rfl ?_
            refine h_iload_n (pc' := 87) rfl rfl rfl ?_
            refine h_iald (pc' := 88) (v := 36) rfl rfl rfl ci_6 (by omega) (by omega) (tx_103_6 hI) (fun z20 hz20 => ?_)
            refine h_iload_n (pc' := 89) rfl rfl rfl ?_
            refine h_iadd (pc' := 90) rfl rfl hz20 ci_0 rfl (by omega) (by omega) (fun z21 hz21 => ?_)
            refine h_iald (pc' := 91) (v := σ 104 (36 + 0)) rfl rfl rfl hz21 (by omega) (by omega) rfl (fun z22 hz22 => ?_)
            have tz22 := ty_104 hI (36 + 0)
            refine h_cne (tg := 98) (pc' := 94) rfl rfl rfl hz19 hz22 (fun c23 => ?_) (fun c23 => ?_)
            · refine h_iconst (pc' := 99) (x := (Int32.ofInt 0)) rfl rfl rfl ?_
              refine h_istore_n (pc' := 100) (M := [(2, .int (Int32.ofInt 0)), (0, .ref 98), (1, .int (Int32.ofInt 6)), (3, .int (Int32.ofInt 0))]) rfl rfl rfl rfl ?_
              refine h_iinc (pc' := 103) (b := 1) (M := fun z24 => [(3, .int z24), (2, .int (Int32.ofInt 0)), (0, .ref 98), (1, .int (Int32.ofInt 6))]) rfl rfl rfl rfl ci_0 ci_1 rfl (by omega) (by omega) (fun _ => rfl) (fun z24 hz24 => ?_)
              refine h_goto (pc' := 51) rfl rfl ?_
              have qz24 : z24 = (Int32.ofInt 1) := h_lit hz24 ci_1
              subst qz24
              exact h_wk [(0, .ref 98), (1, .int (Int32.ofInt 6)), (2, .int (Int32.ofInt 0)), (3, .int (Int32.ofInt 1))] ⟨rfl, rfl, rfl, rfl, trivial⟩ (ih.2.2.2.2.2.2.2.2.2.2.2.2.2.2.2.2.2.2.2.2.2.2.2.2.2.2.2.2.2.2.2.2.2.2.2.2.2.2.2.2.2.2.2.2.2.2.2.2.2.2.2.2.1 (Int32.ofInt 0) _ ci_0 (by omega) ex0 ex1 ex2 ex3 ex4 ex5 (Or.inr ⟨by omega, fun h => by unfold g_nm6 at h; omega⟩) (by omega))
            · refine h_iconst (pc' := 95) (x := (Int32.ofInt 1)) rfl rfl rfl ?_
              refine h_goto (pc' := 99) rfl rfl ?_
              refine h_istore_n (pc' := 100) (M := [(2, .int (Int32.ofInt 1)), (0, .ref 98), (1, .int (Int32.ofInt 6)), (3, .int (Int32.ofInt 0))]) rfl rfl rfl rfl ?_
              refine h_iinc (pc' := 103) (b := 1) (M := fun z25 => [(3, .int z25), (2, .int (Int32.ofInt 1)), (0, .ref 98), (1, .int (Int32.ofInt 6))]) rfl rfl rfl rfl ci_0 ci_1 rfl (by omega) (by omega) (fun _ => rfl) (fun z25 hz25 => ?_)
              refine h_goto (pc' := 51) rfl rfl ?_
              have qz25 : z25 = (Int32.ofInt 1) := h_lit hz25 ci_1
              subst qz25
              exact h_wk [(0, .ref 98), (1, .int (Int32.ofInt 6)), (2, .int (Int32.ofInt 1)), (3, .int (Int32.ofInt 1))] ⟨rfl, rfl, rfl, rfl, trivial⟩ (ih.2.2.2.2.2.2.2.2.2.2.2.2.2.2.2.2.2.2.2.2.2.2.2.2.2.2.2.2.2.2.2.2.2.2.2.2.2.2.2.2.2.2.2.2.2.2.2.2.2.2.2.2.1 (Int32.ofInt 1) _ ci_1 (by omega) ex0 ex1 ex2 ex3 ex4 ex5 (Or.inl ⟨by omega, by omega, by omega⟩) (by omega))
    · intro  y2 b2 hy2 ry2 ex0 ex1 ex2 ex3 ex4 ex5 ex6 hm; have gh0 := tf_98_11 hI; have gh1 := tf_98_15 hI; have gh2 := tf_98_16 hI
      refine h_iload_n (pc' := 52) rfl rfl rfl ?_
      refine h_zeq (tg := 106) (pc' := 55) rfl rfl rfl hy2 (fun c1 => ?_) (fun c1 => ?_)
      · refine h_iload_n (pc' := 107) rfl rfl rfl ?_
        refine h_zeq (tg := 112) (pc' := 110) rfl rfl rfl hy2 (fun c2 => ?_) (fun c2 => absurd c2 (by omega))
        refine h_iinc (pc' := 115) (b := 7) (M := fun z3 => [(1, .int z3), (0, .ref 98), (2, .int y2), (3, .int (Int32.ofInt 1))]) rfl rfl rfl rfl ci_6 ci_1 rfl (by omega) (by omega) (fun _ => rfl) (fun z3 hz3 => ?_)
        refine h_goto (pc' := 2) rfl rfl ?_
        have qz3 : z3 = (Int32.ofInt 7) := h_lit hz3 ci_7
        subst qz3
        exact h_wk [(0, .ref 98), (1, .int (Int32.ofInt 7)), (2, .int y2), (3, .int (Int32.ofInt 1))] ⟨rfl, rfl, rfl, rfl, trivial⟩ (ih.2.2.2.2.2.2.2.1 y2 _ hy2 (by omega) (Int32.ofInt 1) _ ci_1 (by omega) ex0 ex1 ex2 ex3 ex4 ex5 (ex6.elim (fun h => absurd h.1 (by omega)) (fun h => h.2)) (by omega))
      · refine h_iload_n (pc' := 56) rfl rfl rfl ?_
        refine h_aload_n (pc' := 57) rfl rfl rfl ?_
        refine h_getI (pc' := 60) (v := σ 98 15) rfl rfl rfl rfl rfl rfl (fun z4 hz4 => ?_)
        have tz4 := tf_98_15 hI
        refine h_aload_n (pc' := 61) rfl rfl rfl ?_
        refine h_getI (pc' := 64) (v := σ 98 16) rfl rfl rfl rfl rfl rfl (fun z5 hz5 => ?_)
        have tz5 := tf_98_16 hI
        refine h_isub (pc' := 65) rfl rfl hz4 hz5 rfl (by omega) (by omega) (fun z6 hz6 => ?_)
        refine h_cge (tg := 106) (pc' := 68) rfl rfl rfl ci_1 hz6 (fun c7 => ?_) (fun c7 => ?_)
        · refine h_iload_n (pc' := 107) rfl rfl rfl ?_
          refine h_zeq (tg := 112) (pc' := 110) rfl rfl rfl hy2 (fun c8 => absurd c8 (by omega)) (fun c8 => ?_)
          refine h_iload_n (pc' := 111) rfl rfl rfl ?_
          exact h_iret rfl rfl (kk _ _ ci_6 (by omega) (fun _ => (Or.inr (Or.inr (Or.inr (Or.inr (Or.inr (Or.inr (Or.inr (Or.inl ⟨rfl, ex0, ex1, ex2, ex3, ex4, ex5, ⟨by omega, by omega, by omega, by omega, by omega⟩⟩))))))))) (Or.inl (by omega)))
        · refine h_aload_n (pc' := 69) rfl rfl rfl ?_
          refine h_aload_n (pc' := 70) rfl rfl rfl ?_
          refine h_getI (pc' := 73) (v := σ 98 16) rfl rfl rfl rfl rfl rfl (fun z9 hz9 => ?_)
          have tz9 := tf_98_16 hI
          refine h_iload_n (pc' := 74) rfl rfl rfl ?_
          refine h_iadd (pc' := 75) rfl rfl hz9 ci_1 rfl (by omega) (by omega) (fun z10 hz10 => ?_)
          refine h_call (sp := false) (pc' := 78) (M := [(0, .ref 98), (1, .int z10)]) rfl rfl rfl rfl rfl rfl rfl rfl ?_
          refine h_iload_n (pc' := 1) rfl rfl rfl ?_
          refine h_aload_n (pc' := 2) rfl rfl rfl ?_
          refine h_getI (pc' := 5) (v := σ 98 11) rfl rfl rfl rfl rfl rfl (fun z11 hz11 => ?_)
          have tz11 := tf_98_11 hI
          refine h_cge (tg := 17) (pc' := 8) rfl rfl rfl hz10 hz11 (fun c12 => ?_) (fun c12 => ?_)
          · refine h_bipush (pc' := 19) (x := (Int32.ofInt (-4))) rfl rfl cb_m4 ?_
            refine h_iret rfl rfl (h_Kv ?_)
            refine h_aload_n (pc' := 79) rfl rfl rfl ?_
            refine h_getR (pc' := 82) rfl rfl rfl rfl rfl ?_
            refine h_aload_n (pc' := 83) rfl rfl rfl ?_
            refine h_getR (pc' := 86) rfl rfl rfl rfl rfl ?_
            refine h_iload_n (pc' := 87) rfl rfl rfl ?_
            refine h_iald (pc' := 88) (v := 36) rfl rfl rfl ci_6 (by omega) (by omega) (tx_103_6 hI) (fun z13 hz13 => ?_)
            refine h_iload_n (pc' := 89) rfl rfl rfl ?_
            refine h_iadd (pc' := 90) rfl rfl hz13 ci_1 rfl (by omega) (by omega) (fun z14 hz14 => ?_)
            refine h_iald (pc' := 91) (v := σ 104 (36 + 1)) rfl rfl rfl hz14 (by omega) (by omega) rfl (fun z15 hz15 => ?_)
            have tz15 := ty_104 hI (36 + 1)
            refine h_cne (tg := 98) (pc' := 94) rfl rfl rfl ci_m4 hz15 (fun c16 => ?_) (fun c16 => ?_)
            · refine h_iconst (pc' := 99) (x := (Int32.ofInt 0)) rfl rfl rfl ?_
              refine h_istore_n (pc' := 100) (M := [(2, .int (Int32.ofInt 0)), (0, .ref 98), (1, .int (Int32.ofInt 6)), (3, .int (Int32.ofInt 1))]) rfl rfl rfl rfl ?_
              refine h_iinc (pc' := 103) (b := 2) (M := fun z17 => [(3, .int z17), (2, .int (Int32.ofInt 0)), (0, .ref 98), (1, .int (Int32.ofInt 6))]) rfl rfl rfl rfl ci_1 ci_1 rfl (by omega) (by omega) (fun _ => rfl) (fun z17 hz17 => ?_)
              refine h_goto (pc' := 51) rfl rfl ?_
              have qz17 : z17 = (Int32.ofInt 2) := h_lit hz17 ci_2
              subst qz17
              exact h_wk [(0, .ref 98), (1, .int (Int32.ofInt 6)), (2, .int (Int32.ofInt 0)), (3, .int (Int32.ofInt 2))] ⟨rfl, rfl, rfl, rfl, trivial⟩ (ih.2.2.2.2.2.2.2.2.2.2.2.2.2.2.2.2.2.2.2.2.2.2.2.2.2.2.2.2.2.2.2.2.2.2.2.2.2.2.2.2.2.2.2.2.2.2.2.2.2.2.2.2.2.1 (Int32.ofInt 0) _ ci_0 (by omega) ex0 ex1 ex2 ex3 ex4 ex5 (Or.inr ⟨by omega, fun h => by unfold g_nm6 at h; omega⟩) (by omega))
            · refine h_iconst (pc' := 95) (x := (Int32.ofInt 1)) rfl rfl rfl ?_
              refine h_goto (pc' := 99) rfl rfl ?_
              refine h_istore_n (pc' := 100) (M := [(2, .int (Int32.ofInt 1)), (0, .ref 98), (1, .int (Int32.ofInt 6)), (3, .int (Int32.ofInt 1))]) rfl rfl rfl rfl ?_
              refine h_iinc (pc' := 103) (b := 2) (M := fun z18 => [(3, .int z18), (2, .int (Int32.ofInt 1)), (0, .ref 98), (1, .int (Int32.ofInt 6))]) rfl rfl rfl rfl ci_1 ci_1 rfl (by omega) (by omega) (fun _ => rfl) (fun z18 hz18 => ?_)
              refine h_goto (pc' := 51) rfl rfl ?_
              have qz18 : z18 = (Int32.ofInt 2) := h_lit hz18 ci_2
              subst qz18
              exact h_wk [(0, .ref 98), (1, .int (Int32.ofInt 6)), (2, .int (Int32.ofInt 1)), (3, .int (Int32.ofInt 2))] ⟨rfl, rfl, rfl, rfl, trivial⟩ (ih.2.2.2.2.2.2.2.2.2.2.2.2.2.2.2.2.2.2.2.2.2.2.2.2.2.2.2.2.2.2.2.2.2.2.2.2.2.2.2.2.2.2.2.2.2.2.2.2.2.2.2.2.2.1 (Int32.ofInt 1) _ ci_1 (by omega) ex0 ex1 ex2 ex3 ex4 ex5 (Or.inl ⟨by omega, by omega, by omega, by omega⟩) (by omega))
          · refine h_aload_n (pc' := 9) rfl rfl rfl ?_
            refine h_getR (pc' := 12) rfl rfl rfl rfl rfl ?_
            refine h_iload_n (pc' := 13) rfl rfl rfl ?_
            refine h_iald (pc' := 14) (v := σ 102 ((σ 98 16) + 1)) rfl rfl rfl hz10 (by omega) (by omega) rfl (fun z19 hz19 => ?_)
            have tz19 := ty_102 hI ((σ 98 16) + 1)
            refine h_goto (pc' := 19) rfl rfl ?_
            refine h_iret rfl rfl (h_Kv ?_)
            refine h_aload_n (pc' := 79) rfl rfl rfl ?_
            refine h_getR (pc' := 82) rfl rfl rfl rfl rfl ?_
            refine h_aload_n (pc' := 83) rfl rfl rfl ?_
            refine h_getR (pc' := 86) rfl rfl rfl rfl rfl ?_
            refine h_iload_n (pc' := 87) rfl rfl rfl ?_
            refine h_iald (pc' := 88) (v := 36) rfl rfl rfl ci_6 (by omega) (by omega) (tx_103_6 hI) (fun z20 hz20 => ?_)
            refine h_iload_n (pc' := 89) rfl rfl rfl ?_
            refine h_iadd (pc' := 90) rfl rfl hz20 ci_1 rfl (by omega) (by omega) (fun z21 hz21 => ?_)
            refine h_iald (pc' := 91) (v := σ 104 (36 + 1)) rfl rfl rfl hz21 (by omega) (by omega) rfl (fun z22 hz22 => ?_)
            have tz22 := ty_104 hI (36 + 1)
            refine h_cne (tg := 98) (pc' := 94) rfl rfl rfl hz19 hz22 (fun c23 => ?_) (fun c23 => ?_)
            · refine h_iconst (pc' := 99) (x := (Int32.ofInt 0)) rfl rfl rfl ?_
              refine h_istore_n (pc' := 100) (M := [(2, .int (Int32.ofInt 0)), (0, .ref 98), (1, .int (Int32.ofInt 6)), (3, .int (Int32.ofInt 1))]) rfl rfl rfl rfl ?_
              refine h_iinc (pc' := 103) (b := 2) (M := fun z24 => [(3, .int z24), (2, .int (Int32.ofInt 0)), (0, .ref 98), (1, .int (Int32.ofInt 6))]) rfl rfl rfl rfl ci_1 ci_1 rfl (by omega) (by omega) (fun _ => rfl) (fun z24 hz24 => ?_)
              refine h_goto (pc' := 51) rfl rfl ?_
              have qz24 : z24 = (Int32.ofInt 2) := h_lit hz24 ci_2
              subst qz24
              exact h_wk [(0, .ref 98), (1, .int (Int32.ofInt 6)), (2, .int (Int32.ofInt 0)), (3, .int (Int32.ofInt 2))] ⟨rfl, rfl, rfl, rfl, trivial⟩ (ih.2.2.2.2.2.2.2.2.2.2.2.2.2.2.2.2.2.2.2.2.2.2.2.2.2.2.2.2.2.2.2.2.2.2.2.2.2.2.2.2.2.2.2.2.2.2.2.2.2.2.2.2.2.1 (Int32.ofInt 0) _ ci_0 (by omega) ex0 ex1 ex2 ex3 ex4 ex5 (Or.inr ⟨by omega, fun h => by unfold g_nm6 at h; omega⟩) (by omega))
            · refine h_iconst (pc' := 95) (x := (Int32.ofInt 1)) rfl rfl rfl ?_
              refine h_goto (pc' := 99) rfl rfl ?_
              refine h_istore_n (pc' := 100) (M := [(2, .int (Int32.ofInt 1)), (0, .ref 98), (1, .int (Int32.ofInt 6)), (3, .int (Int32.ofInt 1))]) rfl rfl rfl rfl ?_
              refine h_iinc (pc' := 103) (b := 2) (M := fun z25 => [(3, .int z25), (2, .int (Int32.ofInt 1)), (0, .ref 98), (1, .int (Int32.ofInt 6))]) rfl rfl rfl rfl ci_1 ci_1 rfl (by omega) (by omega) (fun _ => rfl) (fun z25 hz25 => ?_)
              refine h_goto (pc' := 51) rfl rfl ?_
              have qz25 : z25 = (Int32.ofInt 2) := h_lit hz25 ci_2
              subst qz25
              exact h_wk [(0, .ref 98), (1, .int (Int32.ofInt 6)), (2, .int (Int32.ofInt 1)), (3, .int (Int32.ofInt 2))] ⟨rfl, rfl, rfl, rfl, trivial⟩ (ih.2.2.2.2.2.2.2.2.2.2.2.2.2.2.2.2.2.2.2.2.2.2.2.2.2.2.2.2.2.2.2.2.2.2.2.2.2.2.2.2.2.2.2.2.2.2.2.2.2.2.2.2.2.1 (Int32.ofInt 1) _ ci_1 (by omega) ex0 ex1 ex2 ex3 ex4 ex5 (Or.inl ⟨by omega, by omega, by omega, by omega⟩) (by omega))
    · intro  y2 b2 hy2 ry2 ex0 ex1 ex2 ex3 ex4 ex5 ex6 hm; have gh0 := tf_98_11 hI; have gh1 := tf_98_15 hI; have gh2 := tf_98_16 hI
      refine h_iload_n (pc' := 52) rfl rfl rfl ?_
      refine h_zeq (tg := 106) (pc' := 55) rfl rfl rfl hy2 (fun c1 => ?_) (fun c1 => ?_)
      · refine h_iload_n (pc' := 107) rfl rfl rfl ?_
        refine h_zeq (tg := 112) (pc' := 110) rfl rfl rfl hy2 (fun c2 => ?_) (fun c2 => absurd c2 (by omega))
        refine h_iinc (pc' := 115) (b := 7) (M := fun z3 => [(1, .int z3), (0, .ref 98), (2, .int y2), (3, .int (Int32.ofInt 2))]) rfl rfl rfl rfl ci_6 ci_1 rfl (by omega) (by omega) (fun _ => rfl) (fun z3 hz3 => ?_)
        refine h_goto (pc' := 2) rfl rfl ?_
        have qz3 : z3 = (Int32.ofInt 7) := h_lit hz3 ci_7
        subst qz3
        exact h_wk [(0, .ref 98), (1, .int (Int32.ofInt 7)), (2, .int y2), (3, .int (Int32.ofInt 2))] ⟨rfl, rfl, rfl, rfl, trivial⟩ (ih.2.2.2.2.2.2.2.1 y2 _ hy2 (by omega) (Int32.ofInt 2) _ ci_2 (by omega) ex0 ex1 ex2 ex3 ex4 ex5 (ex6.elim (fun h => absurd h.1 (by omega)) (fun h => h.2)) (by omega))
      · refine h_iload_n (pc' := 56) rfl rfl rfl ?_
        refine h_aload_n (pc' := 57) rfl rfl rfl ?_
        refine h_getI (pc' := 60) (v := σ 98 15) rfl rfl rfl rfl rfl rfl (fun z4 hz4 => ?_)
        have tz4 := tf_98_15 hI
        refine h_aload_n (pc' := 61) rfl rfl rfl ?_
        refine h_getI (pc' := 64) (v := σ 98 16) rfl rfl rfl rfl rfl rfl (fun z5 hz5 => ?_)
        have tz5 := tf_98_16 hI
        refine h_isub (pc' := 65) rfl rfl hz4 hz5 rfl (by omega) (by omega) (fun z6 hz6 => ?_)
        refine h_cge (tg := 106) (pc' := 68) rfl rfl rfl ci_2 hz6 (fun c7 => ?_) (fun c7 => ?_)
        · refine h_iload_n (pc' := 107) rfl rfl rfl ?_
          refine h_zeq (tg := 112) (pc' := 110) rfl rfl rfl hy2 (fun c8 => absurd c8 (by omega)) (fun c8 => ?_)
          refine h_iload_n (pc' := 111) rfl rfl rfl ?_
          exact h_iret rfl rfl (kk _ _ ci_6 (by omega) (fun _ => (Or.inr (Or.inr (Or.inr (Or.inr (Or.inr (Or.inr (Or.inr (Or.inl ⟨rfl, ex0, ex1, ex2, ex3, ex4, ex5, ⟨by omega, by omega, by omega, by omega, by omega⟩⟩))))))))) (Or.inl (by omega)))
        · refine h_aload_n (pc' := 69) rfl rfl rfl ?_
          refine h_aload_n (pc' := 70) rfl rfl rfl ?_
          refine h_getI (pc' := 73) (v := σ 98 16) rfl rfl rfl rfl rfl rfl (fun z9 hz9 => ?_)
          have tz9 := tf_98_16 hI
          refine h_iload_n (pc' := 74) rfl rfl rfl ?_
          refine h_iadd (pc' := 75) rfl rfl hz9 ci_2 rfl (by omega) (by omega) (fun z10 hz10 => ?_)
          refine h_call (sp := false) (pc' := 78) (M := [(0, .ref 98), (1, .int z10)]) rfl rfl rfl rfl rfl rfl rfl rfl ?_
          refine h_iload_n (pc' := 1) rfl rfl rfl ?_
          refine h_aload_n (pc' := 2) rfl rfl rfl ?_
          refine h_getI (pc' := 5) (v := σ 98 11) rfl rfl rfl rfl rfl rfl (fun z11 hz11 => ?_)
          have tz11 := tf_98_11 hI
          refine h_cge (tg := 17) (pc' := 8) rfl rfl rfl hz10 hz11 (fun c12 => ?_) (fun c12 => ?_)
          · refine h_bipush (pc' := 19) (x := (Int32.ofInt (-4))) rfl rfl cb_m4 ?_
            refine h_iret rfl rfl (h_Kv ?_)
            refine h_aload_n (pc' := 79) rfl rfl rfl ?_
            refine h_getR (pc' := 82) rfl rfl rfl rfl rfl ?_
            refine h_aload_n (pc' := 83) rfl rfl rfl ?_
            refine h_getR (pc' := 86) rfl rfl rfl rfl rfl ?_
            refine h_iload_n (pc' := 87) rfl rfl rfl ?_
            refine h_iald (pc' := 88) (v := 36) rfl rfl rfl ci_6 (by omega) (by omega) (tx_103_6 hI) (fun z13 hz13 => ?_)
            refine h_iload_n (pc' := 89) rfl rfl rfl ?_
            refine h_iadd (pc' := 90) rfl rfl hz13 ci_2 rfl (by omega) (by omega) (fun z14 hz14 => ?_)
            refine h_iald (pc' := 91) (v := σ 104 (36 + 2)) rfl rfl rfl hz14 (by omega) (by omega) rfl (fun z15 hz15 => ?_)
            have tz15 := ty_104 hI (36 + 2)
            refine h_cne (tg := 98) (pc' := 94) rfl rfl rfl ci_m4 hz15 (fun c16 => ?_) (fun c16 => ?_)
            · refine h_iconst (pc' := 99) (x := (Int32.ofInt 0)) rfl rfl rfl ?_
              refine h_istore_n (pc' := 100) (M := [(2, .int (Int32.ofInt 0)), (0, .ref 98), (1, .int (Int32.ofInt 6)), (3, .int (Int32.ofInt 2))]) rfl rfl rfl rfl ?_
              refine h_iinc (pc' := 103) (b := 3) (M := fun z17 => [(3, .int z17), (2, .int (Int32.ofInt 0)), (0, .ref 98), (1, .int (Int32.ofInt 6))]) rfl rfl rfl rfl ci_2 ci_1 rfl (by omega) (by omega) (fun _ => rfl) (fun z17 hz17 => ?_)
              refine h_goto (pc' := 51) rfl rfl ?_
              have qz17 : z17 = (Int32.ofInt 3) := h_lit hz17 ci_3
              subst qz17
              exact h_wk [(0, .ref 98), (1, .int (Int32.ofInt 6)), (2, .int (Int32.ofInt 0)), (3, .int (Int32.ofInt 3))] ⟨rfl, rfl, rfl, rfl, trivial⟩ (ih.2.2.2.2.2.2.2.2.2.2.2.2.2.2.2.2.2.2.2.2.2.2.2.2.2.2.2.2.2.2.2.2.2.2.2.2.2.2.2.2.2.2.2.2.2.2.2.2.2.2.2.2.2.2.1 (Int32.ofInt 0) _ ci_0 (by omega) ex0 ex1 ex2 ex3 ex4 ex5 (Or.inr ⟨by omega, fun h => by unfold g_nm6 at h; omega⟩) (by omega))
            · refine h_iconst (pc' := 95) (x := (Int32.ofInt 1)) rfl rfl rfl ?_
              refine h_goto (pc' := 99) rfl rfl ?_
              refine h_istore_n (pc' := 100) (M := [(2, .int (Int32.ofInt 1)), (0, .ref 98), (1, .int (Int32.ofInt 6)), (3, .int (Int32.ofInt 2))]) rfl rfl rfl rfl ?_
              refine h_iinc (pc' := 103) (b := 3) (M := fun z18 => [(3, .int z18), (2, .int (Int32.ofInt 1)), (0, .ref 98), (1, .int (Int32.ofInt 6))]) rfl rfl rfl rfl ci_2 ci_1 rfl (by omega) (by omega) (fun _ => rfl) (fun z18 hz18 => ?_)
              refine h_goto (pc' := 51) rfl rfl ?_
              have qz18 : z18 = (Int32.ofInt 3) := h_lit hz18 ci_3
              subst qz18
              exact h_wk [(0, .ref 98), (1, .int (Int32.ofInt 6)), (2, .int (Int32.ofInt 1)), (3, .int (Int32.ofInt 3))] ⟨rfl, rfl, rfl, rfl, trivial⟩ (ih.2.2.2.2.2.2.2.2.2.2.2.2.2.2.2.2.2.2.2.2.2.2.2.2.2.2.2.2.2.2.2.2.2.2.2.2.2.2.2.2.2.2.2.2.2.2.2.2.2.2.2.2.2.2.1 (Int32.ofInt 1) _ ci_1 (by omega) ex0 ex1 ex2 ex3 ex4 ex5 (Or.inl ⟨by omega, by omega, by omega, by omega, by omega⟩) (by omega))
          · refine h_aload_n (pc' := 9) rfl rfl rfl ?_
            refine h_getR (pc' := 12) rfl rfl rfl rfl rfl ?_
            refine h_iload_n (pc' := 13) rfl rfl rfl ?_
            refine h_iald (pc' := 14) (v := σ 102 ((σ 98 16) + 2)) rfl rfl rfl hz10 (by omega) (by omega) rfl (fun z19 hz19 => ?_)
            have tz19 := ty_102 hI ((σ 98 16) + 2)
            refine h_goto (pc' := 19) rfl rfl ?_
            refine h_iret rfl rfl (h_Kv ?_)
            refine h_aload_n (pc' := 79) rfl rfl rfl ?_
            refine h_getR (pc' := 82) rfl rfl rfl rfl rfl ?_
            refine h_aload_n (pc' := 83) rfl rfl rfl ?_
            refine h_getR (pc' := 86) rfl rfl rfl rfl rfl ?_
            refine h_iload_n (pc' := 87) rfl rfl rfl ?_
            refine h_iald (pc' := 88) (v := 36) rfl rfl rfl ci_6 (by omega) (by omega) (tx_103_6 hI) (fun z20 hz20 => ?_)
            refine h_iload_n (pc' := 89) rfl rfl rfl ?_
            refine h_iadd (pc' := 90) rfl rfl hz20 ci_2 rfl (by omega) (by omega) (fun z21 hz21 => ?_)
            refine h_iald (pc' := 91) (v := σ 104 (36 + 2)) rfl rfl rfl hz21 (by omega) (by omega) rfl (fun z22 hz22 => ?_)
            have tz22 := ty_104 hI (36 + 2)
            refine h_cne (tg := 98) (pc' := 94) rfl rfl rfl hz19 hz22 (fun c23 => ?_) (fun c23 => ?_)
            · refine h_iconst (pc' := 99) (x := (Int32.ofInt 0)) rfl rfl rfl ?_
              refine h_istore_n (pc' := 100) (M := [(2, .int (Int32.ofInt 0)), (0, .ref 98), (1, .int (Int32.ofInt 6)), (3, .int (Int32.ofInt 2))]) rfl rfl rfl rfl ?_
              refine h_iinc (pc' := 103) (b := 3) (M := fun z24 => [(3, .int z24), (2, .int (Int32.ofInt 0)), (0, .ref 98), (1, .int (Int32.ofInt 6))]) rfl rfl rfl rfl ci_2 ci_1 rfl (by omega) (by omega) (fun _ => rfl) (fun z24 hz24 => ?_)
              refine h_goto (pc' := 51) rfl rfl ?_
              have qz24 : z24 = (Int32.ofInt 3) := h_lit hz24 ci_3
              subst qz24
              exact h_wk [(0, .ref 98), (1, .int (Int32.ofInt 6)), (2, .int (Int32.ofInt 0)), (3, .int (Int32.ofInt 3))] ⟨rfl, rfl, rfl, rfl, trivial⟩ (ih.2.2.2.2.2.2.2.2.2.2.2.2.2.2.2.2.2.2.2.2.2.2.2.2.2.2.2.2.2.2.2.2.2.2.2.2.2.2.2.2.2.2.2.2.2.2.2.2.2.2.2.2.2.2.1 (Int32.ofInt 0) _ ci_0 (by omega) ex0 ex1 ex2 ex3 ex4 ex5 (Or.inr ⟨by omega, fun h => by unfold g_nm6 at h; omega⟩) (by omega))
            · refine h_iconst (pc' := 95) (x := (Int32.ofInt 1)) rfl rfl rfl ?_
              refine h_goto (pc' := 99) rfl rfl ?_
              refine h_istore_n (pc' := 100) (M := [(2, .int (Int32.ofInt 1)), (0, .ref 98), (1, .int (Int32.ofInt 6)), (3, .int (Int32.ofInt 2))]) rfl rfl rfl rfl ?_
              refine h_iinc (pc' := 103) (b := 3) (M := fun z25 => [(3, .int z25), (2, .int (Int32.ofInt 1)), (0, .ref 98), (1, .int (Int32.ofInt 6))]) rfl rfl rfl rfl ci_2 ci_1 rfl (by omega) (by omega) (fun _ => rfl) (fun z25 hz25 => ?_)
              refine h_goto (pc' := 51) rfl rfl ?_
              have qz25 : z25 = (Int32.ofInt 3) := h_lit hz25 ci_3
              subst qz25
              exact h_wk [(0, .ref 98), (1, .int (Int32.ofInt 6)), (2, .int (Int32.ofInt 1)), (3, .int (Int32.ofInt 3))] ⟨rfl, rfl, rfl, rfl, trivial⟩ (ih.2.2.2.2.2.2.2.2.2.2.2.2.2.2.2.2.2.2.2.2.2.2.2.2.2.2.2.2.2.2.2.2.2.2.2.2.2.2.2.2.2.2.2.2.2.2.2.2.2.2.2.2.2.2.1 (Int32.ofInt 1) _ ci_1 (by omega) ex0 ex1 ex2 ex3 ex4 ex5 (Or.inl ⟨by omega, by omega, by omega, by omega, by omega⟩) (by omega))
    · intro  y2 b2 hy2 ry2 ex0 ex1 ex2 ex3 ex4 ex5 ex6 hm; have gh0 := tf_98_11 hI; have gh1 := tf_98_15 hI; have gh2 := tf_98_16 hI
      refine h_iload_n (pc' := 52) rfl rfl rfl ?_
      refine h_zeq (tg := 106) (pc' := 55) rfl rfl rfl hy2 (fun c1 => ?_) (fun c1 => ?_)
      · refine h_iload_n (pc' := 107) rfl rfl rfl ?_
        refine h_zeq (tg := 112) (pc' := 110) rfl rfl rfl hy2 (fun c2 => ?_) (fun c2 => absurd c2 (by omega))
        refine h_iinc (pc' := 115) (b := 7) (M := fun z3 => [(1, .int z3), (0, .ref 98), (2, .int y2), (3, .int (Int32.ofInt 3))]) rfl rfl rfl rfl ci_6 ci_1 rfl (by omega) (by omega) (fun _ => rfl) (fun z3 hz3 => ?_)
        refine h_goto (pc' := 2) rfl rfl ?_
        have qz3 : z3 = (Int32.ofInt 7) := h_lit hz3 ci_7
        subst qz3
        exact h_wk [(0, .ref 98), (1, .int (Int32.ofInt 7)), (2, .int y2), (3, .int (Int32.ofInt 3))] ⟨rfl, rfl, rfl, rfl, trivial⟩ (ih.2.2.2.2.2.2.2.1 y2 _ hy2 (by omega) (Int32.ofInt 3) _ ci_3 (by omega) ex0 ex1 ex2 ex3 ex4 ex5 (ex6.elim (fun h => absurd h.1 (by omega)) (fun h => h.2)) (by omega))
      · refine h_iload_n (pc' := 56) rfl rfl rfl ?_
        refine h_aload_n (pc' := 57) rfl rfl rfl ?_
        refine h_getI (pc' := 60) (v := σ 98 15) rfl rfl rfl rfl rfl rfl (fun z4 hz4 => ?_)
        have tz4 := tf_98_15 hI
        refine h_aload_n (pc' := 61) rfl rfl rfl ?_
        refine h_getI (pc' := 64) (v := σ 98 16) rfl rfl rfl rfl rfl rfl (fun z5 hz5 => ?_)
        have tz5 := tf_98_16 hI
        refine h_isub (pc' := 65) rfl rfl hz4 hz5 rfl (by omega) (by omega) (fun z6 hz6 => ?_)
        refine h_cge (tg := 106) (pc' := 68) rfl rfl rfl ci_3 hz6 (fun c7 => ?_) (fun c7 => ?_)
        · refine h_iload_n (pc' := 107) rfl rfl rfl ?_
          refine h_zeq (tg := 112) (pc' := 110) rfl rfl rfl hy2 (fun c8 => absurd c8 (by omega)) (fun c8 => ?_)
          refine h_iload_n (pc' := 111) rfl rfl rfl ?_
          exact h_iret rfl rfl (kk _ _ ci_6 (by omega) (fun _ => (Or.inr (Or.inr (Or.inr (Or.inr (Or.inr (Or.inr (Or.inr (Or.inl ⟨rfl, ex0, ex1, ex2, ex3, ex4, ex5, ⟨by omega, by omega, by omega, by omega, by omega⟩⟩))))))))) (Or.inl (by omega)))
        · refine h_aload_n (pc' := 69) rfl rfl rfl ?_
          refine h_aload_n (pc' := 70) rfl rfl rfl ?_
          refine h_getI (pc' := 73) (v := σ 98 16) rfl rfl rfl rfl rfl rfl (fun z9 hz9 => ?_)
          have tz9 := tf_98_16 hI
          refine h_iload_n (pc' := 74) rfl rfl rfl ?_
          refine h_iadd (pc' := 75) rfl rfl hz9 ci_3 rfl (by omega) (by omega) (fun z10 hz10 => ?_)
          refine h_call (sp := false) (pc' := 78) (M := [(0, .ref 98), (1, .int z10)]) rfl rfl rfl rfl rfl rfl rfl rfl ?_
          refine h_iload_n (pc' := 1) rfl rfl rfl ?_
          refine h_aload_n (pc' := 2) rfl rfl rfl ?_
          refine h_getI (pc' := 5) (v := σ 98 11) rfl rfl rfl rfl rfl rfl (fun z11 hz11 => ?_)
          have tz11 := tf_98_11 hI
          refine h_cge (tg := 17) (pc' := 8) rfl rfl rfl hz10 hz11 (fun c12 => ?_) (fun c12 => ?_)
          · refine h_bipush (pc' := 19) (x := (Int32.ofInt (-4))) rfl rfl cb_m4 ?_
            refine h_iret rfl rfl (h_Kv ?_)
            refine h_aload_n (pc' := 79) rfl rfl rfl ?_
            refine h_getR (pc' := 82) rfl rfl rfl rfl rfl ?_
            refine h_aload_n (pc' := 83) rfl rfl rfl ?_
            refine h_getR (pc' := 86) rfl rfl rfl rfl rfl ?_
            refine h_iload_n (pc' := 87) rfl rfl rfl ?_
            refine h_iald (pc' := 88) (v := 36) rfl rfl rfl ci_6 (by omega) (by omega) (tx_103_6 hI) (fun z13 hz13 => ?_)
            refine h_iload_n (pc' := 89) rfl rfl rfl ?_
            refine h_iadd (pc' := 90) rfl rfl hz13 ci_3 rfl (by omega) (by omega) (fun z14 hz14 => ?_)
            refine h_iald (pc' := 91) (v := σ 104 (36 + 3)) rfl rfl rfl hz14 (by omega) (by omega) rfl (fun z15 hz15 => ?_)
            have tz15 := ty_104 hI (36 + 3)
            refine h_cne (tg := 98) (pc' := 94) rfl rfl rfl ci_m4 hz15 (fun c16 => ?_) (fun c16 => ?_)
            · refine h_iconst (pc' := 99) (x := (Int32.ofInt 0)) rfl rfl rfl ?_
              refine h_istore_n (pc' := 100) (M := [(2, .int (Int32.ofInt 0)), (0, .ref 98), (1, .int (Int32.ofInt 6)), (3, .int (Int32.ofInt 3))]) rfl rfl rfl rfl ?_
              refine h_iinc (pc' := 103) (b := 4) (M := fun z17 => [(3, .int z17), (2, .int (Int32.ofInt 0)), (0, .ref 98), (1, .int (Int32.ofInt 6))]) rfl rfl rfl rfl ci_3 ci_1 rfl (by omega) (by omega) (fun _ => rfl) (fun z17 hz17 => ?_)
              refine h_goto (pc' := 51) rfl rfl ?_
              have qz17 : z17 = (Int32.ofInt 4) := h_lit hz17 ci_4
              subst qz17
              exact h_wk [(0, .ref 98), (1, .int (Int32.ofInt 6)), (2, .int (Int32.ofInt 0)), (3, .int (Int32.ofInt 4))] ⟨rfl, rfl, rfl, rfl, trivial⟩ (ih.2.2.2.2.2.2.2.2.2.2.2.2.2.2.2.2.2.2.2.2.2.2.2.2.2.2.2.2.2.2.2.2.2.2.2.2.2.2.2.2.2.2.2.2.2.2.2.2.2.2.2.2.2.2.2.1 (Int32.ofInt 0) _ ci_0 (by omega) ex0 ex1 ex2 ex3 ex4 ex5 (Or.inr ⟨by omega, fun h => by unfold g_nm6 at h; omega⟩) (by omega))
            · refine h_iconst (pc' := 95) (x := (Int32.ofInt 1)) rfl rfl rfl ?_
              refine h_goto (pc' := 99) rfl rfl ?_
              refine h_istore_n (pc' := 100) (M := [(2, .int (Int32.ofInt 1)), (0, .ref 98), (1, .int (Int32.ofInt 6)), (3, .int (Int32.ofInt 3))]) rfl rfl rfl rfl ?_
              refine h_iinc (pc' := 103) (b := 4) (M := fun z18 => [(3, .int z18), (2, .int (Int32.ofInt 1)), (0, .ref 98), (1, .int (Int32.ofInt 6))]) rfl rfl rfl rfl ci_3 ci_1 rfl (by omega) (by omega) (fun _ => rfl) (fun z18 hz18 => ?_)
              refine h_goto (pc' := 51) rfl rfl ?_
              have qz18 : z18 = (Int32.ofInt 4) := h_lit hz18 ci_4
              subst qz18
              exact h_wk [(0, .ref 98), (1, .int (Int32.ofInt 6)), (2, .int (Int32.ofInt 1)), (3, .int (Int32.ofInt 4))] ⟨rfl, rfl, rfl, rfl, trivial⟩ (ih.2.2.2.2.2.2.2.2.2.2.2.2.2.2.2.2.2.2.2.2.2.2.2.2.2.2.2.2.2.2.2.2.2.2.2.2.2.2.2.2.2.2.2.2.2.2.2.2.2.2.2.2.2.2.2.1 (Int32.ofInt 1) _ ci_1 (by omega) ex0 ex1 ex2 ex3 ex4 ex5 (Or.inl ⟨by omega, by omega, by omega, by omega, by omega, by omega⟩) (by omega))
          · refine h_aload_n (pc' := 9) rfl rfl rfl ?_
            refine h_getR (pc' := 12) rfl rfl rfl rfl rfl ?_
            refine h_iload_n (pc' := 13) rfl rfl rfl ?_
            refine h_iald (pc' := 14) (v := σ 102 ((σ 98 16) + 3)) rfl rfl rfl hz10 (by omega) (by omega) rfl (fun z19 hz19 => ?_)
            have tz19 := ty_102 hI ((σ 98 16) + 3)
            refine h_goto (pc' := 19) rfl rfl ?_
            refine h_iret rfl rfl (h_Kv ?_)
            refine h_aload_n (pc' := 79) rfl rfl rfl ?_
            refine h_getR (pc' := 82) rfl rfl rfl rfl rfl ?_
            refine h_aload_n (pc' := 83) rfl rfl rfl ?_
            refine h_getR (pc' := 86) rfl rfl rfl rfl rfl ?_
            refine h_iload_n (pc' := 87) rfl rfl rfl ?_
            refine h_iald (pc' := 88) (v := 36) rfl rfl rfl ci_6 (by omega) (by omega) (tx_103_6 hI) (fun z20 hz20 => ?_)
            refine h_iload_n (pc' := 89) rfl rfl rfl ?_
            refine h_iadd (pc' := 90) rfl rfl hz20 ci_3 rfl (by omega) (by omega) (fun z21 hz21 => ?_)
            refine h_iald (pc' := 91) (v := σ 104 (36 + 3)) rfl rfl rfl hz21 (by omega) (by omega) rfl (fun z22 hz22 => ?_)
            have tz22 := ty_104 hI (36 + 3)
            refine h_cne (tg := 98) (pc' := 94) rfl rfl rfl hz19 hz22 (fun c23 => ?_) (fun c23 => ?_)
            · refine h_iconst (pc' := 99) (x := (Int32.ofInt 0)) rfl rfl rfl ?_
              refine h_istore_n (pc' := 100) (M := [(2, .int (Int32.ofInt 0)), (0, .ref 98), (1, .int (Int32.ofInt 6)), (3, .int (Int32.ofInt 3))]) rfl rfl rfl rfl ?_
              refine h_iinc (pc' := 103) (b := 4) (M := fun z24 => [(3, .int z24), (2, .int (Int32.ofInt 0)), (0, .ref 98), (1, .int (Int32.ofInt 6))]) rfl rfl rfl rfl ci_3 ci_1 rfl (by omega) (by omega) (fun _ => rfl) (fun z24 hz24 => ?_)
              refine h_goto (pc' := 51) rfl rfl ?_
              have qz24 : z24 = (Int32.ofInt 4) := h_lit hz24 ci_4
              subst qz24
              exact h_wk [(0, .ref 98), (1, .int (Int32.ofInt 6)), (2, .int (Int32.ofInt 0)), (3, .int (Int32.ofInt 4))] ⟨rfl, rfl, rfl, rfl, trivial⟩ (ih.2.2.2.2.2.2.2.2.2.2.2.2.2.2.2.2.2.2.2.2.2.2.2.2.2.2.2.2.2.2.2.2.2.2.2.2.2.2.2.2.2.2.2.2.2.2.2.2.2.2.2.2.2.2.2.1 (Int32.ofInt 0) _ ci_0 (by omega) ex0 ex1 ex2 ex3 ex4 ex5 (Or.inr ⟨by omega, fun h => by unfold g_nm6 at h; omega⟩) (by omega))
            · refine h_iconst (pc' := 95) (x := (Int32.ofInt 1)) rfl rfl rfl ?_
              refine h_goto (pc' := 99) rfl rfl ?_
              refine h_istore_n (pc' := 100) (M := [(2, .int (Int32.ofInt 1)), (0, .ref 98), (1, .int (Int32.ofInt 6)), (3, .int (Int32.ofInt 3))]) rfl rfl rfl rfl ?_
              refine h_iinc (pc' := 103) (b := 4) (M := fun z25 => [(3, .int z25), (2, .int (Int32.ofInt 1)), (0, .ref 98), (1, .int (Int32.ofInt 6))]) rfl rfl rfl rfl ci_3 ci_1 rfl (by omega) (by omega) (fun _ => rfl) (fun z25 hz25 => ?_)
              refine h_goto (pc' := 51) rfl rfl ?_
              have qz25 : z25 = (Int32.ofInt 4) := h_lit hz25 ci_4
              subst qz25
              exact h_wk [(0, .ref 98), (1, .int (Int32.ofInt 6)), (2, .int (Int32.ofInt 1)), (3, .int (Int32.ofInt 4))] ⟨rfl, rfl, rfl, rfl, trivial⟩ (ih.2.2.2.2.2.2.2.2.2.2.2.2.2.2.2.2.2.2.2.2.2.2.2.2.2.2.2.2.2.2.2.2.2.2.2.2.2.2.2.2.2.2.2.2.2.2.2.2.2.2.2.2.2.2.2.1 (Int32.ofInt 1) _ ci_1 (by omega) ex0 ex1 ex2 ex3 ex4 ex5 (Or.inl ⟨by omega, by omega, by omega, by omega, by omega, by omega⟩) (by omega))
    · intro  y2 b2 hy2 ry2 ex0 ex1 ex2 ex3 ex4 ex5 ex6 hm; have gh0 := tf_98_11 hI; have gh1 := tf_98_15 hI; have gh2 := tf_98_16 hI
      refine h_iload_n (pc' := 52) rfl rfl rfl ?_
      refine h_zeq (tg := 106) (pc' := 55) rfl rfl rfl hy2 (fun c1 => ?_) (fun c1 => ?_)
      · refine h_iload_n (pc' := 107) rfl rfl rfl ?_
        refine h_zeq (tg := 112) (pc' := 110) rfl rfl rfl hy2 (fun c2 => ?_) (fun c2 => absurd c2 (by omega))
        refine h_iinc (pc' := 115) (b := 7) (M := fun z3 => [(1, .int z3), (0, .ref 98), (2, .int y2), (3, .int (Int32.ofInt 4))]) rfl rfl rfl rfl ci_6 ci_1 rfl (by omega) (by omega) (fun _ => rfl) (fun z3 hz3 => ?_)
        refine h_goto (pc' := 2) rfl rfl ?_
        have qz3 : z3 = (Int32.ofInt 7) := h_lit hz3 ci_7
        subst qz3
        exact h_wk [(0, .ref 98), (1, .int (Int32.ofInt 7)), (2, .int y2), (3, .int (Int32.ofInt 4))] ⟨rfl, rfl, rfl, rfl, trivial⟩ (ih.2.2.2.2.2.2.2.1 y2 _ hy2 (by omega) (Int32.ofInt 4) _ ci_4 (by omega) ex0 ex1 ex2 ex3 ex4 ex5 (ex6.elim (fun h => absurd h.1 (by omega)) (fun h => h.2)) (by omega))
      · refine h_iload_n (pc' := 56) rfl rfl rfl ?_
        refine h_aload_n (pc' := 57) rfl rfl rfl ?_
        refine h_getI (pc' := 60) (v := σ 98 15) rfl rfl rfl rfl rfl rfl (fun z4 hz4 => ?_)
        have tz4 := tf_98_15 hI
        refine h_aload_n (pc' := 61) rfl rfl rfl ?_
        refine h_getI (pc' := 64) (v := σ 98 16) rfl rfl rfl rfl rfl rfl (fun z5 hz5 => ?_)
        have tz5 := tf_98_16 hI
        refine h_isub (pc' := 65) rfl rfl hz4 hz5 rfl (by omega) (by omega) (fun z6 hz6 => ?_)
        refine h_cge (tg := 106) (pc' := 68) rfl rfl rfl ci_4 hz6 (fun c7 => ?_) (fun c7 => ?_)
        · refine h_iload_n (pc' := 107) rfl rfl rfl ?_
          refine h_zeq (tg := 112) (pc' := 110) rfl rfl rfl hy2 (fun c8 => absurd c8 (by omega)) (fun c8 => ?_)
          refine h_iload_n (pc' := 111) rfl rfl rfl ?_
          exact h_iret rfl rfl (kk _ _ ci_6 (by omega) (fun _ => (Or.inr (Or.inr (Or.inr (Or.inr (Or.inr (Or.inr (Or.inr (Or.inl ⟨rfl, ex0, ex1, ex2, ex3, ex4, ex5, ⟨by omega, by omega, by omega, by omega, by omega⟩⟩))))))))) (Or.inl (by omega)))
        · exfalso; omega
    · intro  y2 b2 hy2 ry2 ex0 ex1 ex2 ex3 ex4 ex5 ex6 ex7 hm; have gh0 := tf_98_11 hI; have gh1 := tf_98_15 hI; have gh2 := tf_98_16 hI
      refine h_iload_n (pc' := 52) rfl rfl rfl ?_
      refine h_zeq (tg := 106) (pc' := 55) rfl rfl rfl hy2 (fun c1 => ?_) (fun c1 => ?_)
      · refine h_iload_n (pc' := 107) rfl rfl rfl ?_
        refine h_zeq (tg := 112) (pc' := 110) rfl rfl rfl hy2 (fun c2 => ?_) (fun c2 => absurd c2 (by omega))
        refine h_iinc (pc' := 115) (b := 8) (M := fun z3 => [(1, .int z3), (0, .ref 98), (2, .int y2), (3, .int (Int32.ofInt 0))]) rfl rfl rfl rfl ci_7 ci_1 rfl (by omega) (by omega) (fun _ => rfl) (fun z3 hz3 => ?_)
        refine h_goto (pc' := 2) rfl rfl ?_
        have qz3 : z3 = (Int32.ofInt 8) := h_lit hz3 ci_8
        subst qz3
        exact h_wk [(0, .ref 98), (1, .int (Int32.ofInt 8)), (2, .int y2), (3, .int (Int32.ofInt 0))] ⟨rfl, rfl, rfl, rfl, trivial⟩ (ih.2.2.2.2.2.2.2.2.1 y2 _ hy2 (by omega) (Int32.ofInt 0) _ ci_0 (by omega) ex0 ex1 ex2 ex3 ex4 ex5 ex6 (ex7.elim (fun h => absurd h.1 (by omega)) (fun h => h.2)) (by omega))
      · refine h_iload_n (pc' := 56) rfl rfl rfl ?_
        refine h_aload_n (pc' := 57) rfl rfl rfl ?_
        refine h_getI (pc' := 60) (v := σ 98 15) rfl rfl rfl rfl rfl rfl (fun z4 hz4 => ?_)
        have tz4 := tf_98_15 hI
        refine h_aload_n (pc' := 61) rfl rfl rfl ?_
        refine h_getI (pc' := 64) (v := σ 98 16) rfl rfl rfl rfl rfl rfl (fun z5 hz5 => ?_)
        have tz5 := tf_98_16 hI
        refine h_isub (pc' := 65) rfl rfl hz4 hz5 rfl (by omega) (by omega) (fun z6 hz6 => ?_)
        refine h_cge (tg := 106) (pc' := 68) rfl rfl rfl ci_0 hz6 (fun c7 => ?_) (fun c7 => ?_)
        · refine h_iload_n (pc' := 107) rfl rfl rfl ?_
          refine h_zeq (tg := 112) (pc' := 110) rfl rfl rfl hy2 (fun c8 => absurd c8 (by omega)) (fun c8 => ?_)
          refine h_iload_n (pc' := 111) rfl rfl rfl ?_
          exact h_iret rfl rfl (kk _ _ ci_7 (by omega) (fun _ => (Or.inr (Or.inr (Or.inr (Or.inr (Or.inr (Or.inr (Or.inr (Or.inr ⟨rfl, ex0, ex1, ex2, ex3, ex4, ex5, ex6, ⟨by omega, by omega, by omega, by omega, by omega⟩⟩))))))))) (Or.inl (by omega)))
        · refine h_aload_n (pc' := 69) rfl rfl rfl ?_
          refine h_aload_n (pc' := 70) rfl rfl rfl ?_
          refine h_getI (pc' := 73) (v := σ 98 16) rfl rfl rfl rfl rfl rfl (fun z9 hz9 => ?_)
          have tz9 := tf_98_16 hI
          refine h_iload_n (pc' := 74) rfl rfl rfl ?_
          refine h_iadd (pc' := 75) rfl rfl hz9 ci_0 rfl (by omega) (by omega) (fun z10 hz10 => ?_)
          refine h_call (sp := false) (pc' := 78) (M := [(0, .ref 98), (1, .int z10)]) rfl rfl rfl rfl rfl rfl rfl rfl ?_
          refine h_iload_n (pc' := 1) rfl rfl rfl ?_
          refine h_aload_n (pc' := 2) rfl rfl rfl ?_
          refine h_getI (pc' := 5) (v := σ 98 11) rfl rfl rfl rfl rfl rfl (fun z11 hz11 => ?_)
          have tz11 := tf_98_11 hI
          refine h_cge (tg := 17) (pc' := 8) rfl rfl rfl hz10 hz11 (fun c12 => ?_) (fun c12 => ?_)
          · refine h_bipush (pc' := 19) (x := (Int32.ofInt (-4))) rfl rfl cb_m4 ?_
            refine h_iret rfl rfl (h_Kv ?_)
            refine h_aload_n (pc' := 79) rfl rfl rfl ?_
            refine h_getR (pc' := 82) rfl rfl rfl rfl rfl ?_
            refine h_aload_n (pc' := 83) rfl rfl rfl ?_
            refine h_getR (pc' := 86) rfl rfl rfl rfl rfl ?_
            refine h_iload_n (pc' := 87) rfl rfl rfl ?_
            refine h_iald (pc' := 88) (v := 40) rfl rfl rfl ci_7 (by omega) (by omega) (tx_103_7 hI) (fun z13 hz13 => ?_)
            refine h_iload_n (pc' := 89) rfl rfl rfl ?_
            refine h_iadd (pc' := 90) rfl rfl hz13 ci_0 rfl (by omega) (by omega) (fun z14 hz14 => ?_)
            refine h_iald (pc' := 91) (v := σ 104 (40 + 0)) rfl rfl rfl hz14 (by omega) (by omega) rfl (fun z15 hz15 => ?_)
            have tz15 := ty_104 hI (40 + 0)
            refine h_cne (tg := 98) (pc' := 94) rfl rfl rfl ci_m4 hz15 (fun c16 => ?_) (fun c16 => ?_)
            · refine h_iconst (pc' := 99) (x := (Int32.ofInt 0)) rfl rfl rfl ?_
              refine h_istore_n (pc' := 100) (M := [(2, .int (Int32.ofInt 0)), (0, .ref 98), (1, .int (Int32.ofInt 7)), (3, .int (Int32.ofInt 0))]) rfl rfl rfl rfl ?_
              refine h_iinc (pc' := 103) (b := 1) (M := fun z17 => [(3, .int z17), (2, .int (Int32.ofInt 0)), (0, .ref 98), (1, .int (Int32.ofInt 7))]) rfl rfl rfl rfl ci_0 ci_1 rfl (by omega) (by omega) (fun _ => rfl) (fun z17 hz17 => ?_)
              refine h_goto (pc' := 51) rfl rfl ?_
              have qz17 : z17 = (Int32.ofInt 1) := h_lit hz17 ci_1
              subst qz17
              exact h_wk [(0, .ref 98), (1, .int (Int32.ofInt 7)), (2, .int (Int32.ofInt 0)), (3, .int (Int32.ofInt 1))] ⟨rfl, rfl, rfl, rfl, trivial⟩ (ih.2.2.2.2.2.2.2.2.2.2.2.2.2.2.2.2.2.2.2.2.2.2.2.2.2.2.2.2.2.2.2.2.2.2.2.2.2.2.2.2.2.2.2.2.2.2.2.2.2.2.2.2.2.2.2.2.2.1 (Int32.ofInt 0) _ ci_0 (by omega) ex0 ex1 ex2 ex3 ex4 ex5 ex6 (Or.inr ⟨by omega, fun h => by unfold g_nm7 at h; omega⟩) (by omega))
            · refine h_iconst (pc' := 95) (x := (Int32.ofInt 1)) rfl rfl rfl ?_
              refine h_goto (pc' := 99) rfl rfl ?_
              refine h_istore_n (pc' := 100) (M := [(2, .int (Int32.ofInt 1)), (0, .ref 98), (1, .int (Int32.ofInt 7)), (3, .int (Int32.ofInt 0))]) rfl rfl rfl rfl ?_
              refine h_iinc (pc' := 103) (b := 1) (M := fun z18 => [(3, .int z18), (2, .int (Int32.ofInt 1)), (0, .ref 98), (1, .int (Int32.ofInt 7))]) rfl rfl rfl rfl ci_0 ci_1 rfl (by omega) (by omega) (fun _ => rfl) (fun z18 hz18 => ?_)
              refine h_goto (pc' := 51) rfl rfl ?_
              have qz18 : z18 = (Int32.ofInt 1) := h_lit hz18 ci_1
              subst qz18
              exact h_wk [(0, .ref 98), (1, .int (Int32.ofInt 7)), (2, .int (Int32.ofInt 1)), (3, .int (Int32.ofInt 1))] ⟨rfl, rfl, rfl, rfl, trivial⟩ (ih.2.2.2.2.2.2.2.2.2.2.2.2.2.2.2.2.2.2.2.2.2.2.2.2.2.2.2.2.2.2.2.2.2.2.2.2.2.2.2.2.2.2.2.2.2.2.2.2.2.2.2.2.2.2.2.2.2.1 (Int32.ofInt 1) _ ci_1 (by omega) ex0 ex1 ex2 ex3 ex4 ex5 ex6 (Or.inl ⟨by omega, by omega, by omega⟩) (by omega))
          · refine h_aload_n (pc' := 9) rfl rfl rfl ?_
            refine h_getR (pc' := 12) rfl rfl rfl rfl rfl ?_
            refine h_iload_n (pc' := 13) rfl rfl rfl ?_
            refine h_iald (pc' := 14) (v := σ 102 ((σ 98 16) + 0)) rfl rfl rfl hz10 (by omega) (by omega) rfl (fun z19 hz19 => ?_)
            have tz19 := ty_102 hI ((σ 98 16) + 0)
            refine h_goto (pc' := 19) rfl rfl ?_
            refine h_iret rfl rfl (h_Kv ?_)
            refine h_aload_n (pc' := 79) rfl rfl rfl ?_
            refine h_getR (pc' := 82) rfl rfl rfl rfl rfl ?_
            refine h_aload_n (pc' := 83) rfl rfl rfl ?_
            refine h_getR (pc' := 86) rfl rfl rfl rfl rfl ?_
            refine h_iload_n (pc' := 87) rfl rfl rfl ?_
            refine h_iald (pc' := 88) (v := 40) rfl rfl rfl ci_7 (by omega) (by omega) (tx_103_7 hI) (fun z20 hz20 => ?_)
            refine h_iload_n (pc' := 89) rfl rfl rfl ?_
            refine h_iadd (pc' := 90) rfl rfl hz20 ci_0 rfl (by omega) (by omega) (fun z21 hz21 => ?_)
            refine h_iald (pc' := 91) (v := σ 104 (40 + 0)) rfl rfl rfl hz21 (by omega) (by omega) rfl (fun z22 hz22 => ?_)
            have tz22 := ty_104 hI (40 + 0)
            refine h_cne (tg := 98) (pc' := 94) rfl rfl rfl hz19 hz22 (fun c23 => ?_) (fun c23 => ?_)
            · refine h_iconst (pc' := 99) (x := (Int32.ofInt 0)) rfl rfl rfl ?_
              refine h_istore_n (pc' := 100) (M := [(2, .int (Int32.ofInt 0)), (0, .ref 98), (1, .int (Int32.ofInt 7)), (3, .int (Int32.ofInt 0))]) rfl rfl rfl rfl ?_
              refine h_iinc (pc' := 103) (b := 1) (M := fun z24 => [(3, .int z24), (2, .int (Int32.ofInt 0)), (0, .ref 98), (1, .int (Int32.ofInt 7))]) rfl rfl rfl rfl ci_0 ci_1 rfl (by omega) (by omega) (fun _ => rfl) (fun z24 hz24 => ?_)
              refine h_goto (pc' := 51) rfl rfl ?_
              have qz24 : z24 = (Int32.ofInt 1) := h_lit hz24 ci_1
              subst qz24
              exact h_wk [(0, .ref 98), (1, .int (Int32.ofInt 7)), (2, .int (Int32.ofInt 0)), (3, .int (Int32.ofInt 1))] ⟨rfl, rfl, rfl, rfl, trivial⟩ (ih.2.2.2.2.2.2.2.2.2.2.2.2.2.2.2.2.2.2.2.2.2.2.2.2.2.2.2.2.2.2.2.2.2.2.2.2.2.2.2.2.2.2.2.2.2.2.2.2.2.2.2.2.2.2.2.2.2.1 (Int32.ofInt 0) _ ci_0 (by omega) ex0 ex1 ex2 ex3 ex4 ex5 ex6 (Or.inr ⟨by omega, fun h => by unfold g_nm7 at h; omega⟩) (by omega))
            · refine h_iconst (pc' := 95) (x := (Int32.ofInt 1)) rfl rfl rfl ?_
              refine h_goto (pc' := 99) rfl rfl ?_
              refine h_istore_n (pc' := 100) (M := [(2, .int (Int32.ofInt 1)), (0, .ref 98), (1, .int (Int32.ofInt 7)), (3, .int (Int32.ofInt 0))]) rfl rfl rfl rfl ?_
              refine h_iinc (pc' := 103) (b := 1) (M := fun z25 => [(3, .int z25), (2, .int (Int32.ofInt 1)), (0, .ref 98), (1, .int (Int32.ofInt 7))]) rfl rfl rfl rfl ci_0 ci_1 rfl (by omega) (by omega) (fun _ => rfl) (fun z25 hz25 => ?_)
              refine h_goto (pc' := 51) rfl rfl ?_
              have qz25 : z25 = (Int32.ofInt 1) := h_lit hz25 ci_1
              subst qz25
              exact h_wk [(0, .ref 98), (1, .int (Int32.ofInt 7)), (2, .int (Int32.ofInt 1)), (3, .int (Int32.ofInt 1))] ⟨rfl, rfl, rfl, rfl, trivial⟩ (ih.2.2.2.2.2.2.2.2.2.2.2.2.2.2.2.2.2.2.2.2.2.2.2.2.2.2.2.2.2.2.2.2.2.2.2.2.2.2.2.2.2.2.2.2.2.2.2.2.2.2.2.2.2.2.2.2.2.1 (Int32.ofInt 1) _ ci_1 (by omega) ex0 ex1 ex2 ex3 ex4 ex5 ex6 (Or.inl ⟨by omega, by omega, by omega⟩) (by omega))
    · intro  y2 b2 hy2 ry2 ex0 ex1 ex2 ex3 ex4 ex5 ex6 ex7 hm; have gh0 := tf_98_11 hI; have gh1 := tf_98_15 hI; have gh2 := tf_98_16 hI
      refine h_iload_n (pc' := 52) rfl rfl rfl ?_
      refine h_zeq (tg := 106) (pc' := 55) rfl rfl rfl hy2 (fun c1 => ?_) (fun c1 => ?_)
      · refine h_iload_n (pc' := 107) rfl rfl rfl ?_
        refine h_zeq (tg := 112) (pc' := 110) rfl rfl rfl hy2 (fun c2 => ?_) (fun c2 => absurd c2 (by omega))
        refine h_iinc (pc' := 115) (b := 8) (M := fun z3 => [(1, .int z3), (0, .ref 98), (2, .int y2), (3, .int (Int32.ofInt 1))]) rfl rfl rfl rfl ci_7 ci_1 rfl (by omega) (by omega) (fun _ => rfl) (fun z3 hz3 => ?_)
        refine h_goto (pc' := 2) rfl rfl ?_
        have qz3 : z3 = (Int32.ofInt 8) := h_lit hz3 ci_8
        subst qz3
        exact h_wk [(0, .ref 98), (1, .int (Int32.ofInt 8)), (2, .int y2), (3, .int (Int32.ofInt 1))] ⟨rfl, rfl, rfl, rfl, trivial⟩ (ih.2.2.2.2.2.2.2.2.1 y2 _ hy2 (by omega) (Int32.ofInt 1) _ ci_1 (by omega) ex0 ex1 ex2 ex3 ex4 ex5 ex6 (ex7.elim (fun h => absurd h.1 (by omega)) (fun h => h.2)) (by omega))
      · refine h_iload_n (pc' := 56) rfl rfl rfl ?_
        refine h_aload_n (pc' := 57) rfl rfl rfl ?_
        refine h_getI (pc' := 60) (v := σ 98 15) rfl rfl rfl rfl rfl rfl (fun z4 hz4 => ?_)
        have tz4 := tf_98_15 hI
        refine h_aload_n (pc' := 61) rfl rfl rfl ?_
        refine h_getI (pc' := 64) (v := σ 98 16) rfl rfl rfl rfl rfl rfl (fun z5 hz5 => ?_)
        have tz5 := tf_98_16 hI
        refine h_isub (pc' := 65) rfl rfl hz4 hz5 rfl (by omega) (by omega) (fun z6 hz6 => ?_)
        refine h_cge (tg := 106) (pc' := 68) rfl rfl rfl ci_1 hz6 (fun c7 => ?_) (fun c7 => ?_)
        · refine h_iload_n (pc' := 107) rfl rfl rfl ?_
          refine h_zeq (tg := 112) (pc' := 110) rfl rfl rfl hy2 (fun c8 => absurd c8 (by omega)) (fun c8 => ?_)
          refine h_iload_n (pc' := 111) rfl rfl rfl ?_
          exact h_iret rfl rfl (kk _ _ ci_7 (by omega) (fun _ => (Or.inr (Or.inr (Or.inr (Or.inr (Or.inr (Or.inr (Or.inr (Or.inr ⟨rfl, ex0, ex1, ex2, ex3, ex4, ex5, ex6, ⟨by omega, by omega, by omega, by omega, by omega⟩⟩))))))))) (Or.inl (by omega)))
        · refine h_aload_n (pc' := 69) rfl rfl rfl ?_
          refine h_aload_n (pc' := 70) rfl rfl rfl ?_
          refine h_getI (pc' := 73) (v := σ 98 16) rfl rfl rfl rfl rfl rfl (fun z9 hz9 => ?_)
          have tz9 := tf_98_16 hI
          refine h_iload_n (pc' := 74) rfl rfl rfl ?_
          refine h_iadd (pc' := 75) rfl rfl hz9 ci_1 rfl (by omega) (by omega) (fun z10 hz10 => ?_)
          refine h_call (sp := false) (pc' := 78) (M := [(0, .ref 98), (1, .int z10)]) rfl rfl rfl rfl rfl rfl rfl rfl ?_
          refine h_iload_n (pc' := 1) rfl rfl rfl ?_
          refine h_aload_n (pc' := 2) rfl rfl rfl ?_
          refine h_getI (pc' := 5) (v := σ 98 11) rfl rfl rfl rfl rfl rfl (fun z11 hz11 => ?_)
          have tz11 := tf_98_11 hI
          refine h_cge (tg := 17) (pc' := 8) rfl rfl rfl hz10 hz11 (fun c12 => ?_) (fun c12 => ?_)
          · refine h_bipush (pc' := 19) (x := (Int32.ofInt (-4))) rfl rfl cb_m4 ?_
            refine h_iret rfl rfl (h_Kv ?_)
            refine h_aload_n (pc' := 79) rfl rfl rfl ?_
            refine h_getR (pc' := 82) rfl rfl rfl rfl rfl ?_
            refine h_aload_n (pc' := 83) rfl rfl rfl ?_
            refine h_getR (pc' := 86) rfl rfl rfl rfl rfl ?_
            refine h_iload_n (pc' := 87) rfl rfl rfl ?_
            refine h_iald (pc' := 88) (v := 40) rfl rfl rfl ci_7 (by omega) (by omega) (tx_103_7 hI) (fun z13 hz13 => ?_)
            refine h_iload_n (pc' := 89) rfl rfl rfl ?_
            refine h_iadd (pc' := 90) rfl rfl hz13 ci_1 rfl (by omega) (by omega) (fun z14 hz14 => ?_)
            refine h_iald (pc' := 91) (v := σ 104 (40 + 1)) rfl rfl rfl hz14 (by omega) (by omega) rfl (fun z15 hz15 => ?_)
            have tz15 := ty_104 hI (40 + 1)
            refine h_cne (tg := 98) (pc' := 94) rfl rfl rfl ci_m4 hz15 (fun c16 => ?_) (fun c16 => ?_)
            · refine h_iconst (pc' := 99) (x := (Int32.ofInt 0)) rfl rfl rfl ?_
              refine h_istore_n (pc' := 100) (M := [(2, .int (Int32.ofInt 0)), (0, .ref 98), (1, .int (Int32.ofInt 7)), (3, .int (Int32.ofInt 1))]) rfl rfl rfl rfl ?_
              refine h_iinc (pc' := 103) (b := 2) (M := fun z17 => [(3, .int z17), (2, .int (Int32.ofInt 0)), (0, .ref 98), (1, .int (Int32.ofInt 7))]) rfl rfl rfl rfl ci_1 ci_1 rfl (by omega) (by omega) (fun _ => rfl) (fun z17 hz17 => ?_)
              refine h_goto (pc' := 51) rfl rfl ?_
              have qz17 : z17 = (Int32.ofInt 2) := h_lit hz17 ci_2
              subst qz17
              exact h_wk [(0, .ref 98), (1, .int (Int32.ofInt 7)), (2, .int (Int32.ofInt 0)), (3, .int (Int32.ofInt 2))] ⟨rfl, rfl, rfl, rfl, trivial⟩ (ih.2.2.2.2.2.2.2.2.2.2.2.2.2.2.2.2.2.2.2.2.2.2.2.2.2.2.2.2.2.2.2.2.2.2.2.2.2.2.2.2.2.2.2.2.2.2.2.2.2.2.2.2.2.2.2.2.2.2.1 (Int32.ofInt 0) _ ci_0 (by omega) ex0 ex1 ex2 ex3 ex4 ex5 ex6 (Or.inr ⟨by omega, fun h => by unfold g_nm7 at h; omega⟩) (by omega))
            · refine h_iconst (pc' := 95) (x := (Int32.ofInt 1)) rfl rfl rfl ?_
              refine h_goto (pc' := 99) rfl rfl ?_
              refine h_istore_n (pc' := 100) (M := [(2, .int (Int32.ofInt 1)), (0, .ref 98), (1, .int (Int32.ofInt 7)), (3, .int (Int32.ofInt 1))]) rfl rfl rfl rfl ?_
              refine h_iinc (pc' := 103) (b := 2) (M := fun z18 => [(3, .int z18), (2, .int (Int32.ofInt 1)), (0, .ref 98), (1, .int (Int32.ofInt 7))]) rfl rfl rfl rfl ci_1 ci_1 rfl (by omega) (by omega) (fun _ => rfl) (fun z18 hz18 => ?_)
              refine h_goto (pc' := 51) rfl rfl ?_
              have qz18 : z18 = (Int32.ofInt 2) := h_lit hz18 ci_2
              subst qz18
              exact h_wk [(0, .ref 98), (1, .int (Int32.ofInt 7)), (2, .int (Int32.ofInt 1)), (3, .int (Int32.ofInt 2))] ⟨rfl, rfl, rfl, rfl, trivial⟩ (ih.2.2.2.2.2.2.2.2.2.2.2.2.2.2.2.2.2.2.2.2.2.2.2.2.2.2.2.2.2.2.2.2.2.2.2.2.2.2.2.2.2.2.2.2.2.2.2.2.2.2.2.2.2.2.2.2.2.2.1 (Int32.ofInt 1) _ ci_1 (by omega) ex0 ex1 ex2 ex3 ex4 ex5 ex6 (Or.inl ⟨by omega, by omega, by omega, by omega⟩) (by omega))
          · refine h_aload_n (pc' := 9) rfl rfl rfl ?_
            refine h_getR (pc' := 12) rfl rfl rfl rfl rfl ?_
            refine h_iload_n (pc' := 13) rfl rfl rfl ?_
            refine h_iald (pc' := 14) (v := σ 102 ((σ 98 16) + 1)) rfl rfl rfl hz10 (by omega) (by omega) rfl (fun z19 hz19 => ?_)
            have tz19 := ty_102 hI ((σ 98 16) + 1)
            refine h_goto (pc' := 19) rfl rfl ?_
            refine h_iret rfl rfl (h_Kv ?_)
            refine h_aload_n (pc' := 79) rfl rfl rfl ?_
            refine h_getR (pc' := 82) rfl rfl rfl rfl rfl ?_
            refine h_aload_n (pc' := 83) rfl rfl rfl ?_
            refine h_getR (pc' := 86) rfl rfl rfl rfl rfl ?_
            refine h_iload_n (pc' := 87) rfl rfl rfl ?_
            refine h_iald (pc' := 88) (v := 40) rfl rfl rfl ci_7 (by omega) (by omega) (tx_103_7 hI) (fun z20 hz20 => ?_)
            refine h_iload_n (pc' := 89) rfl rfl rfl ?_
            refine h_iadd (pc' := 90) rfl rfl hz20 ci_1 rfl (by omega) (by omega) (fun z21 hz21 => ?_)
            refine h_iald (pc' := 91) (v := σ 104 (40 + 1)) rfl rfl rfl hz21 (by omega) (by omega) rfl (fun z22 hz22 => ?_)
            have tz22 := ty_104 hI (40 + 1)
            refine h_cne (tg := 98) (pc' := 94) rfl rfl rfl hz19 hz22 (fun c23 => ?_) (fun c23 => ?_)
            · refine h_iconst (pc' := 99) (x := (Int32.ofInt 0)) rfl rfl rfl ?_
              refine h_istore_n (pc' := 100) (M := [(2, .int (Int32.ofInt 0)), (0, .ref 98), (1, .int (Int32.ofInt 7)), (3, .int (Int32.ofInt 1))]) rfl rfl rfl rfl ?_
              refine h_iinc (pc' := 103) (b := 2) (M := fun z24 => [(3, .int z24), (2, .int (Int32.ofInt 0)), (0, .ref 98), (1, .int (Int32.ofInt 7))]) rfl rfl rfl rfl ci_1 ci_1 rfl (by omega) (by omega) (fun _ => rfl) (fun z24 hz24 => ?_)
              refine h_goto (pc' := 51) rfl rfl ?_
              have qz24 : z24 = (Int32.ofInt 2) := h_lit hz24 ci_2
              subst qz24
              exact h_wk [(0, .ref 98), (1, .int (Int32.ofInt 7)), (2, .int (Int32.ofInt 0)), (3, .int (Int32.ofInt 2))] ⟨rfl, rfl, rfl, rfl, trivial⟩ (ih.2.2.2.2.2.2.2.2.2.2.2.2.2.2.2.2.2.2.2.2.2.2.2.2.2.2.2.2.2.2.2.2.2.2.2.2.2.2.2.2.2.2.2.2.2.2.2.2.2.2.2.2.2.2.2.2.2.2.1 (Int32.ofInt 0) _ ci_0 (by omega) ex0 ex1 ex2 ex3 ex4 ex5 ex6 (Or.inr ⟨by omega, fun h => by unfold g_nm7 at h; omega⟩) (by omega))
            · refine h_iconst (pc' := 95) (x := (Int32.ofInt 1)) rfl rfl rfl ?_
              refine h_goto (pc' := 99) rfl rfl ?_
              refine h_istore_n (pc' := 100) (M := [(2, .int (Int32.ofInt 1)), (0, .ref 98), (1, .int (Int32.ofInt 7)), (3, .int (Int32.ofInt 1))]) rfl rfl rfl rfl ?_
              refine h_iinc (pc' := 103) (b := 2) (M := fun z25 => [(3, .int z25), (2, .int (Int32.ofInt 1)), (0, .ref 98), (1, .int (Int32.ofInt 7))]) rfl rfl rfl rfl ci_1 ci_1 rfl (by omega) (by omega) (fun _ => rfl) (fun z25 hz25 => ?_)
              refine h_goto (pc' := 51) rfl rfl ?_
              have qz25 : z25 = (Int32.ofInt 2) := h_lit hz25 ci_2
              subst qz25
              exact h_wk [(0, .ref 98), (1, .int (Int32.ofInt 7)), (2, .int (Int32.ofInt 1)), (3, .int (Int32.ofInt 2))] ⟨rfl, rfl, rfl, rfl, trivial⟩ (ih.2.2.2.2.2.2.2.2.2.2.2.2.2.2.2.2.2.2.2.2.2.2.2.2.2.2.2.2.2.2.2.2.2.2.2.2.2.2.2.2.2.2.2.2.2.2.2.2.2.2.2.2.2.2.2.2.2.2.1 (Int32.ofInt 1) _ ci_1 (by omega) ex0 ex1 ex2 ex3 ex4 ex5 ex6 (Or.inl ⟨by omega, by omega, by omega, by omega⟩) (by omega))
    · intro  y2 b2 hy2 ry2 ex0 ex1 ex2 ex3 ex4 ex5 ex6 ex7 hm; have gh0 := tf_98_11 hI; have gh1 := tf_98_15 hI; have gh2 := tf_98_16 hI
      refine h_iload_n (pc' := 52) rfl rfl rfl ?_
      refine h_zeq (tg := 106) (pc' := 55) rfl rfl rfl hy2 (fun c1 => ?_) (fun c1 => ?_)
      · refine h_iload_n (pc' := 107) rfl rfl rfl ?_
        refine h_zeq (tg := 112) (pc' := 110) rfl rfl rfl hy2 (fun c2 => ?_) (fun c2 => absurd c2 (by omega))
        refine h_iinc (pc' := 115) (b := 8) (M := fun z3 => [(1, .int z3), (0, .ref 98), (2, .int y2), (3, .int (Int32.ofInt 2))]) rfl rfl rfl rfl ci_7 ci_1 rfl (by omega) (by omega) (fun _ => rfl) (fun z3 hz3 => ?_)
        refine h_goto (pc' := 2) rfl rfl ?_
        have qz3 : z3 = (Int32.ofInt 8) := h_lit hz3 ci_8
        subst qz3
        exact h_wk [(0, .ref 98), (1, .int (Int32.ofInt 8)), (2, .int y2), (3, .int (Int32.ofInt 2))] ⟨rfl, rfl, rfl, rfl, trivial⟩ (ih.2.2.2.2.2.2.2.2.1 y2 _ hy2 (by omega) (Int32.ofInt 2) _ ci_2 (by omega) ex0 ex1 ex2 ex3 ex4 ex5 ex6 (ex7.elim (fun h => absurd h.1 (by omega)) (fun h => h.2)) (by omega))
      · refine h_iload_n (pc' := 56) rfl rfl rfl ?_
        refine h_aload_n (pc' := 57) rfl rfl rfl ?_
        refine h_getI (pc' := 60) (v := σ 98 15) rfl rfl rfl rfl rfl rfl (fun z4 hz4 => ?_)
        have tz4 := tf_98_15 hI
        refine h_aload_n (pc' := 61) rfl rfl rfl ?_
        refine h_getI (pc' := 64) (v := σ 98 16) rfl rfl rfl rfl rfl rfl (fun z5 hz5 => ?_)
        have tz5 := tf_98_16 hI
        refine h_isub (pc' := 65) rfl rfl hz4 hz5 rfl (by omega) (by omega) (fun z6 hz6 => ?_)
        refine h_cge (tg := 106) (pc' := 68) rfl rfl rfl ci_2 hz6 (fun c7 => ?_) (fun c7 => ?_)
        · refine h_iload_n (pc' := 107) rfl rfl rfl ?_
          refine h_zeq (tg := 112) (pc' := 110) rfl rfl rfl hy2 (fun c8 => absurd c8 (by omega)) (fun c8 => ?_)
          refine h_iload_n (pc' := 111) rfl rfl rfl ?_
          exact h_iret rfl rfl (kk _ _ ci_7 (by omega) (fun _ => (Or.inr (Or.inr (Or.inr (Or.inr (Or.inr (Or.inr (Or.inr (Or.inr ⟨rfl, ex0, ex1, ex2, ex3, ex4, ex5, ex6, ⟨by omega, by omega, by omega, by omega, by omega⟩⟩))))))))) (Or.inl (by omega)))
        · refine h_aload_n (pc' := 69) rfl rfl rfl ?_
          refine h_aload_n (pc' := 70) rfl rfl rfl ?_
          refine h_getI (pc' := 73) (v := σ 98 16) rfl rfl rfl rfl rfl rfl (fun z9 hz9 => ?_)
          have tz9 := tf_98_16 hI
          refine h_iload_n (pc' := 74) rfl rfl rfl ?_
          refine h_iadd (pc' := 75) rfl rfl hz9 ci_2 rfl (by omega) (by omega) (fun z10 hz10 => ?_)
          refine h_call (sp := false) (pc' := 78) (M := [(0, .ref 98), (1, .int z10)]) rfl rfl rfl rfl rfl rfl rfl rfl ?_
          refine h_iload_n (pc' := 1) rfl rfl rfl ?_
          refine h_aload_n (pc' := 2) rfl rfl rfl ?_
          refine h_getI (pc' := 5) (v := σ 98 11) rfl rfl rfl rfl rfl rfl (fun z11 hz11 => ?_)
          have tz11 := tf_98_11 hI
          refine h_cge (tg := 17) (pc' := 8) rfl rfl rfl hz10 hz11 (fun c12 => ?_) (fun c12 => ?_)
          · refine h_bipush (pc' := 19) (x := (Int32.ofInt (-4))) rfl rfl cb_m4 ?_
            refine h_iret rfl rfl (h_Kv ?_)
            refine h_aload_n (pc' := 79) rfl rfl rfl ?_
            refine h_getR (pc' := 82) rfl rfl rfl rfl rfl ?_
            refine h_aload_n (pc' := 83) rfl rfl rfl ?_
            refine h_getR (pc' := 86) rfl rfl rfl rfl rfl ?_
            refine h_iload_n (pc' := 87) rfl rfl rfl ?_
            refine h_iald (pc' := 88) (v := 40) rfl rfl rfl ci_7 (by omega) (by omega) (tx_103_7 hI) (fun z13 hz13 => ?_)
            refine h_iload_n (pc' := 89) rfl rfl rfl ?_
            refine h_iadd (pc' := 90) rfl rfl hz13 ci_2 rfl (by omega) (by omega) (fun z14 hz14 => ?_)
            refine h_iald (pc' := 91) (v := σ 104 (40 + 2)) rfl rfl rfl hz14 (by omega) (by omega) rfl (fun z15 hz15 => ?_)
            have tz15 := ty_104 hI (40 + 2)
            refine h_cne (tg := 98) (pc' := 94) rfl rfl rfl ci_m4 hz15 (fun c16 => ?_) (fun c16 => ?_)
            · refine h_iconst (pc' := 99) (x := (Int32.ofInt 0)) rfl rfl rfl ?_
              refine h_istore_n (pc' := 100) (M := [(2, .int (Int32.ofInt 0)), (0, .ref 98), (1, .int (Int32.ofInt 7)), (3, .int (Int32.ofInt 2))]) rfl rfl rfl rfl ?_
              refine h_iinc (pc' := 103) (b := 3) (M := fun z17 => [(3, .int z17), (2, .int (Int32.ofInt 0)), (0, .ref 98), (1, .int (Int32.ofInt 7))]) rfl rfl rfl rfl ci_2 ci_1 rfl (by omega) (by omega) (fun _ => rfl) (fun z17 hz17 => ?_)
              refine h_goto (pc' := 51) rfl rfl ?_
              have qz17 : z17 = (Int32.ofInt 3) := h_lit hz17 ci_3
              subst qz17
              exact h_wk [(0, .ref 98), (1, .int (Int32.ofInt 7)), (2, .int (Int32.ofInt 0)), (3, .int (Int32.ofInt 3))] ⟨rfl, rfl, rfl, rfl, trivial⟩ (ih.2.2.2.2.2.2.2.2.2.2.2.2.2.2.2.2.2.2.2.2.2.2.2.2.2.2.2.2.2.2.2.2.2.2.2.2.2.2.2.2.2.2.2.2.2.2.2.2.2.2.2.2.2.2.2.2.2.2.2.1 (Int32.ofInt 0) _ ci_0 (by omega) ex0 ex1 ex2 ex3 ex4 ex5 ex6 (Or.inr ⟨by omega, fun h => by unfold g_nm7 at h; omega⟩) (by omega))
            · refine h_iconst (pc' := 95) (x := (Int32.ofInt 1)) rfl rfl rfl ?_
              refine h_goto (pc' := 99) rfl rfl ?_
              refine h_istore_n (pc' := 100) (M := [(2, .int (Int32.ofInt 1)), (0, .ref 98), (1, .int (Int32.ofInt 7)), (3, .int (Int32.ofInt 2))]) rfl rfl rfl rfl ?_
              refine h_iinc (pc' := 103) (b := 3) (M := fun z18 => [(3, .int z18), (2, .int (Int32.ofInt 1)), (0, .ref 98), (1, .int (Int32.ofInt 7))]) rfl rfl rfl rfl ci_2 ci_1 rfl (by omega) (by omega) (fun _ => rfl) (fun z18 hz18 => ?_)
              refine h_goto (pc' := 51) rfl rfl ?_
              have qz18 : z18 = (Int32.ofInt 3) := h_lit hz18 ci_3
              subst qz18
              exact h_wk [(0, .ref 98), (1, .int (Int32.ofInt 7)), (2, .int (Int32.ofInt 1)), (3, .int (Int32.ofInt 3))] ⟨rfl, rfl, rfl, rfl, trivial⟩ (ih.2.2.2.2.2.2.2.2.2.2.2.2.2.2.2.2.2.2.2.2.2.2.2.2.2.2.2.2.2.2.2.2.2.2.2.2.2.2.2.2.2.2.2.2.2.2.2.2.2.2.2.2.2.2.2.2.2.2.2.1 (Int32.ofInt 1) _ ci_1 (by omega) ex0 ex1 ex2 ex3 ex4 ex5 ex6 (Or.inl ⟨by omega, by omega, by omega, by omega, by omega⟩) (by omega))
          · refine h_aload_n (pc' := 9) rfl rfl rfl ?_
            refine h_getR (pc' := 12) rfl rfl rfl rfl rfl ?_
            refine h_iload_n (pc' := 13) rfl rfl rfl ?_
            refine h_iald (pc' := 14) (v := σ 102 ((σ 98 16) + 2)) rfl rfl rfl hz10 (by omega) (by omega) rfl (fun z19 hz19 => ?_)
            have tz19 := ty_102 hI ((σ 98 16) + 2)
            refine h_goto (pc' := 19) rfl rfl ?_
            refine h_iret rfl rfl (h_Kv ?_)
            refine h_aload_n (pc' := 79) rfl rfl rfl ?_
            refine h_getR (pc' := 82) rfl rfl rfl rfl rfl ?_
            refine h_aload_n (pc' := 83) rfl rfl rfl ?_
            refine h_getR (pc' := 86) rfl rfl rfl rfl rfl ?_
            refine h_iload_n (pc' := 87) rfl rfl rfl ?_
            refine h_iald (pc' := 88) (v := 40) rfl rfl rfl ci_7 (by omega) (by omega) (tx_103_7 hI) (fun z20 hz20 => ?_)
            refine h_iload_n (pc' := 89) rfl rfl rfl ?_
            refine h_iadd (pc' := 90) rfl rfl hz20 ci_2 rfl (by omega) (by omega) (fun z21 hz21 => ?_)
            refine h_iald (pc' := 91) (v := σ 104 (40 + 2)) rfl rfl rfl hz21 (by omega) (by omega) rfl (fun z22 hz22 => ?_)
            have tz22 := ty_104 hI (40 + 2)
            refine h_cne (tg := 98) (pc' := 94) rfl rfl rfl hz19 hz22 (fun c23 => ?_) (fun c23 => ?_)
            · refine h_iconst (pc' := 99) (x := (Int32.ofInt 0)) rfl rfl rfl ?_
              refine h_istore_n (pc' := 100) (M := [(2, .int (Int32.ofInt 0)), (0, .ref 98), (1, .int (Int32.ofInt 7)), (3, .int (Int32.ofInt 2))]) rfl rfl rfl rfl ?_
              refine h_iinc (pc' := 103) (b := 3) (M := fun z24 => [(3, .int z24), (2, .int (Int32.ofInt 0)), (0, .ref 98), (1, .int (Int32.ofInt 7))]) rfl rfl rfl rfl ci_2 ci_1 rfl (by omega) (by omega) (fun _ => rfl) (fun z24 hz24 => ?_)
              refine h_goto (pc' := 51) rfl rfl ?_
              have qz24 : z24 = (Int32.ofInt 3) := h_lit hz24 ci_3
              subst qz24
              exact h_wk [(0, .ref 98), (1, .int (Int32.ofInt 7)), (2, .int (Int32.ofInt 0)), (3, .int (Int32.ofInt 3))] ⟨rfl, rfl, rfl, rfl, trivial⟩ (ih.2.2.2.2.2.2.2.2.2.2.2.2.2.2.2.2.2.2.2.2.2.2.2.2.2.2.2.2.2.2.2.2.2.2.2.2.2.2.2.2.2.2.2.2.2.2.2.2.2.2.2.2.2.2.2.2.2.2.2.1 (Int32.ofInt 0) _ ci_0 (by omega) ex0 ex1 ex2 ex3 ex4 ex5 ex6 (Or.inr ⟨by omega, fun h => by unfold g_nm7 at h; omega⟩) (by omega))
            · refine h_iconst (pc' := 95) (x := (Int32.ofInt 1)) rfl rfl rfl ?_
              refine h_goto (pc' := 99) rfl rfl ?_
              refine h_istore_n (pc' := 100) (M := [(2, .int (Int32.ofInt 1)), (0, .ref 98), (1, .int (Int32.ofInt 7)), (3, .int (Int32.ofInt 2))]) rfl rfl rfl rfl ?_
              refine h_iinc (pc' := 103) (b := 3) (M := fun z25 => [(3, .int z25), (2, .int (Int32.ofInt 1)), (0, .ref 98), (1, .int (Int32.ofInt 7))]) rfl rfl rfl rfl ci_2 ci_1 rfl (by omega) (by omega) (fun _ => rfl) (fun z25 hz25 => ?_)
              refine h_goto (pc' := 51) rfl rfl ?_
              have qz25 : z25 = (Int32.ofInt 3) := h_lit hz25 ci_3
              subst qz25
              exact h_wk [(0, .ref 98), (1, .int (Int32.ofInt 7)), (2, .int (Int32.ofInt 1)), (3, .int (Int32.ofInt 3))] ⟨rfl, rfl, rfl, rfl, trivial⟩ (ih.2.2.2.2.2.2.2.2.2.2.2.2.2.2.2.2.2.2.2.2.2.2.2.2.2.2.2.2.2.2.2.2.2.2.2.2.2.2.2.2.2.2.2.2.2.2.2.2.2.2.2.2.2.2.2.2.2.2.2.1 (Int32.ofInt 1) _ ci_1 (by omega) ex0 ex1 ex2 ex3 ex4 ex5 ex6 (Or.inl ⟨by omega, by omega, by omega, by omega, by omega⟩) (by omega))
    · intro  y2 b2 hy2 ry2 ex0 ex1 ex2 ex3 ex4 ex5 ex6 ex7 hm; have gh0 := tf_98_11 hI; have gh1 := tf_98_15 hI; have gh2 := tf_98_16 hI
      refine h_iload_n (pc' := 52) rfl rfl rfl ?_
      refine h_zeq (tg := 106) (pc' := 55) rfl rfl rfl hy2 (fun c1 => ?_) (fun c1 => ?_)
      · refine h_iload_n (pc' := 107) rfl rfl rfl ?_
        refine h_zeq (tg := 112) (pc' := 110) rfl rfl rfl hy2 (fun c2 => ?_) (fun c2 => absurd c2 (by omega))
        refine h_iinc (pc' := 115) (b := 8) (M := fun z3 => [(1, .int z3), (0, .ref 98), (2, .int y2), (3, .int (Int32.ofInt 3))]) rfl rfl rfl rfl ci_7 ci_1 rfl (by omega) (by omega) (fun _ => rfl) (fun z3 hz3 => ?_)
        refine h_goto (pc' := 2) rfl rfl ?_
        have qz3 : z3 = (Int32.ofInt 8) := h_lit hz3 ci_8
        subst qz3
        exact h_wk [(0, .ref 98), (1, .int (Int32.ofInt 8)), (2, .int y2), (3, .int (Int32.ofInt 3))] ⟨rfl, rfl, rfl, rfl, trivial⟩ (ih.2.2.2.2.2.2.2.2.1 y2 _ hy2 (by omega) (Int32.ofInt 3) _ ci_3 (by omega) ex0 ex1 ex2 ex3 ex4 ex5 ex6 (ex7.elim (fun h => absurd h.1 (by omega)) (fun h => h.2)) (by omega))
      · refine h_iload_n (pc' := 56) rfl rfl rfl ?_
        refine h_aload_n (pc' := 57) rfl rfl rfl ?_
        refine h_getI (pc' := 60) (v := σ 98 15) rfl rfl rfl rfl rfl rfl (fun z4 hz4 => ?_)
        have tz4 := tf_98_15 hI
        refine h_aload_n (pc' := 61) rfl rfl rfl ?_
        refine h_getI (pc' := 64) (v := σ 98 16) rfl rfl rfl rfl rfl rfl (fun z5 hz5 => ?_)
        have tz5 := tf_98_16 hI
        refine h_isub (pc' := 65) rfl rfl hz4 hz5 rfl (by omega) (by omega) (fun z6 hz6 => ?_)
        refine h_cge (tg := 106) (pc' := 68) rfl rfl rfl ci_3 hz6 (fun c7 => ?_) (fun c7 => ?_)
        · refine h_iload_n (pc' := 107) rfl rfl rfl ?_
          refine h_zeq (tg := 112) (pc' := 110) rfl rfl rfl hy2 (fun c8 => absurd c8 (by omega)) (fun c8 => ?_)
          refine h_iload_n (pc' := 111) rfl rfl rfl ?_
          exact h_iret rfl rfl (kk _ _ ci_7 (by omega) (fun _ => (Or.inr (Or.inr (Or.inr (Or.inr (Or.inr (Or.inr (Or.inr (Or.inr ⟨rfl, ex0, ex1, ex2, ex3, ex4, ex5, ex6, ⟨by omega, by omega, by omega, by omega, by omega⟩⟩))))))))) (Or.inl (by omega)))
        · refine h_aload_n (pc' := 69) rfl rfl rfl ?_
          refine h_aload_n (pc' := 70) rfl rfl rfl ?_
          refine h_getI (pc' := 73) (v := σ 98 16) rfl rfl rfl rfl rfl rfl (fun z9 hz9 => ?_)
          have tz9 := tf_98_16 hI
          refine h_iload_n (pc' := 74) rfl rfl rfl ?_
          refine h_iadd (pc' := 75) rfl rfl hz9 ci_3 rfl (by omega) (by omega) (fun z10 hz10 => ?_)
          refine h_call (sp := false) (pc' := 78) (M := [(0, .ref 98), (1, .int z10)]) rfl rfl rfl rfl rfl rfl rfl rfl ?_
          refine h_iload_n (pc' := 1) rfl rfl rfl ?_
          refine h_aload_n (pc' := 2) rfl rfl rfl ?_
          refine h_getI (pc' := 5) (v := σ 98 11) rfl rfl rfl rfl rfl rfl (fun z11 hz11 => ?_)
          have tz11 := tf_98_11 hI
          refine h_cge (tg := 17) (pc' := 8) rfl rfl rfl hz10 hz11 (fun c12 => ?_) (fun c12 => ?_)
          · refine h_bipush (pc' := 19) (x := (Int32.ofInt (-4))) rfl rfl cb_m4 ?_
            refine h_iret rfl rfl (h_Kv ?_)
            refine h_aload_n (pc' := 79) rfl rfl rfl ?_
            refine h_getR (pc' := 82) rfl rfl rfl rfl rfl ?_
            refine h_aload_n (pc' := 83) rfl rfl rfl ?_
            refine h_getR (pc' := 86) rfl rfl rfl rfl rfl ?_
            refine h_iload_n (pc' := 87) rfl rfl rfl ?_
            refine h_iald (pc' := 88) (v := 40) rfl rfl rfl ci_7 (by omega) (by omega) (tx_103_7 hI) (fun z13 hz13 => ?_)
            refine h_iload_n (pc' := 89) rfl rfl rfl ?_
            refine h_iadd (pc' := 90) rfl rfl hz13 ci_3 rfl (by omega) (by omega) (fun z14 hz14 => ?_)
            refine h_iald (pc' := 91) (v := σ 104 (40 + 3)) rfl rfl rfl hz14 (by omega) (by omega) rfl (fun z15 hz15 => ?_)
            have tz15 := ty_104 hI (40 + 3)
            refine h_cne (tg := 98) (pc' := 94) rfl rfl rfl ci_m4 hz15 (fun c16 => ?_) (fun c16 => ?_)
            · refine h_iconst (pc' := 99) (x := (Int32.ofInt 0)) rfl rfl rfl ?_
              refine h_istore_n (pc' := 100) (M := [(2, .int (Int32.ofInt 0)), (0, .ref 98), (1, .int (Int32.ofInt 7)), (3, .int (Int32.ofInt 3))]) rfl rfl rfl rfl ?_
              refine h_iinc (pc' := 103) (b := 4) (M := fun z17 => [(3, .int z17), (2, .int (Int32.ofInt 0)), (0, .ref 98), (1, .int (Int32.ofInt 7))]) rfl rfl rfl rfl ci_3 ci_1 rfl (by omega) (by omega) (fun _ => rfl) (fun z17 hz17 => ?_)
              refine h_goto (pc' := 51) rfl rfl ?_
              have qz17 : z17 = (Int32.ofInt 4) := h_lit hz17 ci_4
              subst qz17
              exact h_wk [(0, .ref 98), (1, .int (Int32.ofInt 7)), (2, .int (Int32.ofInt 0)), (3, .int (Int32.ofInt 4))] ⟨rfl, rfl, rfl, rfl, trivial⟩ (ih.2.2.2.2.2.2.2.2.2.2.2.2.2.2.2.2.2.2.2.2.2.2.2.2.2.2.2.2.2.2.2.2.2.2.2.2.2.2.2.2.2.2.2.2.2.2.2.2.2.2.2.2.2.2.2.2.2.2.2.2 (Int32.ofInt 0) _ ci_0 (by omega) ex0 ex1 ex2 ex3 ex4 ex5 ex6 (Or.inr ⟨by omega, fun h => by unfold g_nm7 at h; omega⟩) (by omega))
            · refine h_iconst (pc' := 95) (x := (Int32.ofInt 1)) rfl rfl rfl ?_
              refine h_goto (pc' := 99) rfl rfl ?_
              refine h_istore_n (pc' := 100) (M := [(2, .int (Int32.ofInt 1)), (0, .ref 98), (1, .int (Int32.ofInt 7)), (3, .int (Int32.ofInt 3))]) rfl rfl rfl rfl ?_
              refine h_iinc (pc' := 103) (b := 4) (M := fun z18 => [(3, .int z18), (2, .int (Int32.ofInt 1)), (0, .ref 98), (1, .int (Int32.ofInt 7))]) rfl rfl rfl rfl ci_3 ci_1 rfl (by omega) (by omega) (fun _ => rfl) (fun z18 hz18 => ?_)
              refine h_goto (pc' := 51) rfl rfl ?_
              have qz18 : z18 = (Int32.ofInt 4) := h_lit hz18 ci_4
              subst qz18
              exact h_wk [(0, .ref 98), (1, .int (Int32.ofInt 7)), (2, .int (Int32.ofInt 1)), (3, .int (Int32.ofInt 4))] ⟨rfl, rfl, rfl, rfl, trivial⟩ (ih.2.2.2.2.2.2.2.2.2.2.2.2.2.2.2.2.2.2.2.2.2.2.2.2.2.2.2.2.2.2.2.2.2.2.2.2.2.2.2.2.2.2.2.2.2.2.2.2.2.2.2.2.2.2.2.2.2.2.2.2 (Int32.ofInt 1) _ ci_1 (by omega) ex0 ex1 ex2 ex3 ex4 ex5 ex6 (Or.inl ⟨by omega, by omega, by omega, by omega, by omega, by omega⟩) (by omega))
          · refine h_aload_n (pc' := 9) rfl rfl rfl ?_
            refine h_getR (pc' := 12) rfl rfl rfl rfl rfl ?_
            refine h_iload_n (pc' := 13) rfl rfl rfl ?_
            refine h_iald (pc' := 14) (v := σ 102 ((σ 98 16) + 3)) rfl rfl rfl hz10 (by omega) (by omega) rfl (fun z19 hz19 => ?_)
            have tz19 := ty_102 hI ((σ 98 16) + 3)
            refine h_goto (pc' := 19) rfl rfl ?_
            refine h_iret rfl rfl (h_Kv ?_)
            refine h_aload_n (pc' := 79) rfl rfl rfl ?_
            refine h_getR (pc' := 82) rfl rfl rfl rfl rfl ?_
            refine h_aload_n (pc' := 83) rfl rfl rfl ?_
            refine h_getR (pc' := 86) rfl rfl rfl rfl rfl ?_
            refine h_iload_n (pc' := 87) rfl rfl rfl ?_
            refine h_iald (pc' := 88) (v := 40) rfl rfl rfl ci_7 (by omega) (by omega) (tx_103_7 hI) (fun z20 hz20 => ?_)
            refine h_iload_n (pc' := 89) rfl rfl rfl ?_
            refine h_iadd (pc' := 90) rfl rfl hz20 ci_3 rfl (by omega) (by omega) (fun z21 hz21 => ?_)
            refine h_iald (pc' := 91) (v := σ 104 (40 + 3)) rfl rfl rfl hz21 (by omega) (by omega) rfl (fun z22 hz22 => ?_)
            have tz22 := ty_104 hI (40 + 3)
            refine h_cne (tg := 98) (pc' := 94) rfl rfl rfl hz19 hz22 (fun c23 => ?_) (fun c23 => ?_)
            · refine h_iconst (pc' := 99) (x := (Int32.ofInt 0)) rfl rfl rfl ?_
              refine h_istore_n (pc' := 100) (M := [(2, .int (Int32.ofInt 0)), (0, .ref 98), (1, .int (Int32.ofInt 7)), (3, .int (Int32.ofInt 3))]) rfl rfl rfl rfl ?_
              refine h_iinc (pc' := 103) (b := 4) (M := fun z24 => [(3, .int z24), (2, .int (Int32.ofInt 0)), (0, .ref 98), (1, .int (Int32.ofInt 7))]) rfl rfl rfl rfl ci_3 ci_1 rfl (by omega) (by omega) (fun _ => rfl) (fun z24 hz24 => ?_)
              refine h_goto (pc' := 51) rfl rfl ?_
              have qz24 : z24 = (Int32.ofInt 4) := h_lit hz24 ci_4
              subst qz24
              exact h_wk [(0, .ref 98), (1, .int (Int32.ofInt 7)), (2, .int (Int32.ofInt 0)), (3, .int (Int32.ofInt 4))] ⟨rfl, rfl, rfl, rfl, trivial⟩ (ih.2.2.2.2.2.2.2.2.2.2.2.2.2.2.2.2.2.2.2.2.2.2.2.2.2.2.2.2.2.2.2.2.2.2.2.2.2.2.2.2.2.2.2.2.2.2.2.2.2.2.2.2.2.2.2.2.2.2.2.2 (Int32.ofInt 0) _ ci_0 (by omega) ex0 ex1 ex2 ex3 ex4 ex5 ex6 (Or.inr ⟨by omega, fun h => by unfold g_nm7 at h; omega⟩) (by omega))
            · refine h_iconst (pc' := 95) (x := (Int32.ofInt 1)) rfl rfl rfl ?_
              refine h_goto (pc' := 99) rfl rfl ?_
              refine h_istore_n (pc' := 100) (M := [(2, .int (Int32.ofInt 1)), (0, .ref 98), (1, .int (Int32.ofInt 7)), (3, .int (Int32.ofInt 3))]) rfl rfl rfl rfl ?_
              refine h_iinc (pc' := 103) (b := 4) (M := fun z25 => [(3, .int z25), (2, .int (Int32.ofInt 1)), (0, .ref 98), (1, .int (Int32.ofInt 7))]) rfl rfl rfl rfl ci_3 ci_1 rfl (by omega) (by omega) (fun _ => rfl) (fun z25 hz25 => ?_)
              refine h_goto (pc' := 51) rfl rfl ?_
              have qz25 : z25 = (Int32.ofInt 4) := h_lit hz25 ci_4
              subst qz25
              exact h_wk [(0, .ref 98), (1, .int (Int32.ofInt 7)), (2, .int (Int32.ofInt 1)), (3, .int (Int32.ofInt 4))] ⟨rfl, rfl, rfl, rfl, trivial⟩ (ih.2.2.2.2.2.2.2.2.2.2.2.2.2.2.2.2.2.2.2.2.2.2.2.2.2.2.2.2.2.2.2.2.2.2.2.2.2.2.2.2.2.2.2.2.2.2.2.2.2.2.2.2.2.2.2.2.2.2.2.2 (Int32.ofInt 1) _ ci_1 (by omega) ex0 ex1 ex2 ex3 ex4 ex5 ex6 (Or.inl ⟨by omega, by omega, by omega, by omega, by omega, by omega⟩) (by omega))
    · intro  y2 b2 hy2 ry2 ex0 ex1 ex2 ex3 ex4 ex5 ex6 ex7 hm; have gh0 := tf_98_11 hI; have gh1 := tf_98_15 hI; have gh2 := tf_98_16 hI
      refine h_iload_n (pc' := 52) rfl rfl rfl ?_
      refine h_zeq (tg := 106) (pc' := 55) rfl rfl rfl hy2 (fun c1 => ?_) (fun c1 => ?_)
      · refine h_iload_n (pc' := 107) rfl rfl rfl ?_
        refine h_zeq (tg := 112) (pc' := 110) rfl rfl rfl hy2 (fun c2 => ?_) (fun c2 => absurd c2 (by omega))
        refine h_iinc (pc' := 115) (b := 8) (M := fun z3 => [(1, .int z3), (0, .ref 98), (2, .int y2), (3, .int (Int32.ofInt 4))]) rfl rfl rfl rfl ci_7 ci_1 rfl (by omega) (by omega) (fun _ => rfl) (fun z3 hz3 => ?_)
        refine h_goto (pc' := 2) rfl rfl ?_
        have qz3 : z3 = (Int32.ofInt 8) := h_lit hz3 ci_8
        subst qz3
        exact h_wk [(0, .ref 98), (1, .int (Int32.ofInt 8)), (2, .int y2), (3, .int (Int32.ofInt 4))] ⟨rfl, rfl, rfl, rfl, trivial⟩ (ih.2.2.2.2.2.2.2.2.1 y2 _ hy2 (by omega) (Int32.ofInt 4) _ ci_4 (by omega) ex0 ex1 ex2 ex3 ex4 ex5 ex6 (ex7.elim (fun h => absurd h.1 (by omega)) (fun h => h.2)) (by omega))
      · refine h_iload_n (pc' := 56) rfl rfl rfl ?_
        refine h_aload_n (pc' := 57) rfl rfl rfl ?_
        refine h_getI (pc' := 60) (v := σ 98 15) rfl rfl rfl rfl rfl rfl (fun z4 hz4 => ?_)
        have tz4 := tf_98_15 hI
        refine h_aload_n (pc' := 61) rfl rfl rfl ?_
        refine h_getI (pc' := 64) (v := σ 98 16) rfl rfl rfl rfl rfl rfl (fun z5 hz5 => ?_)
        have tz5 := tf_98_16 hI
        refine h_isub (pc' := 65) rfl rfl hz4 hz5 rfl (by omega) (by omega) (fun z6 hz6 => ?_)
        refine h_cge (tg := 106) (pc' := 68) rfl rfl rfl ci_4 hz6 (fun c7 => ?_) (fun c7 => ?_)
        · refine h_iload_n (pc' := 107) rfl rfl rfl ?_
          refine h_zeq (tg := 112) (pc' := 110) rfl rfl rfl hy2 (fun c8 => absurd c8 (by omega)) (fun c8 => ?_)
          refine h_iload_n (pc' := 111) rfl rfl rfl ?_
          exact h_iret rfl rfl (kk _ _ ci_7 (by omega) (fun _ => (Or.inr (Or.inr (Or.inr (Or.inr (Or.inr (Or.inr (Or.inr (Or.inr ⟨rfl, ex0, ex1, ex2, ex3, ex4, ex5, ex6, ⟨by omega, by omega, by omega, by omega, by omega⟩⟩))))))))) (Or.inl (by omega)))
        · exfalso; omega
theorem n_nameHere {ns : Nat} (σ : h_S) (hI : h_I σ) (pr0 : σ 98 15 ≤ σ 98 11) (pr1 : σ 98 16 ≤ σ 98 15) {Q : Option Value → h_S → Prop} (kk : ∀ (r : Int32) (b : Int) (hb : r.toInt = b), ((-4) ≤ b ∧ b ≤ 7) → (σ 98 17 = 1 → g_fst (σ 102) (σ 98 16) (σ 98 15 - σ 98 16) b) → (σ 98 17 = 1 ∨ b = -4) → Q (some (.int r)) σ) : h_T g_P (g_Y ns) 147 0 [(0, .ref 98)] [] σ Q := by
  have ge0 := tf_98_11 hI
  have ge1 := tf_98_15 hI
  have ge2 := tf_98_16 hI
  refine h_iconst (pc' := 1) (x := (Int32.ofInt 0)) rfl rfl rfl ?_
  refine h_istore_n (pc' := 2) (M := [(1, .int (Int32.ofInt 0)), (0, .ref 98)]) rfl rfl rfl rfl ?_
  exact h_wk [(0, .ref 98), (1, .int (Int32.ofInt 0))] ⟨rfl, rfl, trivial⟩ ((n_nameHere_l ns σ hI pr0 pr1 kk 1000000000000).1  (by omega))
theorem g_word {s t : h_S} {b b' : Int} (hTL : d_tape s t) (h0 : 0 ≤ s 64 4) (h1 : s 64 4 = t 98 16) (h2 : s 64 2 = t 98 15) (h3 : s 64 2 ≤ s 64 1) (hx : g_fst (s 65) (s 64 4) (s 64 2 - s 64 4) b) (hm : g_fst (t 102) (t 98 16) (t 98 15 - t 98 16) b') : b = b' := by
  rw [← h1, ← h2] at hm
  exact g_fst_uni (fun i a c => hTL.1 i (by omega) (by omega)) hx hm
