/-! THE WAYS OF A BRANCH, BY SETS -/
section BW
variable {n : Nat} {ρ : Nat → Int32} {E : b_E}
def b_iff (E : b_E) (c : ClassFile.Cond) (a b : b_V) : Option (List (b_E × Bool)) := match b_st E a, b_st E b with
  | some I, some J => some ((b_way E c a b I J true).toList.map (fun e => (e, true)) ++ (b_way E c a b I J false).toList.map (fun e => (e, false)))
  | _, _ => none
theorem b_iff_ok (hE : b_ok ρ E) {c : ClassFile.Cond} {a b : b_V} {v w : Value} {l : List (b_E × Bool)} (ha : b_rv n ρ a v) (hb : b_rv n ρ b w) (h : b_iff E c a b = some l) : ∃ x y : Int32, v = .int x ∧ w = .int y ∧ ∃ q ∈ l, b_ok ρ q.1 ∧ q.1.length = E.length ∧ e_c2 c x y = q.2 := by
  unfold b_iff at h
  split at h
  · next I J hI hJ =>
    cases h
    obtain ⟨x, rfl, hx⟩ := b_st_ok hE ha hI
    obtain ⟨y, rfl, hy⟩ := b_st_ok hE hb hJ
    refine ⟨x, y, rfl, rfl, ?_⟩
    cases ht : e_c2 c x y with
    | true =>
      obtain ⟨E', h1, h2, h3⟩ := b_way_ok hE ha hb hx hy ht
      exact ⟨(E', true), List.mem_append_left _ (by rw [h1]; simp), h2, h3, rfl⟩
    | false =>
      obtain ⟨E', h1, h2, h3⟩ := b_way_ok hE ha hb hx hy ht
      exact ⟨(E', false), List.mem_append_right _ (by rw [h1]; simp), h2, h3, rfl⟩
  · cases h
abbrev b_Fr : Type := Nat × Nat × List (Nat × b_V) × List b_V
abbrev b_S : Type := b_E × b_O × b_Fr × List b_Fr
def b_rf (n : Nat) (ρ : Nat → Int32) (f : b_Fr) (g : e_Fr) : Prop := f.1 = g.1 ∧ f.2.1 = g.2.1 ∧ a_l2 (b_rq n ρ) f.2.2.1 g.2.2.1 ∧ a_l2 (b_rv n ρ) f.2.2.2 g.2.2.2
theorem b_rf.ext {n n' : Nat} {ρ ρ' : Nat → Int32} (h : b_ext n ρ n' ρ') {f : b_Fr} {g : e_Fr} (hf : b_rf n ρ f g) : b_rf n' ρ' f g := ⟨hf.1, hf.2.1, a_l2_mono (fun a b hab => ⟨hab.1, h _ _ hab.2⟩) hf.2.2.1, a_l2_mono (fun a b hab => h _ _ hab) hf.2.2.2⟩
/-- a state by sets, and what it is of; mem0: the cells at the beginning, whose protected places stay -/
def b_RS (M : List b_Y) (pr : List (Nat × Nat)) (mem0 : List e_C) (ρ : Nat → Int32) (S : b_S) (C : e_Cf) : Prop := b_ok ρ S.1 ∧ b_mem M C.1 ∧ b_ov S.1.length ρ S.2.1 C.1 ∧ b_rf S.1.length ρ S.2.2.1 C.2.1 ∧ a_l2 (b_rf S.1.length ρ) S.2.2.2 C.2.2 ∧ ∀ p ∈ pr, e_pl C.1 p.1 p.2 = e_pl mem0 p.1 p.2
/-- a step of b_Ok goes on to a state -/
theorem b_Ok.on {M : List b_Y} {pr : List (Nat × Nat)} {mem0 mem : List e_C} {G : b_G} {k : Nat} {x : Option e_F} {gs : List b_Fr} {gs' : List e_Fr} (h : b_Ok M pr ρ E mem G x) (hg : a_l2 (b_rf E.length ρ) gs gs') (hp : ∀ p ∈ pr, e_pl mem p.1 p.2 = e_pl mem0 p.1 p.2) : ∃ (ρ' : Nat → Int32) (C : e_Cf), e_nxg k gs' x = some C ∧ b_RS M pr mem0 ρ' (G.1, G.2.1, (k, G.2.2.1, G.2.2.2.1, G.2.2.2.2), gs) C := by
  obtain ⟨ρ', lw, st, mem2, rfl, h1, h2, h3, h4, h5, h6, h7⟩ := h
  exact ⟨ρ', _, rfl, h1, h3, h4, ⟨rfl, rfl, h5, h6⟩, a_l2_mono (fun a b hab => hab.ext h2) hg, fun p hp' => (h7 p hp').trans (hp p hp')⟩
end BW
