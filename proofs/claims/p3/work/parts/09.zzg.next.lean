/-! THE NEXT STATES BY SETS (no return, no switch yet) -/
section BN
variable {ρ : Nat → Int32} {E : b_E}
def b_gon (k : Nat) (gs : List b_Fr) (x : Option b_G) : Option (List b_S) := match x with
  | some G => some [(G.1, G.2.1, (k, G.2.2.1, G.2.2.2.1, G.2.2.2.2), gs)]
  | none => none
def b_clg (E : b_E) (O : b_O) (gs : List b_Fr) (x : Option (b_Fr × b_Fr)) : Option (List b_S) := match x with
  | some F => some [(E, O, F.1, F.2 :: gs)]
  | none => none
def b_ifs (O : b_O) (k pc : Nat) (o : Int) (lv : List (Nat × b_V)) (r : List b_V) (gs : List b_Fr) (x : Option (List (b_E × Bool))) : Option (List b_S) := match x, e_tgt pc o with
  | some l, some t => some (l.map (fun q => (q.1, O, (k, (bif q.2 then t else pc + 3), lv, r), gs)))
  | _, _ => none
theorem b_ifs_ok {M : List b_Y} {pr : List (Nat × Nat)} {mem0 mem : List e_C} {O : b_O} {k pc : Nat} {o : Int} {lv : List (Nat × b_V)} {lw : List (Nat × Value)} {r : List b_V} {r' : List Value} {gs : List b_Fr} {gs' : List e_Fr} {x : Option (List (b_E × Bool))} {b : Bool} {L : List b_S} (hM : b_mem M mem) (hO : b_ov E.length ρ O mem) (hl : a_l2 (b_rq E.length ρ) lv lw) (hs : a_l2 (b_rv E.length ρ) r r') (hg : a_l2 (b_rf E.length ρ) gs gs') (hp : ∀ p ∈ pr, e_pl mem p.1 p.2 = e_pl mem0 p.1 p.2)
    (hx : ∀ l, x = some l → ∃ q ∈ l, b_ok ρ q.1 ∧ q.1.length = E.length ∧ b = q.2) (h : b_ifs O k pc o lv r gs x = some L) : ∃ C : e_Cf, e_nxg k gs' (e_if b pc o lw r' mem) = some C ∧ ∃ S ∈ L, b_RS M pr mem0 ρ S C := by
  unfold b_ifs at h
  split at h
  · next l t ht =>
    cases h
    obtain ⟨q, hq, h1, h2, rfl⟩ := hx l rfl
    unfold e_if
    rw [ht]
    rw [← h2] at hO hl hs hg
    cases hq2 : q.2 with
    | true => exact ⟨_, rfl, _, List.mem_map.mpr ⟨q, hq, rfl⟩, h1, hM, hO, ⟨rfl, by rw [hq2]; rfl, hl, hs⟩, hg, hp⟩
    | false => exact ⟨_, rfl, _, List.mem_map.mpr ⟨q, hq, rfl⟩, h1, hM, hO, ⟨rfl, by rw [hq2]; rfl, hl, hs⟩, hg, hp⟩
  · cases h
theorem b_gon_ok {M : List b_Y} {pr : List (Nat × Nat)} {mem0 mem : List e_C} {k : Nat} {gs : List b_Fr} {gs' : List e_Fr} {x : Option b_G} {y : Option e_F} {L : List b_S} (hg : a_l2 (b_rf E.length ρ) gs gs') (hp : ∀ p ∈ pr, e_pl mem p.1 p.2 = e_pl mem0 p.1 p.2) (hx : ∀ G, x = some G → b_Ok M pr ρ E mem G y) (h : b_gon k gs x = some L) : ∃ C : e_Cf, e_nxg k gs' y = some C ∧ ∃ S ∈ L, ∃ ρ', b_RS M pr mem0 ρ' S C := by
  unfold b_gon at h
  split at h
  · next G =>
    cases h
    obtain ⟨ρ', C, h1, h2⟩ := (hx G rfl).on (k := k) hg hp
    exact ⟨C, h1, _, List.mem_singleton.mpr rfl, ρ', h2⟩
  · cases h
end BN
