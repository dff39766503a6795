section HP
variable {P : e_Pg} {Y : h_L} {k pc pc' : Nat} {L : List (Nat × Value)} {st : List Value} {σ : h_S} {Q : Option Value → h_S → Prop}
theorem h_pop2 {v : Value} (hc : e_code P k pc = some (.pop2, 1)) (hp : pc + 1 = pc') (hv : (v.category == 2) = true) (kk : h_T P Y k pc' L st σ Q) : h_T P Y k pc L (v :: st) σ Q :=
  h_pure hc rfl rfl (fun lv mem hl => by subst hp; simp only [e_step, e_pop2, hv, cond_true]) kk
end HP
