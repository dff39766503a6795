/-! FIELDS, CLASSES, CONSTANTS -/
def g_gfE (c : Nat) (q : Nat × Nat × Nat × FieldType × Bool) : Prop := ∃ (C : String) (T : u_T) (N : Nat), g_C[q.2.1]? = some (C, T, N) ∧ q.2.2.1 < N ∧ Cond.fieldLink (g_cn c) q.1 (T q.2.2.1).1 (T q.2.2.1).2.1 (T q.2.2.1).2.2.1 ∈ g_Ts ∧ parseFieldDescriptor (T q.2.2.1).2.2.1 = some q.2.2.2.1 ∧ (T q.2.2.1).2.2.2 = q.2.2.2.2 ∧ (T q.2.2.1).1 = g_cn q.2.1
theorem g_f0 : ∀ q ∈ g_fl 0, g_gfE 0 q := List.forall_mem_cons.mpr ⟨⟨_, _, _, rfl, by decide, g_in 128 (by decide +kernel) rfl, by decide +kernel, rfl, rfl⟩, List.forall_mem_cons.mpr ⟨⟨_, _, _, rfl, by decide, g_in 131 (by decide +kernel) rfl, by decide +kernel, rfl, rfl⟩, List.forall_mem_cons.mpr ⟨⟨_, _, _, rfl, by decide, g_in 134 (by decide +kernel) rfl, by decide +kernel, rfl, rfl⟩, List.forall_mem_cons.mpr ⟨⟨_, _, _, rfl, by decide, g_in 138 (by decide +kernel) rfl, by decide +kernel, rfl, rfl⟩, List.forall_mem_cons.mpr ⟨⟨_, _, _, rfl, by decide, g_in 142 (by decide +kernel) rfl, by decide +kernel, rfl, rfl⟩, List.forall_mem_cons.mpr ⟨⟨_, _, _, rfl, by decide, g_in 146 (by decide +kernel) rfl, by decide +kernel, rfl, rfl⟩, List.forall_mem_cons.mpr ⟨⟨_, _, _, rfl, by decide, g_in 150 (by decide +kernel) rfl, by decide +kernel, rfl, rfl⟩, List.forall_mem_cons.mpr ⟨⟨_, _, _, rfl, by decide, g_in 152 (by decide +kernel) rfl, by decide +kernel, rfl, rfl⟩, List.forall_mem_cons.mpr ⟨⟨_, _, _, rfl, by decide, g_in 155 (by decide +kernel) rfl, by decide +kernel, rfl, rfl⟩, List.forall_mem_cons.mpr ⟨⟨_, _, _, rfl, by decide, g_in 117 (by decide +kernel) rfl, by decide +kernel, rfl, rfl⟩, List.forall_mem_cons.mpr ⟨⟨_, _, _, rfl, by decide, g_in 161 (by decide +kernel) rfl, by decide +kernel, rfl, rfl⟩, List.forall_mem_cons.mpr ⟨⟨_, _, _, rfl, by decide, g_in 164 (by decide +kernel) rfl, by decide +kernel, rfl, rfl⟩, fun _ h => absurd h List.not_mem_nil⟩⟩⟩⟩⟩⟩⟩⟩⟩⟩⟩⟩
theorem g_f1 : ∀ q ∈ g_fl 1, g_gfE 1 q := List.forall_mem_cons.mpr ⟨⟨_, _, _, rfl, by decide, g_in 276 (by decide +kernel) rfl, by decide +kernel, rfl, rfl⟩, List.forall_mem_cons.mpr ⟨⟨_, _, _, rfl, by decide, g_in 277 (by decide +kernel) rfl, by decide +kernel, rfl, rfl⟩, List.forall_mem_cons.mpr ⟨⟨_, _, _, rfl, by decide, g_in 160 (by decide +kernel) rfl, by decide +kernel, rfl, rfl⟩, List.forall_mem_cons.mpr ⟨⟨_, _, _, rfl, by decide, g_in 144 (by decide +kernel) rfl, by decide +kernel, rfl, rfl⟩, List.forall_mem_cons.mpr ⟨⟨_, _, _, rfl, by decide, g_in 279 (by decide +kernel) rfl, by decide +kernel, rfl, rfl⟩, List.forall_mem_cons.mpr ⟨⟨_, _, _, rfl, by decide, g_in 148 (by decide +kernel) rfl, by decide +kernel, rfl, rfl⟩, List.forall_mem_cons.mpr ⟨⟨_, _, _, rfl, by decide, g_in 165 (by decide +kernel) rfl, by decide +kernel, rfl, rfl⟩, List.forall_mem_cons.mpr ⟨⟨_, _, _, rfl, by decide, g_in 153 (by decide +kernel) rfl, by decide +kernel, rfl, rfl⟩, fun _ h => absurd h List.not_mem_nil⟩⟩⟩⟩⟩⟩⟩⟩
theorem g_f2 : ∀ q ∈ g_fl 2, g_gfE 2 q := List.forall_mem_cons.mpr ⟨⟨_, _, _, rfl, by decide, g_in 260 (by decide +kernel) rfl, by decide +kernel, rfl, rfl⟩, List.forall_mem_cons.mpr ⟨⟨_, _, _, rfl, by decide, g_in 261 (by decide +kernel) rfl, by decide +kernel, rfl, rfl⟩, List.forall_mem_cons.mpr ⟨⟨_, _, _, rfl, by decide, g_in 156 (by decide +kernel) rfl, by decide +kernel, rfl, rfl⟩, List.forall_mem_cons.mpr ⟨⟨_, _, _, rfl, by decide, g_in 262 (by decide +kernel) rfl, by decide +kernel, rfl, rfl⟩, List.forall_mem_cons.mpr ⟨⟨_, _, _, rfl, by decide, g_in 132 (by decide +kernel) rfl, by decide +kernel, rfl, rfl⟩, List.forall_mem_cons.mpr ⟨⟨_, _, _, rfl, by decide, g_in 129 (by decide +kernel) rfl, by decide +kernel, rfl, rfl⟩, List.forall_mem_cons.mpr ⟨⟨_, _, _, rfl, by decide, g_in 135 (by decide +kernel) rfl, by decide +kernel, rfl, rfl⟩, List.forall_mem_cons.mpr ⟨⟨_, _, _, rfl, by decide, g_in 118 (by decide +kernel) rfl, by decide +kernel, rfl, rfl⟩, List.forall_mem_cons.mpr ⟨⟨_, _, _, rfl, by decide, g_in 111 (by decide +kernel) rfl, by decide +kernel, rfl, rfl⟩, List.forall_mem_cons.mpr ⟨⟨_, _, _, rfl, by decide, g_in 114 (by decide +kernel) rfl, by decide +kernel, rfl, rfl⟩, List.forall_mem_cons.mpr ⟨⟨_, _, _, rfl, by decide, g_in 139 (by decide +kernel) rfl, by decide +kernel, rfl, rfl⟩, fun _ h => absurd h List.not_mem_nil⟩⟩⟩⟩⟩⟩⟩⟩⟩⟩⟩
theorem g_f3 : ∀ q ∈ g_fl 3, g_gfE 3 q := List.forall_mem_cons.mpr ⟨⟨_, _, _, rfl, by decide, g_in 294 (by decide +kernel) rfl, by decide +kernel, rfl, rfl⟩, List.forall_mem_cons.mpr ⟨⟨_, _, _, rfl, by decide, g_in 295 (by decide +kernel) rfl, by decide +kernel, rfl, rfl⟩, List.forall_mem_cons.mpr ⟨⟨_, _, _, rfl, by decide, g_in 296 (by decide +kernel) rfl, by decide +kernel, rfl, rfl⟩, List.forall_mem_cons.mpr ⟨⟨_, _, _, rfl, by decide, g_in 297 (by decide +kernel) rfl, by decide +kernel, rfl, rfl⟩, List.forall_mem_cons.mpr ⟨⟨_, _, _, rfl, by decide, g_in 157 (by decide +kernel) rfl, by decide +kernel, rfl, rfl⟩, List.forall_mem_cons.mpr ⟨⟨_, _, _, rfl, by decide, g_in 299 (by decide +kernel) rfl, by decide +kernel, rfl, rfl⟩, List.forall_mem_cons.mpr ⟨⟨_, _, _, rfl, by decide, g_in 143 (by decide +kernel) rfl, by decide +kernel, rfl, rfl⟩, List.forall_mem_cons.mpr ⟨⟨_, _, _, rfl, by decide, g_in 147 (by decide +kernel) rfl, by decide +kernel, rfl, rfl⟩, fun _ h => absurd h List.not_mem_nil⟩⟩⟩⟩⟩⟩⟩⟩
theorem g_f4 : ∀ q ∈ g_fl 4, g_gfE 4 q := List.forall_mem_cons.mpr ⟨⟨_, _, _, rfl, by decide, g_in 110 (by decide +kernel) rfl, by decide +kernel, rfl, rfl⟩, List.forall_mem_cons.mpr ⟨⟨_, _, _, rfl, by decide, g_in 113 (by decide +kernel) rfl, by decide +kernel, rfl, rfl⟩, List.forall_mem_cons.mpr ⟨⟨_, _, _, rfl, by decide, g_in 116 (by decide +kernel) rfl, by decide +kernel, rfl, rfl⟩, fun _ h => absurd h List.not_mem_nil⟩⟩⟩
theorem g_f5 : ∀ q ∈ g_fl 5, g_gfE 5 q := List.forall_mem_cons.mpr ⟨⟨_, _, _, rfl, by decide, g_in 230 (by decide +kernel) rfl, by decide +kernel, rfl, rfl⟩, List.forall_mem_cons.mpr ⟨⟨_, _, _, rfl, by decide, g_in 232 (by decide +kernel) rfl, by decide +kernel, rfl, rfl⟩, List.forall_mem_cons.mpr ⟨⟨_, _, _, rfl, by decide, g_in 234 (by decide +kernel) rfl, by decide +kernel, rfl, rfl⟩, List.forall_mem_cons.mpr ⟨⟨_, _, _, rfl, by decide, g_in 238 (by decide +kernel) rfl, by decide +kernel, rfl, rfl⟩, List.forall_mem_cons.mpr ⟨⟨_, _, _, rfl, by decide, g_in 240 (by decide +kernel) rfl, by decide +kernel, rfl, rfl⟩, List.forall_mem_cons.mpr ⟨⟨_, _, _, rfl, by decide, g_in 208 (by decide +kernel) rfl, by decide +kernel, rfl, rfl⟩, List.forall_mem_cons.mpr ⟨⟨_, _, _, rfl, by decide, g_in 206 (by decide +kernel) rfl, by decide +kernel, rfl, rfl⟩, List.forall_mem_cons.mpr ⟨⟨_, _, _, rfl, by decide, g_in 236 (by decide +kernel) rfl, by decide +kernel, rfl, rfl⟩, List.forall_mem_cons.mpr ⟨⟨_, _, _, rfl, by decide, g_in 210 (by decide +kernel) rfl, by decide +kernel, rfl, rfl⟩, List.forall_mem_cons.mpr ⟨⟨_, _, _, rfl, by decide, g_in 137 (by decide +kernel) rfl, by decide +kernel, rfl, rfl⟩, List.forall_mem_cons.mpr ⟨⟨_, _, _, rfl, by decide, g_in 141 (by decide +kernel) rfl, by decide +kernel, rfl, rfl⟩, List.forall_mem_cons.mpr ⟨⟨_, _, _, rfl, by decide, g_in 213 (by decide +kernel) rfl, by decide +kernel, rfl, rfl⟩, List.forall_mem_cons.mpr ⟨⟨_, _, _, rfl, by decide, g_in 159 (by decide +kernel) rfl, by decide +kernel, rfl, rfl⟩, List.forall_mem_cons.mpr ⟨⟨_, _, _, rfl, by decide, g_in 163 (by decide +kernel) rfl, by decide +kernel, rfl, rfl⟩, List.forall_mem_cons.mpr ⟨⟨_, _, _, rfl, by decide, g_in 167 (by decide +kernel) rfl, by decide +kernel, rfl, rfl⟩, fun _ h => absurd h List.not_mem_nil⟩⟩⟩⟩⟩⟩⟩⟩⟩⟩⟩⟩⟩⟩⟩
theorem g_f6 : ∀ q ∈ g_fl 6, g_gfE 6 q := List.forall_mem_cons.mpr ⟨⟨_, _, _, rfl, by decide, g_in 334 (by decide +kernel) rfl, by decide +kernel, rfl, rfl⟩, List.forall_mem_cons.mpr ⟨⟨_, _, _, rfl, by decide, g_in 335 (by decide +kernel) rfl, by decide +kernel, rfl, rfl⟩, List.forall_mem_cons.mpr ⟨⟨_, _, _, rfl, by decide, g_in 337 (by decide +kernel) rfl, by decide +kernel, rfl, rfl⟩, fun _ h => absurd h List.not_mem_nil⟩⟩⟩
theorem g_f7 : ∀ q ∈ g_fl 7, g_gfE 7 q := List.forall_mem_cons.mpr ⟨⟨_, _, _, rfl, by decide, g_in 203 (by decide +kernel) rfl, by decide +kernel, rfl, rfl⟩, List.forall_mem_cons.mpr ⟨⟨_, _, _, rfl, by decide, g_in 204 (by decide +kernel) rfl, by decide +kernel, rfl, rfl⟩, List.forall_mem_cons.mpr ⟨⟨_, _, _, rfl, by decide, g_in 207 (by decide +kernel) rfl, by decide +kernel, rfl, rfl⟩, List.forall_mem_cons.mpr ⟨⟨_, _, _, rfl, by decide, g_in 211 (by decide +kernel) rfl, by decide +kernel, rfl, rfl⟩, List.forall_mem_cons.mpr ⟨⟨_, _, _, rfl, by decide, g_in 212 (by decide +kernel) rfl, by decide +kernel, rfl, rfl⟩, List.forall_mem_cons.mpr ⟨⟨_, _, _, rfl, by decide, g_in 209 (by decide +kernel) rfl, by decide +kernel, rfl, rfl⟩, fun _ h => absurd h List.not_mem_nil⟩⟩⟩⟩⟩⟩
theorem g_f8 : ∀ q ∈ g_fl 8, g_gfE 8 q := List.forall_mem_cons.mpr ⟨⟨_, _, _, rfl, by decide, g_in 317 (by decide +kernel) rfl, by decide +kernel, rfl, rfl⟩, List.forall_mem_cons.mpr ⟨⟨_, _, _, rfl, by decide, g_in 318 (by decide +kernel) rfl, by decide +kernel, rfl, rfl⟩, List.forall_mem_cons.mpr ⟨⟨_, _, _, rfl, by decide, g_in 319 (by decide +kernel) rfl, by decide +kernel, rfl, rfl⟩, fun _ h => absurd h List.not_mem_nil⟩⟩⟩
theorem g_f9 : ∀ q ∈ g_fl 9, g_gfE 9 q := List.forall_mem_cons.mpr ⟨⟨_, _, _, rfl, by decide, g_in 346 (by decide +kernel) rfl, by decide +kernel, rfl, rfl⟩, List.forall_mem_cons.mpr ⟨⟨_, _, _, rfl, by decide, g_in 347 (by decide +kernel) rfl, by decide +kernel, rfl, rfl⟩, List.forall_mem_cons.mpr ⟨⟨_, _, _, rfl, by decide, g_in 348 (by decide +kernel) rfl, by decide +kernel, rfl, rfl⟩, List.forall_mem_cons.mpr ⟨⟨_, _, _, rfl, by decide, g_in 349 (by decide +kernel) rfl, by decide +kernel, rfl, rfl⟩, List.forall_mem_cons.mpr ⟨⟨_, _, _, rfl, by decide, g_in 350 (by decide +kernel) rfl, by decide +kernel, rfl, rfl⟩, List.forall_mem_cons.mpr ⟨⟨_, _, _, rfl, by decide, g_in 351 (by decide +kernel) rfl, by decide +kernel, rfl, rfl⟩, List.forall_mem_cons.mpr ⟨⟨_, _, _, rfl, by decide, g_in 352 (by decide +kernel) rfl, by decide +kernel, rfl, rfl⟩, List.forall_mem_cons.mpr ⟨⟨_, _, _, rfl, by decide, g_in 353 (by decide +kernel) rfl, by decide +kernel, rfl, rfl⟩, List.forall_mem_cons.mpr ⟨⟨_, _, _, rfl, by decide, g_in 354 (by decide +kernel) rfl, by decide +kernel, rfl, rfl⟩, List.forall_mem_cons.mpr ⟨⟨_, _, _, rfl, by decide, g_in 355 (by decide +kernel) rfl, by decide +kernel, rfl, rfl⟩, List.forall_mem_cons.mpr ⟨⟨_, _, _, rfl, by decide, g_in 356 (by decide +kernel) rfl, by decide +kernel, rfl, rfl⟩, List.forall_mem_cons.mpr ⟨⟨_, _, _, rfl, by decide, g_in 357 (by decide +kernel) rfl, by decide +kernel, rfl, rfl⟩, List.forall_mem_cons.mpr ⟨⟨_, _, _, rfl, by decide, g_in 231 (by decide +kernel) rfl, by decide +kernel, rfl, rfl⟩, List.forall_mem_cons.mpr ⟨⟨_, _, _, rfl, by decide, g_in 205 (by decide +kernel) rfl, by decide +kernel, rfl, rfl⟩, List.forall_mem_cons.mpr ⟨⟨_, _, _, rfl, by decide, g_in 235 (by decide +kernel) rfl, by decide +kernel, rfl, rfl⟩, List.forall_mem_cons.mpr ⟨⟨_, _, _, rfl, by decide, g_in 237 (by decide +kernel) rfl, by decide +kernel, rfl, rfl⟩, List.forall_mem_cons.mpr ⟨⟨_, _, _, rfl, by decide, g_in 233 (by decide +kernel) rfl, by decide +kernel, rfl, rfl⟩, List.forall_mem_cons.mpr ⟨⟨_, _, _, rfl, by decide, g_in 320 (by decide +kernel) rfl, by decide +kernel, rfl, rfl⟩, List.forall_mem_cons.mpr ⟨⟨_, _, _, rfl, by decide, g_in 239 (by decide +kernel) rfl, by decide +kernel, rfl, rfl⟩, List.forall_mem_cons.mpr ⟨⟨_, _, _, rfl, by decide, g_in 158 (by decide +kernel) rfl, by decide +kernel, rfl, rfl⟩, List.forall_mem_cons.mpr ⟨⟨_, _, _, rfl, by decide, g_in 136 (by decide +kernel) rfl, by decide +kernel, rfl, rfl⟩, List.forall_mem_cons.mpr ⟨⟨_, _, _, rfl, by decide, g_in 119 (by decide +kernel) rfl, by decide +kernel, rfl, rfl⟩, List.forall_mem_cons.mpr ⟨⟨_, _, _, rfl, by decide, g_in 140 (by decide +kernel) rfl, by decide +kernel, rfl, rfl⟩, List.forall_mem_cons.mpr ⟨⟨_, _, _, rfl, by decide, g_in 162 (by decide +kernel) rfl, by decide +kernel, rfl, rfl⟩, List.forall_mem_cons.mpr ⟨⟨_, _, _, rfl, by decide, g_in 166 (by decide +kernel) rfl, by decide +kernel, rfl, rfl⟩, List.forall_mem_cons.mpr ⟨⟨_, _, _, rfl, by decide, g_in 130 (by decide +kernel) rfl, by decide +kernel, rfl, rfl⟩, List.forall_mem_cons.mpr ⟨⟨_, _, _, rfl, by decide, g_in 133 (by decide +kernel) rfl, by decide +kernel, rfl, rfl⟩, List.forall_mem_cons.mpr ⟨⟨_, _, _, rfl, by decide, g_in 145 (by decide +kernel) rfl, by decide +kernel, rfl, rfl⟩, List.forall_mem_cons.mpr ⟨⟨_, _, _, rfl, by decide, g_in 149 (by decide +kernel) rfl, by decide +kernel, rfl, rfl⟩, List.forall_mem_cons.mpr ⟨⟨_, _, _, rfl, by decide, g_in 151 (by decide +kernel) rfl, by decide +kernel, rfl, rfl⟩, List.forall_mem_cons.mpr ⟨⟨_, _, _, rfl, by decide, g_in 112 (by decide +kernel) rfl, by decide +kernel, rfl, rfl⟩, List.forall_mem_cons.mpr ⟨⟨_, _, _, rfl, by decide, g_in 115 (by decide +kernel) rfl, by decide +kernel, rfl, rfl⟩, List.forall_mem_cons.mpr ⟨⟨_, _, _, rfl, by decide, g_in 154 (by decide +kernel) rfl, by decide +kernel, rfl, rfl⟩, List.forall_mem_cons.mpr ⟨⟨_, _, _, rfl, by decide, g_in 280 (by decide +kernel) rfl, by decide +kernel, rfl, rfl⟩, List.forall_mem_cons.mpr ⟨⟨_, _, _, rfl, by decide, g_in 278 (by decide +kernel) rfl, by decide +kernel, rfl, rfl⟩, List.forall_mem_cons.mpr ⟨⟨_, _, _, rfl, by decide, g_in 298 (by decide +kernel) rfl, by decide +kernel, rfl, rfl⟩, List.forall_mem_cons.mpr ⟨⟨_, _, _, rfl, by decide, g_in 336 (by decide +kernel) rfl, by decide +kernel, rfl, rfl⟩, List.forall_mem_cons.mpr ⟨⟨_, _, _, rfl, by decide, g_in 358 (by decide +kernel) rfl, by decide +kernel, rfl, rfl⟩, List.forall_mem_cons.mpr ⟨⟨_, _, _, rfl, by decide, g_in 338 (by decide +kernel) rfl, by decide +kernel, rfl, rfl⟩, fun _ h => absurd h List.not_mem_nil⟩⟩⟩⟩⟩⟩⟩⟩⟩⟩⟩⟩⟩⟩⟩⟩⟩⟩⟩⟩⟩⟩⟩⟩⟩⟩⟩⟩⟩⟩⟩⟩⟩⟩⟩⟩⟩⟩⟩
theorem g_f10 : ∀ q ∈ g_fl 10, g_gfE 10 q := List.forall_mem_cons.mpr ⟨⟨_, _, _, rfl, by decide, g_in 1000 (by decide +kernel) rfl, by decide +kernel, rfl, rfl⟩, List.forall_mem_cons.mpr ⟨⟨_, _, _, rfl, by decide, g_in 1003 (by decide +kernel) rfl, by decide +kernel, rfl, rfl⟩, List.forall_mem_cons.mpr ⟨⟨_, _, _, rfl, by decide, g_in 1004 (by decide +kernel) rfl, by decide +kernel, rfl, rfl⟩, List.forall_mem_cons.mpr ⟨⟨_, _, _, rfl, by decide, g_in 1010 (by decide +kernel) rfl, by decide +kernel, rfl, rfl⟩, List.forall_mem_cons.mpr ⟨⟨_, _, _, rfl, by decide, g_in 1019 (by decide +kernel) rfl, by decide +kernel, rfl, rfl⟩, List.forall_mem_cons.mpr ⟨⟨_, _, _, rfl, by decide, g_in 1020 (by decide +kernel) rfl, by decide +kernel, rfl, rfl⟩, List.forall_mem_cons.mpr ⟨⟨_, _, _, rfl, by decide, g_in 1021 (by decide +kernel) rfl, by decide +kernel, rfl, rfl⟩, List.forall_mem_cons.mpr ⟨⟨_, _, _, rfl, by decide, g_in 1024 (by decide +kernel) rfl, by decide +kernel, rfl, rfl⟩, List.forall_mem_cons.mpr ⟨⟨_, _, _, rfl, by decide, g_in 1025 (by decide +kernel) rfl, by decide +kernel, rfl, rfl⟩, List.forall_mem_cons.mpr ⟨⟨_, _, _, rfl, by decide, g_in 1028 (by decide +kernel) rfl, by decide +kernel, rfl, rfl⟩, List.forall_mem_cons.mpr ⟨⟨_, _, _, rfl, by decide, g_in 1030 (by decide +kernel) rfl, by decide +kernel, rfl, rfl⟩, List.forall_mem_cons.mpr ⟨⟨_, _, _, rfl, by decide, g_in 1032 (by decide +kernel) rfl, by decide +kernel, rfl, rfl⟩, List.forall_mem_cons.mpr ⟨⟨_, _, _, rfl, by decide, g_in 1033 (by decide +kernel) rfl, by decide +kernel, rfl, rfl⟩, List.forall_mem_cons.mpr ⟨⟨_, _, _, rfl, by decide, g_in 1034 (by decide +kernel) rfl, by decide +kernel, rfl, rfl⟩, List.forall_mem_cons.mpr ⟨⟨_, _, _, rfl, by decide, g_in 1035 (by decide +kernel) rfl, by decide +kernel, rfl, rfl⟩, List.forall_mem_cons.mpr ⟨⟨_, _, _, rfl, by decide, g_in 1011 (by decide +kernel) rfl, by decide +kernel, rfl, rfl⟩, List.forall_mem_cons.mpr ⟨⟨_, _, _, rfl, by decide, g_in 1013 (by decide +kernel) rfl, by decide +kernel, rfl, rfl⟩, List.forall_mem_cons.mpr ⟨⟨_, _, _, rfl, by decide, g_in 1016 (by decide +kernel) rfl, by decide +kernel, rfl, rfl⟩, List.forall_mem_cons.mpr ⟨⟨_, _, _, rfl, by decide, g_in 1014 (by decide +kernel) rfl, by decide +kernel, rfl, rfl⟩, List.forall_mem_cons.mpr ⟨⟨_, _, _, rfl, by decide, g_in 1017 (by decide +kernel) rfl, by decide +kernel, rfl, rfl⟩, List.forall_mem_cons.mpr ⟨⟨_, _, _, rfl, by decide, g_in 1015 (by decide +kernel) rfl, by decide +kernel, rfl, rfl⟩, List.forall_mem_cons.mpr ⟨⟨_, _, _, rfl, by decide, g_in 1018 (by decide +kernel) rfl, by decide +kernel, rfl, rfl⟩, List.forall_mem_cons.mpr ⟨⟨_, _, _, rfl, by decide, g_in 1008 (by decide +kernel) rfl, by decide +kernel, rfl, rfl⟩, List.forall_mem_cons.mpr ⟨⟨_, _, _, rfl, by decide, g_in 1009 (by decide +kernel) rfl, by decide +kernel, rfl, rfl⟩, List.forall_mem_cons.mpr ⟨⟨_, _, _, rfl, by decide, g_in 1005 (by decide +kernel) rfl, by decide +kernel, rfl, rfl⟩, List.forall_mem_cons.mpr ⟨⟨_, _, _, rfl, by decide, g_in 1006 (by decide +kernel) rfl, by decide +kernel, rfl, rfl⟩, List.forall_mem_cons.mpr ⟨⟨_, _, _, rfl, by decide, g_in 1007 (by decide +kernel) rfl, by decide +kernel, rfl, rfl⟩, List.forall_mem_cons.mpr ⟨⟨_, _, _, rfl, by decide, g_in 1012 (by decide +kernel) rfl, by decide +kernel, rfl, rfl⟩, List.forall_mem_cons.mpr ⟨⟨_, _, _, rfl, by decide, g_in 1001 (by decide +kernel) rfl, by decide +kernel, rfl, rfl⟩, List.forall_mem_cons.mpr ⟨⟨_, _, _, rfl, by decide, g_in 1002 (by decide +kernel) rfl, by decide +kernel, rfl, rfl⟩, List.forall_mem_cons.mpr ⟨⟨_, _, _, rfl, by decide, g_in 1029 (by decide +kernel) rfl, by decide +kernel, rfl, rfl⟩, List.forall_mem_cons.mpr ⟨⟨_, _, _, rfl, by decide, g_in 1022 (by decide +kernel) rfl, by decide +kernel, rfl, rfl⟩, List.forall_mem_cons.mpr ⟨⟨_, _, _, rfl, by decide, g_in 1023 (by decide +kernel) rfl, by decide +kernel, rfl, rfl⟩, List.forall_mem_cons.mpr ⟨⟨_, _, _, rfl, by decide, g_in 1026 (by decide +kernel) rfl, by decide +kernel, rfl, rfl⟩, List.forall_mem_cons.mpr ⟨⟨_, _, _, rfl, by decide, g_in 1027 (by decide +kernel) rfl, by decide +kernel, rfl, rfl⟩, List.forall_mem_cons.mpr ⟨⟨_, _, _, rfl, by decide, g_in 1031 (by decide +kernel) rfl, by decide +kernel, rfl, rfl⟩, List.forall_mem_cons.mpr ⟨⟨_, _, _, rfl, by decide, g_in 1036 (by decide +kernel) rfl, by decide +kernel, rfl, rfl⟩, fun _ h => absurd h List.not_mem_nil⟩⟩⟩⟩⟩⟩⟩⟩⟩⟩⟩⟩⟩⟩⟩⟩⟩⟩⟩⟩⟩⟩⟩⟩⟩⟩⟩⟩⟩⟩⟩⟩⟩⟩⟩⟩⟩
theorem g_fa : ∀ c, ∀ q ∈ g_fl c, g_gfE c q
  | 0 => g_f0
  | 1 => g_f1
  | 2 => g_f2
  | 3 => g_f3
  | 4 => g_f4
  | 5 => g_f5
  | 6 => g_f6
  | 7 => g_f7
  | 8 => g_f8
  | 9 => g_f9
  | 10 => g_f10
  | 11 => fun _ h => absurd h List.not_mem_nil
  | 12 => fun _ h => absurd h List.not_mem_nil
  | 13 => fun _ h => absurd h List.not_mem_nil
  | _ + 14 => fun _ h => absurd h List.not_mem_nil
theorem g_gf : e_gf g_P g_C g_Ts := by
  intro k i f h
  have h : g_flg (g_meth k).2.1.2.2 (g_meth k).2.2.1 (e_lk (g_fl (g_meth k).2.2.1) i) = some f := h
  unfold g_flg at h
  split at h
  · next f' hf =>
    cases h
    obtain ⟨C, T, N, h1, h2, h3, h4, h5, h6⟩ := g_fa _ _ (e_lk_mem hf)
    have ho : (e_mth g_P k).1.cls = g_cn (g_meth k).2.2.1 := g_own k
    refine ⟨C, T, N, h1, h2, by rw [ho]; exact h3, h4, fun hfl => ?_⟩
    dsimp only at h5 h6 hfl ⊢
    cases hT : (T f'.2.1).2.2.2 with
    | false => exact Or.inl rfl
    | true =>
      rw [hT] at h5
      rw [← h5] at hfl
      have h7 : ((g_meth k).2.1.2.2 && (f'.1 == (g_meth k).2.2.1)) = true := by simpa using hfl
      rw [Bool.and_eq_true] at h7
      have h8 : f'.1 = (g_meth k).2.2.1 := by simpa using h7.2
      exact Or.inr ⟨rfl, g_ini k h7.1, by rw [h6, h8]; exact ho.symm⟩
  · cases h
def g_gnE (c : Nat) (q : Nat × Nat × List Value) : Prop := ∃ (C : String) (T : u_T) (N : Nat), g_C[q.2.1]? = some (C, T, N) ∧ q.2.2.length = N ∧ Cond.classLink (g_cn c) q.1 C ∈ g_Ts ∧ Cond.instantiable C N ∈ g_Ts ∧ Cond.initialized C ∈ g_Ts ∧ ∀ (j : Nat) (v : Value), q.2.2[j]? = some v → ∃ ty : FieldType, parseFieldDescriptor (T j).2.2.1 = some ty ∧ defaultValue ty = v
theorem g_df0 : ∀ (j : Nat) (v : Value), [(.null : Value), (.null : Value), (.null : Value), (.null : Value), (.null : Value), (.null : Value), (.null : Value), (.null : Value), (.int 0 : Value), (.int 0 : Value), (.int 0 : Value)][j]? = some v → ∃ ty : FieldType, parseFieldDescriptor (TX0 j).2.2.1 = some ty ∧ defaultValue ty = v := by
  intro j v h
  match j, h with
  | 0, h => cases h; exact ⟨.array .int, by decide +kernel, rfl⟩
  | 1, h => cases h; exact ⟨.array .int, by decide +kernel, rfl⟩
  | 2, h => cases h; exact ⟨.object "KinGates$Pairs", by decide +kernel, rfl⟩
  | 3, h => cases h; exact ⟨.object "KinGates$Pairs", by decide +kernel, rfl⟩
  | 4, h => cases h; exact ⟨.array .int, by decide +kernel, rfl⟩
  | 5, h => cases h; exact ⟨.array .int, by decide +kernel, rfl⟩
  | 6, h => cases h; exact ⟨.array .int, by decide +kernel, rfl⟩
  | 7, h => cases h; exact ⟨.array .int, by decide +kernel, rfl⟩
  | 8, h => cases h; exact ⟨.int, by decide +kernel, rfl⟩
  | 9, h => cases h; exact ⟨.int, by decide +kernel, rfl⟩
  | 10, h => cases h; exact ⟨.int, by decide +kernel, rfl⟩
  | n + 11, h => simp at h
theorem g_df1 : ∀ (j : Nat) (v : Value), [(.null : Value), (.null : Value), (.int 0 : Value)][j]? = some v → ∃ ty : FieldType, parseFieldDescriptor (TX1 j).2.2.1 = some ty ∧ defaultValue ty = v := by
  intro j v h
  match j, h with
  | 0, h => cases h; exact ⟨.array .int, by decide +kernel, rfl⟩
  | 1, h => cases h; exact ⟨.array .int, by decide +kernel, rfl⟩
  | 2, h => cases h; exact ⟨.int, by decide +kernel, rfl⟩
  | n + 3, h => simp at h
theorem g_df2 : ∀ (j : Nat) (v : Value), [(.null : Value), (.null : Value), (.int 0 : Value)][j]? = some v → ∃ ty : FieldType, parseFieldDescriptor (TX2 j).2.2.1 = some ty ∧ defaultValue ty = v := by
  intro j v h
  match j, h with
  | 0, h => cases h; exact ⟨.array .int, by decide +kernel, rfl⟩
  | 1, h => cases h; exact ⟨.array .int, by decide +kernel, rfl⟩
  | 2, h => cases h; exact ⟨.int, by decide +kernel, rfl⟩
  | n + 3, h => simp at h
theorem g_df3 : ∀ (j : Nat) (v : Value), [(.null : Value), (.null : Value), (.null : Value), (.null : Value), (.int 0 : Value)][j]? = some v → ∃ ty : FieldType, parseFieldDescriptor (TX3 j).2.2.1 = some ty ∧ defaultValue ty = v := by
  intro j v h
  match j, h with
  | 0, h => cases h; exact ⟨.array .int, by decide +kernel, rfl⟩
  | 1, h => cases h; exact ⟨.array .int, by decide +kernel, rfl⟩
  | 2, h => cases h; exact ⟨.array .int, by decide +kernel, rfl⟩
  | 3, h => cases h; exact ⟨.array .int, by decide +kernel, rfl⟩
  | 4, h => cases h; exact ⟨.int, by decide +kernel, rfl⟩
  | n + 5, h => simp at h
theorem g_df4 : ∀ (j : Nat) (v : Value), [(.null : Value), (.null : Value), (.int 0 : Value)][j]? = some v → ∃ ty : FieldType, parseFieldDescriptor (TX4 j).2.2.1 = some ty ∧ defaultValue ty = v := by
  intro j v h
  match j, h with
  | 0, h => cases h; exact ⟨.array .int, by decide +kernel, rfl⟩
  | 1, h => cases h; exact ⟨.array .int, by decide +kernel, rfl⟩
  | 2, h => cases h; exact ⟨.int, by decide +kernel, rfl⟩
  | n + 3, h => simp at h
theorem g_df5 : ∀ (j : Nat) (v : Value), [(.null : Value), (.null : Value), (.int 0 : Value), (.int 0 : Value), (.int 0 : Value), (.int 0 : Value)][j]? = some v → ∃ ty : FieldType, parseFieldDescriptor (TX5 j).2.2.1 = some ty ∧ defaultValue ty = v := by
  intro j v h
  match j, h with
  | 0, h => cases h; exact ⟨.object "KinGates$Tape", by decide +kernel, rfl⟩
  | 1, h => cases h; exact ⟨.object "KinGates$County", by decide +kernel, rfl⟩
  | 2, h => cases h; exact ⟨.int, by decide +kernel, rfl⟩
  | 3, h => cases h; exact ⟨.int, by decide +kernel, rfl⟩
  | 4, h => cases h; exact ⟨.int, by decide +kernel, rfl⟩
  | 5, h => cases h; exact ⟨.boolean, by decide +kernel, rfl⟩
  | n + 6, h => simp at h
theorem g_df6 : ∀ (j : Nat) (v : Value), [(.null : Value), (.null : Value), (.null : Value)][j]? = some v → ∃ ty : FieldType, parseFieldDescriptor (TX6 j).2.2.1 = some ty ∧ defaultValue ty = v := by
  intro j v h
  match j, h with
  | 0, h => cases h; exact ⟨.array .int, by decide +kernel, rfl⟩
  | 1, h => cases h; exact ⟨.array .int, by decide +kernel, rfl⟩
  | 2, h => cases h; exact ⟨.array .int, by decide +kernel, rfl⟩
  | n + 3, h => simp at h
theorem g_df7 : ∀ (j : Nat) (v : Value), [(.null : Value), (.int 0 : Value), (.int 0 : Value), (.int 0 : Value), (.int 0 : Value), (.int 0 : Value)][j]? = some v → ∃ ty : FieldType, parseFieldDescriptor (TX7 j).2.2.1 = some ty ∧ defaultValue ty = v := by
  intro j v h
  match j, h with
  | 0, h => cases h; exact ⟨.array .int, by decide +kernel, rfl⟩
  | 1, h => cases h; exact ⟨.int, by decide +kernel, rfl⟩
  | 2, h => cases h; exact ⟨.int, by decide +kernel, rfl⟩
  | 3, h => cases h; exact ⟨.int, by decide +kernel, rfl⟩
  | 4, h => cases h; exact ⟨.int, by decide +kernel, rfl⟩
  | 5, h => cases h; exact ⟨.int, by decide +kernel, rfl⟩
  | n + 6, h => simp at h
theorem g_df8 : ∀ (j : Nat) (v : Value), [(.null : Value), (.null : Value), (.int 0 : Value)][j]? = some v → ∃ ty : FieldType, parseFieldDescriptor (TX8 j).2.2.1 = some ty ∧ defaultValue ty = v := by
  intro j v h
  match j, h with
  | 0, h => cases h; exact ⟨.array .int, by decide +kernel, rfl⟩
  | 1, h => cases h; exact ⟨.array .boolean, by decide +kernel, rfl⟩
  | 2, h => cases h; exact ⟨.int, by decide +kernel, rfl⟩
  | n + 3, h => simp at h
theorem g_df9 : ∀ (j : Nat) (v : Value), [(.null : Value), (.null : Value), (.null : Value), (.null : Value), (.null : Value), (.null : Value), (.null : Value), (.null : Value), (.null : Value), (.null : Value), (.null : Value), (.null : Value), (.int 0 : Value)][j]? = some v → ∃ ty : FieldType, parseFieldDescriptor (TX9 j).2.2.1 = some ty ∧ defaultValue ty = v := by
  intro j v h
  match j, h with
  | 0, h => cases h; exact ⟨.object "KinGates$County", by decide +kernel, rfl⟩
  | 1, h => cases h; exact ⟨.object "KinGates$County", by decide +kernel, rfl⟩
  | 2, h => cases h; exact ⟨.object "KinGates$County", by decide +kernel, rfl⟩
  | 3, h => cases h; exact ⟨.object "KinGates$County", by decide +kernel, rfl⟩
  | 4, h => cases h; exact ⟨.array .boolean, by decide +kernel, rfl⟩
  | 5, h => cases h; exact ⟨.object "KinGates$Parser", by decide +kernel, rfl⟩
  | 6, h => cases h; exact ⟨.object "KinGates$Kin", by decide +kernel, rfl⟩
  | 7, h => cases h; exact ⟨.object "KinGates$Course", by decide +kernel, rfl⟩
  | 8, h => cases h; exact ⟨.object "KinGates$Lines", by decide +kernel, rfl⟩
  | 9, h => cases h; exact ⟨.object "KinGates$Witness", by decide +kernel, rfl⟩
  | 10, h => cases h; exact ⟨.object "KinGates$Sheets", by decide +kernel, rfl⟩
  | 11, h => cases h; exact ⟨.array .int, by decide +kernel, rfl⟩
  | 12, h => cases h; exact ⟨.int, by decide +kernel, rfl⟩
  | n + 13, h => simp at h
theorem g_df10 : ∀ (j : Nat) (v : Value), [(.null : Value), (.int 0 : Value), (.int 0 : Value), (.null : Value), (.null : Value), (.int 0 : Value), (.int 0 : Value), (.int 0 : Value), (.int 0 : Value), (.int 0 : Value), (.null : Value), (.int 0 : Value), (.int 0 : Value), (.int 0 : Value), (.int 0 : Value), (.int 0 : Value), (.int 0 : Value), (.int 0 : Value), (.int 0 : Value), (.null : Value), (.null : Value), (.null : Value), (.int 0 : Value), (.int 0 : Value), (.null : Value), (.null : Value), (.int 0 : Value), (.int 0 : Value), (.null : Value), (.int 0 : Value), (.null : Value), (.int 0 : Value), (.null : Value), (.null : Value), (.null : Value), (.null : Value), (.int 0 : Value)][j]? = some v → ∃ ty : FieldType, parseFieldDescriptor (TX10 j).2.2.1 = some ty ∧ defaultValue ty = v := by
  intro j v h
  match j, h with
  | 0, h => cases h; exact ⟨.array .int, by decide +kernel, rfl⟩
  | 1, h => cases h; exact ⟨.int, by decide +kernel, rfl⟩
  | 2, h => cases h; exact ⟨.int, by decide +kernel, rfl⟩
  | 3, h => cases h; exact ⟨.array .int, by decide +kernel, rfl⟩
  | 4, h => cases h; exact ⟨.array .int, by decide +kernel, rfl⟩
  | 5, h => cases h; exact ⟨.int, by decide +kernel, rfl⟩
  | 6, h => cases h; exact ⟨.int, by decide +kernel, rfl⟩
  | 7, h => cases h; exact ⟨.boolean, by decide +kernel, rfl⟩
  | 8, h => cases h; exact ⟨.int, by decide +kernel, rfl⟩
  | 9, h => cases h; exact ⟨.int, by decide +kernel, rfl⟩
  | 10, h => cases h; exact ⟨.array .int, by decide +kernel, rfl⟩
  | 11, h => cases h; exact ⟨.int, by decide +kernel, rfl⟩
  | 12, h => cases h; exact ⟨.int, by decide +kernel, rfl⟩
  | 13, h => cases h; exact ⟨.int, by decide +kernel, rfl⟩
  | 14, h => cases h; exact ⟨.int, by decide +kernel, rfl⟩
  | 15, h => cases h; exact ⟨.int, by decide +kernel, rfl⟩
  | 16, h => cases h; exact ⟨.int, by decide +kernel, rfl⟩
  | 17, h => cases h; exact ⟨.int, by decide +kernel, rfl⟩
  | 18, h => cases h; exact ⟨.int, by decide +kernel, rfl⟩
  | 19, h => cases h; exact ⟨.array .int, by decide +kernel, rfl⟩
  | 20, h => cases h; exact ⟨.array .int, by decide +kernel, rfl⟩
  | 21, h => cases h; exact ⟨.array .int, by decide +kernel, rfl⟩
  | 22, h => cases h; exact ⟨.int, by decide +kernel, rfl⟩
  | 23, h => cases h; exact ⟨.int, by decide +kernel, rfl⟩
  | 24, h => cases h; exact ⟨.array .int, by decide +kernel, rfl⟩
  | 25, h => cases h; exact ⟨.array .int, by decide +kernel, rfl⟩
  | 26, h => cases h; exact ⟨.int, by decide +kernel, rfl⟩
  | 27, h => cases h; exact ⟨.int, by decide +kernel, rfl⟩
  | 28, h => cases h; exact ⟨.array .int, by decide +kernel, rfl⟩
  | 29, h => cases h; exact ⟨.int, by decide +kernel, rfl⟩
  | 30, h => cases h; exact ⟨.array .int, by decide +kernel, rfl⟩
  | 31, h => cases h; exact ⟨.int, by decide +kernel, rfl⟩
  | 32, h => cases h; exact ⟨.array .boolean, by decide +kernel, rfl⟩
  | 33, h => cases h; exact ⟨.array .int, by decide +kernel, rfl⟩
  | 34, h => cases h; exact ⟨.array .int, by decide +kernel, rfl⟩
  | 35, h => cases h; exact ⟨.array .int, by decide +kernel, rfl⟩
  | 36, h => cases h; exact ⟨.int, by decide +kernel, rfl⟩
  | n + 37, h => simp at h
theorem g_n0 : ∀ q ∈ g_nl 0, g_gnE 0 q := List.forall_mem_cons.mpr ⟨⟨_, _, _, rfl, rfl, g_in 104 (by decide +kernel) rfl, g_in 105 (by decide +kernel) rfl, g_in 74 (by decide +kernel) rfl, g_df4⟩, fun _ h => absurd h List.not_mem_nil⟩
theorem g_n5 : ∀ q ∈ g_nl 5, g_gnE 5 q := List.forall_mem_cons.mpr ⟨⟨_, _, _, rfl, rfl, g_in 197 (by decide +kernel) rfl, g_in 198 (by decide +kernel) rfl, g_in 76 (by decide +kernel) rfl, g_df7⟩, List.forall_mem_cons.mpr ⟨⟨_, _, _, rfl, rfl, g_in 228 (by decide +kernel) rfl, g_in 99 (by decide +kernel) rfl, g_in 73 (by decide +kernel) rfl, g_df0⟩, fun _ h => absurd h List.not_mem_nil⟩⟩
theorem g_n9 : ∀ q ∈ g_nl 9, g_gnE 9 q := List.forall_mem_cons.mpr ⟨⟨_, _, _, rfl, rfl, g_in 98 (by decide +kernel) rfl, g_in 99 (by decide +kernel) rfl, g_in 73 (by decide +kernel) rfl, g_df0⟩, List.forall_mem_cons.mpr ⟨⟨_, _, _, rfl, rfl, g_in 191 (by decide +kernel) rfl, g_in 192 (by decide +kernel) rfl, g_in 75 (by decide +kernel) rfl, g_df5⟩, List.forall_mem_cons.mpr ⟨⟨_, _, _, rfl, rfl, g_in 254 (by decide +kernel) rfl, g_in 255 (by decide +kernel) rfl, g_in 77 (by decide +kernel) rfl, g_df2⟩, List.forall_mem_cons.mpr ⟨⟨_, _, _, rfl, rfl, g_in 270 (by decide +kernel) rfl, g_in 271 (by decide +kernel) rfl, g_in 78 (by decide +kernel) rfl, g_df1⟩, List.forall_mem_cons.mpr ⟨⟨_, _, _, rfl, rfl, g_in 288 (by decide +kernel) rfl, g_in 289 (by decide +kernel) rfl, g_in 79 (by decide +kernel) rfl, g_df3⟩, List.forall_mem_cons.mpr ⟨⟨_, _, _, rfl, rfl, g_in 311 (by decide +kernel) rfl, g_in 312 (by decide +kernel) rfl, g_in 80 (by decide +kernel) rfl, g_df8⟩, List.forall_mem_cons.mpr ⟨⟨_, _, _, rfl, rfl, g_in 328 (by decide +kernel) rfl, g_in 329 (by decide +kernel) rfl, g_in 81 (by decide +kernel) rfl, g_df6⟩, fun _ h => absurd h List.not_mem_nil⟩⟩⟩⟩⟩⟩⟩
theorem g_n11 : ∀ q ∈ g_nl 11, g_gnE 11 q := List.forall_mem_cons.mpr ⟨⟨_, _, _, rfl, rfl, g_in 90 (by decide +kernel) rfl, g_in 91 (by decide +kernel) rfl, g_in 72 (by decide +kernel) rfl, g_df9⟩, List.forall_mem_cons.mpr ⟨⟨_, _, _, rfl, rfl, g_in 994 (by decide +kernel) rfl, g_in 995 (by decide +kernel) rfl, g_in 82 (by decide +kernel) rfl, g_df10⟩, fun _ h => absurd h List.not_mem_nil⟩⟩
theorem g_na : ∀ c, ∀ q ∈ g_nl c, g_gnE c q
  | 0 => g_n0
  | 1 => fun _ h => absurd h List.not_mem_nil
  | 2 => fun _ h => absurd h List.not_mem_nil
  | 3 => fun _ h => absurd h List.not_mem_nil
  | 4 => fun _ h => absurd h List.not_mem_nil
  | 5 => g_n5
  | 6 => fun _ h => absurd h List.not_mem_nil
  | 7 => fun _ h => absurd h List.not_mem_nil
  | 8 => fun _ h => absurd h List.not_mem_nil
  | 9 => g_n9
  | 10 => fun _ h => absurd h List.not_mem_nil
  | 11 => g_n11
  | 12 => fun _ h => absurd h List.not_mem_nil
  | 13 => fun _ h => absurd h List.not_mem_nil
  | _ + 14 => fun _ h => absurd h List.not_mem_nil
theorem g_gn : e_gn g_P g_C g_Ts := by
  intro k i o h
  obtain ⟨C, T, N, h1, h2, h3, h4⟩ := g_na _ _ (e_lk_mem (show e_lk (g_nl (g_meth k).2.2.1) i = some o from h))
  have ho : (e_mth g_P k).1.cls = g_cn (g_meth k).2.2.1 := g_own k
  exact ⟨C, T, N, h1, h2, by rw [ho]; exact h3, h4⟩
def g_gvE (c : Nat) (q : Nat × Value) : Prop := (∃ x : Int32, q.2 = .int x ∧ Cond.constant (g_cn c) q.1 x ∈ g_Ts) ∨ (∃ x : Int64, q.2 = .long x ∧ Cond.constantLong (g_cn c) q.1 x ∈ g_Ts) ∨ (∃ j : Nat, j < 8 ∧ q.2 = .ref (1 + j) ∧ g_cn c = "KinGates$Tape" ∧ q.1 = e_idx.getD j 0)
theorem g_k7 : ∀ q ∈ g_kl 7, g_gvE 7 q := List.forall_mem_cons.mpr ⟨Or.inr (Or.inr ⟨0, by decide, rfl, rfl, rfl⟩), List.forall_mem_cons.mpr ⟨Or.inr (Or.inr ⟨1, by decide, rfl, rfl, rfl⟩), List.forall_mem_cons.mpr ⟨Or.inr (Or.inr ⟨2, by decide, rfl, rfl, rfl⟩), List.forall_mem_cons.mpr ⟨Or.inr (Or.inr ⟨3, by decide, rfl, rfl, rfl⟩), List.forall_mem_cons.mpr ⟨Or.inr (Or.inr ⟨4, by decide, rfl, rfl, rfl⟩), List.forall_mem_cons.mpr ⟨Or.inr (Or.inr ⟨5, by decide, rfl, rfl, rfl⟩), List.forall_mem_cons.mpr ⟨Or.inr (Or.inr ⟨6, by decide, rfl, rfl, rfl⟩), List.forall_mem_cons.mpr ⟨Or.inr (Or.inr ⟨7, by decide, rfl, rfl, rfl⟩), fun _ h => absurd h List.not_mem_nil⟩⟩⟩⟩⟩⟩⟩⟩
theorem g_k9 : ∀ q ∈ g_kl 9, g_gvE 9 q := List.forall_mem_cons.mpr ⟨Or.inr (Or.inl ⟨_, rfl, g_in 859 (by decide +kernel) rfl⟩), List.forall_mem_cons.mpr ⟨Or.inr (Or.inl ⟨_, rfl, g_in 868 (by decide +kernel) rfl⟩), List.forall_mem_cons.mpr ⟨Or.inl ⟨_, rfl, g_in 923 (by decide +kernel) rfl⟩, fun _ h => absurd h List.not_mem_nil⟩⟩⟩
theorem g_k10 : ∀ q ∈ g_kl 10, g_gvE 10 q := List.forall_mem_cons.mpr ⟨Or.inr (Or.inl ⟨_, rfl, g_in 1116 (by decide +kernel) rfl⟩), List.forall_mem_cons.mpr ⟨Or.inr (Or.inl ⟨_, rfl, g_in 1136 (by decide +kernel) rfl⟩), List.forall_mem_cons.mpr ⟨Or.inr (Or.inl ⟨_, rfl, g_in 1137 (by decide +kernel) rfl⟩), List.forall_mem_cons.mpr ⟨Or.inr (Or.inl ⟨_, rfl, g_in 1138 (by decide +kernel) rfl⟩), List.forall_mem_cons.mpr ⟨Or.inr (Or.inl ⟨_, rfl, g_in 1139 (by decide +kernel) rfl⟩), List.forall_mem_cons.mpr ⟨Or.inr (Or.inl ⟨_, rfl, g_in 1152 (by decide +kernel) rfl⟩), List.forall_mem_cons.mpr ⟨Or.inl ⟨_, rfl, g_in 1197 (by decide +kernel) rfl⟩, List.forall_mem_cons.mpr ⟨Or.inr (Or.inl ⟨_, rfl, g_in 1268 (by decide +kernel) rfl⟩), List.forall_mem_cons.mpr ⟨Or.inr (Or.inl ⟨_, rfl, g_in 1289 (by decide +kernel) rfl⟩), List.forall_mem_cons.mpr ⟨Or.inr (Or.inl ⟨_, rfl, g_in 1337 (by decide +kernel) rfl⟩), List.forall_mem_cons.mpr ⟨Or.inr (Or.inl ⟨_, rfl, g_in 1338 (by decide +kernel) rfl⟩), List.forall_mem_cons.mpr ⟨Or.inr (Or.inl ⟨_, rfl, g_in 1382 (by decide +kernel) rfl⟩), List.forall_mem_cons.mpr ⟨Or.inl ⟨_, rfl, g_in 1424 (by decide +kernel) rfl⟩, List.forall_mem_cons.mpr ⟨Or.inr (Or.inl ⟨_, rfl, g_in 1419 (by decide +kernel) rfl⟩), List.forall_mem_cons.mpr ⟨Or.inr (Or.inl ⟨_, rfl, g_in 1437 (by decide +kernel) rfl⟩), List.forall_mem_cons.mpr ⟨Or.inr (Or.inl ⟨_, rfl, g_in 1446 (by decide +kernel) rfl⟩), fun _ h => absurd h List.not_mem_nil⟩⟩⟩⟩⟩⟩⟩⟩⟩⟩⟩⟩⟩⟩⟩⟩
theorem g_k12 : ∀ q ∈ g_kl 12, g_gvE 12 q := List.forall_mem_cons.mpr ⟨Or.inl ⟨_, rfl, g_in 762 (by decide +kernel) rfl⟩, List.forall_mem_cons.mpr ⟨Or.inl ⟨_, rfl, g_in 763 (by decide +kernel) rfl⟩, List.forall_mem_cons.mpr ⟨Or.inl ⟨_, rfl, g_in 764 (by decide +kernel) rfl⟩, fun _ h => absurd h List.not_mem_nil⟩⟩⟩
theorem g_ka : ∀ c, ∀ q ∈ g_kl c, g_gvE c q
  | 0 => fun _ h => absurd h List.not_mem_nil
  | 1 => fun _ h => absurd h List.not_mem_nil
  | 2 => fun _ h => absurd h List.not_mem_nil
  | 3 => fun _ h => absurd h List.not_mem_nil
  | 4 => fun _ h => absurd h List.not_mem_nil
  | 5 => fun _ h => absurd h List.not_mem_nil
  | 6 => fun _ h => absurd h List.not_mem_nil
  | 7 => g_k7
  | 8 => fun _ h => absurd h List.not_mem_nil
  | 9 => g_k9
  | 10 => g_k10
  | 11 => fun _ h => absurd h List.not_mem_nil
  | 12 => g_k12
  | 13 => fun _ h => absurd h List.not_mem_nil
  | _ + 14 => fun _ h => absurd h List.not_mem_nil
theorem g_gv : e_gv g_P g_Ts := by
  intro k i v h
  have h1 := g_ka _ _ (e_lk_mem (show e_lk (g_kl (g_meth k).2.2.1) i = some v from h))
  have ho : (e_mth g_P k).1.cls = g_cn (g_meth k).2.2.1 := g_own k
  rw [ho]
  exact h1
set_option maxRecDepth 100000 in
theorem g_tw : ∀ w ∈ e_tw, w ∈ g_Ts := List.forall_mem_cons.mpr ⟨g_in 442 (by exact rfl) rfl, List.forall_mem_cons.mpr ⟨g_in 452 (by exact rfl) rfl, List.forall_mem_cons.mpr ⟨g_in 446 (by exact rfl) rfl, List.forall_mem_cons.mpr ⟨g_in 456 (by exact rfl) rfl, List.forall_mem_cons.mpr ⟨g_in 459 (by exact rfl) rfl, List.forall_mem_cons.mpr ⟨g_in 462 (by exact rfl) rfl, List.forall_mem_cons.mpr ⟨g_in 467 (by exact rfl) rfl, List.forall_mem_cons.mpr ⟨g_in 83 (by decide +kernel) rfl, List.forall_mem_cons.mpr ⟨g_in 84 (by decide +kernel) rfl, List.forall_mem_cons.mpr ⟨g_in 85 (by decide +kernel) rfl, List.forall_mem_cons.mpr ⟨g_in 443 (by decide +kernel) rfl, List.forall_mem_cons.mpr ⟨g_in 444 (by decide +kernel) rfl, List.forall_mem_cons.mpr ⟨g_in 445 (by decide +kernel) rfl, List.forall_mem_cons.mpr ⟨g_in 453 (by decide +kernel) rfl, List.forall_mem_cons.mpr ⟨g_in 454 (by decide +kernel) rfl, List.forall_mem_cons.mpr ⟨g_in 455 (by decide +kernel) rfl, List.forall_mem_cons.mpr ⟨g_in 457 (by decide +kernel) rfl, List.forall_mem_cons.mpr ⟨g_in 458 (by decide +kernel) rfl, List.forall_mem_cons.mpr ⟨g_in 460 (by decide +kernel) rfl, List.forall_mem_cons.mpr ⟨g_in 461 (by decide +kernel) rfl, List.forall_mem_cons.mpr ⟨g_in 465 (by decide +kernel) rfl, List.forall_mem_cons.mpr ⟨g_in 466 (by decide +kernel) rfl, List.forall_mem_cons.mpr ⟨g_in 1455 (by decide +kernel) rfl, List.forall_mem_cons.mpr ⟨g_in 1456 (by decide +kernel) rfl, List.forall_mem_cons.mpr ⟨g_in 447 (by decide +kernel) rfl, List.forall_mem_cons.mpr ⟨g_in 463 (by decide +kernel) rfl, List.forall_mem_cons.mpr ⟨g_in 440 (by decide +kernel) rfl, List.forall_mem_cons.mpr ⟨g_in 441 (by decide +kernel) rfl, List.forall_mem_cons.mpr ⟨g_in 450 (by decide +kernel) rfl, List.forall_mem_cons.mpr ⟨g_in 451 (by decide +kernel) rfl, fun _ h => absurd h List.not_mem_nil⟩⟩⟩⟩⟩⟩⟩⟩⟩⟩⟩⟩⟩⟩⟩⟩⟩⟩⟩⟩⟩⟩⟩⟩⟩⟩⟩⟩⟩⟩
theorem g_gt : e_gt g_P g_Ts := by
  refine ⟨g_tw, fun q b h => ?_⟩
  have h : (bif Nat.blt 0 q && Nat.blt q 9 then some (e_byts.getD (q - 1) []) else none) = some b := h
  cases hc : (Nat.blt 0 q && Nat.blt q 9) with
  | false => rw [hc] at h; cases h
  | true =>
    rw [hc] at h
    simp only [Bool.and_eq_true, Nat.blt_eq] at hc
    cases h
    exact ⟨q - 1, by omega, by omega, rfl⟩
theorem g_ga : e_ga g_P g_Ts := ⟨g_in 127 (by decide +kernel) rfl, g_in 227 (by decide +kernel) rfl, g_in 96 (by decide +kernel) rfl, g_in 97 (by decide +kernel) rfl, fun w h => (List.mem_filter.mp h).2, g_gt⟩
