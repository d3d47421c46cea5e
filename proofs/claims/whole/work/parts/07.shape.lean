/-! The cells behind the two constructors, in the order in which they are made: 0 the server; 1 its store; 2 the pool; 3 + 2i the block i, 4 + 2i its bytes; 131 the members; 132 the two connections; 133 + 33c a connection, 134 + 33c its row of fids, 135 + 33c + f a fid, 141 + 33c its row of requests, 142 + 33c + 3t a request, its row of numbers, that row's array; 199, 200 what is said; 201, 202 what is replied; 203 the wish; 204 the reference; 205 .. 228 its arrays. -/
abbrev hp_T : Type := (Nat × Nat × List Nat) ⊕ (Nat × List (Option Nat))
def hp_blk (b : Nat) : hp_T := .inr (0, [some (b + 1), none, none, none, none, none, none, none, none, none])
def hp_fid : hp_T := .inr (2, [none, none, none, none, none, none, none])
def hp_req (r : Nat) : hp_T := .inr (4, [some (r + 1), none, none, none])
def hp_row (r : Nat) : hp_T := .inr (5, [some (r + 1), none])
def hp_ar (n : Nat) : hp_T := .inl (0, n, [])
def hp_con (b : Nat) : List hp_T := [.inr (1, [some (b + 1), some (b + 8)]), .inl (4, 6, [b + 2, b + 3, b + 4, b + 5, b + 6, b + 7]), hp_fid, hp_fid, hp_fid, hp_fid, hp_fid, hp_fid, .inl (5, 8, [b + 9, b + 12, b + 15, b + 18, b + 21, b + 24, b + 27, b + 30]), hp_req (b + 9), hp_row (b + 10), hp_ar 4, hp_req (b + 12), hp_row (b + 13), hp_ar 4, hp_req (b + 15), hp_row (b + 16), hp_ar 4, hp_req (b + 18), hp_row (b + 19), hp_ar 4, hp_req (b + 21), hp_row (b + 22), hp_ar 4, hp_req (b + 24), hp_row (b + 25), hp_ar 4, hp_req (b + 27), hp_row (b + 28), hp_ar 4, hp_req (b + 30), hp_row (b + 31), hp_ar 4]
def hp_pool : List Nat := (List.range 64).map (fun i => 3 + 2 * i)
def hp_S1 : List hp_T := [.inr (8, [some 1, some 131, some 132, some 199, some 201, some 203]), .inr (6, [some 2, none, none]), .inl (2, 64, hp_pool)] ++ ((List.range 64).flatMap (fun i => [hp_blk (3 + 2 * i), hp_ar 16]) ++ ([.inr (3, [none]), .inl (3, 2, [133, 166])] ++ (hp_con 133 ++ (hp_con 166 ++ [hp_row 199, hp_ar 4, hp_row 201, hp_ar 8, .inr (7, [none, none, none, none])]))))
def hp_S2 : List hp_T := [.inr (9, [some 205, some 206, some 207, some 208, some 209, some 210, some 211, some 212, some 213, some 214, some 215, some 216, none, none, none, some 217, some 218, some 219, some 220, some 221, some 222, some 223, some 224, some 225, none, some 226, none, some 227, some 228, none]), .inl (1, 16, []), hp_ar 6, hp_ar 120, hp_ar 120, hp_ar 120, hp_ar 120, hp_ar 120, hp_ar 120, hp_ar 120, hp_ar 120, hp_ar 120, hp_ar 1920, hp_ar 12, hp_ar 12, hp_ar 12, hp_ar 12, hp_ar 12, hp_ar 16, hp_ar 16, hp_ar 16, hp_ar 64, hp_ar 4, hp_ar 16, hp_ar 4]
def hp_S : List hp_T := hp_S1 ++ hp_S2
theorem hp_n : hp_S.length = 229 := by decide +kernel
theorem sh_X : hp_S[0]? = some (.inr (8, [some 1, some 131, some 132, some 199, some 201, some 203])) := by decide +kernel
theorem sh_S : hp_S[1]? = some (.inr (6, [some 2, none, none])) := by decide +kernel
theorem sh_pool : hp_S[2]? = some (.inl (2, 64, hp_pool)) := by decide +kernel
theorem sh_blk : ∀ i, i < 64 → hp_S[3 + 2 * i]? = some (hp_blk (3 + 2 * i)) := fun i hi => co_dec (P := fun i => hp_S[3 + 2 * i]? = some (hp_blk (3 + 2 * i))) (by decide +kernel) hi
theorem sh_byt : ∀ i, i < 64 → hp_S[3 + 2 * i + 1]? = some (hp_ar 16) := fun i hi => co_dec (P := fun i => hp_S[3 + 2 * i + 1]? = some (hp_ar 16)) (by decide +kernel) hi
theorem sh_pl : ∀ i, i < 64 → hp_pool[i]? = some (3 + 2 * i) := by decide +kernel
theorem sh_M : hp_S[131]? = some (.inr (3, [none])) := by decide +kernel
theorem sh_cons : hp_S[132]? = some (.inl (3, 2, [133, 166])) := by decide +kernel
theorem sh_con : ∀ c, c < 2 → hp_S[133 + 33 * c]? = some (.inr (1, [some (133 + 33 * c + 1), some (133 + 33 * c + 8)])) := by
  intro c hc
  rcases (show c = 0 ∨ c = 1 by omega) with rfl | rfl
  · decide +kernel
  · decide +kernel
theorem sh_fids : ∀ c, c < 2 → hp_S[133 + 33 * c + 1]? = some (.inl (4, 6, [133 + 33 * c + 2, 133 + 33 * c + 3, 133 + 33 * c + 4, 133 + 33 * c + 5, 133 + 33 * c + 6, 133 + 33 * c + 7])) := by
  intro c hc
  rcases (show c = 0 ∨ c = 1 by omega) with rfl | rfl
  · decide +kernel
  · decide +kernel
theorem sh_fid : ∀ c, c < 2 → ∀ f, f < 6 → hp_S[133 + 33 * c + 2 + f]? = some hp_fid := by
  intro c hc
  rcases (show c = 0 ∨ c = 1 by omega) with rfl | rfl
  · exact fun f h => co_dec (P := fun f => hp_S[133 + 33 * 0 + 2 + f]? = some hp_fid) (by decide +kernel) h
  · exact fun f h => co_dec (P := fun f => hp_S[133 + 33 * 1 + 2 + f]? = some hp_fid) (by decide +kernel) h
theorem sh_reqs : ∀ c, c < 2 → hp_S[133 + 33 * c + 8]? = some (.inl (5, 8, [133 + 33 * c + 9, 133 + 33 * c + 12, 133 + 33 * c + 15, 133 + 33 * c + 18, 133 + 33 * c + 21, 133 + 33 * c + 24, 133 + 33 * c + 27, 133 + 33 * c + 30])) := by
  intro c hc
  rcases (show c = 0 ∨ c = 1 by omega) with rfl | rfl
  · decide +kernel
  · decide +kernel
theorem sh_req : ∀ c, c < 2 → ∀ t, t < 8 → hp_S[133 + 33 * c + 9 + 3 * t]? = some (hp_req (133 + 33 * c + 9 + 3 * t)) := by
  intro c hc
  rcases (show c = 0 ∨ c = 1 by omega) with rfl | rfl
  · exact fun t h => co_dec (P := fun t => hp_S[133 + 33 * 0 + 9 + 3 * t]? = some (hp_req (133 + 33 * 0 + 9 + 3 * t))) (by decide +kernel) h
  · exact fun t h => co_dec (P := fun t => hp_S[133 + 33 * 1 + 9 + 3 * t]? = some (hp_req (133 + 33 * 1 + 9 + 3 * t))) (by decide +kernel) h
theorem sh_rrow : ∀ c, c < 2 → ∀ t, t < 8 → hp_S[133 + 33 * c + 9 + 3 * t + 1]? = some (hp_row (133 + 33 * c + 9 + 3 * t + 1)) := by
  intro c hc
  rcases (show c = 0 ∨ c = 1 by omega) with rfl | rfl
  · exact fun t h => co_dec (P := fun t => hp_S[133 + 33 * 0 + 9 + 3 * t + 1]? = some (hp_row (133 + 33 * 0 + 9 + 3 * t + 1))) (by decide +kernel) h
  · exact fun t h => co_dec (P := fun t => hp_S[133 + 33 * 1 + 9 + 3 * t + 1]? = some (hp_row (133 + 33 * 1 + 9 + 3 * t + 1))) (by decide +kernel) h
theorem sh_rar : ∀ c, c < 2 → ∀ t, t < 8 → hp_S[133 + 33 * c + 9 + 3 * t + 1 + 1]? = some (hp_ar 4) := by
  intro c hc
  rcases (show c = 0 ∨ c = 1 by omega) with rfl | rfl
  · exact fun t h => co_dec (P := fun t => hp_S[133 + 33 * 0 + 9 + 3 * t + 1 + 1]? = some (hp_ar 4)) (by decide +kernel) h
  · exact fun t h => co_dec (P := fun t => hp_S[133 + 33 * 1 + 9 + 3 * t + 1 + 1]? = some (hp_ar 4)) (by decide +kernel) h
theorem sh_said : hp_S[199]? = some (hp_row 199) := by decide +kernel
theorem sh_saidA : hp_S[200]? = some (hp_ar 4) := by decide +kernel
theorem sh_rep : hp_S[201]? = some (hp_row 201) := by decide +kernel
theorem sh_repA : hp_S[202]? = some (hp_ar 8) := by decide +kernel
theorem sh_W : hp_S[203]? = some (.inr (7, [none, none, none, none])) := by decide +kernel
theorem sh_N : hp_S[204]? = some (.inr (9, [some 205, some 206, some 207, some 208, some 209, some 210, some 211, some 212, some 213, some 214, some 215, some 216, none, none, none, some 217, some 218, some 219, some 220, some 221, some 222, some 223, some 224, some 225, none, some 226, none, some 227, some 228, none])) := by decide +kernel
theorem sh_N_members : hp_S[205]? = some (.inl (1, 16, [])) := by decide +kernel
theorem sh_N_many : hp_S[206]? = some (hp_ar 6) := by decide +kernel
theorem sh_N_path : hp_S[207]? = some (hp_ar 120) := by decide +kernel
theorem sh_N_above : hp_S[208]? = some (hp_ar 120) := by decide +kernel
theorem sh_N_title : hp_S[209]? = some (hp_ar 120) := by decide +kernel
theorem sh_N_owner : hp_S[210]? = some (hp_ar 120) := by decide +kernel
theorem sh_N_group : hp_S[211]? = some (hp_ar 120) := by decide +kernel
theorem sh_N_version : hp_S[212]? = some (hp_ar 120) := by decide +kernel
theorem sh_N_mode : hp_S[213]? = some (hp_ar 120) := by decide +kernel
theorem sh_N_length : hp_S[214]? = some (hp_ar 120) := by decide +kernel
theorem sh_N_block : hp_S[215]? = some (hp_ar 120) := by decide +kernel
theorem sh_N_bytes : hp_S[216]? = some (hp_ar 1920) := by decide +kernel
theorem sh_N_user : hp_S[217]? = some (hp_ar 12) := by decide +kernel
theorem sh_N_tree : hp_S[218]? = some (hp_ar 12) := by decide +kernel
theorem sh_N_at : hp_S[219]? = some (hp_ar 12) := by decide +kernel
theorem sh_N_openMode : hp_S[220]? = some (hp_ar 12) := by decide +kernel
theorem sh_N_ended : hp_S[221]? = some (hp_ar 12) := by decide +kernel
theorem sh_N_kind : hp_S[222]? = some (hp_ar 16) := by decide +kernel
theorem sh_N_about : hp_S[223]? = some (hp_ar 16) := by decide +kernel
theorem sh_N_count : hp_S[224]? = some (hp_ar 16) := by decide +kernel
theorem sh_N_numbers : hp_S[225]? = some (hp_ar 64) := by decide +kernel
theorem sh_N_saying : hp_S[226]? = some (hp_ar 4) := by decide +kernel
theorem sh_N_answer : hp_S[227]? = some (hp_ar 16) := by decide +kernel
theorem sh_N_n : hp_S[228]? = some (hp_ar 4) := by decide +kernel
