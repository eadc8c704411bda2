/-! THE CELLS, AND SMALL METHODS: pure ones first -/
/-- the cells behind the two constructors; b: what the reader reads into (0 none, 7 the texts) -/
def SH (b : Nat) : am_Sh := [(15, 15, [0, 2, 7, 11, 25, 30, 34, 48, 53, 55, 57, 104, 121, 127, 0]), (13, 5, [0, 3, 4, 5, 6]), (0, 148, []), (0, 148, []), (0, 128, []), (0, 4, []), (12, 5, [8, 9, 10, 0, 0]), (0, 1800, []), (0, 24, []), (0, 24, []), (6, 17, [12, 13, 14, 15, 0, 16, 17, 18, 19, 20, 21, 0, 22, 23, 0, 24, 0]), (0, 200, []), (0, 200, []), (0, 200, []), (0, 200, []), (0, 12, []), (0, 120, []), (0, 4, []), (0, 60, []), (0, 60, []), (0, 60, []), (0, 20, []), (0, 20, []), (0, 5, []), (13, 5, [0, 26, 27, 28, 29]), (0, 148, []), (0, 148, []), (0, 128, []), (0, 4, []), (12, 5, [31, 32, 33, 0, 0]), (0, 1800, []), (0, 24, []), (0, 24, []), (6, 17, [35, 36, 37, 38, 0, 39, 40, 41, 42, 43, 44, 0, 45, 46, 0, 47, 0]), (0, 200, []), (0, 200, []), (0, 200, []), (0, 200, []), (0, 12, []), (0, 120, []), (0, 4, []), (0, 60, []), (0, 60, []), (0, 60, []), (0, 20, []), (0, 20, []), (0, 5, []), (11, 12, [49, 0, 0, 0, b, 0, 0, 0, 0, 0, 0, 0]), (0, 300, []), (8, 3, [51, 52, 0]), (0, 11, []), (0, 64, []), (4, 8, [2, 7, 50, 0, 54, 0, 0, 0]), (0, 37, []), (10, 12, [0, 7, 50, 56, 0, 0, 0, 0, 0, 0, 0, 0]), (0, 37, []), (14, 14, [2, 11, 0, 58, 59, 60, 61, 62, 63, 64, 65, 66, 68, 70]), (0, 4, []), (0, 4, []), (0, 12, []), (0, 3, []), (0, 3, []), (0, 4, []), (3, 12, [72, 74, 76, 78, 80, 82, 84, 86, 88, 90, 92, 94]), (3, 4, [96, 98, 100, 102]), (5, 2, [67, 0]), (0, 40, []), (5, 2, [69, 0]), (0, 40, []), (5, 2, [71, 0]), (0, 40, []), (5, 2, [73, 0]), (0, 40, []), (5, 2, [75, 0]), (0, 40, []), (5, 2, [77, 0]), (0, 40, []), (5, 2, [79, 0]), (0, 40, []), (5, 2, [81, 0]), (0, 40, []), (5, 2, [83, 0]), (0, 40, []), (5, 2, [85, 0]), (0, 40, []), (5, 2, [87, 0]), (0, 40, []), (5, 2, [89, 0]), (0, 40, []), (5, 2, [91, 0]), (0, 40, []), (5, 2, [93, 0]), (0, 40, []), (5, 2, [95, 0]), (0, 40, []), (5, 2, [97, 0]), (0, 40, []), (5, 2, [99, 0]), (0, 40, []), (5, 2, [101, 0]), (0, 40, []), (5, 2, [103, 0]), (0, 40, []), (7, 11, [0, 105, 107, 109, 111, 113, 115, 117, 119, 0, 0]), (5, 2, [106, 0]), (0, 40, []), (5, 2, [108, 0]), (0, 40, []), (5, 2, [110, 0]), (0, 40, []), (5, 2, [112, 0]), (0, 40, []), (5, 2, [114, 0]), (0, 40, []), (5, 2, [116, 0]), (0, 40, []), (5, 2, [118, 0]), (0, 40, []), (5, 2, [120, 0]), (0, 40, []), (9, 17, [122, 123, 124, 125, 0, 0, 0, 126, 0, 0, 0, 0, 0, 0, 0, 0, 0]), (1, 41, []), (1, 41, []), (1, 41, []), (1, 41, []), (1, 21, []), (0, 37, []), (16, 38, [0, 129, 130, 131, 132, 0, 0, 0, 0, 0, 0, 0, 0, 0, 0, 0, 0, 0, 133, 0, 0, 0, 134, 135, 0, 0, 0, 136, 137, 138, 139, 0, 140, 0, 141, 142, 143, 144]), (0, 1620, []), (0, 1620, []), (0, 4800, []), (0, 300, []), (0, 160, []), (0, 11, []), (1, 330, []), (0, 37, []), (0, 13000, []), (0, 3, []), (0, 3, []), (0, 37, []), (2, 37, []), (0, 37, []), (0, 41, []), (0, 37, [])]
abbrev R32 (x : Int) : Prop := -2147483648 ≤ x ∧ x < 2147483648
/-- a yes or a no -/
def Is1 (r : am_R) (sh : am_Sh) (g : am_G) (P : Prop) : Prop := (r = (some (0, 1), sh, g) ∧ P) ∨ (r = (some (0, 0), sh, g) ∧ ¬ P)
set_option maxHeartbeats 400000 in
set_option maxRecDepth 20000 in
theorem e_within {sn : Nat} {sx : Nat → Int} {g : am_G} {sh : am_Sh} {v low high : Int} (h_v : R32 v) (h_low : R32 low) (h_high : R32 high) : Ev sn sx 1 131 [(0, v), (0, low), (0, high)] sh g (fun r => Is1 r sh g (low ≤ v ∧ v ≤ high)) := by
  refine ev_of (K := 0) T131 (by decide) rfl rfl (Nat.le_of_ble_eq_true rfl) ?_
  refine wp_eq (L' := [(0, v), (0, low), (0, high)]) (st' := []) (g' := g) ?_
  refine wp_n 2 (pc' := 2) (L' := [(0, v), (0, low), (0, high)]) (st' := [(0, low), (0, v)]) (g' := g) rfl ?_
  refine wp_ic_lt rfl (fun c1 => ?_) (fun c1 => ?_)
  · refine wp_n 1 (pc' := 15) (L' := [(0, v), (0, low), (0, high)]) (st' := [(0, 0)]) (g' := g) rfl ?_
    exact wp_ret rfl rfl rfl (Or.inr ⟨rfl, by omega⟩)
  · refine wp_n 2 (pc' := 7) (L' := [(0, v), (0, low), (0, high)]) (st' := [(0, high), (0, v)]) (g' := g) rfl ?_
    refine wp_ic_gt rfl (fun c2 => ?_) (fun c2 => ?_)
    · refine wp_n 1 (pc' := 15) (L' := [(0, v), (0, low), (0, high)]) (st' := [(0, 0)]) (g' := g) rfl ?_
      exact wp_ret rfl rfl rfl (Or.inr ⟨rfl, by omega⟩)
    · refine wp_n 2 (pc' := 15) (L' := [(0, v), (0, low), (0, high)]) (st' := [(0, 1)]) (g' := g) rfl ?_
      exact wp_ret rfl rfl rfl (Or.inl ⟨rfl, by omega⟩)
set_option maxHeartbeats 400000 in
set_option maxRecDepth 20000 in
theorem e_isIn {sn : Nat} {sx : Nat → Int} {g : am_G} {sh : am_Sh} {v low high : Int} (h_v : R32 v) (h_low : R32 low) (h_high : R32 high) : Ev sn sx 1 151 [(0, v), (0, low), (0, high)] sh g (fun r => Is1 r sh g (low ≤ v ∧ v ≤ high)) := by
  refine ev_of (K := 0) T151 (by decide) rfl rfl (Nat.le_of_ble_eq_true rfl) ?_
  refine wp_eq (L' := [(0, v), (0, low), (0, high)]) (st' := []) (g' := g) ?_
  refine wp_n 2 (pc' := 2) (L' := [(0, v), (0, low), (0, high)]) (st' := [(0, low), (0, v)]) (g' := g) rfl ?_
  refine wp_ic_lt rfl (fun c1 => ?_) (fun c1 => ?_)
  · refine wp_n 1 (pc' := 15) (L' := [(0, v), (0, low), (0, high)]) (st' := [(0, 0)]) (g' := g) rfl ?_
    exact wp_ret rfl rfl rfl (Or.inr ⟨rfl, by omega⟩)
  · refine wp_n 2 (pc' := 7) (L' := [(0, v), (0, low), (0, high)]) (st' := [(0, high), (0, v)]) (g' := g) rfl ?_
    refine wp_ic_gt rfl (fun c2 => ?_) (fun c2 => ?_)
    · refine wp_n 1 (pc' := 15) (L' := [(0, v), (0, low), (0, high)]) (st' := [(0, 0)]) (g' := g) rfl ?_
      exact wp_ret rfl rfl rfl (Or.inr ⟨rfl, by omega⟩)
    · refine wp_n 2 (pc' := 15) (L' := [(0, v), (0, low), (0, high)]) (st' := [(0, 1)]) (g' := g) rfl ?_
      exact wp_ret rfl rfl rfl (Or.inl ⟨rfl, by omega⟩)
set_option maxHeartbeats 400000 in
set_option maxRecDepth 20000 in
theorem e_isWheel {sn : Nat} {sx : Nat → Int} {g : am_G} {sh : am_Sh} {w : Int} (h_w : R32 w) : Ev sn sx 2 132 [(0, w)] sh g (fun r => Is1 r sh g (0 ≤ w ∧ w ≤ 3)) := by
  refine ev_of (K := 1) T132 (by decide) rfl rfl (Nat.le_of_ble_eq_true rfl) ?_
  refine wp_eq (L' := [(0, w)]) (st' := []) (g' := g) ?_
  refine wp_n 3 (pc' := 3) (L' := [(0, w)]) (st' := [(0, 3), (0, 0), (0, w)]) (g' := g) rfl ?_
  refine wp_cs (as := [(0, w), (0, 0), (0, 3)]) (rest := []) rfl (by decide) rfl (Nat.le_of_ble_eq_true rfl) (e_within (by omega) (by omega) (by omega)) (by decide) (fun r2 h3 => ?_)
  rcases h3 with ⟨rfl, p1⟩ | ⟨rfl, p1⟩
  · refine wp_eq (L' := [(0, w)]) (st' := [(0, 1)]) (g' := g) ?_
    exact wp_ret rfl rfl rfl (Or.inl ⟨rfl, by omega⟩)
  · refine wp_eq (L' := [(0, w)]) (st' := [(0, 0)]) (g' := g) ?_
    exact wp_ret rfl rfl rfl (Or.inr ⟨rfl, by omega⟩)
set_option maxHeartbeats 400000 in
set_option maxRecDepth 20000 in
theorem e_MisWheel {sn : Nat} {sx : Nat → Int} {g : am_G} {sh : am_Sh} {w : Int} (h_w : R32 w) : Ev sn sx 2 153 [(0, w)] sh g (fun r => Is1 r sh g (0 ≤ w ∧ w ≤ 3)) := by
  refine ev_of (K := 1) T153 (by decide) rfl rfl (Nat.le_of_ble_eq_true rfl) ?_
  refine wp_eq (L' := [(0, w)]) (st' := []) (g' := g) ?_
  refine wp_n 3 (pc' := 3) (L' := [(0, w)]) (st' := [(0, 3), (0, 0), (0, w)]) (g' := g) rfl ?_
  refine wp_cs (as := [(0, w), (0, 0), (0, 3)]) (rest := []) rfl (by decide) rfl (Nat.le_of_ble_eq_true rfl) (e_isIn (by omega) (by omega) (by omega)) (by decide) (fun r2 h3 => ?_)
  rcases h3 with ⟨rfl, p1⟩ | ⟨rfl, p1⟩
  · refine wp_eq (L' := [(0, w)]) (st' := [(0, 1)]) (g' := g) ?_
    exact wp_ret rfl rfl rfl (Or.inl ⟨rfl, by omega⟩)
  · refine wp_eq (L' := [(0, w)]) (st' := [(0, 0)]) (g' := g) ?_
    exact wp_ret rfl rfl rfl (Or.inr ⟨rfl, by omega⟩)
set_option maxHeartbeats 400000 in
set_option maxRecDepth 20000 in
theorem e_isHand {sn : Nat} {sx : Nat → Int} {g : am_G} {sh : am_Sh} {w : Int} (h_w : R32 w) : Ev sn sx 2 133 [(0, w)] sh g (fun r => Is1 r sh g (0 ≤ w ∧ w ≤ 3)) := by
  refine ev_of (K := 1) T133 (by decide) rfl rfl (Nat.le_of_ble_eq_true rfl) ?_
  refine wp_eq (L' := [(0, w)]) (st' := []) (g' := g) ?_
  refine wp_n 3 (pc' := 3) (L' := [(0, w)]) (st' := [(0, 3), (0, 0), (0, w)]) (g' := g) rfl ?_
  refine wp_cs (as := [(0, w), (0, 0), (0, 3)]) (rest := []) rfl (by decide) rfl (Nat.le_of_ble_eq_true rfl) (e_within (by omega) (by omega) (by omega)) (by decide) (fun r2 h3 => ?_)
  rcases h3 with ⟨rfl, p1⟩ | ⟨rfl, p1⟩
  · refine wp_eq (L' := [(0, w)]) (st' := [(0, 1)]) (g' := g) ?_
    exact wp_ret rfl rfl rfl (Or.inl ⟨rfl, by omega⟩)
  · refine wp_eq (L' := [(0, w)]) (st' := [(0, 0)]) (g' := g) ?_
    exact wp_ret rfl rfl rfl (Or.inr ⟨rfl, by omega⟩)
set_option maxHeartbeats 400000 in
set_option maxRecDepth 20000 in
theorem e_MisHand {sn : Nat} {sx : Nat → Int} {g : am_G} {sh : am_Sh} {w : Int} (h_w : R32 w) : Ev sn sx 2 201 [(0, w)] sh g (fun r => Is1 r sh g (0 ≤ w ∧ w ≤ 3)) := by
  refine ev_of (K := 1) T201 (by decide) rfl rfl (Nat.le_of_ble_eq_true rfl) ?_
  refine wp_eq (L' := [(0, w)]) (st' := []) (g' := g) ?_
  refine wp_n 3 (pc' := 3) (L' := [(0, w)]) (st' := [(0, 3), (0, 0), (0, w)]) (g' := g) rfl ?_
  refine wp_cs (as := [(0, w), (0, 0), (0, 3)]) (rest := []) rfl (by decide) rfl (Nat.le_of_ble_eq_true rfl) (e_isIn (by omega) (by omega) (by omega)) (by decide) (fun r2 h3 => ?_)
  rcases h3 with ⟨rfl, p1⟩ | ⟨rfl, p1⟩
  · refine wp_eq (L' := [(0, w)]) (st' := [(0, 1)]) (g' := g) ?_
    exact wp_ret rfl rfl rfl (Or.inl ⟨rfl, by omega⟩)
  · refine wp_eq (L' := [(0, w)]) (st' := [(0, 0)]) (g' := g) ?_
    exact wp_ret rfl rfl rfl (Or.inr ⟨rfl, by omega⟩)
set_option maxHeartbeats 400000 in
set_option maxRecDepth 20000 in
theorem e_isTable {sn : Nat} {sx : Nat → Int} {g : am_G} {sh : am_Sh} {e t : Int} (h_e : R32 e) (h_t : R32 t) : Ev sn sx 2 134 [(0, e), (0, t)] sh g (fun r => Is1 r sh g (0 ≤ e ∧ e ≤ 3 ∧ 0 ≤ t ∧ t ≤ 2)) := by
  refine ev_of (K := 1) T134 (by decide) rfl rfl (Nat.le_of_ble_eq_true rfl) ?_
  refine wp_eq (L' := [(0, e), (0, t)]) (st' := []) (g' := g) ?_
  refine wp_n 3 (pc' := 3) (L' := [(0, e), (0, t)]) (st' := [(0, 3), (0, 0), (0, e)]) (g' := g) rfl ?_
  refine wp_cs (as := [(0, e), (0, 0), (0, 3)]) (rest := []) rfl (by decide) rfl (Nat.le_of_ble_eq_true rfl) (e_within (by omega) (by omega) (by omega)) (by decide) (fun r2 h3 => ?_)
  rcases h3 with ⟨rfl, p1⟩ | ⟨rfl, p1⟩
  · refine wp_eq (L' := [(0, e), (0, t)]) (st' := [(0, 1)]) (g' := g) ?_
    refine wp_n 4 (pc' := 12) (L' := [(0, e), (0, t)]) (st' := [(0, 2), (0, 0), (0, t)]) (g' := g) rfl ?_
    refine wp_cs (as := [(0, t), (0, 0), (0, 2)]) (rest := []) rfl (by decide) rfl (Nat.le_of_ble_eq_true rfl) (e_within (by omega) (by omega) (by omega)) (by decide) (fun r5 h6 => ?_)
    rcases h6 with ⟨rfl, p4⟩ | ⟨rfl, p4⟩
    · refine wp_eq (L' := [(0, e), (0, t)]) (st' := [(0, 1)]) (g' := g) ?_
      refine wp_n 3 (pc' := 23) (L' := [(0, e), (0, t)]) (st' := [(0, 1)]) (g' := g) rfl ?_
      exact wp_ret rfl rfl rfl (Or.inl ⟨rfl, by omega⟩)
    · refine wp_eq (L' := [(0, e), (0, t)]) (st' := [(0, 0)]) (g' := g) ?_
      refine wp_n 2 (pc' := 23) (L' := [(0, e), (0, t)]) (st' := [(0, 0)]) (g' := g) rfl ?_
      exact wp_ret rfl rfl rfl (Or.inr ⟨rfl, by omega⟩)
  · refine wp_eq (L' := [(0, e), (0, t)]) (st' := [(0, 0)]) (g' := g) ?_
    refine wp_n 2 (pc' := 23) (L' := [(0, e), (0, t)]) (st' := [(0, 0)]) (g' := g) rfl ?_
    exact wp_ret rfl rfl rfl (Or.inr ⟨rfl, by omega⟩)
set_option maxHeartbeats 400000 in
set_option maxRecDepth 20000 in
theorem e_isCount {sn : Nat} {sx : Nat → Int} {g : am_G} {sh : am_Sh} {n k : Int} (h_n : R32 n) (h_k : R32 k) : Ev sn sx 2 135 [(0, n), (0, k)] sh g (fun r => Is1 r sh g (1 ≤ n ∧ n ≤ 60 ∧ 0 ≤ k ∧ k ≤ n)) := by
  refine ev_of (K := 1) T135 (by decide) rfl rfl (Nat.le_of_ble_eq_true rfl) ?_
  refine wp_eq (L' := [(0, n), (0, k)]) (st' := []) (g' := g) ?_
  refine wp_n 3 (pc' := 4) (L' := [(0, n), (0, k)]) (st' := [(0, 60), (0, 1), (0, n)]) (g' := g) rfl ?_
  refine wp_cs (as := [(0, n), (0, 1), (0, 60)]) (rest := []) rfl (by decide) rfl (Nat.le_of_ble_eq_true rfl) (e_within (by omega) (by omega) (by omega)) (by decide) (fun r2 h3 => ?_)
  rcases h3 with ⟨rfl, p1⟩ | ⟨rfl, p1⟩
  · refine wp_eq (L' := [(0, n), (0, k)]) (st' := [(0, 1)]) (g' := g) ?_
    refine wp_n 4 (pc' := 13) (L' := [(0, n), (0, k)]) (st' := [(0, n), (0, 0), (0, k)]) (g' := g) rfl ?_
    refine wp_cs (as := [(0, k), (0, 0), (0, n)]) (rest := []) rfl (by decide) rfl (Nat.le_of_ble_eq_true rfl) (e_within (by omega) (by omega) (by omega)) (by decide) (fun r5 h6 => ?_)
    rcases h6 with ⟨rfl, p4⟩ | ⟨rfl, p4⟩
    · refine wp_eq (L' := [(0, n), (0, k)]) (st' := [(0, 1)]) (g' := g) ?_
      refine wp_n 3 (pc' := 24) (L' := [(0, n), (0, k)]) (st' := [(0, 1)]) (g' := g) rfl ?_
      exact wp_ret rfl rfl rfl (Or.inl ⟨rfl, by omega⟩)
    · refine wp_eq (L' := [(0, n), (0, k)]) (st' := [(0, 0)]) (g' := g) ?_
      refine wp_n 2 (pc' := 24) (L' := [(0, n), (0, k)]) (st' := [(0, 0)]) (g' := g) rfl ?_
      exact wp_ret rfl rfl rfl (Or.inr ⟨rfl, by omega⟩)
  · refine wp_eq (L' := [(0, n), (0, k)]) (st' := [(0, 0)]) (g' := g) ?_
    refine wp_n 2 (pc' := 24) (L' := [(0, n), (0, k)]) (st' := [(0, 0)]) (g' := g) rfl ?_
    exact wp_ret rfl rfl rfl (Or.inr ⟨rfl, by omega⟩)
set_option maxHeartbeats 400000 in
set_option maxRecDepth 20000 in
theorem e_areTenths {sn : Nat} {sx : Nat → Int} {g : am_G} {sh : am_Sh} {x y z u v : Int} (h_x : R32 x) (h_y : R32 y) (h_z : R32 z) (h_u : R32 u) (h_v : R32 v) : Ev sn sx 2 136 [(0, x), (0, y), (0, z), (0, u), (0, v)] sh g (fun r => Is1 r sh g (0 ≤ x ∧ x ≤ 10 ∧ 0 ≤ y ∧ y ≤ 10 ∧ 0 ≤ z ∧ z ≤ 10 ∧ 0 ≤ u ∧ u ≤ 10 ∧ 0 ≤ v ∧ v ≤ 10 ∧ x + y + z + u + v = 10)) := by
  refine ev_of (K := 1) T136 (by decide) rfl rfl (Nat.le_of_ble_eq_true rfl) ?_
  refine wp_eq (L' := [(0, x), (0, y), (0, z), (0, u), (0, v), (9, 0)]) (st' := []) (g' := g) ?_
  refine wp_n 3 (pc' := 4) (L' := [(0, x), (0, y), (0, z), (0, u), (0, v), (9, 0)]) (st' := [(0, 10), (0, 0), (0, x)]) (g' := g) rfl ?_
  refine wp_cs (as := [(0, x), (0, 0), (0, 10)]) (rest := []) rfl (by decide) rfl (Nat.le_of_ble_eq_true rfl) (e_within (by omega) (by omega) (by omega)) (by decide) (fun r2 h3 => ?_)
  rcases h3 with ⟨rfl, p1⟩ | ⟨rfl, p1⟩
  · refine wp_eq (L' := [(0, x), (0, y), (0, z), (0, u), (0, v), (9, 0)]) (st' := [(0, 1)]) (g' := g) ?_
    refine wp_n 4 (pc' := 14) (L' := [(0, x), (0, y), (0, z), (0, u), (0, v), (9, 0)]) (st' := [(0, 10), (0, 0), (0, y)]) (g' := g) rfl ?_
    refine wp_cs (as := [(0, y), (0, 0), (0, 10)]) (rest := []) rfl (by decide) rfl (Nat.le_of_ble_eq_true rfl) (e_within (by omega) (by omega) (by omega)) (by decide) (fun r5 h6 => ?_)
    rcases h6 with ⟨rfl, p4⟩ | ⟨rfl, p4⟩
    · refine wp_eq (L' := [(0, x), (0, y), (0, z), (0, u), (0, v), (9, 0)]) (st' := [(0, 1)]) (g' := g) ?_
      refine wp_n 4 (pc' := 24) (L' := [(0, x), (0, y), (0, z), (0, u), (0, v), (9, 0)]) (st' := [(0, 10), (0, 0), (0, z)]) (g' := g) rfl ?_
      refine wp_cs (as := [(0, z), (0, 0), (0, 10)]) (rest := []) rfl (by decide) rfl (Nat.le_of_ble_eq_true rfl) (e_within (by omega) (by omega) (by omega)) (by decide) (fun r8 h9 => ?_)
      rcases h9 with ⟨rfl, p7⟩ | ⟨rfl, p7⟩
      · refine wp_eq (L' := [(0, x), (0, y), (0, z), (0, u), (0, v), (9, 0)]) (st' := [(0, 1)]) (g' := g) ?_
        refine wp_n 4 (pc' := 34) (L' := [(0, x), (0, y), (0, z), (0, u), (0, v), (9, 0)]) (st' := [(0, 10), (0, 0), (0, u)]) (g' := g) rfl ?_
        refine wp_cs (as := [(0, u), (0, 0), (0, 10)]) (rest := []) rfl (by decide) rfl (Nat.le_of_ble_eq_true rfl) (e_within (by omega) (by omega) (by omega)) (by decide) (fun r11 h12 => ?_)
        rcases h12 with ⟨rfl, p10⟩ | ⟨rfl, p10⟩
        · refine wp_eq (L' := [(0, x), (0, y), (0, z), (0, u), (0, v), (9, 0)]) (st' := [(0, 1)]) (g' := g) ?_
          refine wp_n 4 (pc' := 45) (L' := [(0, x), (0, y), (0, z), (0, u), (0, v), (9, 0)]) (st' := [(0, 10), (0, 0), (0, v)]) (g' := g) rfl ?_
          refine wp_cs (as := [(0, v), (0, 0), (0, 10)]) (rest := []) rfl (by decide) rfl (Nat.le_of_ble_eq_true rfl) (e_within (by omega) (by omega) (by omega)) (by decide) (fun r14 h15 => ?_)
          rcases h15 with ⟨rfl, p13⟩ | ⟨rfl, p13⟩
          · refine wp_eq (L' := [(0, x), (0, y), (0, z), (0, u), (0, v), (9, 0)]) (st' := [(0, 1)]) (g' := g) ?_
            refine wp_n 16 (pc' := 75) (L' := [(0, x), (0, y), (0, z), (0, u), (0, v), (0, 1)]) (st' := [(0, 10), (0, ((((x + y) + z) + u) + v))]) (g' := g) rfl ?_
            refine wp_ic_ne rfl (fun c16 => ?_) (fun c16 => ?_)
            · refine wp_n 1 (pc' := 83) (L' := [(0, x), (0, y), (0, z), (0, u), (0, v), (0, 1)]) (st' := [(0, 0)]) (g' := g) rfl ?_
              exact wp_ret rfl rfl rfl (Or.inr ⟨rfl, by omega⟩)
            · refine wp_n 2 (pc' := 83) (L' := [(0, x), (0, y), (0, z), (0, u), (0, v), (0, 1)]) (st' := [(0, 1)]) (g' := g) rfl ?_
              exact wp_ret rfl rfl rfl (Or.inl ⟨rfl, by omega⟩)
          · refine wp_eq (L' := [(0, x), (0, y), (0, z), (0, u), (0, v), (9, 0)]) (st' := [(0, 0)]) (g' := g) ?_
            refine wp_n 6 (pc' := 83) (L' := [(0, x), (0, y), (0, z), (0, u), (0, v), (0, 0)]) (st' := [(0, 0)]) (g' := g) rfl ?_
            exact wp_ret rfl rfl rfl (Or.inr ⟨rfl, by omega⟩)
        · refine wp_eq (L' := [(0, x), (0, y), (0, z), (0, u), (0, v), (9, 0)]) (st' := [(0, 0)]) (g' := g) ?_
          refine wp_n 6 (pc' := 83) (L' := [(0, x), (0, y), (0, z), (0, u), (0, v), (0, 0)]) (st' := [(0, 0)]) (g' := g) rfl ?_
          exact wp_ret rfl rfl rfl (Or.inr ⟨rfl, by omega⟩)
      · refine wp_eq (L' := [(0, x), (0, y), (0, z), (0, u), (0, v), (9, 0)]) (st' := [(0, 0)]) (g' := g) ?_
        refine wp_n 6 (pc' := 83) (L' := [(0, x), (0, y), (0, z), (0, u), (0, v), (0, 0)]) (st' := [(0, 0)]) (g' := g) rfl ?_
        exact wp_ret rfl rfl rfl (Or.inr ⟨rfl, by omega⟩)
    · refine wp_eq (L' := [(0, x), (0, y), (0, z), (0, u), (0, v), (9, 0)]) (st' := [(0, 0)]) (g' := g) ?_
      refine wp_n 6 (pc' := 83) (L' := [(0, x), (0, y), (0, z), (0, u), (0, v), (0, 0)]) (st' := [(0, 0)]) (g' := g) rfl ?_
      exact wp_ret rfl rfl rfl (Or.inr ⟨rfl, by omega⟩)
  · refine wp_eq (L' := [(0, x), (0, y), (0, z), (0, u), (0, v), (9, 0)]) (st' := [(0, 0)]) (g' := g) ?_
    refine wp_n 6 (pc' := 83) (L' := [(0, x), (0, y), (0, z), (0, u), (0, v), (0, 0)]) (st' := [(0, 0)]) (g' := g) rfl ?_
    exact wp_ret rfl rfl rfl (Or.inr ⟨rfl, by omega⟩)
set_option maxHeartbeats 400000 in
set_option maxRecDepth 20000 in
theorem e_isTenth {sn : Nat} {sx : Nat → Int} {g : am_G} {sh : am_Sh} {v : Int} (h_v : R32 v) : Ev sn sx 2 156 [(0, v)] sh g (fun r => Is1 r sh g (0 ≤ v ∧ v ≤ 10)) := by
  refine ev_of (K := 1) T156 (by decide) rfl rfl (Nat.le_of_ble_eq_true rfl) ?_
  refine wp_eq (L' := [(0, v)]) (st' := []) (g' := g) ?_
  refine wp_n 3 (pc' := 4) (L' := [(0, v)]) (st' := [(0, 10), (0, 0), (0, v)]) (g' := g) rfl ?_
  refine wp_cs (as := [(0, v), (0, 0), (0, 10)]) (rest := []) rfl (by decide) rfl (Nat.le_of_ble_eq_true rfl) (e_isIn (by omega) (by omega) (by omega)) (by decide) (fun r2 h3 => ?_)
  rcases h3 with ⟨rfl, p1⟩ | ⟨rfl, p1⟩
  · refine wp_eq (L' := [(0, v)]) (st' := [(0, 1)]) (g' := g) ?_
    exact wp_ret rfl rfl rfl (Or.inl ⟨rfl, by omega⟩)
  · refine wp_eq (L' := [(0, v)]) (st' := [(0, 0)]) (g' := g) ?_
    exact wp_ret rfl rfl rfl (Or.inr ⟨rfl, by omega⟩)
set_option maxHeartbeats 400000 in
set_option maxRecDepth 20000 in
theorem e_isTold {sn : Nat} {sx : Nat → Int} {g : am_G} {sh : am_Sh} {v : Int} (h_v : R32 v) : Ev sn sx 2 221 [(0, v)] sh g (fun r => Is1 r sh g (2 ≤ v ∧ v ≤ 1000000)) := by
  refine ev_of (K := 1) T221 (by decide) rfl rfl (Nat.le_of_ble_eq_true rfl) ?_
  refine wp_eq (L' := [(0, v)]) (st' := []) (g' := g) ?_
  refine wp_n 3 (pc' := 5) (L' := [(0, v)]) (st' := [(0, 1000000), (0, 2), (0, v)]) (g' := g) rfl ?_
  refine wp_cs (as := [(0, v), (0, 2), (0, 1000000)]) (rest := []) rfl (by decide) rfl (Nat.le_of_ble_eq_true rfl) (e_isIn (by omega) (by omega) (by omega)) (by decide) (fun r2 h3 => ?_)
  rcases h3 with ⟨rfl, p1⟩ | ⟨rfl, p1⟩
  · refine wp_eq (L' := [(0, v)]) (st' := [(0, 1)]) (g' := g) ?_
    exact wp_ret rfl rfl rfl (Or.inl ⟨rfl, by omega⟩)
  · refine wp_eq (L' := [(0, v)]) (st' := [(0, 0)]) (g' := g) ?_
    exact wp_ret rfl rfl rfl (Or.inr ⟨rfl, by omega⟩)
set_option maxHeartbeats 400000 in
set_option maxRecDepth 20000 in
theorem e_isThousandth {sn : Nat} {sx : Nat → Int} {g : am_G} {sh : am_Sh} {v : Int} (h_v : R32 v) : Ev sn sx 2 223 [(0, v)] sh g (fun r => Is1 r sh g (1 ≤ v ∧ v ≤ 999)) := by
  refine ev_of (K := 1) T223 (by decide) rfl rfl (Nat.le_of_ble_eq_true rfl) ?_
  refine wp_eq (L' := [(0, v)]) (st' := []) (g' := g) ?_
  refine wp_n 3 (pc' := 5) (L' := [(0, v)]) (st' := [(0, 999), (0, 1), (0, v)]) (g' := g) rfl ?_
  refine wp_cs (as := [(0, v), (0, 1), (0, 999)]) (rest := []) rfl (by decide) rfl (Nat.le_of_ble_eq_true rfl) (e_isIn (by omega) (by omega) (by omega)) (by decide) (fun r2 h3 => ?_)
  rcases h3 with ⟨rfl, p1⟩ | ⟨rfl, p1⟩
  · refine wp_eq (L' := [(0, v)]) (st' := [(0, 1)]) (g' := g) ?_
    exact wp_ret rfl rfl rfl (Or.inl ⟨rfl, by omega⟩)
  · refine wp_eq (L' := [(0, v)]) (st' := [(0, 0)]) (g' := g) ?_
    exact wp_ret rfl rfl rfl (Or.inr ⟨rfl, by omega⟩)
set_option maxHeartbeats 400000 in
set_option maxRecDepth 20000 in
theorem e_isLetter {sn : Nat} {sx : Nat → Int} {g : am_G} {sh : am_Sh} {v : Int} (h_v : R32 v) : Ev sn sx 2 72 [(0, v)] sh g (fun r => Is1 r sh g (97 ≤ v ∧ v ≤ 122 ∨ 65 ≤ v ∧ v ≤ 90)) := by
  refine ev_of (K := 1) T72 (by decide) rfl rfl (Nat.le_of_ble_eq_true rfl) ?_
  refine wp_eq (L' := [(0, v)]) (st' := []) (g' := g) ?_
  refine wp_n 3 (pc' := 5) (L' := [(0, v)]) (st' := [(0, 122), (0, 97), (0, v)]) (g' := g) rfl ?_
  refine wp_cs (as := [(0, v), (0, 97), (0, 122)]) (rest := []) rfl (by decide) rfl (Nat.le_of_ble_eq_true rfl) (e_within (by omega) (by omega) (by omega)) (by decide) (fun r2 h3 => ?_)
  rcases h3 with ⟨rfl, p1⟩ | ⟨rfl, p1⟩
  · refine wp_eq (L' := [(0, v)]) (st' := [(0, 1)]) (g' := g) ?_
    refine wp_n 3 (pc' := 27) (L' := [(0, v)]) (st' := [(0, 1)]) (g' := g) rfl ?_
    exact wp_ret rfl rfl rfl (Or.inl ⟨rfl, by omega⟩)
  · refine wp_eq (L' := [(0, v)]) (st' := [(0, 0)]) (g' := g) ?_
    refine wp_n 4 (pc' := 16) (L' := [(0, v)]) (st' := [(0, 90), (0, 65), (0, v)]) (g' := g) rfl ?_
    refine wp_cs (as := [(0, v), (0, 65), (0, 90)]) (rest := []) rfl (by decide) rfl (Nat.le_of_ble_eq_true rfl) (e_within (by omega) (by omega) (by omega)) (by decide) (fun r5 h6 => ?_)
    rcases h6 with ⟨rfl, p4⟩ | ⟨rfl, p4⟩
    · refine wp_eq (L' := [(0, v)]) (st' := [(0, 1)]) (g' := g) ?_
      refine wp_n 3 (pc' := 27) (L' := [(0, v)]) (st' := [(0, 1)]) (g' := g) rfl ?_
      exact wp_ret rfl rfl rfl (Or.inl ⟨rfl, by omega⟩)
    · refine wp_eq (L' := [(0, v)]) (st' := [(0, 0)]) (g' := g) ?_
      refine wp_n 2 (pc' := 27) (L' := [(0, v)]) (st' := [(0, 0)]) (g' := g) rfl ?_
      exact wp_ret rfl rfl rfl (Or.inr ⟨rfl, by omega⟩)
set_option maxHeartbeats 400000 in
set_option maxRecDepth 20000 in
theorem e_MisLetter {sn : Nat} {sx : Nat → Int} {g : am_G} {sh : am_Sh} {v : Int} (h_v : R32 v) : Ev sn sx 2 165 [(0, v)] sh g (fun r => Is1 r sh g (97 ≤ v ∧ v ≤ 122 ∨ 65 ≤ v ∧ v ≤ 90)) := by
  refine ev_of (K := 1) T165 (by decide) rfl rfl (Nat.le_of_ble_eq_true rfl) ?_
  refine wp_eq (L' := [(0, v)]) (st' := []) (g' := g) ?_
  refine wp_n 3 (pc' := 5) (L' := [(0, v)]) (st' := [(0, 122), (0, 97), (0, v)]) (g' := g) rfl ?_
  refine wp_cs (as := [(0, v), (0, 97), (0, 122)]) (rest := []) rfl (by decide) rfl (Nat.le_of_ble_eq_true rfl) (e_isIn (by omega) (by omega) (by omega)) (by decide) (fun r2 h3 => ?_)
  rcases h3 with ⟨rfl, p1⟩ | ⟨rfl, p1⟩
  · refine wp_eq (L' := [(0, v)]) (st' := [(0, 1)]) (g' := g) ?_
    refine wp_n 3 (pc' := 27) (L' := [(0, v)]) (st' := [(0, 1)]) (g' := g) rfl ?_
    exact wp_ret rfl rfl rfl (Or.inl ⟨rfl, by omega⟩)
  · refine wp_eq (L' := [(0, v)]) (st' := [(0, 0)]) (g' := g) ?_
    refine wp_n 4 (pc' := 16) (L' := [(0, v)]) (st' := [(0, 90), (0, 65), (0, v)]) (g' := g) rfl ?_
    refine wp_cs (as := [(0, v), (0, 65), (0, 90)]) (rest := []) rfl (by decide) rfl (Nat.le_of_ble_eq_true rfl) (e_isIn (by omega) (by omega) (by omega)) (by decide) (fun r5 h6 => ?_)
    rcases h6 with ⟨rfl, p4⟩ | ⟨rfl, p4⟩
    · refine wp_eq (L' := [(0, v)]) (st' := [(0, 1)]) (g' := g) ?_
      refine wp_n 3 (pc' := 27) (L' := [(0, v)]) (st' := [(0, 1)]) (g' := g) rfl ?_
      exact wp_ret rfl rfl rfl (Or.inl ⟨rfl, by omega⟩)
    · refine wp_eq (L' := [(0, v)]) (st' := [(0, 0)]) (g' := g) ?_
      refine wp_n 2 (pc' := 27) (L' := [(0, v)]) (st' := [(0, 0)]) (g' := g) rfl ?_
      exact wp_ret rfl rfl rfl (Or.inr ⟨rfl, by omega⟩)
set_option maxHeartbeats 400000 in
set_option maxRecDepth 20000 in
theorem e_isDigit {sn : Nat} {sx : Nat → Int} {g : am_G} {sh : am_Sh} {v : Int} (h_v : R32 v) : Ev sn sx 2 73 [(0, v)] sh g (fun r => Is1 r sh g (48 ≤ v ∧ v ≤ 57)) := by
  refine ev_of (K := 1) T73 (by decide) rfl rfl (Nat.le_of_ble_eq_true rfl) ?_
  refine wp_eq (L' := [(0, v)]) (st' := []) (g' := g) ?_
  refine wp_n 3 (pc' := 5) (L' := [(0, v)]) (st' := [(0, 57), (0, 48), (0, v)]) (g' := g) rfl ?_
  refine wp_cs (as := [(0, v), (0, 48), (0, 57)]) (rest := []) rfl (by decide) rfl (Nat.le_of_ble_eq_true rfl) (e_within (by omega) (by omega) (by omega)) (by decide) (fun r2 h3 => ?_)
  rcases h3 with ⟨rfl, p1⟩ | ⟨rfl, p1⟩
  · refine wp_eq (L' := [(0, v)]) (st' := [(0, 1)]) (g' := g) ?_
    exact wp_ret rfl rfl rfl (Or.inl ⟨rfl, by omega⟩)
  · refine wp_eq (L' := [(0, v)]) (st' := [(0, 0)]) (g' := g) ?_
    exact wp_ret rfl rfl rfl (Or.inr ⟨rfl, by omega⟩)
set_option maxHeartbeats 400000 in
set_option maxRecDepth 20000 in
theorem e_MisDigit {sn : Nat} {sx : Nat → Int} {g : am_G} {sh : am_Sh} {v : Int} (h_v : R32 v) : Ev sn sx 2 166 [(0, v)] sh g (fun r => Is1 r sh g (48 ≤ v ∧ v ≤ 57)) := by
  refine ev_of (K := 1) T166 (by decide) rfl rfl (Nat.le_of_ble_eq_true rfl) ?_
  refine wp_eq (L' := [(0, v)]) (st' := []) (g' := g) ?_
  refine wp_n 3 (pc' := 5) (L' := [(0, v)]) (st' := [(0, 57), (0, 48), (0, v)]) (g' := g) rfl ?_
  refine wp_cs (as := [(0, v), (0, 48), (0, 57)]) (rest := []) rfl (by decide) rfl (Nat.le_of_ble_eq_true rfl) (e_isIn (by omega) (by omega) (by omega)) (by decide) (fun r2 h3 => ?_)
  rcases h3 with ⟨rfl, p1⟩ | ⟨rfl, p1⟩
  · refine wp_eq (L' := [(0, v)]) (st' := [(0, 1)]) (g' := g) ?_
    exact wp_ret rfl rfl rfl (Or.inl ⟨rfl, by omega⟩)
  · refine wp_eq (L' := [(0, v)]) (st' := [(0, 0)]) (g' := g) ?_
    exact wp_ret rfl rfl rfl (Or.inr ⟨rfl, by omega⟩)
set_option maxHeartbeats 400000 in
set_option maxRecDepth 20000 in
theorem e_isSign {sn : Nat} {sx : Nat → Int} {g : am_G} {sh : am_Sh} {v : Int} (h_v : R32 v) : Ev sn sx 2 74 [(0, v)] sh g (fun r => Is1 r sh g (40 ≤ v ∧ v ≤ 47 ∧ v ≠ 46 ∨ v = 59)) := by
  refine ev_of (K := 1) T74 (by decide) rfl rfl (Nat.le_of_ble_eq_true rfl) ?_
  refine wp_eq (L' := [(0, v)]) (st' := []) (g' := g) ?_
  refine wp_n 2 (pc' := 3) (L' := [(0, v)]) (st' := [(0, 46), (0, v)]) (g' := g) rfl ?_
  refine wp_ic_eq rfl (fun c1 => ?_) (fun c1 => ?_)
  · refine wp_n 2 (pc' := 20) (L' := [(0, v)]) (st' := [(0, 59), (0, v)]) (g' := g) rfl ?_
    refine wp_ic_ne rfl (fun c2 => ?_) (fun c2 => ?_)
    · refine wp_n 1 (pc' := 28) (L' := [(0, v)]) (st' := [(0, 0)]) (g' := g) rfl ?_
      exact wp_ret rfl rfl rfl (Or.inr ⟨rfl, by omega⟩)
    · refine wp_n 2 (pc' := 28) (L' := [(0, v)]) (st' := [(0, 1)]) (g' := g) rfl ?_
      exact wp_ret rfl rfl rfl (Or.inl ⟨rfl, by omega⟩)
  · refine wp_n 3 (pc' := 11) (L' := [(0, v)]) (st' := [(0, 47), (0, 40), (0, v)]) (g' := g) rfl ?_
    refine wp_cs (as := [(0, v), (0, 40), (0, 47)]) (rest := []) rfl (by decide) rfl (Nat.le_of_ble_eq_true rfl) (e_within (by omega) (by omega) (by omega)) (by decide) (fun r4 h5 => ?_)
    rcases h5 with ⟨rfl, p3⟩ | ⟨rfl, p3⟩
    · refine wp_eq (L' := [(0, v)]) (st' := [(0, 1)]) (g' := g) ?_
      refine wp_n 3 (pc' := 28) (L' := [(0, v)]) (st' := [(0, 1)]) (g' := g) rfl ?_
      exact wp_ret rfl rfl rfl (Or.inl ⟨rfl, by omega⟩)
    · refine wp_eq (L' := [(0, v)]) (st' := [(0, 0)]) (g' := g) ?_
      refine wp_n 3 (pc' := 20) (L' := [(0, v)]) (st' := [(0, 59), (0, v)]) (g' := g) rfl ?_
      refine wp_ic_ne rfl (fun c6 => ?_) (fun c6 => ?_)
      · refine wp_n 1 (pc' := 28) (L' := [(0, v)]) (st' := [(0, 0)]) (g' := g) rfl ?_
        exact wp_ret rfl rfl rfl (Or.inr ⟨rfl, by omega⟩)
      · refine wp_n 2 (pc' := 28) (L' := [(0, v)]) (st' := [(0, 1)]) (g' := g) rfl ?_
        exact wp_ret rfl rfl rfl (Or.inl ⟨rfl, by omega⟩)
