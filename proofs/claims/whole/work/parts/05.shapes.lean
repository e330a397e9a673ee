
def z_lots : ZE := .inr (3, [none])
theorem z_lk_mem {α β : Type} [BEq α] [LawfulBEq α] {l : List (α × β)} {a : α} {b : β} (h : l.lookup a = some b) : (a, b) ∈ l := by
  induction l with
  | nil => cases h
  | cons p t ih =>
    obtain ⟨x, y⟩ := p
    rw [List.lookup_cons] at h
    split at h
    · rename_i hj
      cases h
      cases (beq_iff_eq.mp hj)
      exact List.mem_cons_self
    · exact List.mem_cons_of_mem _ (ih h)
theorem z_flok_of {own : String} (tb : List ((Nat × Nat) × Nat)) (h : ∀ e ∈ tb, ∃ (C : String) (T : u_T) (N : Nat) (ty : Nat → FieldType), z_cl[e.1.1]? = some (C, T, N) ∧ e.2 < N ∧ (∀ w ∈ u_ws C T N, w ∈ lw_g) ∧ Cond.fieldLink own e.1.2 (T e.2).1 (T e.2).2.1 (T e.2).2.2.1 ∈ lw_g ∧ (∀ k, k < N → parseFieldDescriptor (T k).2.2.1 = some (ty k)) ∧ (∀ a, a < N → ∀ b, b < N → a ≠ b → (T a).2.1 ≠ (T b).2.1) ∧ (z_int e.1.1 e.2 = true → ty e.2 = .int ∧ (T e.2).2.2.2 = false)) : z_flok own (fun ci i => tb.lookup (ci, i)) :=
  fun ci i j hj => h ((ci, i), j) (z_lk_mem hj)
theorem z_kc_of {own : String} (tb : List (Nat × Int32)) (h : ∀ e ∈ tb, Cond.constant own e.1 e.2 ∈ lw_g) : ∀ i v, tb.lookup i = some v → Cond.constant own i v ∈ lw_g := fun i v hv => h (i, v) (z_lk_mem hv)
theorem z_kl_of {own : String} (tb : List (Nat × Int64)) (h : ∀ e ∈ tb, Cond.constantLong own e.1 e.2 ∈ lw_g) : ∀ i v, tb.lookup i = some v → Cond.constantLong own i v ∈ lw_g := fun i v hv => h (i, v) (z_lk_mem hv)
def z_shC (tl : List ZE) : List ZE := .inr (6, [some 1, some 7, some 11, some 13, some 17, none, none, none, none, none, none]) :: .inr (0, [some 2, none, none, none, some 3, some 4, some 5, some 6]) :: .inl (0, 35, 0) :: .inl (0, 9, 0) :: .inl (0, 9, 0) :: .inl (0, 9, 0) :: .inl (0, 9, 0) :: .inr (2, [some 8, none, none, none, some 9, some 10]) :: .inl (0, 23, 0) :: .inl (0, 6, 0) :: .inl (0, 6, 0) :: .inr (1, [some 12, none, none]) :: .inl (0, 9, 0) :: .inr (4, [some 14, some 15, some 16, none]) :: .inl (0, 8, 0) :: .inl (0, 8, 0) :: .inl (0, 8, 0) :: .inl (3, 4, 18) :: .inr (5, [some 22, none, none]) :: .inr (5, [some 23, none, none]) :: .inr (5, [some 24, none, none]) :: .inr (5, [some 25, none, none]) :: .inl (0, 48, 0) :: .inl (0, 48, 0) :: .inl (0, 48, 0) :: .inl (0, 48, 0) :: tl
def z_shM : List ZE := [.inr (7, [some 1, some 2, none, some 3, some 4, some 5, none, some 6, some 7, none, none, none, none, some 8, none, some 9, some 10, some 11, some 12, some 13, some 14, none, some 15, some 16, some 17, some 18, some 19, some 20, some 21, some 22, none]), .inl (0, 2, 0), .inl (0, 70, 0), .inl (0, 10, 0), .inl (0, 10, 0), .inl (0, 10, 0), .inl (0, 7, 0), .inl (0, 7, 0), .inl (0, 9, 0), .inl (1, 512, 0), .inl (1, 512, 0), .inl (0, 512, 0), .inl (0, 512, 0), .inl (1, 10, 0), .inl (0, 2, 0), .inl (0, 8, 0), .inl (0, 8, 0), .inl (0, 8, 0), .inl (2, 4, 0), .inl (0, 4, 0), .inl (0, 4, 0), .inl (0, 192, 0), .inl (0, 48, 0)]
theorem z_inX0 : ∀ w ∈ u_ws RX0 TX0 8, w ∈ lw_g := by
  intro w hw
  obtain ⟨k, hk, rfl⟩ := List.mem_map.mp hw
  have hk := List.mem_range.mp hk
  rcases (show k = 0 ∨ k = 1 ∨ k = 2 ∨ k = 3 ∨ k = 4 ∨ k = 5 ∨ k = 6 ∨ k = 7 by omega) with rfl | rfl | rfl | rfl | rfl | rfl | rfl | rfl
  · exact z_g 89 (by decide +kernel) (by decide +kernel)
  · exact z_g 91 (by decide +kernel) (by decide +kernel)
  · exact z_g 93 (by decide +kernel) (by decide +kernel)
  · exact z_g 95 (by decide +kernel) (by decide +kernel)
  · exact z_g 81 (by decide +kernel) (by decide +kernel)
  · exact z_g 83 (by decide +kernel) (by decide +kernel)
  · exact z_g 85 (by decide +kernel) (by decide +kernel)
  · exact z_g 87 (by decide +kernel) (by decide +kernel)
theorem z_inX1 : ∀ w ∈ u_ws RX1 TX1 3, w ∈ lw_g := by
  intro w hw
  obtain ⟨k, hk, rfl⟩ := List.mem_map.mp hw
  have hk := List.mem_range.mp hk
  rcases (show k = 0 ∨ k = 1 ∨ k = 2 by omega) with rfl | rfl | rfl
  · exact z_g 125 (by decide +kernel) (by decide +kernel)
  · exact z_g 127 (by decide +kernel) (by decide +kernel)
  · exact z_g 129 (by decide +kernel) (by decide +kernel)
theorem z_inX3 : ∀ w ∈ u_ws RX3 TX3 6, w ∈ lw_g := by
  intro w hw
  obtain ⟨k, hk, rfl⟩ := List.mem_map.mp hw
  have hk := List.mem_range.mp hk
  rcases (show k = 0 ∨ k = 1 ∨ k = 2 ∨ k = 3 ∨ k = 4 ∨ k = 5 by omega) with rfl | rfl | rfl | rfl | rfl | rfl
  · exact z_g 111 (by decide +kernel) (by decide +kernel)
  · exact z_g 112 (by decide +kernel) (by decide +kernel)
  · exact z_g 113 (by decide +kernel) (by decide +kernel)
  · exact z_g 114 (by decide +kernel) (by decide +kernel)
  · exact z_g 107 (by decide +kernel) (by decide +kernel)
  · exact z_g 109 (by decide +kernel) (by decide +kernel)
theorem z_inX4 : ∀ w ∈ u_ws RX4 TX4 1, w ∈ lw_g := by
  intro w hw
  obtain ⟨k, hk, rfl⟩ := List.mem_map.mp hw
  have hk := List.mem_range.mp hk
  rcases (show k = 0 by omega) with rfl
  · exact z_g 547 (by decide +kernel) (by decide +kernel)
theorem z_inX5 : ∀ w ∈ u_ws RX5 TX5 4, w ∈ lw_g := by
  intro w hw
  obtain ⟨k, hk, rfl⟩ := List.mem_map.mp hw
  have hk := List.mem_range.mp hk
  rcases (show k = 0 ∨ k = 1 ∨ k = 2 ∨ k = 3 by omega) with rfl | rfl | rfl | rfl
  · exact z_g 142 (by decide +kernel) (by decide +kernel)
  · exact z_g 144 (by decide +kernel) (by decide +kernel)
  · exact z_g 146 (by decide +kernel) (by decide +kernel)
  · exact z_g 148 (by decide +kernel) (by decide +kernel)
theorem z_inX6 : ∀ w ∈ u_ws RX6 TX6 3, w ∈ lw_g := by
  intro w hw
  obtain ⟨k, hk, rfl⟩ := List.mem_map.mp hw
  have hk := List.mem_range.mp hk
  rcases (show k = 0 ∨ k = 1 ∨ k = 2 by omega) with rfl | rfl | rfl
  · exact z_g 161 (by decide +kernel) (by decide +kernel)
  · exact z_g 163 (by decide +kernel) (by decide +kernel)
  · exact z_g 165 (by decide +kernel) (by decide +kernel)
theorem z_inX7 : ∀ w ∈ u_ws RX7 TX7 11, w ∈ lw_g := by
  intro w hw
  obtain ⟨k, hk, rfl⟩ := List.mem_map.mp hw
  have hk := List.mem_range.mp hk
  rcases (show k = 0 ∨ k = 1 ∨ k = 2 ∨ k = 3 ∨ k = 4 ∨ k = 5 ∨ k = 6 ∨ k = 7 ∨ k = 8 ∨ k = 9 ∨ k = 10 by omega) with rfl | rfl | rfl | rfl | rfl | rfl | rfl | rfl | rfl | rfl | rfl
  · exact z_g 179 (by decide +kernel) (by decide +kernel)
  · exact z_g 181 (by decide +kernel) (by decide +kernel)
  · exact z_g 183 (by decide +kernel) (by decide +kernel)
  · exact z_g 185 (by decide +kernel) (by decide +kernel)
  · exact z_g 187 (by decide +kernel) (by decide +kernel)
  · exact z_g 189 (by decide +kernel) (by decide +kernel)
  · exact z_g 191 (by decide +kernel) (by decide +kernel)
  · exact z_g 193 (by decide +kernel) (by decide +kernel)
  · exact z_g 195 (by decide +kernel) (by decide +kernel)
  · exact z_g 197 (by decide +kernel) (by decide +kernel)
  · exact z_g 199 (by decide +kernel) (by decide +kernel)
theorem z_inX8 : ∀ w ∈ u_ws RX8 TX8 31, w ∈ lw_g := by
  intro w hw
  obtain ⟨k, hk, rfl⟩ := List.mem_map.mp hw
  have hk := List.mem_range.mp hk
  rcases (show k = 0 ∨ k = 1 ∨ k = 2 ∨ k = 3 ∨ k = 4 ∨ k = 5 ∨ k = 6 ∨ k = 7 ∨ k = 8 ∨ k = 9 ∨ k = 10 ∨ k = 11 ∨ k = 12 ∨ k = 13 ∨ k = 14 ∨ k = 15 ∨ k = 16 ∨ k = 17 ∨ k = 18 ∨ k = 19 ∨ k = 20 ∨ k = 21 ∨ k = 22 ∨ k = 23 ∨ k = 24 ∨ k = 25 ∨ k = 26 ∨ k = 27 ∨ k = 28 ∨ k = 29 ∨ k = 30 by omega) with rfl | rfl | rfl | rfl | rfl | rfl | rfl | rfl | rfl | rfl | rfl | rfl | rfl | rfl | rfl | rfl | rfl | rfl | rfl | rfl | rfl | rfl | rfl | rfl | rfl | rfl | rfl | rfl | rfl | rfl | rfl
  · exact z_g 717 (by decide +kernel) (by decide +kernel)
  · exact z_g 719 (by decide +kernel) (by decide +kernel)
  · exact z_g 721 (by decide +kernel) (by decide +kernel)
  · exact z_g 723 (by decide +kernel) (by decide +kernel)
  · exact z_g 725 (by decide +kernel) (by decide +kernel)
  · exact z_g 727 (by decide +kernel) (by decide +kernel)
  · exact z_g 729 (by decide +kernel) (by decide +kernel)
  · exact z_g 731 (by decide +kernel) (by decide +kernel)
  · exact z_g 733 (by decide +kernel) (by decide +kernel)
  · exact z_g 735 (by decide +kernel) (by decide +kernel)
  · exact z_g 737 (by decide +kernel) (by decide +kernel)
  · exact z_g 739 (by decide +kernel) (by decide +kernel)
  · exact z_g 741 (by decide +kernel) (by decide +kernel)
  · exact z_g 743 (by decide +kernel) (by decide +kernel)
  · exact z_g 745 (by decide +kernel) (by decide +kernel)
  · exact z_g 747 (by decide +kernel) (by decide +kernel)
  · exact z_g 749 (by decide +kernel) (by decide +kernel)
  · exact z_g 751 (by decide +kernel) (by decide +kernel)
  · exact z_g 753 (by decide +kernel) (by decide +kernel)
  · exact z_g 755 (by decide +kernel) (by decide +kernel)
  · exact z_g 757 (by decide +kernel) (by decide +kernel)
  · exact z_g 759 (by decide +kernel) (by decide +kernel)
  · exact z_g 761 (by decide +kernel) (by decide +kernel)
  · exact z_g 763 (by decide +kernel) (by decide +kernel)
  · exact z_g 765 (by decide +kernel) (by decide +kernel)
  · exact z_g 767 (by decide +kernel) (by decide +kernel)
  · exact z_g 769 (by decide +kernel) (by decide +kernel)
  · exact z_g 771 (by decide +kernel) (by decide +kernel)
  · exact z_g 773 (by decide +kernel) (by decide +kernel)
  · exact z_g 775 (by decide +kernel) (by decide +kernel)
  · exact z_g 777 (by decide +kernel) (by decide +kernel)
def z_tX0 : List ((Nat × Nat) × Nat) := [((0, 9), 4), ((0, 15), 5), ((0, 18), 6), ((0, 21), 7)]
def z_fX0 : Nat → Nat → Option Nat := fun ci i => z_tX0.lookup (ci, i)
theorem z_fX0_ok : z_flok RX0 z_fX0 := z_flok_of _ (by
  intro e he
  simp only [z_tX0, List.mem_cons, List.not_mem_nil, or_false] at he
  rcases he with rfl | rfl | rfl | rfl
  · exact ⟨RX0, TX0, 8, tyX0, rfl, by decide, z_inX0, z_g 73 (by decide +kernel) rfl, tyX0_ok, nmX0, fun h => absurd h (by decide)⟩
  · exact ⟨RX0, TX0, 8, tyX0, rfl, by decide, z_inX0, z_g 74 (by decide +kernel) rfl, tyX0_ok, nmX0, fun h => absurd h (by decide)⟩
  · exact ⟨RX0, TX0, 8, tyX0, rfl, by decide, z_inX0, z_g 75 (by decide +kernel) rfl, tyX0_ok, nmX0, fun h => absurd h (by decide)⟩
  · exact ⟨RX0, TX0, 8, tyX0, rfl, by decide, z_inX0, z_g 76 (by decide +kernel) rfl, tyX0_ok, nmX0, fun h => absurd h (by decide)⟩)
theorem zf_X0_9_1 {tl : List ZE} : z_fl (z_shC tl) z_fX0 1 9 = some (0, 4, some 3) := rfl
theorem zf_X0_15_1 {tl : List ZE} : z_fl (z_shC tl) z_fX0 1 15 = some (0, 5, some 4) := rfl
theorem zf_X0_18_1 {tl : List ZE} : z_fl (z_shC tl) z_fX0 1 18 = some (0, 6, some 5) := rfl
theorem zf_X0_21_1 {tl : List ZE} : z_fl (z_shC tl) z_fX0 1 21 = some (0, 7, some 6) := rfl
def z_kcX0 : Nat → Option Int32 := fun i => ([] : List (Nat × Int32)).lookup i
def z_klX0 : Nat → Option Int64 := fun i => ([] : List (Nat × Int64)).lookup i
theorem z_kX0_ok : z_kcok RX0 z_kcX0 z_klX0 := ⟨z_kc_of _ (by intro e he; cases he), z_kl_of _ (by intro e he; cases he)⟩
def z_tX1 : List ((Nat × Nat) × Nat) := [((1, 9), 0), ((1, 15), 1), ((1, 19), 2)]
def z_fX1 : Nat → Nat → Option Nat := fun ci i => z_tX1.lookup (ci, i)
theorem z_fX1_ok : z_flok RX1 z_fX1 := z_flok_of _ (by
  intro e he
  simp only [z_tX1, List.mem_cons, List.not_mem_nil, or_false] at he
  rcases he with rfl | rfl | rfl
  · exact ⟨RX1, TX1, 3, tyX1, rfl, by decide, z_inX1, z_g 122 (by decide +kernel) rfl, tyX1_ok, nmX1, fun h => absurd h (by decide)⟩
  · exact ⟨RX1, TX1, 3, tyX1, rfl, by decide, z_inX1, z_g 123 (by decide +kernel) rfl, tyX1_ok, nmX1, fun _ => ⟨rfl, rfl⟩⟩
  · exact ⟨RX1, TX1, 3, tyX1, rfl, by decide, z_inX1, z_g 124 (by decide +kernel) rfl, tyX1_ok, nmX1, fun _ => ⟨rfl, rfl⟩⟩)
theorem zf_X1_9_11 {tl : List ZE} : z_fl (z_shC tl) z_fX1 11 9 = some (1, 0, some 12) := rfl
theorem zf_X1_15_11 {tl : List ZE} : z_fl (z_shC tl) z_fX1 11 15 = some (1, 1, none) := rfl
theorem zf_X1_19_11 {tl : List ZE} : z_fl (z_shC tl) z_fX1 11 19 = some (1, 2, none) := rfl
def z_kcX1 : Nat → Option Int32 := fun i => ([] : List (Nat × Int32)).lookup i
def z_klX1 : Nat → Option Int64 := fun i => ([] : List (Nat × Int64)).lookup i
theorem z_kX1_ok : z_kcok RX1 z_kcX1 z_klX1 := ⟨z_kc_of _ (by intro e he; cases he), z_kl_of _ (by intro e he; cases he)⟩
def z_tX2 : List ((Nat × Nat) × Nat) := [((0, 21), 0), ((2, 21), 0), ((0, 9), 1), ((2, 9), 1), ((0, 15), 2), ((2, 15), 2), ((0, 18), 3), ((2, 18), 3)]
def z_fX2 : Nat → Nat → Option Nat := fun ci i => z_tX2.lookup (ci, i)
theorem z_fX2_ok : z_flok RX2 z_fX2 := z_flok_of _ (by
  intro e he
  simp only [z_tX2, List.mem_cons, List.not_mem_nil, or_false] at he
  rcases he with rfl | rfl | rfl | rfl | rfl | rfl | rfl | rfl
  · exact ⟨RX0, TX0, 8, tyX0, rfl, by decide, z_inX0, z_g 77 (by decide +kernel) rfl, tyX0_ok, nmX0, fun h => absurd h (by decide)⟩
  · exact ⟨RX3, TX3, 6, tyX3, rfl, by decide, z_inX3, z_g 77 (by decide +kernel) rfl, tyX3_ok, nmX3, fun h => absurd h (by decide)⟩
  · exact ⟨RX0, TX0, 8, tyX0, rfl, by decide, z_inX0, z_g 78 (by decide +kernel) rfl, tyX0_ok, nmX0, fun _ => ⟨rfl, rfl⟩⟩
  · exact ⟨RX3, TX3, 6, tyX3, rfl, by decide, z_inX3, z_g 78 (by decide +kernel) rfl, tyX3_ok, nmX3, fun _ => ⟨rfl, rfl⟩⟩
  · exact ⟨RX0, TX0, 8, tyX0, rfl, by decide, z_inX0, z_g 79 (by decide +kernel) rfl, tyX0_ok, nmX0, fun _ => ⟨rfl, rfl⟩⟩
  · exact ⟨RX3, TX3, 6, tyX3, rfl, by decide, z_inX3, z_g 79 (by decide +kernel) rfl, tyX3_ok, nmX3, fun _ => ⟨rfl, rfl⟩⟩
  · exact ⟨RX0, TX0, 8, tyX0, rfl, by decide, z_inX0, z_g 80 (by decide +kernel) rfl, tyX0_ok, nmX0, fun _ => ⟨rfl, rfl⟩⟩
  · exact ⟨RX3, TX3, 6, tyX3, rfl, by decide, z_inX3, z_g 80 (by decide +kernel) rfl, tyX3_ok, nmX3, fun _ => ⟨rfl, rfl⟩⟩)
theorem zf_X2_21_1 {tl : List ZE} : z_fl (z_shC tl) z_fX2 1 21 = some (0, 0, some 2) := rfl
theorem zf_X2_21_7 {tl : List ZE} : z_fl (z_shC tl) z_fX2 7 21 = some (2, 0, some 8) := rfl
theorem zf_X2_9_1 {tl : List ZE} : z_fl (z_shC tl) z_fX2 1 9 = some (0, 1, none) := rfl
theorem zf_X2_9_7 {tl : List ZE} : z_fl (z_shC tl) z_fX2 7 9 = some (2, 1, none) := rfl
theorem zf_X2_15_1 {tl : List ZE} : z_fl (z_shC tl) z_fX2 1 15 = some (0, 2, none) := rfl
theorem zf_X2_15_7 {tl : List ZE} : z_fl (z_shC tl) z_fX2 7 15 = some (2, 2, none) := rfl
theorem zf_X2_18_1 {tl : List ZE} : z_fl (z_shC tl) z_fX2 1 18 = some (0, 3, none) := rfl
theorem zf_X2_18_7 {tl : List ZE} : z_fl (z_shC tl) z_fX2 7 18 = some (2, 3, none) := rfl
def z_kcX2 : Nat → Option Int32 := fun i => ([] : List (Nat × Int32)).lookup i
def z_klX2 : Nat → Option Int64 := fun i => ([] : List (Nat × Int64)).lookup i
theorem z_kX2_ok : z_kcok RX2 z_kcX2 z_klX2 := ⟨z_kc_of _ (by intro e he; cases he), z_kl_of _ (by intro e he; cases he)⟩
def z_tX3 : List ((Nat × Nat) × Nat) := [((2, 9), 4), ((2, 13), 5)]
def z_fX3 : Nat → Nat → Option Nat := fun ci i => z_tX3.lookup (ci, i)
theorem z_fX3_ok : z_flok RX3 z_fX3 := z_flok_of _ (by
  intro e he
  simp only [z_tX3, List.mem_cons, List.not_mem_nil, or_false] at he
  rcases he with rfl | rfl
  · exact ⟨RX3, TX3, 6, tyX3, rfl, by decide, z_inX3, z_g 105 (by decide +kernel) rfl, tyX3_ok, nmX3, fun h => absurd h (by decide)⟩
  · exact ⟨RX3, TX3, 6, tyX3, rfl, by decide, z_inX3, z_g 106 (by decide +kernel) rfl, tyX3_ok, nmX3, fun h => absurd h (by decide)⟩)
theorem zf_X3_9_7 {tl : List ZE} : z_fl (z_shC tl) z_fX3 7 9 = some (2, 4, some 9) := rfl
theorem zf_X3_13_7 {tl : List ZE} : z_fl (z_shC tl) z_fX3 7 13 = some (2, 5, some 10) := rfl
def z_kcX3 : Nat → Option Int32 := fun i => ([] : List (Nat × Int32)).lookup i
def z_klX3 : Nat → Option Int64 := fun i => ([] : List (Nat × Int64)).lookup i
theorem z_kX3_ok : z_kcok RX3 z_kcX3 z_klX3 := ⟨z_kc_of _ (by intro e he; cases he), z_kl_of _ (by intro e he; cases he)⟩
def z_tX4 : List ((Nat × Nat) × Nat) := [((3, 7), 0)]
def z_fX4 : Nat → Nat → Option Nat := fun ci i => z_tX4.lookup (ci, i)
theorem z_fX4_ok : z_flok RX4 z_fX4 := z_flok_of _ (by
  intro e he
  simp only [z_tX4, List.mem_cons, List.not_mem_nil, or_false] at he
  rcases he with rfl
  · exact ⟨RX4, TX4, 1, tyX4, rfl, by decide, z_inX4, z_g 546 (by decide +kernel) rfl, tyX4_ok, nmX4, fun _ => ⟨rfl, rfl⟩⟩)
theorem zf_X4_7_26 {tl : List ZE} : z_fl (z_shC (z_lots :: tl)) z_fX4 26 7 = some (3, 0, none) := rfl
def z_kcX4 : Nat → Option Int32 := fun i => ([(13, 1103515245)] : List (Nat × Int32)).lookup i
theorem zkc_X4_13 : z_kcX4 13 = some (1103515245) := rfl
def z_klX4 : Nat → Option Int64 := fun i => ([] : List (Nat × Int64)).lookup i
theorem z_kX4_ok : z_kcok RX4 z_kcX4 z_klX4 := ⟨z_kc_of _ (by intro e he; simp only [List.mem_cons, List.not_mem_nil, or_false] at he; rcases he with rfl <;> first | exact z_g 554 (by decide +kernel) rfl), z_kl_of _ (by intro e he; cases he)⟩
def z_tX5 : List ((Nat × Nat) × Nat) := [((4, 11), 0), ((4, 15), 1), ((4, 18), 2), ((4, 21), 3)]
def z_fX5 : Nat → Nat → Option Nat := fun ci i => z_tX5.lookup (ci, i)
theorem z_fX5_ok : z_flok RX5 z_fX5 := z_flok_of _ (by
  intro e he
  simp only [z_tX5, List.mem_cons, List.not_mem_nil, or_false] at he
  rcases he with rfl | rfl | rfl | rfl
  · exact ⟨RX5, TX5, 4, tyX5, rfl, by decide, z_inX5, z_g 138 (by decide +kernel) rfl, tyX5_ok, nmX5, fun h => absurd h (by decide)⟩
  · exact ⟨RX5, TX5, 4, tyX5, rfl, by decide, z_inX5, z_g 139 (by decide +kernel) rfl, tyX5_ok, nmX5, fun h => absurd h (by decide)⟩
  · exact ⟨RX5, TX5, 4, tyX5, rfl, by decide, z_inX5, z_g 140 (by decide +kernel) rfl, tyX5_ok, nmX5, fun h => absurd h (by decide)⟩
  · exact ⟨RX5, TX5, 4, tyX5, rfl, by decide, z_inX5, z_g 141 (by decide +kernel) rfl, tyX5_ok, nmX5, fun _ => ⟨rfl, rfl⟩⟩)
theorem zf_X5_11_13 {tl : List ZE} : z_fl (z_shC tl) z_fX5 13 11 = some (4, 0, some 14) := rfl
theorem zf_X5_15_13 {tl : List ZE} : z_fl (z_shC tl) z_fX5 13 15 = some (4, 1, some 15) := rfl
theorem zf_X5_18_13 {tl : List ZE} : z_fl (z_shC tl) z_fX5 13 18 = some (4, 2, some 16) := rfl
theorem zf_X5_21_13 {tl : List ZE} : z_fl (z_shC tl) z_fX5 13 21 = some (4, 3, none) := rfl
def z_kcX5 : Nat → Option Int32 := fun i => ([] : List (Nat × Int32)).lookup i
def z_klX5 : Nat → Option Int64 := fun i => ([] : List (Nat × Int64)).lookup i
theorem z_kX5_ok : z_kcok RX5 z_kcX5 z_klX5 := ⟨z_kc_of _ (by intro e he; cases he), z_kl_of _ (by intro e he; cases he)⟩
def z_tX6 : List ((Nat × Nat) × Nat) := [((5, 9), 0), ((5, 15), 1), ((5, 19), 2)]
def z_fX6 : Nat → Nat → Option Nat := fun ci i => z_tX6.lookup (ci, i)
theorem z_fX6_ok : z_flok RX6 z_fX6 := z_flok_of _ (by
  intro e he
  simp only [z_tX6, List.mem_cons, List.not_mem_nil, or_false] at he
  rcases he with rfl | rfl | rfl
  · exact ⟨RX6, TX6, 3, tyX6, rfl, by decide, z_inX6, z_g 158 (by decide +kernel) rfl, tyX6_ok, nmX6, fun h => absurd h (by decide)⟩
  · exact ⟨RX6, TX6, 3, tyX6, rfl, by decide, z_inX6, z_g 159 (by decide +kernel) rfl, tyX6_ok, nmX6, fun _ => ⟨rfl, rfl⟩⟩
  · exact ⟨RX6, TX6, 3, tyX6, rfl, by decide, z_inX6, z_g 160 (by decide +kernel) rfl, tyX6_ok, nmX6, fun _ => ⟨rfl, rfl⟩⟩)
theorem zf_X6_9_18 {tl : List ZE} : z_fl (z_shC tl) z_fX6 18 9 = some (5, 0, some 22) := rfl
theorem zf_X6_9_19 {tl : List ZE} : z_fl (z_shC tl) z_fX6 19 9 = some (5, 0, some 23) := rfl
theorem zf_X6_9_20 {tl : List ZE} : z_fl (z_shC tl) z_fX6 20 9 = some (5, 0, some 24) := rfl
theorem zf_X6_9_21 {tl : List ZE} : z_fl (z_shC tl) z_fX6 21 9 = some (5, 0, some 25) := rfl
theorem zf_X6_15_18 {tl : List ZE} : z_fl (z_shC tl) z_fX6 18 15 = some (5, 1, none) := rfl
theorem zf_X6_15_19 {tl : List ZE} : z_fl (z_shC tl) z_fX6 19 15 = some (5, 1, none) := rfl
theorem zf_X6_15_20 {tl : List ZE} : z_fl (z_shC tl) z_fX6 20 15 = some (5, 1, none) := rfl
theorem zf_X6_15_21 {tl : List ZE} : z_fl (z_shC tl) z_fX6 21 15 = some (5, 1, none) := rfl
theorem zf_X6_19_18 {tl : List ZE} : z_fl (z_shC tl) z_fX6 18 19 = some (5, 2, none) := rfl
theorem zf_X6_19_19 {tl : List ZE} : z_fl (z_shC tl) z_fX6 19 19 = some (5, 2, none) := rfl
theorem zf_X6_19_20 {tl : List ZE} : z_fl (z_shC tl) z_fX6 20 19 = some (5, 2, none) := rfl
theorem zf_X6_19_21 {tl : List ZE} : z_fl (z_shC tl) z_fX6 21 19 = some (5, 2, none) := rfl
def z_kcX6 : Nat → Option Int32 := fun i => ([] : List (Nat × Int32)).lookup i
def z_klX6 : Nat → Option Int64 := fun i => ([] : List (Nat × Int64)).lookup i
theorem z_kX6_ok : z_kcok RX6 z_kcX6 z_klX6 := ⟨z_kc_of _ (by intro e he; cases he), z_kl_of _ (by intro e he; cases he)⟩
def z_tX7 : List ((Nat × Nat) × Nat) := [((6, 10), 0), ((6, 19), 1), ((6, 26), 2), ((6, 33), 3), ((6, 39), 4), ((6, 43), 5), ((6, 47), 6), ((6, 50), 7), ((6, 53), 8), ((6, 56), 9), ((6, 59), 10)]
def z_fX7 : Nat → Nat → Option Nat := fun ci i => z_tX7.lookup (ci, i)
theorem z_fX7_ok : z_flok RX7 z_fX7 := z_flok_of _ (by
  intro e he
  simp only [z_tX7, List.mem_cons, List.not_mem_nil, or_false] at he
  rcases he with rfl | rfl | rfl | rfl | rfl | rfl | rfl | rfl | rfl | rfl | rfl
  · exact ⟨RX7, TX7, 11, tyX7, rfl, by decide, z_inX7, z_g 168 (by decide +kernel) rfl, tyX7_ok, nmX7, fun h => absurd h (by decide)⟩
  · exact ⟨RX7, TX7, 11, tyX7, rfl, by decide, z_inX7, z_g 169 (by decide +kernel) rfl, tyX7_ok, nmX7, fun h => absurd h (by decide)⟩
  · exact ⟨RX7, TX7, 11, tyX7, rfl, by decide, z_inX7, z_g 170 (by decide +kernel) rfl, tyX7_ok, nmX7, fun h => absurd h (by decide)⟩
  · exact ⟨RX7, TX7, 11, tyX7, rfl, by decide, z_inX7, z_g 171 (by decide +kernel) rfl, tyX7_ok, nmX7, fun h => absurd h (by decide)⟩
  · exact ⟨RX7, TX7, 11, tyX7, rfl, by decide, z_inX7, z_g 172 (by decide +kernel) rfl, tyX7_ok, nmX7, fun h => absurd h (by decide)⟩
  · exact ⟨RX7, TX7, 11, tyX7, rfl, by decide, z_inX7, z_g 173 (by decide +kernel) rfl, tyX7_ok, nmX7, fun _ => ⟨rfl, rfl⟩⟩
  · exact ⟨RX7, TX7, 11, tyX7, rfl, by decide, z_inX7, z_g 174 (by decide +kernel) rfl, tyX7_ok, nmX7, fun _ => ⟨rfl, rfl⟩⟩
  · exact ⟨RX7, TX7, 11, tyX7, rfl, by decide, z_inX7, z_g 175 (by decide +kernel) rfl, tyX7_ok, nmX7, fun _ => ⟨rfl, rfl⟩⟩
  · exact ⟨RX7, TX7, 11, tyX7, rfl, by decide, z_inX7, z_g 176 (by decide +kernel) rfl, tyX7_ok, nmX7, fun _ => ⟨rfl, rfl⟩⟩
  · exact ⟨RX7, TX7, 11, tyX7, rfl, by decide, z_inX7, z_g 177 (by decide +kernel) rfl, tyX7_ok, nmX7, fun _ => ⟨rfl, rfl⟩⟩
  · exact ⟨RX7, TX7, 11, tyX7, rfl, by decide, z_inX7, z_g 178 (by decide +kernel) rfl, tyX7_ok, nmX7, fun _ => ⟨rfl, rfl⟩⟩)
theorem zf_X7_10_0 {tl : List ZE} : z_fl (z_shC tl) z_fX7 0 10 = some (6, 0, some 1) := rfl
theorem zf_X7_19_0 {tl : List ZE} : z_fl (z_shC tl) z_fX7 0 19 = some (6, 1, some 7) := rfl
theorem zf_X7_26_0 {tl : List ZE} : z_fl (z_shC tl) z_fX7 0 26 = some (6, 2, some 11) := rfl
theorem zf_X7_33_0 {tl : List ZE} : z_fl (z_shC tl) z_fX7 0 33 = some (6, 3, some 13) := rfl
theorem zf_X7_39_0 {tl : List ZE} : z_fl (z_shC tl) z_fX7 0 39 = some (6, 4, some 17) := rfl
theorem zf_X7_43_0 {tl : List ZE} : z_fl (z_shC tl) z_fX7 0 43 = some (6, 5, none) := rfl
theorem zf_X7_47_0 {tl : List ZE} : z_fl (z_shC tl) z_fX7 0 47 = some (6, 6, none) := rfl
theorem zf_X7_50_0 {tl : List ZE} : z_fl (z_shC tl) z_fX7 0 50 = some (6, 7, none) := rfl
theorem zf_X7_53_0 {tl : List ZE} : z_fl (z_shC tl) z_fX7 0 53 = some (6, 8, none) := rfl
theorem zf_X7_56_0 {tl : List ZE} : z_fl (z_shC tl) z_fX7 0 56 = some (6, 9, none) := rfl
theorem zf_X7_59_0 {tl : List ZE} : z_fl (z_shC tl) z_fX7 0 59 = some (6, 10, none) := rfl
def z_kcX7 : Nat → Option Int32 := fun i => ([(223, -2147483648)] : List (Nat × Int32)).lookup i
theorem zkc_X7_223 : z_kcX7 223 = some (-2147483648) := rfl
def z_klX7 : Nat → Option Int64 := fun i => ([(313, -9223372036854775808), (240, 17), (305, 31)] : List (Nat × Int64)).lookup i
theorem zkl_X7_313 : z_klX7 313 = some (-9223372036854775808) := rfl
theorem zkl_X7_240 : z_klX7 240 = some (17) := rfl
theorem zkl_X7_305 : z_klX7 305 = some (31) := rfl
theorem z_kX7_ok : z_kcok RX7 z_kcX7 z_klX7 := ⟨z_kc_of _ (by intro e he; simp only [List.mem_cons, List.not_mem_nil, or_false] at he; rcases he with rfl <;> first | exact z_g 607 (by decide +kernel) rfl), z_kl_of _ (by intro e he; simp only [List.mem_cons, List.not_mem_nil, or_false] at he; rcases he with rfl | rfl | rfl <;> first | exact z_g 457 (by decide +kernel) rfl | exact z_g 653 (by decide +kernel) rfl | exact z_g 658 (by decide +kernel) rfl)⟩
def z_tX8 : List ((Nat × Nat) × Nat) := [((7, 7), 0), ((7, 13), 1), ((7, 112), 2), ((7, 16), 3), ((7, 19), 4), ((7, 22), 5), ((7, 115), 6), ((7, 25), 7), ((7, 28), 8), ((7, 78), 9), ((7, 82), 10), ((7, 85), 11), ((7, 144), 12), ((7, 31), 13), ((7, 137), 14), ((7, 34), 15), ((7, 38), 16), ((7, 41), 17), ((7, 44), 18), ((7, 47), 19), ((7, 50), 20), ((7, 234), 21), ((7, 53), 22), ((7, 56), 23), ((7, 59), 24), ((7, 62), 25), ((7, 66), 26), ((7, 69), 27), ((7, 72), 28), ((7, 75), 29), ((7, 244), 30)]
def z_fX8 : Nat → Nat → Option Nat := fun ci i => z_tX8.lookup (ci, i)
theorem z_fX8_ok : z_flok RX8 z_fX8 := z_flok_of _ (by
  intro e he
  simp only [z_tX8, List.mem_cons, List.not_mem_nil, or_false] at he
  rcases he with rfl | rfl | rfl | rfl | rfl | rfl | rfl | rfl | rfl | rfl | rfl | rfl | rfl | rfl | rfl | rfl | rfl | rfl | rfl | rfl | rfl | rfl | rfl | rfl | rfl | rfl | rfl | rfl | rfl | rfl | rfl
  · exact ⟨RX8, TX8, 31, tyX8, rfl, by decide, z_inX8, z_g 686 (by decide +kernel) rfl, tyX8_ok, nmX8, fun h => absurd h (by decide)⟩
  · exact ⟨RX8, TX8, 31, tyX8, rfl, by decide, z_inX8, z_g 687 (by decide +kernel) rfl, tyX8_ok, nmX8, fun h => absurd h (by decide)⟩
  · exact ⟨RX8, TX8, 31, tyX8, rfl, by decide, z_inX8, z_g 688 (by decide +kernel) rfl, tyX8_ok, nmX8, fun _ => ⟨rfl, rfl⟩⟩
  · exact ⟨RX8, TX8, 31, tyX8, rfl, by decide, z_inX8, z_g 689 (by decide +kernel) rfl, tyX8_ok, nmX8, fun h => absurd h (by decide)⟩
  · exact ⟨RX8, TX8, 31, tyX8, rfl, by decide, z_inX8, z_g 690 (by decide +kernel) rfl, tyX8_ok, nmX8, fun h => absurd h (by decide)⟩
  · exact ⟨RX8, TX8, 31, tyX8, rfl, by decide, z_inX8, z_g 691 (by decide +kernel) rfl, tyX8_ok, nmX8, fun h => absurd h (by decide)⟩
  · exact ⟨RX8, TX8, 31, tyX8, rfl, by decide, z_inX8, z_g 692 (by decide +kernel) rfl, tyX8_ok, nmX8, fun _ => ⟨rfl, rfl⟩⟩
  · exact ⟨RX8, TX8, 31, tyX8, rfl, by decide, z_inX8, z_g 693 (by decide +kernel) rfl, tyX8_ok, nmX8, fun h => absurd h (by decide)⟩
  · exact ⟨RX8, TX8, 31, tyX8, rfl, by decide, z_inX8, z_g 694 (by decide +kernel) rfl, tyX8_ok, nmX8, fun h => absurd h (by decide)⟩
  · exact ⟨RX8, TX8, 31, tyX8, rfl, by decide, z_inX8, z_g 695 (by decide +kernel) rfl, tyX8_ok, nmX8, fun _ => ⟨rfl, rfl⟩⟩
  · exact ⟨RX8, TX8, 31, tyX8, rfl, by decide, z_inX8, z_g 696 (by decide +kernel) rfl, tyX8_ok, nmX8, fun _ => ⟨rfl, rfl⟩⟩
  · exact ⟨RX8, TX8, 31, tyX8, rfl, by decide, z_inX8, z_g 697 (by decide +kernel) rfl, tyX8_ok, nmX8, fun _ => ⟨rfl, rfl⟩⟩
  · exact ⟨RX8, TX8, 31, tyX8, rfl, by decide, z_inX8, z_g 698 (by decide +kernel) rfl, tyX8_ok, nmX8, fun _ => ⟨rfl, rfl⟩⟩
  · exact ⟨RX8, TX8, 31, tyX8, rfl, by decide, z_inX8, z_g 699 (by decide +kernel) rfl, tyX8_ok, nmX8, fun h => absurd h (by decide)⟩
  · exact ⟨RX8, TX8, 31, tyX8, rfl, by decide, z_inX8, z_g 700 (by decide +kernel) rfl, tyX8_ok, nmX8, fun _ => ⟨rfl, rfl⟩⟩
  · exact ⟨RX8, TX8, 31, tyX8, rfl, by decide, z_inX8, z_g 701 (by decide +kernel) rfl, tyX8_ok, nmX8, fun h => absurd h (by decide)⟩
  · exact ⟨RX8, TX8, 31, tyX8, rfl, by decide, z_inX8, z_g 702 (by decide +kernel) rfl, tyX8_ok, nmX8, fun h => absurd h (by decide)⟩
  · exact ⟨RX8, TX8, 31, tyX8, rfl, by decide, z_inX8, z_g 703 (by decide +kernel) rfl, tyX8_ok, nmX8, fun h => absurd h (by decide)⟩
  · exact ⟨RX8, TX8, 31, tyX8, rfl, by decide, z_inX8, z_g 704 (by decide +kernel) rfl, tyX8_ok, nmX8, fun h => absurd h (by decide)⟩
  · exact ⟨RX8, TX8, 31, tyX8, rfl, by decide, z_inX8, z_g 705 (by decide +kernel) rfl, tyX8_ok, nmX8, fun h => absurd h (by decide)⟩
  · exact ⟨RX8, TX8, 31, tyX8, rfl, by decide, z_inX8, z_g 706 (by decide +kernel) rfl, tyX8_ok, nmX8, fun h => absurd h (by decide)⟩
  · exact ⟨RX8, TX8, 31, tyX8, rfl, by decide, z_inX8, z_g 707 (by decide +kernel) rfl, tyX8_ok, nmX8, fun _ => ⟨rfl, rfl⟩⟩
  · exact ⟨RX8, TX8, 31, tyX8, rfl, by decide, z_inX8, z_g 708 (by decide +kernel) rfl, tyX8_ok, nmX8, fun h => absurd h (by decide)⟩
  · exact ⟨RX8, TX8, 31, tyX8, rfl, by decide, z_inX8, z_g 709 (by decide +kernel) rfl, tyX8_ok, nmX8, fun h => absurd h (by decide)⟩
  · exact ⟨RX8, TX8, 31, tyX8, rfl, by decide, z_inX8, z_g 710 (by decide +kernel) rfl, tyX8_ok, nmX8, fun h => absurd h (by decide)⟩
  · exact ⟨RX8, TX8, 31, tyX8, rfl, by decide, z_inX8, z_g 711 (by decide +kernel) rfl, tyX8_ok, nmX8, fun h => absurd h (by decide)⟩
  · exact ⟨RX8, TX8, 31, tyX8, rfl, by decide, z_inX8, z_g 712 (by decide +kernel) rfl, tyX8_ok, nmX8, fun h => absurd h (by decide)⟩
  · exact ⟨RX8, TX8, 31, tyX8, rfl, by decide, z_inX8, z_g 713 (by decide +kernel) rfl, tyX8_ok, nmX8, fun h => absurd h (by decide)⟩
  · exact ⟨RX8, TX8, 31, tyX8, rfl, by decide, z_inX8, z_g 714 (by decide +kernel) rfl, tyX8_ok, nmX8, fun h => absurd h (by decide)⟩
  · exact ⟨RX8, TX8, 31, tyX8, rfl, by decide, z_inX8, z_g 715 (by decide +kernel) rfl, tyX8_ok, nmX8, fun h => absurd h (by decide)⟩
  · exact ⟨RX8, TX8, 31, tyX8, rfl, by decide, z_inX8, z_g 716 (by decide +kernel) rfl, tyX8_ok, nmX8, fun _ => ⟨rfl, rfl⟩⟩)
theorem zf_X8_7_0 : z_fl z_shM z_fX8 0 7 = some (7, 0, some 1) := rfl
theorem zf_X8_13_0 : z_fl z_shM z_fX8 0 13 = some (7, 1, some 2) := rfl
theorem zf_X8_112_0 : z_fl z_shM z_fX8 0 112 = some (7, 2, none) := rfl
theorem zf_X8_16_0 : z_fl z_shM z_fX8 0 16 = some (7, 3, some 3) := rfl
theorem zf_X8_19_0 : z_fl z_shM z_fX8 0 19 = some (7, 4, some 4) := rfl
theorem zf_X8_22_0 : z_fl z_shM z_fX8 0 22 = some (7, 5, some 5) := rfl
theorem zf_X8_115_0 : z_fl z_shM z_fX8 0 115 = some (7, 6, none) := rfl
theorem zf_X8_25_0 : z_fl z_shM z_fX8 0 25 = some (7, 7, some 6) := rfl
theorem zf_X8_28_0 : z_fl z_shM z_fX8 0 28 = some (7, 8, some 7) := rfl
theorem zf_X8_78_0 : z_fl z_shM z_fX8 0 78 = some (7, 9, none) := rfl
theorem zf_X8_82_0 : z_fl z_shM z_fX8 0 82 = some (7, 10, none) := rfl
theorem zf_X8_85_0 : z_fl z_shM z_fX8 0 85 = some (7, 11, none) := rfl
theorem zf_X8_144_0 : z_fl z_shM z_fX8 0 144 = some (7, 12, none) := rfl
theorem zf_X8_31_0 : z_fl z_shM z_fX8 0 31 = some (7, 13, some 8) := rfl
theorem zf_X8_137_0 : z_fl z_shM z_fX8 0 137 = some (7, 14, none) := rfl
theorem zf_X8_34_0 : z_fl z_shM z_fX8 0 34 = some (7, 15, some 9) := rfl
theorem zf_X8_38_0 : z_fl z_shM z_fX8 0 38 = some (7, 16, some 10) := rfl
theorem zf_X8_41_0 : z_fl z_shM z_fX8 0 41 = some (7, 17, some 11) := rfl
theorem zf_X8_44_0 : z_fl z_shM z_fX8 0 44 = some (7, 18, some 12) := rfl
theorem zf_X8_47_0 : z_fl z_shM z_fX8 0 47 = some (7, 19, some 13) := rfl
theorem zf_X8_50_0 : z_fl z_shM z_fX8 0 50 = some (7, 20, some 14) := rfl
theorem zf_X8_234_0 : z_fl z_shM z_fX8 0 234 = some (7, 21, none) := rfl
theorem zf_X8_53_0 : z_fl z_shM z_fX8 0 53 = some (7, 22, some 15) := rfl
theorem zf_X8_56_0 : z_fl z_shM z_fX8 0 56 = some (7, 23, some 16) := rfl
theorem zf_X8_59_0 : z_fl z_shM z_fX8 0 59 = some (7, 24, some 17) := rfl
theorem zf_X8_62_0 : z_fl z_shM z_fX8 0 62 = some (7, 25, some 18) := rfl
theorem zf_X8_66_0 : z_fl z_shM z_fX8 0 66 = some (7, 26, some 19) := rfl
theorem zf_X8_69_0 : z_fl z_shM z_fX8 0 69 = some (7, 27, some 20) := rfl
theorem zf_X8_72_0 : z_fl z_shM z_fX8 0 72 = some (7, 28, some 21) := rfl
theorem zf_X8_75_0 : z_fl z_shM z_fX8 0 75 = some (7, 29, some 22) := rfl
theorem zf_X8_244_0 : z_fl z_shM z_fX8 0 244 = some (7, 30, none) := rfl
def z_kcX8 : Nat → Option Int32 := fun i => ([(240, 1103515245), (253, -2147483648)] : List (Nat × Int32)).lookup i
theorem zkc_X8_240 : z_kcX8 240 = some (1103515245) := rfl
theorem zkc_X8_253 : z_kcX8 253 = some (-2147483648) := rfl
def z_klX8 : Nat → Option Int64 := fun i => ([(92, -9223372036854775808), (262, 17), (257, 31)] : List (Nat × Int64)).lookup i
theorem zkl_X8_92 : z_klX8 92 = some (-9223372036854775808) := rfl
theorem zkl_X8_262 : z_klX8 262 = some (17) := rfl
theorem zkl_X8_257 : z_klX8 257 = some (31) := rfl
theorem z_kX8_ok : z_kcok RX8 z_kcX8 z_klX8 := ⟨z_kc_of _ (by intro e he; simp only [List.mem_cons, List.not_mem_nil, or_false] at he; rcases he with rfl | rfl <;> first | exact z_g 1046 (by decide +kernel) rfl | exact z_g 1071 (by decide +kernel) rfl), z_kl_of _ (by intro e he; simp only [List.mem_cons, List.not_mem_nil, or_false] at he; rcases he with rfl | rfl | rfl <;> first | exact z_g 963 (by decide +kernel) rfl | exact z_g 1092 (by decide +kernel) rfl | exact z_g 1093 (by decide +kernel) rfl)⟩
theorem za_C_2 {tl : List ZE} : z_ar (z_shC tl) 2 = some (0, 35, 0) := rfl
theorem za_C_3 {tl : List ZE} : z_ar (z_shC tl) 3 = some (0, 9, 0) := rfl
theorem za_C_4 {tl : List ZE} : z_ar (z_shC tl) 4 = some (0, 9, 0) := rfl
theorem za_C_5 {tl : List ZE} : z_ar (z_shC tl) 5 = some (0, 9, 0) := rfl
theorem za_C_6 {tl : List ZE} : z_ar (z_shC tl) 6 = some (0, 9, 0) := rfl
theorem za_C_8 {tl : List ZE} : z_ar (z_shC tl) 8 = some (0, 23, 0) := rfl
theorem za_C_9 {tl : List ZE} : z_ar (z_shC tl) 9 = some (0, 6, 0) := rfl
theorem za_C_10 {tl : List ZE} : z_ar (z_shC tl) 10 = some (0, 6, 0) := rfl
theorem za_C_12 {tl : List ZE} : z_ar (z_shC tl) 12 = some (0, 9, 0) := rfl
theorem za_C_14 {tl : List ZE} : z_ar (z_shC tl) 14 = some (0, 8, 0) := rfl
theorem za_C_15 {tl : List ZE} : z_ar (z_shC tl) 15 = some (0, 8, 0) := rfl
theorem za_C_16 {tl : List ZE} : z_ar (z_shC tl) 16 = some (0, 8, 0) := rfl
theorem za_C_17 {tl : List ZE} : z_ar (z_shC tl) 17 = some (3, 4, 18) := rfl
theorem za_C_22 {tl : List ZE} : z_ar (z_shC tl) 22 = some (0, 48, 0) := rfl
theorem za_C_23 {tl : List ZE} : z_ar (z_shC tl) 23 = some (0, 48, 0) := rfl
theorem za_C_24 {tl : List ZE} : z_ar (z_shC tl) 24 = some (0, 48, 0) := rfl
theorem za_C_25 {tl : List ZE} : z_ar (z_shC tl) 25 = some (0, 48, 0) := rfl
theorem za_M_1 : z_ar z_shM 1 = some (0, 2, 0) := rfl
theorem za_M_2 : z_ar z_shM 2 = some (0, 70, 0) := rfl
theorem za_M_3 : z_ar z_shM 3 = some (0, 10, 0) := rfl
theorem za_M_4 : z_ar z_shM 4 = some (0, 10, 0) := rfl
theorem za_M_5 : z_ar z_shM 5 = some (0, 10, 0) := rfl
theorem za_M_6 : z_ar z_shM 6 = some (0, 7, 0) := rfl
theorem za_M_7 : z_ar z_shM 7 = some (0, 7, 0) := rfl
theorem za_M_8 : z_ar z_shM 8 = some (0, 9, 0) := rfl
theorem za_M_9 : z_ar z_shM 9 = some (1, 512, 0) := rfl
theorem za_M_10 : z_ar z_shM 10 = some (1, 512, 0) := rfl
theorem za_M_11 : z_ar z_shM 11 = some (0, 512, 0) := rfl
theorem za_M_12 : z_ar z_shM 12 = some (0, 512, 0) := rfl
theorem za_M_13 : z_ar z_shM 13 = some (1, 10, 0) := rfl
theorem za_M_14 : z_ar z_shM 14 = some (0, 2, 0) := rfl
theorem za_M_15 : z_ar z_shM 15 = some (0, 8, 0) := rfl
theorem za_M_16 : z_ar z_shM 16 = some (0, 8, 0) := rfl
theorem za_M_17 : z_ar z_shM 17 = some (0, 8, 0) := rfl
theorem za_M_18 : z_ar z_shM 18 = some (2, 4, 0) := rfl
theorem za_M_19 : z_ar z_shM 19 = some (0, 4, 0) := rfl
theorem za_M_20 : z_ar z_shM 20 = some (0, 4, 0) := rfl
theorem za_M_21 : z_ar z_shM 21 = some (0, 192, 0) := rfl
theorem za_M_22 : z_ar z_shM 22 = some (0, 48, 0) := rfl
def z_kcJ6 : Nat → Option Int32 := fun i => ([(265, 1431655765), (266, 858993459), (267, 252645135), (264, 65536)] : List (Nat × Int32)).lookup i
def z_klJ6 : Nat → Option Int64 := fun _ => none
def z_fJ6 : Nat → Nat → Option Nat := fun _ _ => none
theorem zkc_J6_265 : z_kcJ6 265 = some (1431655765) := rfl
theorem zkc_J6_266 : z_kcJ6 266 = some (858993459) := rfl
theorem zkc_J6_267 : z_kcJ6 267 = some (252645135) := rfl
theorem zkc_J6_264 : z_kcJ6 264 = some (65536) := rfl
theorem z_fJ6_ok : z_flok RJ6 z_fJ6 := fun ci i j h => by cases h
theorem z_kJ6_ok : z_kcok RJ6 z_kcJ6 z_klJ6 := ⟨z_kc_of _ (by intro e he; simp only [List.mem_cons, List.not_mem_nil, or_false] at he; rcases he with rfl | rfl | rfl | rfl <;> first | exact z_g 427 (by decide +kernel) rfl | exact z_g 428 (by decide +kernel) rfl | exact z_g 429 (by decide +kernel) rfl | exact z_g 565 (by decide +kernel) rfl), fun i v h => by cases h⟩
theorem zi_m1 : Int32.ofInt (-1) = (-1) := by decide +kernel
theorem zi_0 : Int32.ofInt 0 = 0 := by decide +kernel
theorem zi_1 : Int32.ofInt 1 = 1 := by decide +kernel
theorem zi_2 : Int32.ofInt 2 = 2 := by decide +kernel
theorem zi_3 : Int32.ofInt 3 = 3 := by decide +kernel
theorem zi_4 : Int32.ofInt 4 = 4 := by decide +kernel
theorem zi_5 : Int32.ofInt 5 = 5 := by decide +kernel
theorem zi_6 : Int32.ofInt 6 = 6 := by decide +kernel
theorem zi_8 : Int32.ofInt 8 = 8 := by decide +kernel
theorem zi_16 : Int32.ofInt 16 = 16 := by decide +kernel
theorem zb_m10 : (Int8.ofInt (-10)).toInt32 = (-10) := by decide +kernel
theorem zb_m4 : (Int8.ofInt (-4)).toInt32 = (-4) := by decide +kernel
theorem zb_m3 : (Int8.ofInt (-3)).toInt32 = (-3) := by decide +kernel
theorem zb_m2 : (Int8.ofInt (-2)).toInt32 = (-2) := by decide +kernel
theorem zb_6 : (Int8.ofInt 6).toInt32 = 6 := by decide +kernel
theorem zb_7 : (Int8.ofInt 7).toInt32 = 7 := by decide +kernel
theorem zb_8 : (Int8.ofInt 8).toInt32 = 8 := by decide +kernel
theorem zb_9 : (Int8.ofInt 9).toInt32 = 9 := by decide +kernel
theorem zb_10 : (Int8.ofInt 10).toInt32 = 10 := by decide +kernel
theorem zb_16 : (Int8.ofInt 16).toInt32 = 16 := by decide +kernel
theorem zb_20 : (Int8.ofInt 20).toInt32 = 20 := by decide +kernel
theorem zb_23 : (Int8.ofInt 23).toInt32 = 23 := by decide +kernel
theorem zb_30 : (Int8.ofInt 30).toInt32 = 30 := by decide +kernel
theorem zb_32 : (Int8.ofInt 32).toInt32 = 32 := by decide +kernel
theorem zb_35 : (Int8.ofInt 35).toInt32 = 35 := by decide +kernel
theorem zb_46 : (Int8.ofInt 46).toInt32 = 46 := by decide +kernel
theorem zb_48 : (Int8.ofInt 48).toInt32 = 48 := by decide +kernel
theorem zb_56 : (Int8.ofInt 56).toInt32 = 56 := by decide +kernel
theorem zb_57 : (Int8.ofInt 57).toInt32 = 57 := by decide +kernel
theorem zb_59 : (Int8.ofInt 59).toInt32 = 59 := by decide +kernel
theorem zb_63 : (Int8.ofInt 63).toInt32 = 63 := by decide +kernel
theorem zb_70 : (Int8.ofInt 70).toInt32 = 70 := by decide +kernel
theorem zb_98 : (Int8.ofInt 98).toInt32 = 98 := by decide +kernel
theorem zb_99 : (Int8.ofInt 99).toInt32 = 99 := by decide +kernel
theorem zb_100 : (Int8.ofInt 100).toInt32 = 100 := by decide +kernel
theorem zb_111 : (Int8.ofInt 111).toInt32 = 111 := by decide +kernel
theorem zb_112 : (Int8.ofInt 112).toInt32 = 112 := by decide +kernel
theorem zs_192 : (Int16.ofInt 192).toInt32 = 192 := by decide +kernel
theorem zs_255 : (Int16.ofInt 255).toInt32 = 255 := by decide +kernel
theorem zs_256 : (Int16.ofInt 256).toInt32 = 256 := by decide +kernel
theorem zs_511 : (Int16.ofInt 511).toInt32 = 511 := by decide +kernel
theorem zs_512 : (Int16.ofInt 512).toInt32 = 512 := by decide +kernel
theorem zs_12345 : (Int16.ofInt 12345).toInt32 = 12345 := by decide +kernel
