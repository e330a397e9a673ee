/-! offers: how many ways, how many sets -/
def mn (n b : Nat) : Nat := if n < b then n else b
def ch (n s : Nat) : Nat → Nat
  | 0 => 1
  | k + 1 => ch n s k * (n - s + (k + 1)) / (k + 1)
theorem ch_s (n s k : Nat) : ch n s (k + 1) = ch n s k * (n - s + (k + 1)) / (k + 1) := rfl
def wyF (b : Nat) : Nat → Nat → Nat
  | 0, _ => 1
  | f + 1, n => if n = 0 then 1 else ch n (mn n b) (mn n b) * wyF b f (n - mn n b)
def wy (b n : Nat) : Nat := wyF b 10 n
theorem wy_0 (b : Nat) : wy b 0 = 1 := rfl
theorem wy_s : ∀ b, b < 10 → 1 ≤ b → ∀ n, n < 10 → 0 < n → wy b n = ch n (mn n b) (mn n b) * wy b (n - mn n b) := by decide +kernel
theorem wy_le : ∀ b, b < 10 → 1 ≤ b → ∀ n, n < 10 → 0 < wy b n ∧ wy b n ≤ 362880 := by decide +kernel
theorem ch_le : ∀ n, n < 10 → ∀ s, s < 10 → s ≤ n → ∀ k, k < 10 → ch n s k ≤ 1000000000 := by decide +kernel
/-- of the sets that a loop goes through from r on, how many have m books -/
def rem (s m : Nat) : Nat → Nat → Nat
  | 0, _ => 0
  | f + 1, r => if r = 0 then 0 else (if ab_pop ((r - 1) &&& s) = m then 1 else 0) + rem s m f ((r - 1) &&& s)
theorem rem_s (s m f r : Nat) : rem s m (f + 1) r = if r = 0 then 0 else (if ab_pop ((r - 1) &&& s) = m then 1 else 0) + rem s m f ((r - 1) &&& s) := rfl
/-- the same, quick to count -/
def pcn (n : Nat) : Nat := n - n / 2 - n / 4 - n / 8 - n / 16 - n / 32 - n / 64 - n / 128 - n / 256
theorem pcn_eq : ∀ n, n < 512 → ab_pop n = pcn n := by decide +kernel
def remG (s m : Nat) : Nat → Nat → Nat
  | 0, _ => 0
  | _ + 1, 0 => 0
  | f + 1, k + 1 => (bif Nat.beq (pcn (k &&& s)) m then 1 else 0) + remG s m f (k &&& s)
theorem rem_G (s m : Nat) (hs : s < 512) : ∀ f r, rem s m f r = remG s m f r
  | 0, r => by cases r <;> rfl
  | f + 1, 0 => by rw [rem_s, if_pos rfl]; rfl
  | f + 1, k + 1 => by
    rw [rem_s, if_neg (by omega), show k + 1 - 1 = k from rfl, rem_G s m hs f, pcn_eq (k &&& s) (Nat.lt_of_le_of_lt Nat.and_le_right hs)]
    show _ = (bif Nat.beq (pcn (k &&& s)) m then 1 else 0) + remG s m f (k &&& s)
    congr 1
    cases hb : Nat.beq (pcn (k &&& s)) m with
    | true => rw [if_pos (Nat.eq_of_beq_eq_true hb)]; rfl
    | false => rw [if_neg (Nat.ne_of_beq_eq_false hb)]; rfl
def remOk (s : Nat) : Bool := (List.range 10).all (fun b => Nat.beq b 0 || Nat.ble (remG s (pcn s - mn (pcn s) b) 512 s) (ch (pcn s) (mn (pcn s) b) (mn (pcn s) b)))
theorem remOk_0 : ∀ i, i < 64 → remOk (0 + i) = true := by decide +kernel
theorem remOk_1 : ∀ i, i < 64 → remOk (64 + i) = true := by decide +kernel
theorem remOk_2 : ∀ i, i < 64 → remOk (128 + i) = true := by decide +kernel
theorem remOk_3 : ∀ i, i < 64 → remOk (192 + i) = true := by decide +kernel
theorem remOk_4 : ∀ i, i < 64 → remOk (256 + i) = true := by decide +kernel
theorem remOk_5 : ∀ i, i < 64 → remOk (320 + i) = true := by decide +kernel
theorem remOk_6 : ∀ i, i < 64 → remOk (384 + i) = true := by decide +kernel
theorem remOk_7 : ∀ i, i < 64 → remOk (448 + i) = true := by decide +kernel
theorem rem_le : ∀ s, s < 512 → ∀ b, b < 10 → 1 ≤ b → rem s (ab_pop s - mn (ab_pop s) b) 512 s ≤ ch (ab_pop s) (mn (ab_pop s) b) (mn (ab_pop s) b) := by
  intro s hs b hb h1
  have ok : remOk s = true := by
    obtain ⟨i, hi⟩ : ∃ i, i = s % 64 := ⟨_, rfl⟩
    rcases (show s / 64 = 0 ∨ s / 64 = 1 ∨ s / 64 = 2 ∨ s / 64 = 3 ∨ s / 64 = 4 ∨ s / 64 = 5 ∨ s / 64 = 6 ∨ s / 64 = 7 by omega) with h | h | h | h | h | h | h | h
    · have := remOk_0 i (by omega); rwa [show 0 + i = s by omega] at this
    · have := remOk_1 i (by omega); rwa [show 64 + i = s by omega] at this
    · have := remOk_2 i (by omega); rwa [show 128 + i = s by omega] at this
    · have := remOk_3 i (by omega); rwa [show 192 + i = s by omega] at this
    · have := remOk_4 i (by omega); rwa [show 256 + i = s by omega] at this
    · have := remOk_5 i (by omega); rwa [show 320 + i = s by omega] at this
    · have := remOk_6 i (by omega); rwa [show 384 + i = s by omega] at this
    · have := remOk_7 i (by omega); rwa [show 448 + i = s by omega] at this
  unfold remOk at ok
  rw [List.all_eq_true] at ok
  have h2 := ok b (List.mem_range.mpr hb)
  rw [Bool.or_eq_true] at h2
  rw [pcn_eq s hs, rem_G _ _ hs]
  rcases h2 with h2 | h2
  · have := Nat.eq_of_beq_eq_true h2; omega
  · exact Nat.le_of_ble_eq_true h2
theorem mn_le (n b : Nat) : mn n b ≤ n ∧ mn n b ≤ b := by unfold mn; split <;> omega
/-- a set of fewer books is of no more use -/
theorem use_mono {x : ZText} {r s : Nat} (h : ∀ i, r.testBit i = true → s.testBit i = true) : ∀ n, ab_useN x r n ≤ ab_useN x s n
  | 0 => Nat.le_refl _
  | n + 1 => by
    have ih := use_mono (x := x) h n
    rw [useN_s, useN_s]
    have : ab_term x r n ≤ ab_term x s n := by
      unfold ab_term
      by_cases c : r.testBit n = true ∧ (ab_lean x n = 99 ∨ r.testBit (ab_lean x n) = true)
      · rw [if_pos c, if_pos ⟨h n c.1, c.2.elim Or.inl (fun q => Or.inr (h _ q))⟩]; exact Nat.le_refl _
      · rw [if_neg c]; exact Nat.zero_le _
    omega
theorem sub_tb {r s : Nat} (h : r &&& s = r) (i : Nat) (hi : r.testBit i = true) : s.testBit i = true := by
  rw [← h, Nat.testBit_and, Bool.and_eq_true] at hi
  exact hi.2
theorem tU_mono {T : ZT} {r s : Nat} (h : r &&& s = r) : tU T r ≤ tU T s := by
  refine use_mono (fun i hi => ?_) 9
  rw [Nat.testBit_and, Bool.and_eq_true] at hi ⊢
  exact ⟨sub_tb h i hi.1, hi.2⟩
theorem tA_2 {T : ZT} {k s p : Nat} : tA T k s p = 2 ↔ (¬ s &&& ab_every (tx0 T) = 0 ∧ p ≤ ab_has (tx1 T) k ∧ p ≤ tG T k s) := by
  unfold tA
  by_cases c : ¬ s &&& ab_every (tx0 T) = 0 ∧ p ≤ tP T k s
  · rw [if_pos c]
    refine ⟨fun _ => ⟨c.1, ?_⟩, fun _ => rfl⟩
    have := c.2
    unfold tP at this
    split at this <;> omega
  · rw [if_neg c]
    refine ⟨fun q => absurd q (by omega), fun q => absurd ⟨q.1, ?_⟩ c⟩
    have := q.2
    unfold tP
    split <;> omega
theorem tA_02 {T : ZT} {k s p : Nat} (h : ¬ tA T k s p = 2) : tA T k s p = 0 := by
  unfold tA at *
  split at h
  · omega
  · rename_i c; rw [if_neg c]
/-- what a set is worth to a king, in so many ways -/
def mv (T : ZT) (k s p b : Nat) : Nat := (if tA T k s p = 2 then tG T k s - p else 0) * wy b (ab_pop s)
def mch (T : ZT) (k s p b : Nat) : Nat := (if tA T k s p = 2 then 1 else 0) * wy b (ab_pop s)
theorem tA_sub {T : ZT} {k r s p : Nat} (h : r &&& s = r) (hr : tA T k r p = 2) : tA T k s p = 2 ∧ tG T k r ≤ tG T k s := by
  have hg : tG T k r ≤ tG T k s := Nat.mul_le_mul_left _ (tU_mono h)
  rw [tA_2] at hr ⊢
  refine ⟨⟨fun q => hr.1 ?_, hr.2.1, Nat.le_trans hr.2.2 hg⟩, hg⟩
  rw [← h, Nat.and_assoc, q, Nat.and_zero]
theorem mv_sub {T : ZT} {k r s p b m : Nat} (h : r &&& s = r) (hm : ab_pop r = m) : mv T k r p b ≤ (if tA T k s p = 2 then tG T k s - p else 0) * wy b m := by
  unfold mv
  rw [hm]
  refine Nat.mul_le_mul_right _ ?_
  by_cases c : tA T k r p = 2
  · obtain ⟨h1, h2⟩ := tA_sub h c
    rw [if_pos c, if_pos h1]; omega
  · rw [if_neg c]; exact Nat.zero_le _
theorem mask_self {T : ZT} {s : Nat} (hs : s < 2 ^ tN T) : s &&& ab_every (tx0 T) = s := by
  unfold ab_every
  exact Nat.and_two_pow_sub_one_of_lt_two_pow hs
theorem tA_mask (T : ZT) (k s p : Nat) : tA T k (s &&& ab_every (tx0 T)) p = tA T k s p ∧ tG T k (s &&& ab_every (tx0 T)) = tG T k s := by
  have h : s &&& ab_every (tx0 T) &&& ab_every (tx0 T) = s &&& ab_every (tx0 T) := by rw [Nat.and_assoc, Nat.and_self]
  have hU : tU T (s &&& ab_every (tx0 T)) = tU T s := by unfold tU; rw [h]
  have hG : tG T k (s &&& ab_every (tx0 T)) = tG T k s := by unfold tG; rw [hU]
  have hP : tP T k (s &&& ab_every (tx0 T)) = tP T k s := by unfold tP; rw [hG]
  refine ⟨?_, hG⟩
  unfold tA
  rw [h, hP]
/-- a fraction of so many ways, told in lowest terms -/
theorem low_ways {v y : Nat} (hy : 0 < y) (w : Int32) : lN ((if w = 0 then v * y else y) / Nat.gcd (v * y) y) = q_whole v w := by
  have g : Nat.gcd (v * y) y = y := Nat.gcd_eq_right (Nat.dvd_mul_left y v)
  unfold q_whole
  rw [g]
  by_cases c : w = 0
  · rw [if_pos c, if_pos c, Nat.mul_div_cancel _ hy]
  · rw [if_neg c, if_neg c, Nat.div_self hy]; rfl
theorem lc_lt {a b : Nat} (ha : a < 2 ^ 62) (hb : b < 2 ^ 62) : lg_cmp (lN a) (lN b) < 0 ↔ a < b := by
  unfold lg_cmp
  simp only [gt_iff_lt, pk_lLT (a := b) (b := a) (by omega) (by omega), pk_lEQ (a := a) (b := b) (by omega) (by omega)]
  by_cases h : b < a
  · rw [if_pos h]; exact ⟨fun q => absurd q (by decide), fun q => by omega⟩
  · rw [if_neg h]
    by_cases e : a = b
    · rw [if_pos e]; exact ⟨fun q => absurd q (by decide), fun q => by omega⟩
    · rw [if_neg e]; exact ⟨fun _ => by omega, fun _ => by decide⟩
theorem lc_le {a b : Nat} (ha : a < 2 ^ 62) (hb : b < 2 ^ 62) : lg_cmp (lN a) (lN b) ≤ 0 ↔ a ≤ b := by
  unfold lg_cmp
  simp only [gt_iff_lt, pk_lLT (a := b) (b := a) (by omega) (by omega), pk_lEQ (a := a) (b := b) (by omega) (by omega)]
  by_cases h : b < a
  · rw [if_pos h]; exact ⟨fun q => absurd q (by decide), fun q => by omega⟩
  · rw [if_neg h]
    by_cases e : a = b
    · rw [if_pos e]; exact ⟨fun _ => by omega, fun _ => by decide⟩
    · rw [if_neg e]; exact ⟨fun _ => by omega, fun _ => by decide⟩
/-- a loss, in so many ways, is below 0 -/
theorem neg_ways {g p y : Nat} (hg : g < p) (hp : p ≤ 99) (hy : 0 < y) (hy2 : y ≤ 362880) : lg_cmp ((nI g - nI p).toInt64 * lN y) (lN 0) < 0 := by
  have h1 : ((nI g - nI p).toInt64).toInt = (g : Int) - p := by
    rw [Int32.toInt_toInt64, pk_sub_toInt (by omega) (by omega)]
  have h2 : (lN y).toInt = (y : Int) := pk_lT (by omega)
  have h3 : ((nI g - nI p).toInt64 * lN y).toInt = ((g : Int) - p) * y := by
    rw [Int64.toInt_mul, h1, h2]
    have a1 : -99 * (362880 : Int) ≤ ((g : Int) - p) * y := by
      have e1 : ((p : Int) - g) * y ≤ 99 * 362880 := Int.mul_le_mul (by omega) (by omega) (by omega) (by omega)
      have e2 : ((g : Int) - p) * y = -(((p : Int) - g) * y) := by rw [← Int.neg_mul]; congr 1; omega
      omega
    have a2 : ((g : Int) - p) * y ≤ 0 := by
      have e1 : (0 : Int) ≤ ((p : Int) - g) * y := Int.mul_nonneg (by omega) (by omega)
      have e2 : ((g : Int) - p) * y = -(((p : Int) - g) * y) := by rw [← Int.neg_mul]; congr 1; omega
      omega
    exact Int.bmod_eq_of_le (by omega) (by omega)
  have h4 : ((nI g - nI p).toInt64 * lN y).toInt < 0 := by
    rw [h3]
    have e1 : (0 : Int) < ((p : Int) - g) * y := Int.mul_pos (by omega) (by omega)
    have e2 : ((g : Int) - p) * y = -(((p : Int) - g) * y) := by rw [← Int.neg_mul]; congr 1; omega
    omega
  have h5 : (lN 0).toInt = 0 := by decide
  unfold lg_cmp
  rw [if_neg (by rw [gt_iff_lt, Int64.lt_iff_toInt_lt, h5]; omega), if_neg (fun q => by rw [q, h5] at h4; omega)]
  decide

