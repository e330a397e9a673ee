/-! ===== what the two systems are about: one abstract state, and what each call answers of it ===== -/
abbrev ZText : Type := Nat × (Nat → Nat)
/-- texts; price, burns, doubt; the burnt; pages blank, other; sayings (what, v, is); sheets (there, form, size), items; finding -/
abbrev ZT : Type := (ZText × ZText) × (Nat × Nat × Nat) × (Nat × (Nat → Nat)) × (Nat × Nat) × (Nat × (Nat → Nat × Int32 × Nat)) × ((Nat → Bool × Nat × Nat) × (Nat → Nat → Int32)) × Nat
abbrev tx0 (T : ZT) : ZText := T.1.1
abbrev tx1 (T : ZT) : ZText := T.1.2
abbrev tpr (T : ZT) : Nat := T.2.1.1
abbrev tbu (T : ZT) : Nat := T.2.1.2.1
abbrev tdt (T : ZT) : Nat := T.2.1.2.2
abbrev tnb (T : ZT) : Nat := T.2.2.1.1
abbrev tod (T : ZT) : Nat → Nat := T.2.2.1.2
abbrev tpb (T : ZT) : Nat := T.2.2.2.1.1
abbrev tpo (T : ZT) : Nat := T.2.2.2.1.2
abbrev tns (T : ZT) : Nat := T.2.2.2.2.1.1
abbrev tsd (T : ZT) : Nat → Nat × Int32 × Nat := T.2.2.2.2.1.2
abbrev tsh (T : ZT) : Nat → Bool × Nat × Nat := T.2.2.2.2.2.1.1
abbrev tit (T : ZT) : Nat → Nat → Int32 := T.2.2.2.2.2.1.2
abbrev tfd (T : ZT) : Nat := T.2.2.2.2.2.2
/-- a byte fits its column -/
def ab_fig (hi b : Nat) : Bool := decide (48 ≤ b) && decide (b ≤ hi)
def ab_well (k : Nat) (c b : Nat) : Bool := match k, c with
  | _, 3 => b == 59
  | 0, 0 => ab_fig 57 b
  | 0, 1 => b == 111 || (b == 98 || b == 112)
  | 0, _ => b == 46 || ab_fig 56 b
  | _, _ => ab_fig 57 b
/-- the fault, looked for from place i on, k bytes left; none: -1 -/
def ab_ff (k : Nat) (f : Nat → Nat) : Nat → Nat → Int32
  | 0, i => if i = 0 ∨ i % 4 = 3 then -1 else nI i
  | n + 1, i => if ab_well k (i % 4) (f i) = true then ab_ff k f n (i + 1) else nI i
def ab_fault (k : Nat) (x : ZText) : Int32 := ab_ff k x.2 x.1 0
/-- how many entries there are -/
def ab_num (k : Nat) (x : ZText) : Nat := if ab_fault k x = -1 then (x.1 + 1) / 4 else 0
abbrev tN (T : ZT) : Nat := ab_num 0 (tx0 T)
abbrev tM (T : ZT) : Nat := ab_num 1 (tx1 T)
def ab_worth (x : ZText) (j : Nat) : Nat := x.2 (4 * j) - 48
def ab_kind (x : ZText) (j : Nat) : Nat := if x.2 (4 * j + 1) = 98 then 1 else if x.2 (4 * j + 1) = 112 then 2 else 0
/-- the book on which it leans; 99: none -/
def ab_lean (x : ZText) (j : Nat) : Nat := if x.2 (4 * j + 2) = 46 then 99 else x.2 (4 * j + 2) - 48
def ab_lean32 (x : ZText) (j : Nat) : Int32 := if x.2 (4 * j + 2) = 46 then -1 else nI (x.2 (4 * j + 2) - 48)
def ab_alone (x : ZText) (j : Nat) : Nat := if ab_kind x j = 1 then 0 else if ab_kind x j = 2 then ab_worth x j / 2 else ab_worth x j
def ab_has (x : ZText) (j : Nat) : Nat := 10 * (x.2 (4 * j) - 48) + (x.2 (4 * j + 1) - 48)
def ab_need (x : ZText) (j : Nat) : Nat := x.2 (4 * j + 2) - 48
/-- bits of the burnt -/
def ab_bits (od : Nat → Nat) : Nat → Nat
  | 0 => 0
  | n + 1 => ab_bits od n ||| 2 ^ od n
abbrev tB (T : ZT) : Nat := ab_bits (tod T) (tnb T)
def ab_narrow (form : Nat) (v : Int32) : Int32 := match form with
  | 0 => v.toInt8.toInt32
  | 1 => v.toInt16.toInt32
  | _ => v
/-- the abstract state is one -/
def ab_textI (k : Nat) (x : ZText) : Prop := x.1 ≤ (if k = 0 then 35 else 23) ∧ ∀ i, i < x.1 → x.2 i ≤ 255
def tI (T : ZT) : Prop := ab_textI 0 (tx0 T) ∧ ab_textI 1 (tx1 T) ∧ (tpr T ≤ 99 ∧ 1 ≤ tbu T ∧ tbu T ≤ 9 ∧ tdt T ≤ 16) ∧ (tnb T ≤ 9 ∧ ∀ i, i < tnb T → tod T i ≤ 8 ∧ (ab_bits (tod T) i).testBit (tod T i) = false) ∧ tpb T + tpo T ≤ 9 ∧
  (tns T ≤ 8 ∧ ∀ i, i < tns T → (tsd T i).1 ≤ 2 ∧ (tsd T i).2.2 ≤ 1) ∧ (∀ s, s < 4 → (tsh T s).2.1 ≤ 2 ∧ (tsh T s).2.2 ≤ 48) ∧ tfd T ≤ 5
/-! the class holds it -/
def c_books (x : ZText) (S : ZS) : Prop := S.1 1 1 = nI x.1 ∧ (∀ i, i < x.1 → S.1 2 i = nI (x.2 i)) ∧ S.1 1 2 = ab_fault 0 x ∧ S.1 1 3 = nI (ab_num 0 x) ∧ ∀ j, j < ab_num 0 x → S.1 3 j = nI (ab_worth x j) ∧ S.1 4 j = nI (ab_kind x j) ∧ S.1 5 j = ab_lean32 x j ∧ S.1 6 j = nI (ab_alone x j)
def c_kings (x : ZText) (S : ZS) : Prop := S.1 7 1 = nI x.1 ∧ (∀ i, i < x.1 → S.1 8 i = nI (x.2 i)) ∧ S.1 7 2 = ab_fault 1 x ∧ S.1 7 3 = nI (ab_num 1 x) ∧ ∀ j, j < ab_num 1 x → S.1 9 j = nI (ab_has x j) ∧ S.1 10 j = nI (ab_need x j)
def c_burnt (T : ZT) (S : ZS) : Prop := S.1 11 1 = nI (tnb T) ∧ S.1 11 2 = nI (tB T) ∧ ∀ i, i < tnb T → S.1 12 i = nI (tod T i)
def c_said (T : ZT) (S : ZS) : Prop := S.1 13 3 = nI (tns T) ∧ ∀ i, i < tns T → S.1 14 i = nI (tsd T i).1 ∧ S.1 15 i = (tsd T i).2.1 ∧ S.1 16 i = nI (tsd T i).2.2
def c_nums (T : ZT) (S : ZS) : Prop := S.1 0 5 = nI (tpr T) ∧ S.1 0 6 = nI (tbu T) ∧ S.1 0 7 = nI (tdt T) ∧ S.1 0 8 = nI (tpb T) ∧ S.1 0 9 = nI (tpo T) ∧ S.1 0 10 = nI (tfd T)
def c_sheet (T : ZT) (S : ZS) (s : Nat) : Prop := ((tsh T s).1 = true → S.1 (18 + s) 1 = nI (tsh T s).2.1 ∧ S.1 (18 + s) 2 = nI (tsh T s).2.2 ∧ ∀ i, i < (tsh T s).2.2 → S.1 (22 + s) i = tit T s i) ∧ ((tsh T s).1 = false → S.1 (18 + s) 2 = -1)
def CR (T : ZT) (S : ZS) : Prop := tI T ∧ c_books (tx0 T) S ∧ c_kings (tx1 T) S ∧ c_burnt T S ∧ c_said T S ∧ c_nums T S ∧ ∀ s, s < 4 → c_sheet T S s
/-! numbers -/
theorem n_lt {a b : Nat} (ha : a < 2147483648) (hb : b < 2147483648) : (nI a < nI b) = (a < b) := propext (nI_ltI ha hb)
theorem n_le {a b : Nat} (ha : a < 2147483648) (hb : b < 2147483648) : (nI a ≤ nI b) = (a ≤ b) := propext (nI_leI ha hb)
theorem n_eq {a b : Nat} (ha : a < 2147483648) (hb : b < 2147483648) : (nI a = nI b) = (a = b) := propext (nI_eq ha hb)
theorem n_ti {n : Nat} (h : n < 2147483648) : (nI n).toInt = (n : Int) := nI_toInt h
theorem i_lt {a b : Int32} : a < b ↔ a.toInt < b.toInt := Int32.lt_iff_toInt_lt
theorem i_le {a b : Int32} : a ≤ b ↔ a.toInt ≤ b.toInt := Int32.le_iff_toInt_le
theorem i_eq {a b : Int32} : a = b ↔ a.toInt = b.toInt := Int32.toInt_inj.symm
theorem n_in {i n : Nat} (h : i < n) (hn : n < 2147483648) : vp_in (nI i) n := vp_in_nI h hn
theorem n_cl {n : Nat} (h : n < 2147483648) : (nI n).toNatClampNeg = n := nI_clamp h
/-- an int in a range is a number -/
theorem n_of {x : Int32} {m : Nat} (h0 : 0 ≤ x.toInt) (h1 : x.toInt ≤ m) : ∃ j : Nat, j ≤ m ∧ x = nI j := by
  have hb : x.toInt < 2147483648 := by have := Int32.toInt_lt x; omega
  refine ⟨x.toInt.toNat, by omega, ?_⟩
  rw [i_eq, n_ti (by omega)]
  omega
