/-! ===== what each call answers, and the state behind it ===== -/
abbrev tL (T : ZT) : Nat := ab_every (tx0 T) &&& (tB T ^^^ 4294967295)
abbrev tU (T : ZT) (s : Nat) : Nat := ab_use (tx0 T) (s &&& ab_every (tx0 T))
abbrev tG (T : ZT) (k s : Nat) : Nat := ab_need (tx1 T) k * tU T s
abbrev tP (T : ZT) (k s : Nat) : Nat := if tG T k s < ab_has (tx1 T) k then tG T k s else ab_has (tx1 T) k
def tA (T : ZT) (k s p : Nat) : Nat := if ¬ s &&& ab_every (tx0 T) = 0 ∧ p ≤ tP T k s then 2 else 0
abbrev i_in (v : Int32) (n : Nat) : Prop := 0 ≤ v.toInt ∧ v.toInt < n
abbrev cn (v : Int32) : Nat := v.toNatClampNeg
abbrev wTx0 (T : ZT) (x : ZText) : ZT := ((x, T.1.2), T.2)
abbrev wTx1 (T : ZT) (x : ZText) : ZT := ((T.1.1, x), T.2)
abbrev wFd (T : ZT) (f : Nat) : ZT := (T.1, T.2.1, T.2.2.1, T.2.2.2.1, T.2.2.2.2.1, T.2.2.2.2.2.1, f)
/-- type -/
def q_type (T : ZT) (t b : Int32) : Int32 := if (t = 0 ∨ t = 1) ∧ i_in b 256 then (if t = 0 then (if (tx0 T).1 = 35 then -4 else nI ((tx0 T).1 + 1)) else (if (tx1 T).1 = 23 then -4 else nI ((tx1 T).1 + 1))) else -2
def u_type (T : ZT) (t b : Int32) : ZT := if (t = 0 ∨ t = 1) ∧ i_in b 256 then (if t = 0 then (if (tx0 T).1 = 35 then T else wTx0 T ((tx0 T).1 + 1, va_up (tx0 T).2 (tx0 T).1 (cn b))) else (if (tx1 T).1 = 23 then T else wTx1 T ((tx1 T).1 + 1, va_up (tx1 T).2 (tx1 T).1 (cn b)))) else T
def q_wipe (T : ZT) (t : Int32) : Int32 := if t = 0 then nI (tx0 T).1 else if t = 1 then nI (tx1 T).1 else -2
def u_wipe (T : ZT) (t : Int32) : ZT := if t = 0 then wTx0 T (0, (tx0 T).2) else if t = 1 then wTx1 T (0, (tx1 T).2) else T
def q_undo (T : ZT) (t : Int32) : Int32 := if t = 0 then (if (tx0 T).1 = 0 then -3 else nI ((tx0 T).1 - 1)) else if t = 1 then (if (tx1 T).1 = 0 then -3 else nI ((tx1 T).1 - 1)) else -2
def u_undo (T : ZT) (t : Int32) : ZT := if t = 0 then wTx0 T ((tx0 T).1 - 1, (tx0 T).2) else if t = 1 then wTx1 T ((tx1 T).1 - 1, (tx1 T).2) else T
def q_fault (T : ZT) (t : Int32) : Int32 := if t = 0 then ab_fault 0 (tx0 T) else if t = 1 then ab_fault 1 (tx1 T) else -2
def q_book (T : ZT) (b w : Int32) : Int32 := if i_in b (tN T) then (if w = 0 then nI (ab_worth (tx0 T) (cn b)) else if w = 1 then nI (ab_kind (tx0 T) (cn b)) else if w = 2 then ab_lean32 (tx0 T) (cn b) else -2) else -2
def q_king (T : ZT) (k w : Int32) : Int32 := if i_in k (tM T) ∧ i_in w 2 then (if w = 0 then nI (ab_has (tx1 T) (cn k)) else nI (ab_need (tx1 T) (cn k))) else -2
def q_set (T : ZT) (w v : Int32) : Int32 := if w = 0 ∧ i_in v 100 then nI (tpr T) else if w = 1 ∧ 1 ≤ v.toInt ∧ v.toInt ≤ 9 then nI (tbu T) else if w = 2 ∧ i_in v 17 then nI (tdt T) else -2
def u_set (T : ZT) (w v : Int32) : ZT := if w = 0 ∧ i_in v 100 then (T.1, (cn v, T.2.1.2), T.2.2) else if w = 1 ∧ 1 ≤ v.toInt ∧ v.toInt ≤ 9 then (T.1, (T.2.1.1, cn v, T.2.1.2.2), T.2.2) else if w = 2 ∧ i_in v 17 then (T.1, (T.2.1.1, T.2.1.2.1, cn v), T.2.2) else T
abbrev wBr (T : ZT) (b : Nat × (Nat → Nat)) : ZT := (T.1, T.2.1, b, T.2.2.2)
def q_burnt (T : ZT) (v : Int32) : Prop := i_in v 9 ∧ (tB T).testBit (cn v) = false
def q_burn (T : ZT) (v : Int32) : Int32 := if i_in v 9 ∧ (tB T).testBit (cn v) = false then nI (tnb T + 1) else -2
def u_burn (T : ZT) (v : Int32) : ZT := if i_in v 9 ∧ (tB T).testBit (cn v) = false then wBr T (tnb T + 1, va_up (tod T) (tnb T) (cn v)) else T
def q_back (T : ZT) : Int32 := if tnb T = 0 then -3 else nI (tnb T - 1)
def u_back (T : ZT) : ZT := wBr T (tnb T - 1, tod T)
def q_use (T : ZT) (s : Int32) : Int32 := if i_in s 512 then nI (tU T (cn s)) else -2
def q_gain (T : ZT) (k s : Int32) : Int32 := if i_in k (tM T) ∧ i_in s 512 then nI (tG T (cn k) (cn s)) else -2
def q_loss (T : ZT) : Int32 := nI (tU T (ab_every (tx0 T))) - nI (tU T (tL T))
def q_act (T : ZT) (k s : Int32) : Int32 := if i_in k (tM T) ∧ i_in s 512 then nI (tA T (cn k) (cn s) (tpr T)) else -2
/-- a refusal, told as a long -/
def q_no (r : Int64) : Int64 := (-9223372036854775808) - r
def q_whole (n : Nat) (w : Int32) : Int64 := if w = 0 then lN n else 1
def q_value (T : ZT) (k s w : Int32) : Int64 := if i_in k (tM T) ∧ i_in s 512 ∧ i_in w 2 then q_whole (if tA T (cn k) (cn s) (tpr T) = 2 then tG T (cn k) (cn s) - tpr T else 0) w else q_no (-2)
def q_buys (T : ZT) (k w : Int32) : Int64 := if i_in k (tM T) ∧ i_in w 2 then q_whole (if tA T (cn k) (tL T) (tpr T) = 2 then 1 else 0) w else q_no (-2)
def q_take (T : ZT) (k p w : Int32) : Int64 := if i_in k (tM T) ∧ i_in p 100 ∧ i_in w 2 then q_whole (if tA T (cn k) (tL T) (cn p) = 2 then cn p else 0) w else q_no (-2)
def q_price (T : ZT) (k : Int32) : Int32 := if i_in k (tM T) then nI (tP T (cn k) (tL T)) else -2
def q_burns (T : ZT) (k : Int32) : Int32 := if i_in k (tM T) then 1 else -2
def q_share (T : ZT) (a b s w : Int32) : Int32 := if i_in a (tM T) ∧ i_in b (tM T) ∧ ¬ a = b ∧ i_in s 512 ∧ i_in w 2 then
  (if (if tP T (cn a) (cn s) < tpr T then tP T (cn a) (cn s) else tpr T) < tpr T - tP T (cn b) (cn s) then -1 else if w = 0 then nI (tpr T - tP T (cn b) (cn s)) else nI (if tP T (cn a) (cn s) < tpr T then tP T (cn a) (cn s) else tpr T)) else -2
abbrev wPg (T : ZT) (p : Nat × Nat) : ZT := (T.1, T.2.1, T.2.2.1, p, T.2.2.2.2)
def q_page (T : ZT) (b : Int32) : Int32 := if i_in b 2 then (if tpb T + tpo T = 9 then -4 else nI (tpb T + tpo T + 1)) else -2
def u_page (T : ZT) (b : Int32) : ZT := if i_in b 2 ∧ ¬ tpb T + tpo T = 9 then (if b = 1 then wPg T (tpb T + 1, tpo T) else wPg T (tpb T, tpo T + 1)) else T
abbrev wSd (T : ZT) (p : Nat × (Nat → Nat × Int32 × Nat)) : ZT := (T.1, T.2.1, T.2.2.1, T.2.2.2.1, p, T.2.2.2.2.2)
def q_saidW (w v i : Int32) : Prop := ((w = 0 ∧ i_in v 10) ∨ (w = 1 ∧ i_in v 3) ∨ (w = 2 ∧ -1 ≤ v.toInt ∧ v.toInt ≤ 8)) ∧ i_in i 2
def q_said (T : ZT) (w v i : Int32) : Int32 := if ((w = 0 ∧ i_in v 10) ∨ (w = 1 ∧ i_in v 3) ∨ (w = 2 ∧ -1 ≤ v.toInt ∧ v.toInt ≤ 8)) ∧ i_in i 2 then (if tns T = 8 then -4 else nI (tns T + 1)) else -2
def u_said (T : ZT) (w v i : Int32) : ZT := if (((w = 0 ∧ i_in v 10) ∨ (w = 1 ∧ i_in v 3) ∨ (w = 2 ∧ -1 ≤ v.toInt ∧ v.toInt ≤ 8)) ∧ i_in i 2) ∧ ¬ tns T = 8 then wSd T (tns T + 1, va_up (tsd T) (tns T) (cn w, v, cn i)) else T
def q_forget (T : ZT) (w : Int32) : Int32 := if w = 0 then nI (tpb T + tpo T) else if w = 1 then nI (tns T) else -2
def u_forget (T : ZT) (w : Int32) : ZT := if w = 0 then wPg T (0, 0) else if w = 1 then wSd T (0, tsd T) else T
def q_foN (T : ZT) : Nat → Nat
  | 0 => 0
  | n + 1 => if (tB T).testBit n = true ∧ ab_allN (tx0 T) n (tsd T) (tns T) = true then q_foN T n ||| 2 ^ n else q_foN T n
def q_fourth (T : ZT) : Int32 := nI (q_foN T (tN T))
/-! sheets -/
abbrev wSh (T : ZT) (s : Nat) (h : Bool × Nat × Nat) (f : Nat → Int32) : ZT := (T.1, T.2.1, T.2.2.1, T.2.2.2.1, T.2.2.2.2.1, (va_up (tsh T) s h, va_up (tit T) s f), tfd T)
/-- a finding: its number -/
def q_fnd (f : Nat) : Int32 := -10 - nI f
def q_sheet (T : ZT) (s f n : Int32) : Int32 := if i_in s 4 ∧ i_in f 3 ∧ n.toInt ≤ 48 then (if n.toInt < 0 then q_fnd 5 else n) else -2
def u_sheet (T : ZT) (s f n : Int32) : ZT := if i_in s 4 ∧ i_in f 3 ∧ n.toInt ≤ 48 then (if n.toInt < 0 then wFd T 5 else wSh T (cn s) (true, cn f, cn n) (fun _ => 0)) else T
def q_lose (T : ZT) (s : Int32) : Int32 := if i_in s 4 then (if (tsh T (cn s)).1 = true then nI (tsh T (cn s)).2.2 else q_fnd 1) else -2
def u_lose (T : ZT) (s : Int32) : ZT := if i_in s 4 then (if (tsh T (cn s)).1 = true then wSh T (cn s) (false, (tsh T (cn s)).2) (tit T (cn s)) else wFd T 1) else T
/-- why an item can't be had; 0: it can -/
def q_lack (T : ZT) (s : Nat) (f i : Int32) : Nat := if (tsh T s).1 = false then 1 else if ¬ nI (tsh T s).2.1 = f then 3 else if i_in i (tsh T s).2.2 then 0 else 2
def q_put (T : ZT) (s f i v : Int32) : Int32 := if i_in s 4 ∧ i_in f 3 then (if q_lack T (cn s) f i = 0 then 1 else q_fnd (q_lack T (cn s) f i)) else -2
def u_put (T : ZT) (s f i v : Int32) : ZT := if i_in s 4 ∧ i_in f 3 then (if q_lack T (cn s) f i = 0 then wSh T (cn s) (tsh T (cn s)) (va_up (tit T (cn s)) (cn i) (ab_narrow (tsh T (cn s)).2.1 v)) else wFd T (q_lack T (cn s) f i)) else T
def q_get (T : ZT) (s f i : Int32) : Int32 := if i_in s 4 ∧ i_in f 3 ∧ q_lack T (cn s) f i = 0 then tit T (cn s) (cn i) else -2147483648
def u_get (T : ZT) (s f i : Int32) : ZT := if i_in s 4 ∧ i_in f 3 ∧ ¬ q_lack T (cn s) f i = 0 then wFd T (q_lack T (cn s) f i) else T
def q_copyF (T : ZT) (s t : Nat) (i j n : Int32) : Nat := if (tsh T s).1 = false ∨ (tsh T t).1 = false then 1 else if ¬ (tsh T s).2.1 = (tsh T t).2.1 then 4 else if 0 ≤ i.toInt ∧ 0 ≤ j.toInt ∧ 0 ≤ n.toInt ∧ i.toInt + n.toInt ≤ (tsh T s).2.2 ∧ j.toInt + n.toInt ≤ (tsh T t).2.2 then 0 else 2
def q_copy (T : ZT) (s i t j n : Int32) : Int32 := if i_in s 4 ∧ i_in t 4 then (if q_copyF T (cn s) (cn t) i j n = 0 then 1 else q_fnd (q_copyF T (cn s) (cn t) i j n)) else -2
def u_copy (T : ZT) (s i t j n : Int32) : ZT := if i_in s 4 ∧ i_in t 4 then (if q_copyF T (cn s) (cn t) i j n = 0 then wSh T (cn t) (tsh T (cn t)) (va_cpy (tit T (cn s)) (tit T (cn t)) (cn i) (cn j) (cn n)) else wFd T (q_copyF T (cn s) (cn t) i j n)) else T
def q_write (T : ZT) (k s : Int32) : Int32 := if i_in k (tM T) ∧ i_in s 4 then (if (tsh T (cn s)).1 = true then nI (tsh T (cn s)).2.2 else q_fnd 1) else -2
def u_write (T : ZT) (k s : Int32) : ZT := if i_in k (tM T) ∧ i_in s 4 then (if (tsh T (cn s)).1 = true then wSh T (cn s) (tsh T (cn s)) (fun p => if p < (tsh T (cn s)).2.2 then nI (tA T (cn k) (tL T) p) else tit T (cn s) p) else wFd T 1) else T
def q_count (T : ZT) (w : Int32) : Int32 := if w = 0 then nI (tN T) else if w = 1 then nI (tM T) else if w = 2 then nI (tx0 T).1 else if w = 3 then nI (tx1 T).1 else if w = 4 then nI (tnb T) else if w = 5 then nI (tpb T + tpo T) else if w = 6 then nI (tns T) else if w = 7 then nI (ab_blk (tx0 T) (tL T)) else if w = 8 then nI (tfd T) else -2
/-! read, enough, dearest, coming -/
def rdN (s : Nat) : Nat → Nat → ZT → ZT × Nat
  | 0, n, T => (T, n)
  | m + 1, n, T => if i_in (tit T s n) 9 ∧ (tB T).testBit (cn (tit T s n)) = false then rdN s m (n + 1) (u_burn T (tit T s n)) else (T, n)
def q_read (T : ZT) (v : Int32) : Int32 := if i_in v 4 then (if (tsh T (cn v)).1 = true then nI (rdN (cn v) (tsh T (cn v)).2.2 0 T).2 else q_fnd 1) else -2
def u_read (T : ZT) (v : Int32) : ZT := if i_in v 4 then (if (tsh T (cn v)).1 = true then (rdN (cn v) (tsh T (cn v)).2.2 0 T).1 else wFd T 1) else T
def enN (T : ZT) (u : Int32) : Nat → Nat
  | 0 => 999
  | n + 1 => if n &&& (tL T ^^^ 4294967295) = 0 ∧ (enN T u n = 999 ∨ ab_pop n < ab_pop (enN T u n)) ∧ u ≤ nI (tU T n) then n else enN T u n
def en32 (n : Nat) : Int32 := if n = 999 then -1 else nI n
def q_enough (T : ZT) (u : Int32) : Int32 := if i_in u 100 then en32 (enN T u 512) else -2
def deN (T : ZT) : Nat → Nat × Nat
  | 0 => (999, 0)
  | n + 1 => if (tL T).testBit n = true ∧ ((deN T n).1 = 999 ∨ tU T (tL T &&& (2 ^ n ^^^ 4294967295)) < (deN T n).2) then (n, tU T (tL T &&& (2 ^ n ^^^ 4294967295))) else deN T n
def q_dearest (T : ZT) : Int32 := en32 (deN T 9).1
def ab_strip : Nat → Nat → Nat
  | s, 0 => s
  | s, n + 1 => ab_strip (s &&& (s - 1)) n
def lcg (x : Int32) : Int32 := 1103515245 * x + 12345
def dr (x : Int32) (m : Nat) : Nat := (x.toUInt32.toNat / 65536) % m
def blN : Nat → Nat → Int32 → Nat × Int32
  | 0, s, x => (s, x)
  | t + 1, s, x => if s = 0 then (s, x) else blN t (s &&& (2 ^ ab_low (ab_strip s (dr (lcg x) (ab_pop s))) ^^^ 4294967295)) (lcg x)
def cmN (T : ZT) (w : Int32) : Nat → Nat → Int32 → Int32
  | 0, _, _ => -1
  | f + 1, s, x => if s = 0 ∨ tM T = 0 then -1 else if tpr T ≤ tP T (dr (lcg x) (tM T)) s then (if w = 0 then nI s else nI (dr (lcg x) (tM T))) else cmN T w f (blN (tbu T) s (lcg x)).1 (blN (tbu T) s (lcg x)).2
def q_coming (T : ZT) (x w : Int32) : Int32 := if i_in w 2 then cmN T w 9 (tL T) x else -2
/-! digest -/
abbrev hw (h n : Int64) : Int64 := 31 * h + n
abbrev hi (h : Int64) (n : Int32) : Int64 := 31 * h + n.toInt64
