/-! how the class's state and the reference's belong together, a relation a piece -/
def NB : Nat := 1000000
/-- the text: length and bytes -/
def R_T (cl : Int32) (cb : Nat → Int32) (rt : Int32) (rb : Nat → Int32) : Prop :=
  cl = rt ∧ cb = rb ∧ (∃ n : Nat, n ≤ 300 ∧ rt = nI n) ∧ ∀ j : Nat, -128 ≤ (rb j).toInt ∧ (rb j).toInt ≤ 127
def R_M (cm rm : Int32) : Prop := cm = rm ∧ ∃ n : Nat, 2 ≤ n ∧ n ≤ 16 ∧ rm = nI n
def R_I (ci ri : Nat → Int32) : Prop := ∀ j : Nat, j < 8 → ci j = ri j ∧ ∃ n : Nat, n ≤ 15 ∧ ri j = nI n
def R_L (cl rl : Nat → Int32) : Prop := ∀ j : Nat, j < 40 → cl j = rl j ∧ ∃ n : Nat, n ≤ 15 ∧ rl j = nI n
def R_R (cp rp : Nat → Int32) : Prop := ∀ j : Nat, j < 3 → cp j = rp j ∧ ∃ n : Nat, n ≤ 999 ∧ rp j = nI n
def R_Z (ct rt : Int64) : Prop := ct = rt
def R_C (cp cd cn cs c1 c2 : Int32) (cb : Nat → Int32) (rp rd rn : Int32) (num rb : Nat → Int32) : Prop :=
  cp = rp ∧ cd = rd ∧ cn = rn ∧ cs = num 0 ∧ c1 = num 1 ∧ c2 = num 2 ∧ (∀ j : Nat, j < 6 → cb j = rb j) ∧
  ∃ q d n : Nat, rp = nI q ∧ (q = 5 ∨ q = 7 ∨ q = 11 ∨ q = 13) ∧ rd = nI d ∧ d ≤ 2 ∧ rn = nI n ∧ 3 ≤ n ∧ n ≤ 6 ∧ n < q ∧
    (∀ j : Nat, j < 3 → ∃ a : Nat, a < q ∧ num j = nI a) ∧ ∀ j : Nat, j < 6 → ∃ a : Nat, a < q ∧ rb j = nI a
/-- hands that thieves hold at the end of a month: those stolen in month u join -/
def rpH (th tm : Nat → Int32) (u : Int32) : Nat → Int32 → Int32
  | 0, h => h
  | k + 1, h => let g := rpH th tm u k h; if tm k = u then g ||| ((1 : Int32) <<< (th k &&& 31)) else g
/-- hands at the end of month u, months replayed from 0 -/
def rpM (fr th tm : Nat → Int32) (t : Nat) : Nat → Int32
  | 0 => rpH th tm (nI 0) t 0
  | u + 1 => rpH th tm (nI (u + 1)) t (if fr (u + 1) = 1 then 0 else rpM fr th tm t u)
/-- how many of the lowest eight bits are set -/
def bits8 (x : Int32) : Nat → Int32
  | 0 => 0
  | k + 1 => bits8 x k + ((x >>> (nI k &&& 31)) &&& 1)
def rpK (d : Int32) (fr th tm : Nat → Int32) (t : Nat) (m : Nat) : Prop := ∃ u : Nat, u ≤ m ∧ d < bits8 (rpM fr th tm t u) 8
def R_O (deg pts now taken hands out month : Int32) (fr : Nat → Int32) (rtaken : Int32) (th tm : Nat → Int32) : Prop :=
  now = month ∧ taken = rtaken ∧ ∃ d n m t : Nat, deg = nI d ∧ d ≤ 2 ∧ pts = nI n ∧ 3 ≤ n ∧ n ≤ 6 ∧ month = nI m ∧ m ≤ 29 ∧ rtaken = nI t ∧ t ≤ 30 ∧
    (∀ k : Nat, k < t → (∃ a : Nat, a < n ∧ th k = nI a) ∧ ∃ u : Nat, u ≤ m ∧ tm k = nI u) ∧
    hands = rpM fr th tm t m ∧ ((out = 1 ∧ rpK deg fr th tm t m) ∨ (out = 0 ∧ ¬ rpK deg fr th tm t m))
/-- how many of the first n items are of a kind -/
def cntW (w : Nat → Int32) (c : Int32) : Nat → Nat
  | 0 => 0
  | k + 1 => cntW w c k + (if w k = c then 1 else 0)
/-- an item's depth by the letters' depths; the talk bits say which mul takes two rounds -/
def dpI (w t a b : Nat → Int32) (talk : Int32) (L : Nat → Int32) (nth : Nat) (k : Nat) : Int32 :=
  if w k = 5 then L (t k).toNatClampNeg + 1
  else if 1 < w k then (if L (b k).toNatClampNeg < L (a k).toNatClampNeg then L (a k).toNatClampNeg else L (b k).toNatClampNeg) + (if w k = 4 then (if (talk >>> (nI nth &&& 31)) &&& 1 = 1 then 2 else 1) else 0)
  else 0
/-- the letters' depths behind k items -/
def dpL (w t a b : Nat → Int32) (talk : Int32) : Nat → Nat → Int32
  | 0 => fun _ => 0
  | k + 1 => if w k = 5 then dpL w t a b talk k else upd (dpL w t a b talk k) (t k).toNatClampNeg (dpI w t a b talk (dpL w t a b talk k) (cntW w 4 k) k)
def dpD (w t a b : Nat → Int32) (talk : Int32) (k : Nat) : Int32 := dpI w t a b talk (dpL w t a b talk k) (cntW w 4 k) k
/-- a program of n items is well made -/
def okP (n : Nat) (w t a b d : Nat → Int32) : Prop := ∀ k : Nat, k < n →
  (∃ c : Nat, c ≤ 5 ∧ w k = nI c) ∧ (w k = 5 ↔ k + 1 = n) ∧ (∃ c : Nat, c < 16 ∧ t k = nI c) ∧
  (w k = 0 → ∃ c : Nat, c ≤ 2 ∧ d k = nI c) ∧ (w k = 1 → ∃ c : Nat, c ≤ 15 ∧ d k = nI c) ∧
  (w k = 2 ∨ w k = 3 ∨ w k = 4 → (∃ j : Nat, j < k ∧ a k = t j) ∧ ∃ j : Nat, j < k ∧ b k = t j) ∧
  (w k = 5 → ∃ j : Nat, j < k ∧ t k = t j) ∧ (w k ≠ 5 → ∀ j : Nat, j < k → t j ≠ t k)
def R_P (ci cin cmu : Int32) (cc : Nat → Int32) (ri : Int32) (w t a b d : Nat → Int32) : Prop :=
  ∃ n : Nat, 1 ≤ n ∧ n ≤ 16 ∧ ci = ri ∧ ri = nI n ∧ okP n w t a b d ∧ cin = nI (cntW w 0 n) ∧ cmu = nI (cntW w 4 n) ∧ cntW w 0 n ≤ 4 ∧ cntW w 4 n ≤ 4 ∧
    ∀ k : Nat, k < n → cc (6 * k) = w k ∧ cc (6 * k + 1) = t k ∧ cc (6 * k + 2) = a k ∧ cc (6 * k + 3) = b k ∧ cc (6 * k + 4) = d k ∧ cc (6 * k + 5) = dpD w t a b 0 k
/-- the sum of the first c lies told for a hand at an item -/
def lieS (li lh lb : Nat → Int32) (i h : Int32) : Nat → Int32
  | 0 => 0
  | k + 1 => lieS li lh lb i h k + (if li k = i ∧ lh k = h then lb k else 0)
def R_Y (cc : Int32) (cl : Nat → Int32) (rc : Int32) (li lh lb : Nat → Int32) : Prop :=
  cc = rc ∧ ∃ c : Nat, c ≤ 6 ∧ rc = nI c ∧ (∀ k : Nat, k < c → ∃ v : Nat, 1 ≤ v ∧ v ≤ 15 ∧ lb k = nI v) ∧
    ∀ i h : Nat, i < 16 → h < 3 → cl (3 * i + h) = lieS li lh lb (nI i) (nI h) c
