/-! The class's methods as functions of whole numbers (mirrors of the Java text). -/
theorem x_nI {x : Int32} (h : 0 ≤ x.toInt) : x = nI x.toInt.toNat := by
  rw [nI_iI, Int.toNat_of_nonneg h]
  exact iI_self x
theorem x_iI {x : Int32} {y : Int} (h : x.toInt = y) : x = iI y := by
  rw [← h]
  exact iI_self x
theorem x_yN {x : Int32} {y : Int} (h : x.toInt = y) (h0 : 0 ≤ y) : x = nI y.toNat := by
  rw [← h] at h0 ⊢
  exact x_nI h0
theorem bI_one {P : Prop} [Decidable P] (h : P) : bI true = bI (decide P) := by rw [decide_eq_true h]
theorem bI_zero {P : Prop} [Decidable P] (h : ¬ P) : bI false = bI (decide P) := by rw [decide_eq_false h]
def atZ (b : Nat → Nat) (n : Nat) (x : Int) : Int := if 0 ≤ x ∧ x < (n : Int) then (b x.toNat : Int) else -1
def kB (k : Nat) : Nat := if kN k = 0 then 1 else if kN k = 3 then 3 else 2
def kC (k : Nat) : Nat := 4 ^ kR k
def kFind (z : Int) : Nat → Nat → Option Nat
  | 0, _ => none
  | j + 1, k => if (kF k : Int) ≤ z ∧ z < ((kF k + kC k : Nat) : Int) then some k else kFind z j (k + 1)
def kd (z : Int) : Option Nat := kFind z 13 0
def ckd (b : Nat → Nat) (n : Nat) (x : Int) : Option Nat := match kd (atZ b n x) with
  | none => none
  | some k => if (kB k : Int) ≤ (n : Int) - x then some k else none
def cln (b : Nat → Nat) (n : Nat) (x : Int) : Nat := match ckd b n x with
  | none => 0
  | some k => kB k
def sx8 (v : Nat) : Int := if v < 128 then (v : Int) else (v : Int) - 256
def num (b : Nat → Nat) (a k : Nat) : Int := if kN k = 1 then (b (a + 1) : Int) else if kN k = 2 then sx8 (b (a + 1)) else if kN k = 3 then ((256 * b (a + 1) + b (a + 2) : Nat) : Int) else 0
def clrB (m : Nat → Bool) (k : Nat) : Nat → Bool := fun i => if i < k then false else m i
abbrev wkT : Type := (Nat → Nat) × (Nat → Bool) × Nat
def cm (ad : Nat) (s : wkT) (x : Int) : wkT := if 0 ≤ x ∧ x < (ad : Int) ∧ s.2.1 x.toNat = false ∧ s.2.2 < 160 then (updN s.1 s.2.2 x.toNat, updB s.2.1 x.toNat true, s.2.2 + 1) else s
def wk0 (fd : Nat → Nat) : wkT := (fd, fun _ => false, 0)
def fallsB (k : Nat) : Bool := decide (k ≠ 1 ∧ k ≠ 2 ∧ k ≠ 7)
def suc1 (b : Nat → Nat) (ad a k : Nat) (s : wkT) : wkT := if fallsB k = true then cm ad s ((a + kB k : Nat) : Int) else s
def suc2 (b : Nat → Nat) (ad a k : Nat) (s : wkT) : wkT := if k = 10 then cm ad s (((a + kB k : Nat) : Int) + num b a k) else s
def suc3 (b : Nat → Nat) (ad a k : Nat) (cs : Bool) (s : wkT) : wkT := if k = 7 ∨ k = 9 ∨ (k = 8 ∧ cs = true) then cm ad s (num b a k) else s
def suc (b : Nat → Nat) (n ad : Nat) (cs : Bool) (a : Nat) (s : wkT) : wkT := match ckd b n (a : Int) with
  | none => s
  | some k => suc3 b ad a k cs (suc2 b ad a k (suc1 b ad a k s))
def fol (b : Nat → Nat) (n ad : Nat) (cs : Bool) : Nat → Nat → wkT → wkT
  | 0, _, s => s
  | j + 1, k, s => if k < s.2.2 then fol b n ad cs j (k + 1) (suc b n ad cs (s.1 k) s) else s
abbrev txT : Type := (Nat → Nat) × Nat
def ap1 (s : txT) (c : Nat) : txT := (updN s.1 s.2 c, s.2 + 1)
def ap (s : txT) (l : List Nat) : txT := l.foldl ap1 s
def dgL (a u : Nat) : List Nat := if u ≤ a ∨ u = 1 then [48 + a / u % 10] else []
def nuF (a : Nat) : Nat → List Nat
  | 0 => []
  | j + 1 => dgL a (10 ^ j) ++ nuF a j
def nuL (v : Int) : List Nat := (if v < 0 then [45] else []) ++ nuF v.natAbs 5
def cmL (k : Nat) : List Nat := if 0 < k then [44] else []
def rgF (rc g : Nat) : Nat → Nat → List Nat
  | 0, _ => []
  | j + 1, k => cmL k ++ [114, 48 + g / 4 ^ (rc - 1 - k) % 4] ++ rgF rc g j (k + 1)
def rgL (k g : Nat) : List Nat := rgF (kR k) g (kR k) 0
def lnL (k g : Nat) (v : Int) : List Nat := opL k ++ rgL k g ++ (if kN k = 0 then [] else cmL (kR k) ++ nuL v) ++ [10]
abbrev rdT : Type := Nat × Bool
def tk (t : Nat → Nat) (n c : Nat) (r : rdT) : rdT := if atZ t n (r.1 : Int) = (c : Int) then (r.1 + 1, r.2) else (r.1, false)
def tkC (t : Nat → Nat) (n k : Nat) (r : rdT) : rdT := if 0 < k then tk t n 44 r else r
def mL (t : Nat → Nat) (n : Nat) : Nat → List Nat → Bool
  | _, [] => true
  | p, c :: l => if atZ t n (p : Int) = (c : Int) then mL t n (p + 1) l else false
def tkKF (t : Nat → Nat) (n p : Nat) : Nat → Nat → Option Nat
  | 0, _ => none
  | j + 1, k => if mL t n p (opL k) = true then some k else tkKF t n p j (k + 1)
def tkK1 (t : Nat → Nat) (n : Nat) (r : rdT) : Option Nat := tkKF t n r.1 14 0
def tkK2 (t : Nat → Nat) (n : Nat) (r : rdT) : rdT := match tkK1 t n r with
  | none => (r.1, false)
  | some k => (r.1 + (opL k).length, r.2)
def tkR1 (t : Nat → Nat) (n : Nat) (r : rdT) : Nat := if atZ t n ((tk t n 114 r).1 : Int) - 48 < 0 ∨ 3 < atZ t n ((tk t n 114 r).1 : Int) - 48 then 0 else (atZ t n ((tk t n 114 r).1 : Int) - 48).toNat
def tkR2 (t : Nat → Nat) (n : Nat) (r : rdT) : rdT := if atZ t n ((tk t n 114 r).1 : Int) - 48 < 0 ∨ 3 < atZ t n ((tk t n 114 r).1 : Int) - 48 then ((tk t n 114 r).1, false) else ((tk t n 114 r).1 + 1, (tk t n 114 r).2)
def tkAF (t : Nat → Nat) (n : Nat) : Nat → Nat → Nat → Nat × Nat
  | 0, p, a => (p, a)
  | j + 1, p, a => if 48 ≤ atZ t n (p : Int) ∧ atZ t n (p : Int) ≤ 57 then tkAF t n j (p + 1) (10 * a + (atZ t n (p : Int)).toNat - 48) else (p, a)
def tkA1 (t : Nat → Nat) (n : Nat) (r : rdT) : Nat := (tkAF t n 5 r.1 0).2
def tkA2 (t : Nat → Nat) (n : Nat) (r : rdT) : rdT := ((tkAF t n 5 r.1 0).1, if (tkAF t n 5 r.1 0).1 - r.1 = 0 ∨ (1 < (tkAF t n 5 r.1 0).1 - r.1 ∧ atZ t n (r.1 : Int) = 48) then false else r.2)
def tkNs (t : Nat → Nat) (n : Nat) (r : rdT) : rdT := if atZ t n (r.1 : Int) = 45 then (r.1 + 1, r.2) else r
def tkN1 (t : Nat → Nat) (n : Nat) (r : rdT) : Int := if atZ t n (r.1 : Int) = 45 then -(tkA1 t n (tkNs t n r) : Int) else (tkA1 t n (tkNs t n r) : Int)
def tkN2 (t : Nat → Nat) (n : Nat) (lo hi : Int) (r : rdT) : rdT := ((tkA2 t n (tkNs t n r)).1, if (atZ t n (r.1 : Int) = 45 ∧ tkA1 t n (tkNs t n r) = 0) ∨ tkN1 t n r < lo ∨ hi < tkN1 t n r then false else (tkA2 t n (tkNs t n r)).2)
def rdRF (t : Nat → Nat) (n : Nat) : Nat → Nat → rdT → Nat → rdT × Nat
  | 0, _, r, g => (r, g)
  | j + 1, k, r, g => rdRF t n j (k + 1) (tkR2 t n (tkC t n k r)) (4 * g + tkR1 t n (tkC t n k r))
def rdR (t : Nat → Nat) (n k : Nat) (r : rdT) : rdT × Nat := rdRF t n (kR k) 0 r 0
def loN (m : Nat) : Int := if m = 2 then -128 else 0
def hiN (m : Nat) : Int := if m = 2 then 127 else if m = 3 then 65535 else 255
def rdN1 (t : Nat → Nat) (n k : Nat) (r : rdT) : Int := if kN k = 0 then 0 else tkN1 t n (tkC t n (kR k) r)
def rdN2 (t : Nat → Nat) (n k : Nat) (r : rdT) : rdT := if kN k = 0 then r else tkN2 t n (loN (kN k)) (hiN (kN k)) (tkC t n (kR k) r)
abbrev abT : Type := (Nat → Int32) × Nat
def adB (s : abT) (x : Int32) : abT := (if s.2 < 160 then upd s.1 s.2 x else s.1, s.2 + 1)
def adBs (k g : Nat) (v : Int) (s : abT) : abT :=
  let s1 := if k = 13 then s else adB s (nI (kF k + g))
  let s2 := if kN k = 3 then adB s1 (iI v >>> ((8 : Int32) &&& 31)) else s1
  if kN k = 0 then s2 else adB s2 (iI v &&& 255)
def rdLr (t : Nat → Nat) (n : Nat) (r : rdT) : rdT := match tkK1 t n r with
  | none => tkK2 t n r
  | some k => tk t n 10 (rdN2 t n k (rdR t n k (tkK2 t n r)).1)
def rdLs (t : Nat → Nat) (n : Nat) (r : rdT) (s : abT) : abT := match tkK1 t n r with
  | none => s
  | some k => adBs k (rdR t n k (tkK2 t n r)).2 (rdN1 t n k (rdR t n k (tkK2 t n r)).1) s
def rdF (t : Nat → Nat) (n : Nat) : Nat → rdT → abT → rdT × abT
  | 0, r, s => (r, s)
  | j + 1, r, s => if r.2 = true ∧ r.1 < n then rdF t n j (rdLr t n r) (rdLs t n r s) else (r, s)
def rd (t : Nat → Nat) (n : Nat) (f : Nat → Int32) : rdT × abT := rdF t n 2400 (0, true) (f, 0)
