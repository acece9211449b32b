theorem byW_s (w : Int32) (k : Nat) (hk : k < 4) : w >>> (nI (24 - 8 * k) &&& 31) &&& nI 255 = nI (byW w k) := by
  rw [← byW_e]
  have key : ∀ (s : Int32) (j : Nat), (s.toBitVec.smod 32).toNat = j → ((s.toUInt32 &&& Int32.toUInt32 31).toBitVec % 32).toNat = j → (j = 0 ∨ j = 8 ∨ j = 16 ∨ j = 24) → w >>> (s &&& 31) &&& nI 255 = (w.toUInt32 >>> (s.toUInt32 &&& Int32.toUInt32 31)).toInt32 &&& nI 255 → True := fun _ _ _ _ _ _ => trivial
  have hu := fun (s : Int32) (j : Nat) (h : ((s.toUInt32 &&& Int32.toUInt32 31).toBitVec % 32).toNat = j) => pk_ushr w s j h
  have hs := fun (s : Int32) (j : Nat) (h : (s.toBitVec.smod 32).toNat = j) => pk_shr w s j h
  have ha : ∀ x : Int32, x &&& nI 255 = nI (x.toBitVec.toNat % 2 ^ 8) := fun x => pk_and x (m := nI 255) 8 (by decide)
  rw [ha, ha]
  congr 1
  have ci : ∀ x : Int32, x.toInt = (x.toBitVec.toNat : Int) ∨ x.toInt = (x.toBitVec.toNat : Int) - 4294967296 := by
    intro x
    have c := BitVec.toInt_eq_toNat_cond x.toBitVec
    have e : x.toInt = x.toBitVec.toInt := rfl
    rw [e]
    split at c <;> omega
  rcases (show k = 0 ∨ k = 1 ∨ k = 2 ∨ k = 3 by omega) with e | e | e | e <;> subst e
  · have h1 := hu (nI (24 - 8 * 0)) 24 (by decide)
    have h2 := hs (nI (24 - 8 * 0) &&& 31) 24 (by decide)
    rw [h1]
    rw [Int.shiftRight_eq_div_pow] at h2
    have c1 := ci w
    have c2 := ci (w >>> (nI (24 - 8 * 0) &&& 31))
    omega
  · have h1 := hu (nI (24 - 8 * 1)) 16 (by decide)
    have h2 := hs (nI (24 - 8 * 1) &&& 31) 16 (by decide)
    rw [h1]
    rw [Int.shiftRight_eq_div_pow] at h2
    have c1 := ci w
    have c2 := ci (w >>> (nI (24 - 8 * 1) &&& 31))
    omega
  · have h1 := hu (nI (24 - 8 * 2)) 8 (by decide)
    have h2 := hs (nI (24 - 8 * 2) &&& 31) 8 (by decide)
    rw [h1]
    rw [Int.shiftRight_eq_div_pow] at h2
    have c1 := ci w
    have c2 := ci (w >>> (nI (24 - 8 * 2) &&& 31))
    omega
  · have h1 := hu (nI (24 - 8 * 3)) 0 (by decide)
    have h2 := hs (nI (24 - 8 * 3) &&& 31) 0 (by decide)
    rw [h1]
    rw [Int.shiftRight_eq_div_pow] at h2
    have c1 := ci w
    have c2 := ci (w >>> (nI (24 - 8 * 3) &&& 31))
    omega
theorem sx8_in {v : Nat} (h : v < 256) : -128 ≤ sx8 v ∧ sx8 v ≤ 127 := by
  unfold sx8
  split <;> omega
theorem lgO_le (f : Nat) : lgO f ≤ 3 := by
  unfold lgO
  (repeat' split) <;> omega
def fw1 (b : Nat → Nat) (n a : Nat) (q : mkT) : mkT := if b a ≠ 1 ∧ b a ≠ 2 ∧ b a ≠ 80 then ms1 n q ((a + mLen b n (a : Int) : Nat) : Int) else q
def fw2 (b : Nat → Nat) (n : Nat) (cs : Bool) (a : Nat) (q : mkT) : mkT := if 80 ≤ b a ∧ b a ≤ 85 ∧ (b a ≠ 81 ∨ cs = true) then ms1 n q (mfw b a) else q
def fw3 (b : Nat → Nat) (n a : Nat) (q : mkT) : mkT := if 96 ≤ b a ∧ b a ≤ 99 then ms1 n q (((a + mLen b n (a : Int) : Nat) : Int) + sx8 (b (a + 1))) else q
def mfl (b : Nat → Nat) (n : Nat) (cs : Bool) (a : Nat) (m : Nat → Bool) : mkT := (mtg b n cs a).foldl (ms1 n) (m, false)
theorem mfl_0 {b : Nat → Nat} {n a : Nat} {cs : Bool} {m : Nat → Bool} (h : mLen b n (a : Int) = 0) : mfl b n cs a m = (m, false) := by
  unfold mfl mtg
  rw [if_pos h]
  rfl
theorem mfl_e {b : Nat → Nat} {n a : Nat} {cs : Bool} {m : Nat → Bool} (h : ¬ mLen b n (a : Int) = 0) : mfl b n cs a m = fw3 b n a (fw2 b n cs a (fw1 b n a (m, false))) := by
  unfold mfl mtg
  rw [if_neg h, List.foldl_append, List.foldl_append, foldl_one, foldl_one, foldl_one]
  rfl
theorem ms1_t {n : Nat} {q : mkT} {x : Int} (h : msN n q.1 x = true) : ms1 n q x = (msM n q.1 x, true) := by
  unfold ms1
  rw [h, Bool.or_true]
theorem ms1_f {n : Nat} {q : mkT} {x : Int} (h : msN n q.1 x = false) : ms1 n q x = (msM n q.1 x, q.2) := by
  unfold ms1
  rw [h, Bool.or_false]
theorem ms_acc {n : Nat} : ∀ (L : List Int) (m : Nat → Bool) (v : Bool), L.foldl (ms1 n) (m, v) = ((L.foldl (ms1 n) (m, false)).1, v || (L.foldl (ms1 n) (m, false)).2) := by
  intro L
  induction L with
  | nil => intro m v; simp
  | cons x L ih =>
    intro m v
    simp only [List.foldl_cons]
    have e : ∀ v : Bool, ms1 n (m, v) x = (msM n m x, v || msN n m x) := fun _ => rfl
    rw [e, e, ih (msM n m x) (v || msN n m x), ih (msM n m x) (false || msN n m x), Bool.false_or, Bool.or_assoc]
def meF (en : Nat → Nat) : Nat → Nat → (Nat → Bool) → Nat → Bool
  | 0, _, m => m
  | j + 1, k, m => meF en j (k + 1) (updB m (en k) true)
def mE (e : txT) : Nat → Bool := meF e.1 e.2 0 (fun _ => false)
def mR (i e : txT) : Nat → Bool := (mcF (mtg i.1 i.2 true) i.2 1000 (mE e, true)).1
def mB (i : txT) (y : Int) : Nat → Bool := (mcF (mtg i.1 i.2 false) i.2 1000 (updB (fun _ => false) y.toNat true, true)).1
def mBn (i : txT) (y : Int) : Nat := if 0 ≤ y ∧ y < (i.2 : Int) then cntB (mB i y) i.2 else 0
def mBm (i : txT) (y : Int) (m : Nat → Bool) : Nat → Bool := if 0 ≤ y ∧ y < (i.2 : Int) then mB i y else m
theorem mLen_in {b : Nat → Nat} {n a : Nat} (h : a < n) : mLen b n (a : Int) ≤ 3 ∧ a + mLen b n (a : Int) ≤ n := by
  unfold mLen
  rw [if_pos (by omega)]
  split
  · have := lgO_le (b (a : Int).toNat)
    omega
  · omega
theorem mLen_le3 (b : Nat → Nat) (n : Nat) (y : Int) : mLen b n y ≤ 3 := by
  unfold mLen
  split
  · split
    · exact lgO_le _
    · omega
  · omega
theorem mLen_l {b : Nat → Nat} {n a : Nat} (h : a < n) (h0 : ¬ mLen b n (a : Int) = 0) : mLen b n (a : Int) = lgO (b a) := by
  unfold mLen at h0 ⊢
  rw [if_pos (by omega)] at h0 ⊢
  rw [Int.toNat_natCast] at h0 ⊢
  split
  · rfl
  · rename_i q
    rw [if_neg q] at h0
    exact absurd rfl h0
theorem lgO_3 {f : Nat} (h : 80 ≤ f) (h2 : f ≤ 85) : lgO f = 3 := by
  unfold lgO
  (repeat' split) <;> omega
theorem lgO_2 {f : Nat} (h : 96 ≤ f) (h2 : f ≤ 99) : lgO f = 2 := by
  unfold lgO
  (repeat' split) <;> omega
def mBF (t : Nat → Nat) (n : Nat) (ln : Nat → Nat) (p : Nat) : Nat → Nat → Bool
  | 0, _ => true
  | j + 1, k => if atZ t n ((p + k : Nat) : Int) = (ln k : Int) then mBF t n ln p j (k + 1) else false
def mBg (t L : txT) (p : Nat) : Bool := mBF t.1 t.2 L.1 p L.2 0
def hrL (L : txT) : txT := (updN L.1 L.2 10, L.2)
theorem ap_get : ∀ (l : List Nat) (s : txT) (i : Nat), (i < s.2 → (ap s l).1 i = s.1 i) ∧ (i < l.length → (ap s l).1 (s.2 + i) = l.getD i 0) := by
  intro l
  induction l with
  | nil => intro s i; exact ⟨fun _ => rfl, fun h => absurd h (Nat.not_lt_zero _)⟩
  | cons c l ih =>
    intro s i
    have e : ap s (c :: l) = ap (ap1 s c) l := rfl
    rw [e]
    refine ⟨fun h => ?_, fun h => ?_⟩
    · rw [(ih (ap1 s c) i).1 (by show i < s.2 + 1; omega)]
      show updN s.1 s.2 c i = s.1 i
      unfold updN
      rw [if_neg (by omega)]
    · cases i with
      | zero =>
        rw [(ih (ap1 s c) (s.2 + 0)).1 (by show s.2 + 0 < s.2 + 1; omega)]
        show updN s.1 s.2 c (s.2 + 0) = c
        unfold updN
        rw [if_pos (by omega)]
      | succ i =>
        have h2 := (ih (ap1 s c) i).2 (by simpa using h)
        have e3 : (ap1 s c).2 + i = s.2 + (i + 1) := by show s.2 + 1 + i = _; omega
        rw [e3] at h2
        rw [h2]
        rfl
theorem mBF_mL {t : Nat → Nat} {n p : Nat} {ln : Nat → Nat} {l : List Nat} (h : ∀ i, i < l.length → ln i = l.getD i 0) : ∀ (j k : Nat), k + j = l.length → mBF t n ln p j k = mL t n (p + k) (l.drop k) := by
  intro j
  induction j with
  | zero =>
    intro k hk
    rw [List.drop_eq_nil_of_le (by omega)]
    rfl
  | succ j ih =>
    intro k hk
    rw [drop_c (by omega)]
    simp only [mBF, mL]
    rw [h k (by omega), ih (k + 1) (by omega)]
    rfl
theorem mBg_mL (t L : txT) (l : List Nat) (p : Nat) : mBg t (ap (dr L) l) p = mL t.1 t.2 p l := by
  unfold mBg
  have hl : (ap (dr L) l).2 = l.length := by
    rw [ap_len]
    show 0 + l.length = _
    omega
  rw [hl, mBF_mL (l := l) (fun i hi => by
    have h := (ap_get l (dr L) i).2 hi
    have e : (dr L).2 + i = i := by show 0 + i = i; omega
    rw [e] at h
    exact h) l.length 0 (by omega)]
  rfl
theorem mnu_len {v : Int} (h1 : -65536 ≤ v) (h2 : v ≤ 65536) : (mnu v).length ≤ 6 := by
  rw [mnu_nuL h1 h2]
  exact (nuL_len h1 h2).1
theorem fr_0 {f : Nat} (hf : f < 120) (h : f = 0) : frL f = [78, 79, 80] ∧ (1 < lgO f ↔ False) := by
  have q : ∀ f, f < 120 → (f = 0) → frL f = [78, 79, 80] ∧ (1 < lgO f ↔ False) := by decide +kernel
  exact q f hf h
theorem fr_1 {f : Nat} (hf : f < 120) (h : f = 1) : frL f = [72, 65, 76, 84] ∧ (1 < lgO f ↔ False) := by
  have q : ∀ f, f < 120 → (f = 1) → frL f = [72, 65, 76, 84] ∧ (1 < lgO f ↔ False) := by decide +kernel
  exact q f hf h
theorem fr_2 {f : Nat} (hf : f < 120) (h : f = 2) : frL f = [82, 69, 84] ∧ (1 < lgO f ↔ False) := by
  have q : ∀ f, f < 120 → (f = 2) → frL f = [82, 69, 84] ∧ (1 < lgO f ↔ False) := by decide +kernel
  exact q f hf h
theorem fr_3 {f : Nat} (hf : f < 120) (h : 3 ≤ f ∧ f < 16) : frL f = [] ∧ (1 < lgO f ↔ False) := by
  have q : ∀ f, f < 120 → (3 ≤ f ∧ f < 16) → frL f = [] ∧ (1 < lgO f ↔ False) := by decide +kernel
  exact q f hf h
theorem fr_4 {f : Nat} (hf : f < 120) (h : 16 ≤ f ∧ f < 32) : frL f = [73, 78, 67, 32, 114, 48 + f % 4] ∧ (1 < lgO f ↔ False) := by
  have q : ∀ f, f < 120 → (16 ≤ f ∧ f < 32) → frL f = [73, 78, 67, 32, 114, 48 + f % 4] ∧ (1 < lgO f ↔ False) := by decide +kernel
  exact q f hf h
theorem fr_5 {f : Nat} (hf : f < 120) (h : 32 ≤ f ∧ f < 36) : frL f = [76, 68, 73, 32, 114, 48 + f % 4, 44] ∧ (1 < lgO f ↔ True) := by
  have q : ∀ f, f < 120 → (32 ≤ f ∧ f < 36) → frL f = [76, 68, 73, 32, 114, 48 + f % 4, 44] ∧ (1 < lgO f ↔ True) := by decide +kernel
  exact q f hf h
theorem fr_6 {f : Nat} (hf : f < 120) (h : 36 ≤ f ∧ f < 48) : frL f = [76, 68, 73, 32, 114, 48 + f % 4] ∧ (1 < lgO f ↔ False) := by
  have q : ∀ f, f < 120 → (36 ≤ f ∧ f < 48) → frL f = [76, 68, 73, 32, 114, 48 + f % 4] ∧ (1 < lgO f ↔ False) := by decide +kernel
  exact q f hf h
theorem fr_7 {f : Nat} (hf : f < 120) (h : 48 ≤ f ∧ f < 64) : frL f = [77, 79, 86, 32, 114, 48 + f / 4 % 4, 44, 114, 48 + f % 4] ∧ (1 < lgO f ↔ False) := by
  have q : ∀ f, f < 120 → (48 ≤ f ∧ f < 64) → frL f = [77, 79, 86, 32, 114, 48 + f / 4 % 4, 44, 114, 48 + f % 4] ∧ (1 < lgO f ↔ False) := by decide +kernel
  exact q f hf h
theorem fr_8 {f : Nat} (hf : f < 120) (h : 64 ≤ f ∧ f < 80) : frL f = [65, 68, 68, 32, 114, 48 + f / 4 % 4, 44, 114, 48 + f % 4] ∧ (1 < lgO f ↔ False) := by
  have q : ∀ f, f < 120 → (64 ≤ f ∧ f < 80) → frL f = [65, 68, 68, 32, 114, 48 + f / 4 % 4, 44, 114, 48 + f % 4] ∧ (1 < lgO f ↔ False) := by decide +kernel
  exact q f hf h
theorem fr_9 {f : Nat} (hf : f < 120) (h : f = 80) : frL f = [74, 77, 80, 32] ∧ (1 < lgO f ↔ True) := by
  have q : ∀ f, f < 120 → (f = 80) → frL f = [74, 77, 80, 32] ∧ (1 < lgO f ↔ True) := by decide +kernel
  exact q f hf h
theorem fr_10 {f : Nat} (hf : f < 120) (h : f = 81) : frL f = [67, 65, 76, 76, 32] ∧ (1 < lgO f ↔ True) := by
  have q : ∀ f, f < 120 → (f = 81) → frL f = [67, 65, 76, 76, 32] ∧ (1 < lgO f ↔ True) := by decide +kernel
  exact q f hf h
theorem fr_11 {f : Nat} (hf : f < 120) (h : 82 ≤ f ∧ f ≤ 85) : frL f = [74, 90, 32, 114, 48 + (f - 82), 44] ∧ (1 < lgO f ↔ True) := by
  have q : ∀ f, f < 120 → (82 ≤ f ∧ f ≤ 85) → frL f = [74, 90, 32, 114, 48 + (f - 82), 44] ∧ (1 < lgO f ↔ True) := by decide +kernel
  exact q f hf h
theorem fr_12 {f : Nat} (hf : f < 120) (h : 86 ≤ f ∧ f < 96) : frL f = [32] ∧ (1 < lgO f ↔ False) := by
  have q : ∀ f, f < 120 → (86 ≤ f ∧ f < 96) → frL f = [32] ∧ (1 < lgO f ↔ False) := by decide +kernel
  exact q f hf h
theorem fr_13 {f : Nat} (hf : f < 120) (h : 96 ≤ f ∧ f < 100) : frL f = [66, 78, 90, 32, 114, 48 + f % 4, 44] ∧ (1 < lgO f ↔ True) := by
  have q : ∀ f, f < 120 → (96 ≤ f ∧ f < 100) → frL f = [66, 78, 90, 32, 114, 48 + f % 4, 44] ∧ (1 < lgO f ↔ True) := by decide +kernel
  exact q f hf h
theorem fr_14 {f : Nat} (hf : f < 120) (h : 100 ≤ f ∧ f < 112) : frL f = [66, 78, 90, 32, 114, 48 + f % 4] ∧ (1 < lgO f ↔ False) := by
  have q : ∀ f, f < 120 → (100 ≤ f ∧ f < 112) → frL f = [66, 78, 90, 32, 114, 48 + f % 4] ∧ (1 < lgO f ↔ False) := by decide +kernel
  exact q f hf h
theorem fr_15 {f : Nat} (hf : f < 120) (h : 112 ≤ f ∧ f ≤ 115) : frL f = [76, 68, 32, 114, 48 + f % 4, 44] ∧ (1 < lgO f ↔ True) := by
  have q : ∀ f, f < 120 → (112 ≤ f ∧ f ≤ 115) → frL f = [76, 68, 32, 114, 48 + f % 4, 44] ∧ (1 < lgO f ↔ True) := by decide +kernel
  exact q f hf h
theorem fr_16 {f : Nat} (hf : f < 120) (h : 116 ≤ f ∧ f < 120) : frL f = [83, 84, 32, 114, 48 + f % 4, 44] ∧ (1 < lgO f ↔ True) := by
  have q : ∀ f, f < 120 → (116 ≤ f ∧ f < 120) → frL f = [83, 84, 32, 114, 48 + f % 4, 44] ∧ (1 < lgO f ↔ True) := by decide +kernel
  exact q f hf h
