/-! the state in pure words: Z what stands (prices, tree, mends, rates, numbers), d what moves (goods, counters, asks, dues, the lines' rooms) -/
abbrev Sg : Type := Nat → Nat → Nat → Int32
abbrev Dy : Type := Sg × List E5 × List E5 × Nat × Nat
def su (z : Sg) (f r i : Nat) (v : Int32) : Sg := fun f2 => if f2 = f then (fun r2 => if r2 = r then upd (z f r) i v else z f r2) else z f2
theorem su_ne (z : Sg) {f f2 : Nat} (r i : Nat) (v : Int32) (h : f2 ≠ f) : su z f r i v f2 = z f2 := if_neg h
theorem su_at (z : Sg) (f r i r2 i2 : Nat) (v : Int32) : su z f r i v f r2 i2 = if r2 = r ∧ i2 = i then v else z f r2 i2 := by
  unfold su
  rw [if_pos rfl]
  by_cases h : r2 = r
  · subst h
    rw [if_pos rfl]
    by_cases h2 : i2 = i
    · subst h2
      rw [pk_us, if_pos ⟨rfl, rfl⟩]
    · rw [pk_un h2, if_neg (fun q => h2 q.2)]
  · rw [if_neg h, if_neg (fun q => h q.1)]
def dG (d : Dy) (f r i : Nat) (v : Int32) : Dy := (su d.1 f r i v, d.2)
def dA (d : Dy) (e : E5) : Dy := (d.1, d.2.1 ++ [e], d.2.2.1, capN d.2.1.length d.2.2.2.1, d.2.2.2.2)
def dU (d : Dy) (e : E5) : Dy := (d.1, d.2.1, d.2.2.1 ++ [e], d.2.2.2.1, capN d.2.2.1.length d.2.2.2.2)
def xA (d : Dy) (i : Nat) : Dy := (d.1, d.2.1.eraseIdx i, d.2.2.1, d.2.2.2.1, d.2.2.2.2)
def xU (d : Dy) (i : Nat) : Dy := (d.1, d.2.1, d.2.2.1.eraseIdx i, d.2.2.2.1, d.2.2.2.2)
def inc (d : Dy) (f i : Nat) : Dy := dG d f 0 i (d.1 f 0 i + 1)
def due (Z : Sg) (d : Dy) (sort : Int32) (s k : Nat) (how bh : Int32) : Dy := dU d (nI s, nI k, sort, Z 14 0 2 + bh, how)
def upx (Z : Sg) (x : Nat) : Nat := (Z 3 0 x).toNatClampNeg
/-- the mender of kind k for shelf x -/
def mo (Z : Sg) (k : Nat) : Nat → Nat → Nat
  | 0, x => x
  | n + 1, x => if Z 6 x k = 0 then mo Z k n (upx Z x) else x
def mOf (Z : Sg) (k s : Nat) : Nat := mo Z k 8 s
/-- the ways from x up to the shelf e -/
def wy (Z : Sg) (e : Nat) : Nat → Nat → Int32 → Int32
  | 0, _, acc => acc
  | n + 1, x, acc => if x = e then acc else wy Z e n (upx Z x) (acc + Z 4 0 x)
def down (Z : Sg) (d : Dy) (x k : Nat) : Dy := due Z d 0 x k 0 (Z 4 0 x)
def up1 (Z : Sg) (d : Dy) (x k : Nat) : Dy := if d.1 7 (upx Z x) k = 0 then dA d (nI (upx Z x), nI k, 1, Z 14 0 2, nI x) else down Z (dG d 7 (upx Z x) k (d.1 7 (upx Z x) k - 1)) x k
def ups (Z : Sg) (k e : Nat) : Nat → Nat → Dy → Dy
  | 0, _, d => d
  | n + 1, x, d => if x = e then d else ups Z k e n (upx Z x) (up1 Z d x k)
/-- a mend of k begins at s -/
def begins (Z : Sg) (d : Dy) (s k : Nat) : Dy := due Z d 1 s k 0 (Z 6 s k)
/-- a broken k sets out from s to its mender e -/
def sets (Z : Sg) (d : Dy) (s k e : Nat) (how : Int32) : Dy := due Z d 3 e k how (wy Z e 8 s 0)
def backP (Z : Sg) (d : Dy) (s k : Nat) : Dy := if mOf Z k s = s then begins Z d s k else sets Z d s k (mOf Z k s) 0
/-- a mend of o at s gets its core, of kind c -/
def serveM (Z : Sg) (d : Dy) (s c o : Nat) : Dy := begins Z (ups Z c (mOf Z c s) 8 s (backP Z (inc (inc d 12 c) 13 c) s c)) s o
def arrC (Z : Sg) (d : Dy) (s k c : Nat) : Dy := if d.1 7 s c = 0 then dA d (nI s, nI c, 2, Z 14 0 2, nI k) else serveM Z (dG d 7 s c (d.1 7 s c - 1)) s c k
def back (Z : Sg) (d : Dy) (s k : Nat) (how : Int32) : Dy := if mOf Z k s = s then (if how = 0 then begins Z d s k else arrC Z d s k (Z 2 0 k).toNatClampNeg) else sets Z d s k (mOf Z k s) how
def serve (Z : Sg) (d : Dy) (s k : Nat) (e : E5) : Dy := if col 2 e = 0 then inc d 11 k else if col 2 e = 1 then down Z d (col 4 e).toNatClampNeg k else serveM Z d s k (col 4 e).toNatClampNeg
/-- the place of the first ask for k at s; the number of asks if there is none -/
def fst2 (s k : Nat) (L : List E5) : Nat := L.findIdx (fun e => decide (col 0 e = nI s ∧ col 1 e = nI k))
def lands (Z : Sg) (d : Dy) (s k : Nat) : Dy := match d.2.1[fst2 s k d.2.1]? with
  | none => dG d 7 s k (d.1 7 s k + 1)
  | some e => serve Z (xA d (fst2 s k d.2.1)) s k e
def landsN (Z : Sg) (s k : Nat) : Nat → Dy → Dy
  | 0, d => d
  | n + 1, d => landsN Z s k n (lands Z (inc d 9 k) s k)
def machine (Z : Sg) (d : Dy) (s k : Nat) : Dy := if d.1 7 s k = 0 then dA d (nI s, nI k, 0, Z 14 0 2, -1) else inc (dG d 7 s k (d.1 7 s k - 1)) 11 k
def breaks (Z : Sg) (d : Dy) (s k : Nat) (how : Int32) : Dy := if how = 2 then due Z (inc (ups Z k 0 8 s (inc (machine Z (inc d 13 k) s k) 10 k)) 9 k) 2 0 k 0 (Z 1 0 k) else ups Z k (mOf Z k s) 8 s (back Z (machine Z (inc d 13 k) s k) s k how)
/-- a due that is due: taken out, done -/
def does (Z : Sg) (d : Dy) (i : Nat) (e : E5) : Dy := if col 2 e = 3 then back Z (xU d i) (col 0 e).toNatClampNeg (col 1 e).toNatClampNeg (col 4 e) else lands Z (xU d i) (col 0 e).toNatClampNeg (col 1 e).toNatClampNeg
def fstT (t : Int32) (L : List E5) : Nat := L.findIdx (fun e => decide (col 3 e = t))
def doAll (Z : Sg) : Nat → Dy → Dy
  | 0, d => d
  | n + 1, d => match d.2.2.1[fstT (Z 14 0 2) d.2.2.1]? with
    | none => d
    | some e => doAll Z n (does Z d (fstT (Z 14 0 2) d.2.2.1) e)
/-- one machine that stands, a day more -/
def std1 (z : Sg) (e : E5) : Sg := if col 2 e = 0 then su z 5 0 (col 0 e).toNatClampNeg (z 5 0 (col 0 e).toNatClampNeg + 1) else z
def stands (d : Dy) : Dy := (d.2.1.foldl std1 d.1, d.2)
/-! what stands is in order: ns shelves, nk kinds -/
def Zv (ns nk : Nat) (Z : Sg) : Prop := 1 ≤ ns ∧ ns ≤ 8 ∧ nk ≤ 8 ∧ Z 14 0 0 = nI nk ∧ Z 14 0 1 = nI ns ∧ (∀ x, 1 ≤ x → x < ns → Z 3 0 x = nI (upx Z x) ∧ upx Z x < x) ∧ (∀ k, k < nk → Z 6 0 k ≠ 0)
theorem Zv.n1 {ns nk : Nat} {Z : Sg} (h : Zv ns nk Z) : 1 ≤ ns := h.1
theorem Zv.n8 {ns nk : Nat} {Z : Sg} (h : Zv ns nk Z) : ns ≤ 8 := h.2.1
theorem Zv.k8 {ns nk : Nat} {Z : Sg} (h : Zv ns nk Z) : nk ≤ 8 := h.2.2.1
theorem Zv.nk {ns nk : Nat} {Z : Sg} (h : Zv ns nk Z) : Z 14 0 0 = nI nk := h.2.2.2.1
theorem Zv.ns {ns nk : Nat} {Z : Sg} (h : Zv ns nk Z) : Z 14 0 1 = nI ns := h.2.2.2.2.1
theorem Zv.up {ns nk : Nat} {Z : Sg} (h : Zv ns nk Z) {x : Nat} (h1 : 1 ≤ x) (h2 : x < ns) : Z 3 0 x = nI (upx Z x) := (h.2.2.2.2.2.1 x h1 h2).1
theorem Zv.lt {ns nk : Nat} {Z : Sg} (h : Zv ns nk Z) {x : Nat} (h1 : 1 ≤ x) (h2 : x < ns) : upx Z x < x := (h.2.2.2.2.2.1 x h1 h2).2
theorem Zv.m0 {ns nk : Nat} {Z : Sg} (h : Zv ns nk Z) {k : Nat} (h1 : k < nk) : Z 6 0 k ≠ 0 := h.2.2.2.2.2.2 k h1
/-- from x the shelf e is reached going up -/
def rch (Z : Sg) (e : Nat) : Nat → Nat → Prop
  | 0, x => x = e
  | n + 1, x => x = e ∨ (1 ≤ x ∧ rch Z e n (upx Z x))
theorem rch_le {ns nk : Nat} {Z : Sg} (h : Zv ns nk Z) {e : Nat} : ∀ (n x : Nat), x < ns → rch Z e n x → e ≤ x
  | 0, x, _, hr => by
    rw [rch] at hr
    omega
  | n + 1, x, hx, hr => by
    rw [rch] at hr
    rcases hr with hr | ⟨h1, hr⟩
    · omega
    · have h2 := h.lt h1 hx
      have h3 := rch_le h n (upx Z x) (by omega) hr
      omega
theorem rch_mo {ns nk : Nat} {Z : Sg} (h : Zv ns nk Z) {k : Nat} (hk : k < nk) : ∀ (n x : Nat), x < ns → rch Z (mo Z k n x) n x
  | 0, x, _ => rfl
  | n + 1, x, hx => by
    rw [rch, mo]
    by_cases hm : Z 6 x k = 0
    · rw [if_pos hm]
      have h1 : 1 ≤ x := by
        rcases Nat.eq_zero_or_pos x with h0 | h0
        · subst h0
          exact absurd hm (h.m0 hk)
        · exact h0
      have h2 := h.lt h1 hx
      exact Or.inr ⟨h1, rch_mo h hk n (upx Z x) (by omega)⟩
    · rw [if_neg hm]
      exact Or.inl rfl
theorem rch_0 {ns nk : Nat} {Z : Sg} (h : Zv ns nk Z) : ∀ (n x : Nat), x < ns → x ≤ n → rch Z 0 n x
  | 0, x, _, hn => by
    rw [rch]
    omega
  | n + 1, x, hx, hn => by
    rw [rch]
    rcases Nat.eq_zero_or_pos x with h0 | h0
    · exact Or.inl h0
    · have h2 := h.lt h0 hx
      exact Or.inr ⟨h0, rch_0 h n (upx Z x) (by omega) (by omega)⟩
theorem mo_le {ns nk : Nat} {Z : Sg} (h : Zv ns nk Z) {k : Nat} (hk : k < nk) (n x : Nat) (hx : x < ns) : mo Z k n x ≤ x := rch_le h n x hx (rch_mo h hk n x hx)
theorem mOf_le {ns nk : Nat} {Z : Sg} (h : Zv ns nk Z) {k s : Nat} (hk : k < nk) (hs : s < ns) : mOf Z k s ≤ s := mo_le h hk 8 s hs
theorem mo_nz {ns nk : Nat} {Z : Sg} (h : Zv ns nk Z) {k : Nat} (hk : k < nk) : ∀ (n x : Nat), x < ns → x < n → Z 6 (mo Z k n x) k ≠ 0
  | 0, x, _, hn => absurd hn (Nat.not_lt_zero x)
  | n + 1, x, hx, hn => by
    rw [mo]
    by_cases hm : Z 6 x k = 0
    · rw [if_pos hm]
      have h1 : 1 ≤ x := by
        rcases Nat.eq_zero_or_pos x with h0 | h0
        · subst h0
          exact absurd hm (h.m0 hk)
        · exact h0
      have h2 := h.lt h1 hx
      exact mo_nz h hk n (upx Z x) (by omega) (by omega)
    · rw [if_neg hm]
      exact hm
theorem mOf_nz {ns nk : Nat} {Z : Sg} (h : Zv ns nk Z) {k s : Nat} (hk : k < nk) (hs : s < ns) : Z 6 (mOf Z k s) k ≠ 0 := mo_nz h hk 8 s hs (by have := h.n8; omega)
