/-! the reference's cells, twenty-five, over the pure state -/
def fl2 (z : Nat → Nat → Int32) : Nat → Int32 := fun x => z (x / 8) (x % 8)
theorem fl2_at (z : Nat → Nat → Int32) {s k : Nat} (hk : k < 8) : fl2 z (8 * s + k) = z s k := by
  unfold fl2
  rw [show (8 * s + k) / 8 = s by omega, show (8 * s + k) % 8 = k by omega]
theorem fl2_su (z : Sg) (f : Nat) {s k : Nat} (hk : k < 8) (x : Int32) : upd (fl2 (z f)) (8 * s + k) x = fl2 ((su z f s k x) f) := by
  funext i
  unfold fl2
  rw [su_at]
  by_cases h : i = 8 * s + k
  · subst h
    rw [pk_us, if_pos ⟨by omega, by omega⟩]
  · rw [pk_un h, if_neg (fun q => h (by omega))]
abbrev MX : Type := Nat → Nat → Int32
def vu (v : MX) (j i : Nat) (x : Int32) : MX := fun j2 => if j2 = j then upd (v j) i x else v j2
theorem vu_at (v : MX) (j i j2 i2 : Nat) (x : Int32) : vu v j i x j2 i2 = if j2 = j ∧ i2 = i then x else v j2 i2 := by
  unfold vu
  by_cases h : j2 = j
  · subst h
    rw [if_pos rfl]
    by_cases h2 : i2 = i
    · subst h2
      rw [pk_us, if_pos ⟨rfl, rfl⟩]
    · rw [pk_un h2, if_neg (fun q => h2 q.2)]
  · rw [if_neg h, if_neg (fun q => h q.1)]
def mw (cI : ClassId) (a : Nat → Nat) (v : MX) (Z z : Sg) (n1 n2 : Int32) : va_W := [
  (a 0, .inr (4, [.int 0, .int (Z 14 0 0), .ref (a 1), .ref (a 2), .ref (a 3), .int (Z 14 0 1), .ref (a 4), .ref (a 5), .ref (a 6), .ref (a 7), .ref (a 8), .ref (a 9), .int (Z 14 0 2), .ref (a 10), .ref (a 11), .ref (a 12), .ref (a 13), .ref (a 14), .int n1, .ref (a 15), .ref (a 16), .ref (a 17), .ref (a 18), .ref (a 19), .int n2, .ref (a 20), .ref (a 21), .ref (a 22), .ref (a 23), .ref (a 24)])),
  (a 1, .inl (cI, 8, .inl (Z 0 0))),
  (a 2, .inl (cI, 8, .inl (Z 1 0))),
  (a 3, .inl (cI, 8, .inl (Z 2 0))),
  (a 4, .inl (cI, 8, .inl (Z 3 0))),
  (a 5, .inl (cI, 8, .inl (Z 4 0))),
  (a 6, .inl (cI, 8, .inl (z 5 0))),
  (a 7, .inl (cI, 64, .inl (fl2 (Z 6)))),
  (a 8, .inl (cI, 64, .inl (fl2 (z 7)))),
  (a 9, .inl (cI, 64, .inl (fl2 (Z 8)))),
  (a 10, .inl (cI, 8, .inl (z 9 0))),
  (a 11, .inl (cI, 8, .inl (z 10 0))),
  (a 12, .inl (cI, 8, .inl (z 11 0))),
  (a 13, .inl (cI, 8, .inl (z 12 0))),
  (a 14, .inl (cI, 8, .inl (z 13 0))),
  (a 15, .inl (cI, 6000, .inl (v 0))),
  (a 16, .inl (cI, 6000, .inl (v 1))),
  (a 17, .inl (cI, 6000, .inl (v 2))),
  (a 18, .inl (cI, 6000, .inl (v 3))),
  (a 19, .inl (cI, 6000, .inl (v 4))),
  (a 20, .inl (cI, 6000, .inl (v 5))),
  (a 21, .inl (cI, 6000, .inl (v 6))),
  (a 22, .inl (cI, 6000, .inl (v 7))),
  (a 23, .inl (cI, 6000, .inl (v 8))),
  (a 24, .inl (cI, 6000, .inl (v 9)))]
abbrev mwd (cI : ClassId) (a : Nat → Nat) (v : MX) (Z : Sg) (d : Dy) : va_W := mw cI a v Z d.1 (nI d.2.1.length) (nI d.2.2.1.length)
theorem mw_ms (cI : ClassId) (a : Nat → Nat) (v : MX) (Z z : Sg) (n1 n2 : Int32) (s : Nat) {k : Nat} (hk : k < 8) (x : Int32) : (mw cI a v Z z n1 n2).set 7 (a 7, .inl (cI, 64, .inl (upd (fl2 (Z 6)) (8 * s + k) x))) = mw cI a v (su Z 6 s k x) z n1 n2 := by
  rw [fl2_su Z 6 hk]
  rfl
theorem mw_gs (cI : ClassId) (a : Nat → Nat) (v : MX) (Z z : Sg) (n1 n2 : Int32) (s : Nat) {k : Nat} (hk : k < 8) (x : Int32) : (mw cI a v Z z n1 n2).set 8 (a 8, .inl (cI, 64, .inl (upd (fl2 (z 7)) (8 * s + k) x))) = mw cI a v Z (su z 7 s k x) n1 n2 := by
  rw [fl2_su z 7 hk]
  rfl
theorem mw_rs (cI : ClassId) (a : Nat → Nat) (v : MX) (Z z : Sg) (n1 n2 : Int32) (s : Nat) {k : Nat} (hk : k < 8) (x : Int32) : (mw cI a v Z z n1 n2).set 9 (a 9, .inl (cI, 64, .inl (upd (fl2 (Z 8)) (8 * s + k) x))) = mw cI a v (su Z 8 s k x) z n1 n2 := by
  rw [fl2_su Z 8 hk]
  rfl
/-- which column of an ask the array j holds; of a due -/
def aj (j : Nat) : Nat := match j with
  | 0 => 0
  | 1 => 1
  | 2 => 2
  | 3 => 4
  | _ => 3
def uj (j : Nat) : Nat := match j with
  | 0 => 2
  | 1 => 0
  | 2 => 1
  | 3 => 4
  | _ => 3
def RMl (pj : Nat → Nat) (j0 : Nat) (L : List E5) (v : MX) : Prop := ∀ (i : Nat) (e : E5), L[i]? = some e → ∀ j, j < 5 → v (j0 + j) i = col (pj j) e
def RM (d : Dy) (v : MX) : Prop := RMl aj 0 d.2.1 v ∧ RMl uj 5 d.2.2.1 v
theorem RM.a {d : Dy} {v : MX} (h : RM d v) {i : Nat} {e : E5} (he : d.2.1[i]? = some e) (j : Nat) (hj : j < 5) : v (0 + j) i = col (aj j) e := h.1 i e he j hj
theorem RM.u {d : Dy} {v : MX} (h : RM d v) {i : Nat} {e : E5} (he : d.2.2.1[i]? = some e) (j : Nat) (hj : j < 5) : v (5 + j) i = col (uj j) e := h.2 i e he j hj
/-- five arrays from j0 on get an entry more at the place n -/
def vp5 (v : MX) (j0 n : Nat) (x0 x1 x2 x3 x4 : Int32) : MX := vu (vu (vu (vu (vu v j0 n x0) (j0 + 1) n x1) (j0 + 2) n x2) (j0 + 3) n x3) (j0 + 4) n x4
theorem vp5_out (v : MX) (j0 n : Nat) (x0 x1 x2 x3 x4 : Int32) {j i : Nat} (h : i ≠ n ∨ j < j0 ∨ j0 + 5 ≤ j) : vp5 v j0 n x0 x1 x2 x3 x4 j i = v j i := by
  unfold vp5
  rw [vu_at, vu_at, vu_at, vu_at, vu_at, if_neg (by omega), if_neg (by omega), if_neg (by omega), if_neg (by omega), if_neg (by omega)]
theorem vp5_in (v : MX) (j0 n : Nat) (x0 x1 x2 x3 x4 : Int32) : vp5 v j0 n x0 x1 x2 x3 x4 (j0 + 0) n = x0 ∧ vp5 v j0 n x0 x1 x2 x3 x4 (j0 + 1) n = x1 ∧ vp5 v j0 n x0 x1 x2 x3 x4 (j0 + 2) n = x2 ∧ vp5 v j0 n x0 x1 x2 x3 x4 (j0 + 3) n = x3 ∧ vp5 v j0 n x0 x1 x2 x3 x4 (j0 + 4) n = x4 := by
  unfold vp5
  refine ⟨?_, ?_, ?_, ?_, ?_⟩
  · rw [vu_at, vu_at, vu_at, vu_at, vu_at, if_neg (by omega), if_neg (by omega), if_neg (by omega), if_neg (by omega), if_pos (by omega)]
  · rw [vu_at, vu_at, vu_at, vu_at, if_neg (by omega), if_neg (by omega), if_neg (by omega), if_pos (by omega)]
  · rw [vu_at, vu_at, vu_at, if_neg (by omega), if_neg (by omega), if_pos (by omega)]
  · rw [vu_at, vu_at, if_neg (by omega), if_pos (by omega)]
  · rw [vu_at, if_pos (by omega)]
theorem RMl.push {pj : Nat → Nat} {j0 : Nat} {L : List E5} {v : MX} (h : RMl pj j0 L v) (e : E5) : RMl pj j0 (L ++ [e]) (vp5 v j0 L.length (col (pj 0) e) (col (pj 1) e) (col (pj 2) e) (col (pj 3) e) (col (pj 4) e)) := by
  intro i x hx j hj
  by_cases hi : i < L.length
  · rw [List.getElem?_append_left hi] at hx
    rw [vp5_out _ _ _ _ _ _ _ _ (Or.inl (by omega))]
    exact h i x hx j hj
  · rw [List.getElem?_append_right (by omega)] at hx
    have h0 : i - L.length < 1 := (List.getElem?_eq_some_iff.mp hx).1
    have hi0 : i = L.length := by omega
    subst hi0
    rw [Nat.sub_self] at hx
    cases hx
    obtain ⟨q0, q1, q2, q3, q4⟩ := vp5_in v j0 L.length (col (pj 0) e) (col (pj 1) e) (col (pj 2) e) (col (pj 3) e) (col (pj 4) e)
    match j, hj with
    | 0, _ => exact q0
    | 1, _ => exact q1
    | 2, _ => exact q2
    | 3, _ => exact q3
    | 4, _ => exact q4
theorem RMl.other {pj : Nat → Nat} {j0 : Nat} {L : List E5} {v v2 : MX} (h : RMl pj j0 L v) (hv : ∀ j i, j0 ≤ j → j < j0 + 5 → v2 j i = v j i) : RMl pj j0 L v2 := fun i e he j hj => by
  rw [hv _ _ (by omega) (by omega)]
  exact h i e he j hj
theorem RM.pushA {d : Dy} {v : MX} (h : RM d v) (e0 e1 e2 e3 e4 : Int32) : RM (dA d (e0, e1, e2, e3, e4)) (vp5 v 0 d.2.1.length e0 e1 e2 e4 e3) := ⟨h.1.push (e0, e1, e2, e3, e4), h.2.other (fun j i h1 h2 => vp5_out _ _ _ _ _ _ _ _ (Or.inr (Or.inr (by omega))))⟩
theorem RM.pushU {d : Dy} {v : MX} (h : RM d v) (e0 e1 e2 e3 e4 : Int32) : RM (dU d (e0, e1, e2, e3, e4)) (vp5 v 5 d.2.2.1.length e2 e0 e1 e4 e3) := ⟨h.1.other (fun j i h1 h2 => vp5_out _ _ _ _ _ _ _ _ (Or.inr (Or.inl (by omega)))), h.2.push (e0, e1, e2, e3, e4)⟩
/-- the five arrays from j0 on, the places p .. b-1 taken from one further -/
def Shf (j0 p b : Nat) (v v1 : MX) : Prop := ∀ j i, v1 j i = if (j0 ≤ j ∧ j < j0 + 5) ∧ p ≤ i ∧ i < b then v j (i + 1) else v j i
theorem Shf.rf (j0 p : Nat) (v : MX) : Shf j0 p p v v := fun j i => by rw [if_neg (by omega)]
theorem Shf.step {j0 p b : Nat} {v v1 : MX} (h : Shf j0 p b v v1) (hb : p ≤ b) : Shf j0 p (b + 1) v (vp5 v1 j0 b (v1 (j0 + 0) (b + 1)) (v1 (j0 + 1) (b + 1)) (v1 (j0 + 2) (b + 1)) (v1 (j0 + 3) (b + 1)) (v1 (j0 + 4) (b + 1))) := by
  intro j i
  have h0 : ∀ c, v1 c (b + 1) = v c (b + 1) := fun c => by rw [h, if_neg (by omega)]
  by_cases hi : i = b ∧ j0 ≤ j ∧ j < j0 + 5
  · obtain ⟨rfl, hj1, hj2⟩ := hi
    rw [if_pos (by omega)]
    obtain ⟨q0, q1, q2, q3, q4⟩ := vp5_in v1 j0 i (v1 (j0 + 0) (i + 1)) (v1 (j0 + 1) (i + 1)) (v1 (j0 + 2) (i + 1)) (v1 (j0 + 3) (i + 1)) (v1 (j0 + 4) (i + 1))
    rcases (show j = j0 + 0 ∨ j = j0 + 1 ∨ j = j0 + 2 ∨ j = j0 + 3 ∨ j = j0 + 4 by omega) with q | q | q | q | q
    · rw [q, q0, h0]
    · rw [q, q1, h0]
    · rw [q, q2, h0]
    · rw [q, q3, h0]
    · rw [q, q4, h0]
  · rw [vp5_out _ _ _ _ _ _ _ _ (by omega), h]
    by_cases q : (j0 ≤ j ∧ j < j0 + 5) ∧ p ≤ i ∧ i < b
    · rw [if_pos q, if_pos (by omega)]
    · rw [if_neg q, if_neg (by omega)]
theorem RMl.era {pj : Nat → Nat} {j0 p : Nat} {L : List E5} {v v1 : MX} (h : RMl pj j0 L v) (hp : p < L.length) (hs : Shf j0 p (L.length - 1) v v1) : RMl pj j0 (L.eraseIdx p) v1 := by
  intro i e he j hj
  have hl := (List.getElem?_eq_some_iff.mp he).1
  rw [List.length_eraseIdx_of_lt hp] at hl
  rw [List.getElem?_eraseIdx] at he
  rw [hs]
  by_cases q : i < p
  · rw [if_pos q] at he
    rw [if_neg (by omega)]
    exact h i e he j hj
  · rw [if_neg q] at he
    rw [if_pos (by omega)]
    exact h (i + 1) e he j hj
theorem RM.eraA {d : Dy} {v v1 : MX} (h : RM d v) {p : Nat} (hp : p < d.2.1.length) (hs : Shf 0 p (d.2.1.length - 1) v v1) : RM (xA d p) v1 := ⟨h.1.era hp hs, h.2.other (fun j i h1 h2 => by rw [hs, if_neg (by omega)])⟩
theorem RM.eraU {d : Dy} {v v1 : MX} (h : RM d v) {p : Nat} (hp : p < d.2.2.1.length) (hs : Shf 5 p (d.2.2.1.length - 1) v v1) : RM (xU d p) v1 := ⟨h.1.other (fun j i h1 h2 => by rw [hs, if_neg (by omega)]), h.2.era hp hs⟩
/-! contracts of the reference's methods -/
def CVm (l : Launch) (y : MethodName) (wds : List Cond) (fr lo : Nat) (D : va_G) (cI cO : ClassId) (a : Nat → Nat) (v : MX) (Z : Sg) (d : Dy) (As : List Value) (Z2 : Sg) (d2 : Dy) : Prop := CV l y wds fr lo 0 0 D cI cO (.ref (a 0) :: As) (mwd cI a v Z d) (fun v2 : MX => RM d2 v2) (fun v2 => mwd cI a v2 Z2 d2)
def CIm (l : Launch) (y : MethodName) (wds : List Cond) (fr lo : Nat) (D : va_G) (cI cO : ClassId) (a : Nat → Nat) (v : MX) (Z : Sg) (d : Dy) (As : List Value) (r : Int32) (Z2 : Sg) (d2 : Dy) : Prop := CI l y wds fr lo 0 0 D cI cO (.ref (a 0) :: As) (mwd cI a v Z d) (fun (r2 : Int32) (v2 : MX) => r2 = r ∧ RM d2 v2) (fun v2 => mwd cI a v2 Z2 d2)
def CRm (l : Launch) (y : MethodName) (wds : List Cond) (fr lo : Nat) (D : va_G) (cI cO : ClassId) (a : Nat → Nat) (v : MX) (Z : Sg) (d : Dy) (As : List Value) (r : Int32) : Prop := CR l y wds fr lo D cI cO (.ref (a 0) :: As) (mwd cI a v Z d) (fun r2 : Int32 => r2 = r)
theorem nI_83 (s k : Nat) : (8 : Int32) * nI s + nI k = nI (8 * s + k) := by rw [show (8 : Int32) = nI 8 from rfl, pk_mul, nI_add]
/-- goods are numbers up to B -/
def Gd (B : Nat) (d : Dy) : Prop := ∀ s k, s < 8 → k < 8 → ∃ g, g ≤ B ∧ d.1 7 s k = nI g
theorem Gd.z {B : Nat} {d : Dy} (h : Gd B d) (hB : B < 1000000000) {s k : Nat} (hs : s < 8) (hk : k < 8) : d.1 7 s k ≤ 0 ↔ d.1 7 s k = 0 := by
  obtain ⟨g, h1, h2⟩ := h s k hs hk
  rw [h2, show (0 : Int32) = nI 0 from rfl]
  rw [nI_leI (by omega) (by omega), nI_eq (by omega) (by omega)]
  omega
theorem Gd.dec {B : Nat} {d : Dy} (h : Gd B d) {s k : Nat} (hs : s < 8) (hk : k < 8) (hn : ¬ d.1 7 s k = 0) : Gd B (dG d 7 s k (d.1 7 s k - 1)) := by
  intro s2 k2 h1 h2
  show ∃ g, g ≤ B ∧ su d.1 7 s k (d.1 7 s k - 1) 7 s2 k2 = nI g
  rw [su_at]
  by_cases q : s2 = s ∧ k2 = k
  · rw [if_pos q]
    obtain ⟨g, g1, g2⟩ := h s k hs hk
    rcases Nat.eq_zero_or_pos g with q0 | q0
    · subst q0
      exact absurd (g2.trans nI_0) hn
    · exact ⟨g - 1, by omega, by rw [g2, show (1 : Int32) = nI 1 from rfl, pk_sub (by omega)]⟩
  · rw [if_neg q]
    exact h s2 k2 h1 h2
theorem Gd.inc7 {B : Nat} {d : Dy} (h : Gd B d) {s k : Nat} (hs : s < 8) (hk : k < 8) : Gd (B + 1) (dG d 7 s k (d.1 7 s k + 1)) := by
  intro s2 k2 h1 h2
  show ∃ g, g ≤ B + 1 ∧ su d.1 7 s k (d.1 7 s k + 1) 7 s2 k2 = nI g
  rw [su_at]
  by_cases q : s2 = s ∧ k2 = k
  · rw [if_pos q]
    obtain ⟨g, g1, g2⟩ := h s k hs hk
    exact ⟨g + 1, by omega, by rw [g2, nI_1]⟩
  · rw [if_neg q]
    obtain ⟨g, g1, g2⟩ := h s2 k2 h1 h2
    exact ⟨g, by omega, g2⟩
theorem Gd.le {B C : Nat} {d : Dy} (h : Gd B d) (hc : B ≤ C) : Gd C d := fun s k h1 h2 => by
  obtain ⟨g, g1, g2⟩ := h s k h1 h2
  exact ⟨g, by omega, g2⟩
theorem gd_up1 {ns nk B : Nat} {Z : Sg} (hz : Zv ns nk Z) {d : Dy} (h : Gd B d) {x k : Nat} (h1 : 1 ≤ x) (hx : x < ns) (hk : k < nk) : Gd B (up1 Z d x k) := by
  have hn := hz.n8
  have hk8 := hz.k8
  have hl := hz.lt h1 hx
  unfold up1
  split
  · exact h
  · rename_i q
    exact h.dec (s := upx Z x) (k := k) (by omega) (by omega) q
theorem gd_ups {ns nk B : Nat} {Z : Sg} (hz : Zv ns nk Z) {k e : Nat} (hk : k < nk) : ∀ (n x : Nat) (d : Dy), x < ns → rch Z e n x → Gd B d → Gd B (ups Z k e n x d)
  | 0, x, d, _, _, h => h
  | n + 1, x, d, hx, hr, h => by
    rw [ups]
    split
    · exact h
    · rename_i hne
      rw [rch] at hr
      obtain ⟨h1, hr⟩ := hr.resolve_left hne
      have h2 := hz.lt h1 hx
      exact gd_ups hz hk n (upx Z x) _ (by omega) hr (gd_up1 hz h h1 hx hk)
theorem gd_backP {B : Nat} {Z : Sg} {d : Dy} (h : Gd B d) (s k : Nat) : Gd B (backP Z d s k) := by
  unfold backP
  split
  · exact h
  · exact h
theorem gd_serveM {ns nk B : Nat} {Z : Sg} (hz : Zv ns nk Z) {d : Dy} (h : Gd B d) {s c : Nat} (o : Nat) (hs : s < ns) (hc : c < nk) : Gd B (serveM Z d s c o) := gd_ups hz hc 8 s _ hs (rch_mo hz hc 8 s hs) (gd_backP (d := inc (inc d 12 c) 13 c) h s c)
theorem gd_back {ns nk B : Nat} {Z : Sg} (hz : Zv ns nk Z) {d : Dy} (h : Gd B d) {s k : Nat} (hs : s < ns) (hk : k < nk) {how : Int32} (hh : how = 0 ∨ (how = 1 ∧ ∃ c, c < nk ∧ Z 2 0 k = nI c)) : Gd B (back Z d s k how) := by
  have hn := hz.n8
  have hk8 := hz.k8
  unfold back
  split
  · rcases hh with rfl | ⟨rfl, c, hc, ec⟩
    · exact h
    · rw [if_neg (show ¬ (1 : Int32) = 0 by decide), ec, nI_clamp (by omega)]
      unfold arrC
      split
      · exact h
      · rename_i q
        exact gd_serveM hz (h.dec (s := s) (k := c) (by omega) (by omega) q) k hs hc
  · exact h
theorem gd_serve {ns nk B : Nat} {Z : Sg} (hz : Zv ns nk Z) {d : Dy} (h : Gd B d) {s k : Nat} (e : E5) (hs : s < ns) (hk : k < nk) : Gd B (serve Z d s k e) := by
  unfold serve
  split
  · exact h
  · split
    · exact h
    · exact gd_serveM hz h _ hs hk
theorem gd_lands {ns nk B : Nat} {Z : Sg} (hz : Zv ns nk Z) {d : Dy} (h : Gd B d) {s k : Nat} (hs : s < ns) (hk : k < nk) : Gd (B + 1) (lands Z d s k) := by
  have hn := hz.n8
  have hk8 := hz.k8
  unfold lands
  split
  · exact h.inc7 (by omega) (by omega)
  · exact (gd_serve hz (d := xA d _) h _ hs hk).le (by omega)
