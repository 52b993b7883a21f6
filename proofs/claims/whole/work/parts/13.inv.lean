/-! what is in order of asks and dues; what a function adds to them; their weights -/
def Zx (ns nk t : Nat) (Z : Sg) : Prop := Zv ns nk Z ∧ (∀ x, 1 ≤ x → x < ns → ∃ w, 1 ≤ w ∧ w ≤ 20 ∧ Z 4 0 x = nI w) ∧ (∀ s k, s < 8 → k < 8 → ∃ m, m ≤ 30 ∧ Z 6 s k = nI m) ∧ (∀ k, k < nk → Z 2 0 k = -1 ∨ ∃ c, c < nk ∧ Z 2 0 k = nI c) ∧ (∀ k, k < nk → ∃ b, 1 ≤ b ∧ b ≤ 50 ∧ Z 1 0 k = nI b) ∧ t ≤ 5000 ∧ Z 14 0 2 = nI t
theorem Zx.v {ns nk t : Nat} {Z : Sg} (h : Zx ns nk t Z) : Zv ns nk Z := h.1
theorem Zx.way {ns nk t : Nat} {Z : Sg} (h : Zx ns nk t Z) {x : Nat} (h1 : 1 ≤ x) (h2 : x < ns) : ∃ w, 1 ≤ w ∧ w ≤ 20 ∧ Z 4 0 x = nI w := h.2.1 x h1 h2
theorem Zx.mend {ns nk t : Nat} {Z : Sg} (h : Zx ns nk t Z) {s k : Nat} (h1 : s < 8) (h2 : k < 8) : ∃ m, m ≤ 30 ∧ Z 6 s k = nI m := h.2.2.1 s k h1 h2
theorem Zx.core {ns nk t : Nat} {Z : Sg} (h : Zx ns nk t Z) {k : Nat} (h1 : k < nk) : Z 2 0 k = -1 ∨ ∃ c, c < nk ∧ Z 2 0 k = nI c := h.2.2.2.1 k h1
theorem Zx.buy {ns nk t : Nat} {Z : Sg} (h : Zx ns nk t Z) {k : Nat} (h1 : k < nk) : ∃ b, 1 ≤ b ∧ b ≤ 50 ∧ Z 1 0 k = nI b := h.2.2.2.2.1 k h1
theorem Zx.tt {ns nk t : Nat} {Z : Sg} (h : Zx ns nk t Z) : Z 14 0 2 = nI t := h.2.2.2.2.2.2
theorem Zx.t5 {ns nk t : Nat} {Z : Sg} (h : Zx ns nk t Z) : t ≤ 5000 := h.2.2.2.2.2.1
theorem Zx.mnz {ns nk t : Nat} {Z : Sg} (h : Zx ns nk t Z) {s k : Nat} (h1 : s < 8) (h2 : k < 8) (h3 : Z 6 s k ≠ 0) : ∃ m, 1 ≤ m ∧ m ≤ 30 ∧ Z 6 s k = nI m := by
  obtain ⟨m, hm, e⟩ := h.mend h1 h2
  refine ⟨m, ?_, hm, e⟩
  rcases Nat.eq_zero_or_pos m with h0 | h0
  · subst h0
    exact absurd (e.trans nI_0) h3
  · exact h0
def okA (ns nk : Nat) (Z : Sg) (e : E5) : Prop := ∃ s k : Nat, s < ns ∧ k < nk ∧ col 0 e = nI s ∧ col 1 e = nI k ∧ ((col 2 e = 0 ∧ col 4 e = -1) ∨ (col 2 e = 1 ∧ ∃ c, 1 ≤ c ∧ c < ns ∧ col 4 e = nI c) ∨ (col 2 e = 2 ∧ ∃ c, c < nk ∧ col 4 e = nI c ∧ Z 6 s c ≠ 0))
def okU (ns nk : Nat) (Z : Sg) (tau : Nat) (e : E5) : Prop := ∃ s k t : Nat, s < ns ∧ k < nk ∧ col 0 e = nI s ∧ col 1 e = nI k ∧ col 3 e = nI t ∧ tau ≤ t ∧ t < 10000 ∧ ((col 2 e = 0 ∨ col 2 e = 1 ∨ col 2 e = 2) ∨ (col 2 e = 3 ∧ (col 4 e = 0 ∨ (col 4 e = 1 ∧ ∃ c, c < nk ∧ Z 2 0 k = nI c))))
theorem okU.mono {ns nk : Nat} {Z : Sg} {a b : Nat} (h : a ≤ b) {e : E5} (he : okU ns nk Z b e) : okU ns nk Z a e := by
  obtain ⟨s, k, t, h1, h2, h3, h4, h5, h6, h7⟩ := he
  exact ⟨s, k, t, h1, h2, h3, h4, h5, Nat.le_trans h h6, h7⟩
def wA (e : E5) : Nat := if col 2 e = 2 then 9 else 1
def wU (e : E5) : Nat := if col 2 e = 3 ∧ col 4 e = 1 then 9 else 1
def smA (L : List E5) : Nat := (L.map wA).sum
def smU (L : List E5) : Nat := (L.map wU).sum
theorem smA_app (L M : List E5) : smA (L ++ M) = smA L + smA M := by unfold smA; rw [List.map_append, List.sum_append]
theorem smU_app (L M : List E5) : smU (L ++ M) = smU L + smU M := by unfold smU; rw [List.map_append, List.sum_append]
theorem smA_1 (e : E5) : smA [e] = wA e := by simp [smA]
theorem smU_1 (e : E5) : smU [e] = wU e := by simp [smU]
theorem wA_pos (e : E5) : 1 ≤ wA e := by unfold wA; split <;> omega
theorem wU_pos (e : E5) : 1 ≤ wU e := by unfold wU; split <;> omega
theorem wA_9 (e : E5) : wA e ≤ 9 := by unfold wA; split <;> omega
theorem wU_9 (e : E5) : wU e ≤ 9 := by unfold wU; split <;> omega
theorem smA_len : ∀ L : List E5, L.length ≤ smA L
  | [] => Nat.zero_le _
  | e :: L => by
    have h1 := smA_len L
    have h2 := wA_pos e
    show L.length + 1 ≤ ((e :: L).map wA).sum
    rw [List.map_cons, List.sum_cons]
    unfold smA at h1
    omega
theorem smU_len : ∀ L : List E5, L.length ≤ smU L
  | [] => Nat.zero_le _
  | e :: L => by
    have h1 := smU_len L
    have h2 := wU_pos e
    show L.length + 1 ≤ ((e :: L).map wU).sum
    rw [List.map_cons, List.sum_cons]
    unfold smU at h1
    omega
theorem smA_9 : ∀ L : List E5, smA L ≤ 9 * L.length
  | [] => Nat.zero_le _
  | e :: L => by
    have h1 := smA_9 L
    have h2 := wA_9 e
    show ((e :: L).map wA).sum ≤ 9 * (L.length + 1)
    rw [List.map_cons, List.sum_cons]
    unfold smA at h1
    omega
theorem smU_9 : ∀ L : List E5, smU L ≤ 9 * L.length
  | [] => Nat.zero_le _
  | e :: L => by
    have h1 := smU_9 L
    have h2 := wU_9 e
    show ((e :: L).map wU).sum ≤ 9 * (L.length + 1)
    rw [List.map_cons, List.sum_cons]
    unfold smU at h1
    omega
theorem smA_era : ∀ (L : List E5) (i : Nat) (e : E5), L[i]? = some e → smA (L.eraseIdx i) + wA e = smA L
  | [], i, e, h => by simp at h
  | x :: L, 0, e, h => by
    cases h
    show (L.map wA).sum + wA x = ((x :: L).map wA).sum
    rw [List.map_cons, List.sum_cons]
    omega
  | x :: L, i + 1, e, h => by
    have h1 := smA_era L i e (by simpa using h)
    rw [List.eraseIdx_cons_succ]
    unfold smA at h1 ⊢
    rw [List.map_cons, List.sum_cons, List.map_cons, List.sum_cons]
    omega
theorem smU_era : ∀ (L : List E5) (i : Nat) (e : E5), L[i]? = some e → smU (L.eraseIdx i) + wU e = smU L
  | [], i, e, h => by simp at h
  | x :: L, 0, e, h => by
    cases h
    show (L.map wU).sum + wU x = ((x :: L).map wU).sum
    rw [List.map_cons, List.sum_cons]
    omega
  | x :: L, i + 1, e, h => by
    have h1 := smU_era L i e (by simpa using h)
    rw [List.eraseIdx_cons_succ]
    unfold smU at h1 ⊢
    rw [List.map_cons, List.sum_cons, List.map_cons, List.sum_cons]
    omega
def Ph (d : Dy) : Nat := smA d.2.1 + smU d.2.2.1
theorem Ph_sz (d : Dy) : sz d ≤ Ph d := Nat.add_le_add (smA_len _) (smU_len _)
/-- d2 is d with asks and dues more, all in order and later than t, of weight c at most; goods that were numbers up to B are so -/
def Gr (ns nk t : Nat) (Z : Sg) (c : Nat) (d d2 : Dy) : Prop := ∃ NA NU : List E5, d2.2.1 = d.2.1 ++ NA ∧ d2.2.2.1 = d.2.2.1 ++ NU ∧ (∀ e ∈ NA, okA ns nk Z e) ∧ (∀ e ∈ NU, okU ns nk Z (t + 1) e) ∧ smA NA + smU NU ≤ c
theorem Gr.rf {ns nk t : Nat} {Z : Sg} {d d2 : Dy} (h : d2.2 = d.2) : Gr ns nk t Z 0 d d2 := ⟨[], [], by rw [h, List.append_nil], by rw [h, List.append_nil], fun e he => absurd he List.not_mem_nil, fun e he => absurd he List.not_mem_nil, Nat.le_refl _⟩
theorem Gr.tr {ns nk t : Nat} {Z : Sg} {c c2 : Nat} {d d1 d2 : Dy} (h : Gr ns nk t Z c d d1) (h2 : Gr ns nk t Z c2 d1 d2) : Gr ns nk t Z (c + c2) d d2 := by
  obtain ⟨NA, NU, a1, a2, a3, a4, a5⟩ := h
  obtain ⟨MA, MU, b1, b2, b3, b4, b5⟩ := h2
  refine ⟨NA ++ MA, NU ++ MU, by rw [b1, a1, List.append_assoc], by rw [b2, a2, List.append_assoc], fun e he => ?_, fun e he => ?_, by rw [smA_app, smU_app]; omega⟩
  · rcases List.mem_append.mp he with h | h
    · exact a3 e h
    · exact b3 e h
  · rcases List.mem_append.mp he with h | h
    · exact a4 e h
    · exact b4 e h
theorem Gr.le {ns nk t : Nat} {Z : Sg} {c c2 : Nat} {d d2 : Dy} (h : Gr ns nk t Z c d d2) (hc : c ≤ c2) : Gr ns nk t Z c2 d d2 := by
  obtain ⟨NA, NU, a1, a2, a3, a4, a5⟩ := h
  exact ⟨NA, NU, a1, a2, a3, a4, Nat.le_trans a5 hc⟩
theorem Gr.ph {ns nk t : Nat} {Z : Sg} {c : Nat} {d d2 : Dy} (h : Gr ns nk t Z c d d2) : Ph d2 ≤ Ph d + c := by
  obtain ⟨NA, NU, a1, a2, a3, a4, a5⟩ := h
  unfold Ph
  rw [a1, a2, smA_app, smU_app]
  omega
theorem Gr.cg {ns nk t : Nat} {Z : Sg} {c : Nat} {d d1 d2 : Dy} (h : Gr ns nk t Z c d1 d2) (e : d1.2 = d.2) : Gr ns nk t Z c d d2 := by
  have h1 : Gr ns nk t Z (0 + c) d d2 := (Gr.rf e).tr h
  rwa [Nat.zero_add] at h1
def Dv (ns nk : Nat) (Z : Sg) (tau : Nat) (d : Dy) : Prop := (∀ e ∈ d.2.1, okA ns nk Z e) ∧ ∀ e ∈ d.2.2.1, okU ns nk Z tau e
theorem Gr.dv {ns nk t tau : Nat} {Z : Sg} {c : Nat} {d d2 : Dy} (h : Gr ns nk t Z c d d2) (ht : tau ≤ t + 1) (hd : Dv ns nk Z tau d) : Dv ns nk Z tau d2 := by
  obtain ⟨NA, NU, a1, a2, a3, a4, a5⟩ := h
  refine ⟨fun e he => ?_, fun e he => ?_⟩
  · rw [a1] at he
    rcases List.mem_append.mp he with h | h
    · exact hd.1 e h
    · exact a3 e h
  · rw [a2] at he
    rcases List.mem_append.mp he with h | h
    · exact hd.2 e h
    · exact (a4 e h).mono ht
theorem Dv.xA {ns nk tau : Nat} {Z : Sg} {d : Dy} (h : Dv ns nk Z tau d) (i : Nat) : Dv ns nk Z tau (xA d i) := ⟨fun e he => h.1 e (List.mem_of_mem_eraseIdx he), h.2⟩
theorem Dv.xU {ns nk tau : Nat} {Z : Sg} {d : Dy} (h : Dv ns nk Z tau d) (i : Nat) : Dv ns nk Z tau (xU d i) := ⟨h.1, fun e he => h.2 e (List.mem_of_mem_eraseIdx he)⟩
theorem gr_dU {ns nk t : Nat} {Z : Sg} (d : Dy) (e : E5) (he : okU ns nk Z (t + 1) e) {c : Nat} (hc : wU e ≤ c) : Gr ns nk t Z c d (dU d e) := ⟨[], [e], (List.append_nil _).symm, rfl, fun x hx => absurd hx List.not_mem_nil, fun x hx => by rw [List.mem_singleton.mp hx]; exact he, by rw [smU_1]; show 0 + _ ≤ _; omega⟩
theorem gr_dA {ns nk t : Nat} {Z : Sg} (d : Dy) (e : E5) (he : okA ns nk Z e) {c : Nat} (hc : wA e ≤ c) : Gr ns nk t Z c d (dA d e) := ⟨[e], [], rfl, (List.append_nil _).symm, fun x hx => by rw [List.mem_singleton.mp hx]; exact he, fun x hx => absurd hx List.not_mem_nil, by rw [smA_1]; show _ + 0 ≤ _; omega⟩
theorem gr_due {ns nk t : Nat} {Z : Sg} (hz : Zx ns nk t Z) (d : Dy) (so : Int32) (s k : Nat) (how bh : Int32) (hs : s < ns) (hk : k < nk) {b : Nat} (hb : bh = nI b) (h1 : 1 ≤ b) (h2 : b ≤ 1000) (hso : (so = 0 ∨ so = 1 ∨ so = 2) ∨ (so = 3 ∧ (how = 0 ∨ (how = 1 ∧ ∃ c, c < nk ∧ Z 2 0 k = nI c)))) {c : Nat} (hc : (if so = 3 ∧ how = 1 then 9 else 1) ≤ c) : Gr ns nk t Z c d (due Z d so s k how bh) := by
  have ht := hz.t5
  exact gr_dU (Z := Z) d (nI s, nI k, so, Z 14 0 2 + bh, how) ⟨s, k, t + b, hs, hk, rfl, rfl, by show Z 14 0 2 + bh = _; rw [hz.tt, hb, nI_add], by omega, by omega, hso⟩ hc
theorem gr_down {ns nk t : Nat} {Z : Sg} (hz : Zx ns nk t Z) (d : Dy) (x k : Nat) (h1 : 1 ≤ x) (hx : x < ns) (hk : k < nk) : Gr ns nk t Z 1 d (down Z d x k) := by
  obtain ⟨w, a1, a2, a3⟩ := hz.way h1 hx
  exact gr_due hz d 0 x k 0 _ hx hk a3 a1 (by omega) (Or.inl (Or.inl rfl)) (by decide)
theorem gr_begins {ns nk t : Nat} {Z : Sg} (hz : Zx ns nk t Z) (d : Dy) (s k : Nat) (hs : s < ns) (hk : k < nk) (hm : Z 6 s k ≠ 0) : Gr ns nk t Z 1 d (begins Z d s k) := by
  have hn := hz.v.n8
  have hn2 := hz.v.k8
  obtain ⟨m, a1, a2, a3⟩ := hz.mnz (show s < 8 by omega) (show k < 8 by omega) hm
  exact gr_due hz d 1 s k 0 _ hs hk a3 a1 (by omega) (Or.inl (Or.inr (Or.inl rfl))) (by decide)
theorem wy_nI {ns nk t : Nat} {Z : Sg} (hz : Zx ns nk t Z) {e : Nat} : ∀ (n x a : Nat), x < ns → rch Z e n x → ∃ b, wy Z e n x (nI a) = nI (a + b) ∧ b ≤ 20 * n ∧ (x ≠ e → 1 ≤ b)
  | 0, x, a, _, hr => ⟨0, rfl, Nat.le_refl _, fun h => absurd hr h⟩
  | n + 1, x, a, hx, hr => by
    rw [wy]
    by_cases he : x = e
    · rw [if_pos he]
      exact ⟨0, rfl, Nat.zero_le _, fun h => absurd he h⟩
    · rw [if_neg he]
      rw [rch] at hr
      obtain ⟨h1, hr⟩ := hr.resolve_left he
      obtain ⟨w, a1, a2, a3⟩ := hz.way h1 hx
      have h2 := hz.v.lt h1 hx
      obtain ⟨b, b1, b2, -⟩ := wy_nI hz n (upx Z x) (a + w) (by omega) hr
      rw [a3, nI_add, b1]
      exact ⟨w + b, by rw [Nat.add_assoc], by omega, fun _ => by omega⟩
theorem gr_sets {ns nk t : Nat} {Z : Sg} (hz : Zx ns nk t Z) (d : Dy) (s k e : Nat) (how : Int32) (hs : s < ns) (hk : k < nk) (hr : rch Z e 8 s) (hne : s ≠ e) (hh : how = 0 ∨ (how = 1 ∧ ∃ c, c < nk ∧ Z 2 0 k = nI c)) {c : Nat} (hc : (if how = 1 then 9 else 1) ≤ c) : Gr ns nk t Z c d (sets Z d s k e how) := by
  obtain ⟨b, b1, b2, b3⟩ := wy_nI hz 8 s 0 hs hr
  rw [nI_0, Nat.zero_add] at b1
  have hle := rch_le hz.v 8 s hs hr
  exact gr_due hz d 3 e k how _ (by omega) hk b1 (b3 hne) (by omega) (Or.inr ⟨rfl, hh⟩) (by
    refine Nat.le_trans (Nat.le_of_eq ?_) hc
    by_cases h1 : how = 1
    · rw [if_pos ⟨rfl, h1⟩, if_pos h1]
    · rw [if_neg (fun q => h1 q.2), if_neg h1])
theorem gr_up1 {ns nk t : Nat} {Z : Sg} (hz : Zx ns nk t Z) (d : Dy) (x k : Nat) (h1 : 1 ≤ x) (hx : x < ns) (hk : k < nk) : Gr ns nk t Z 1 d (up1 Z d x k) := by
  have h2 := hz.v.lt h1 hx
  unfold up1
  split
  · exact gr_dA d _ ⟨upx Z x, k, by omega, hk, rfl, rfl, Or.inr (Or.inl ⟨rfl, x, h1, hx, rfl⟩)⟩ (show (if (1 : Int32) = 2 then 9 else 1) ≤ 1 by decide)
  · exact (gr_down hz (dG d 7 (upx Z x) k (d.1 7 (upx Z x) k - 1)) x k h1 hx hk).cg rfl
theorem gr_ups {ns nk t : Nat} {Z : Sg} (hz : Zx ns nk t Z) (k e : Nat) (hk : k < nk) : ∀ (n x : Nat) (d : Dy), x < ns → rch Z e n x → Gr ns nk t Z x d (ups Z k e n x d)
  | 0, x, d, _, _ => (Gr.rf rfl).le (Nat.zero_le _)
  | n + 1, x, d, hx, hr => by
    rw [ups]
    split
    · exact (Gr.rf rfl).le (Nat.zero_le _)
    · rename_i hne
      rw [rch] at hr
      obtain ⟨h1, hr⟩ := hr.resolve_left hne
      have h2 := hz.v.lt h1 hx
      exact ((gr_up1 hz d x k h1 hx hk).tr (gr_ups hz k e hk n (upx Z x) _ (by omega) hr)).le (by omega)
theorem gr_backP {ns nk t : Nat} {Z : Sg} (hz : Zx ns nk t Z) (d : Dy) (s k : Nat) (hs : s < ns) (hk : k < nk) : Gr ns nk t Z 1 d (backP Z d s k) := by
  unfold backP
  split
  · rename_i h
    exact gr_begins hz d s k hs hk (by have h9 := mOf_nz hz.v hk hs; rwa [h] at h9)
  · rename_i h
    exact gr_sets hz d s k _ 0 hs hk (rch_mo hz.v hk 8 s hs) (fun q => h q.symm) (Or.inl rfl) (by decide)
theorem gr_serveM {ns nk t : Nat} {Z : Sg} (hz : Zx ns nk t Z) (d : Dy) (s c o : Nat) (hs : s < ns) (hk : c < nk) (ho : o < nk) (hm : Z 6 s o ≠ 0) : Gr ns nk t Z 9 d (serveM Z d s c o) := by
  have hn := hz.v.n8
  unfold serveM
  exact (((gr_backP hz (inc (inc d 12 c) 13 c) s c hs hk).cg rfl).tr ((gr_ups hz c (mOf Z c s) hk 8 s _ hs (rch_mo hz.v hk 8 s hs)).tr (gr_begins hz _ s o hs ho hm))).le (by omega)
theorem gr_arrC {ns nk t : Nat} {Z : Sg} (hz : Zx ns nk t Z) (d : Dy) (s k c : Nat) (hs : s < ns) (hk : k < nk) (hc : c < nk) (hm : Z 6 s k ≠ 0) : Gr ns nk t Z 9 d (arrC Z d s k c) := by
  unfold arrC
  split
  · exact gr_dA d _ ⟨s, c, hs, hc, rfl, rfl, Or.inr (Or.inr ⟨rfl, k, hk, rfl, hm⟩)⟩ (wA_9 _)
  · exact (gr_serveM hz (dG d 7 s c (d.1 7 s c - 1)) s c k hs hc hk hm).cg rfl
theorem gr_back {ns nk t : Nat} {Z : Sg} (hz : Zx ns nk t Z) (d : Dy) (s k : Nat) (how : Int32) (hs : s < ns) (hk : k < nk) (hh : how = 0 ∨ (how = 1 ∧ ∃ c, c < nk ∧ Z 2 0 k = nI c)) : Gr ns nk t Z (if how = 1 then 9 else 1) d (back Z d s k how) := by
  have hn := hz.v.k8
  unfold back
  by_cases h : mOf Z k s = s
  · rw [if_pos h]
    have hm : Z 6 s k ≠ 0 := by have h9 := mOf_nz hz.v hk hs; rwa [h] at h9
    rcases hh with rfl | ⟨rfl, c, hc, ec⟩
    · rw [if_pos (show (0 : Int32) = 0 from rfl), if_neg (show ¬ (0 : Int32) = 1 by decide)]
      exact gr_begins hz d s k hs hk hm
    · rw [if_neg (show ¬ (1 : Int32) = 0 by decide), if_pos (show (1 : Int32) = 1 from rfl), ec, nI_clamp (by omega)]
      exact gr_arrC hz d s k c hs hk hc hm
  · rw [if_neg h]
    exact gr_sets hz d s k _ how hs hk (rch_mo hz.v hk 8 s hs) (fun q => h q.symm) hh (Nat.le_refl _)
/-- the ask that is served: what it adds is no more than its weight, a machine's nothing -/
theorem gr_serve {ns nk t : Nat} {Z : Sg} (hz : Zx ns nk t Z) (d : Dy) (s k : Nat) (e : E5) (hs : s < ns) (hk : k < nk) (he : okA ns nk Z e) (h0 : col 0 e = nI s) : Gr ns nk t Z (wA e) d (serve Z d s k e) := by
  have hn := hz.v.n8
  have hn2 := hz.v.k8
  obtain ⟨s2, k2, a1, a2, a3, a4, a5⟩ := he
  have es : s2 = s := (nI_eq (by omega) (by omega)).mp (a3.symm.trans h0)
  subst es
  unfold serve wA
  rcases a5 with ⟨b1, b2⟩ | ⟨b1, c, c1, c2, c3⟩ | ⟨b1, c, c1, c2, c3⟩
  · rw [b1, if_pos (show (0 : Int32) = 0 from rfl)]
    exact (Gr.rf rfl).le (Nat.zero_le _)
  · rw [b1, if_neg (show ¬ (1 : Int32) = 2 by decide), if_neg (show ¬ (1 : Int32) = 0 by decide), if_pos (show (1 : Int32) = 1 from rfl), c3, nI_clamp (by omega)]
    exact gr_down hz d c k c1 c2 hk
  · rw [b1, if_pos (show (2 : Int32) = 2 from rfl), if_neg (show ¬ (2 : Int32) = 0 by decide), if_neg (show ¬ (2 : Int32) = 1 by decide), c2, nI_clamp (by omega)]
    exact gr_serveM hz d s2 k c hs hk c1 c3
theorem fst2_some {s k : Nat} {L : List E5} {e : E5} (h : L[fst2 s k L]? = some e) : col 0 e = nI s ∧ col 1 e = nI k := by
  have h1 := List.getElem?_eq_some_iff.mp h
  obtain ⟨h2, h3⟩ := h1
  have h4 := List.findIdx_getElem (w := h2)
  rw [← h3]
  exact of_decide_eq_true h4
/-- landing: the weight does not grow; all stays in order -/
theorem lands_ok {ns nk t tau : Nat} {Z : Sg} (hz : Zx ns nk t Z) (d : Dy) (s k : Nat) (hs : s < ns) (hk : k < nk) (ht : tau ≤ t + 1) (hd : Dv ns nk Z tau d) : Ph (lands Z d s k) ≤ Ph d ∧ Dv ns nk Z tau (lands Z d s k) ∧ ∃ NU, (lands Z d s k).2.2.1 = d.2.2.1 ++ NU ∧ ∀ e ∈ NU, okU ns nk Z (t + 1) e := by
  unfold lands
  split
  · exact ⟨Nat.le_refl _, hd, [], (List.append_nil _).symm, fun e he => absurd he List.not_mem_nil⟩
  · rename_i e he
    have hA := hd.1 e (List.mem_of_getElem? he)
    have g := gr_serve hz (xA d (fst2 s k d.2.1)) s k e hs hk hA (fst2_some he).1
    refine ⟨?_, g.dv ht (hd.xA _), ?_⟩
    · have h1 := g.ph
      have h2 := smA_era d.2.1 _ e he
      have h3 : Ph (xA d (fst2 s k d.2.1)) = smA (d.2.1.eraseIdx (fst2 s k d.2.1)) + smU d.2.2.1 := rfl
      have h4 : Ph d = smA d.2.1 + smU d.2.2.1 := rfl
      omega
    · obtain ⟨NA, NU, -, b2, -, b4, -⟩ := g
      exact ⟨NU, b2, b4⟩
theorem does_ok {ns nk t tau : Nat} {Z : Sg} (hz : Zx ns nk t Z) (d : Dy) (i : Nat) (e : E5) (hi : d.2.2.1[i]? = some e) (ht : tau ≤ t + 1) (hd : Dv ns nk Z tau d) : Ph (does Z d i e) ≤ Ph d ∧ Dv ns nk Z tau (does Z d i e) ∧ ∃ NU, (does Z d i e).2.2.1 = d.2.2.1.eraseIdx i ++ NU ∧ ∀ e ∈ NU, okU ns nk Z (t + 1) e := by
  have hn := hz.v.n8
  have hn2 := hz.v.k8
  have hU := hd.2 e (List.mem_of_getElem? hi)
  have h2 := smU_era d.2.2.1 _ e hi
  have h3 : Ph (xU d i) = smA d.2.1 + smU (d.2.2.1.eraseIdx i) := rfl
  have h4 : Ph d = smA d.2.1 + smU d.2.2.1 := rfl
  have h5 := wU_pos e
  obtain ⟨s, k, t2, a1, a2, a3, a4, a5, a6, a7, a8⟩ := hU
  unfold does
  rw [a3, a4, nI_clamp (by omega), nI_clamp (by omega)]
  rcases a8 with b | ⟨b, hh⟩
  · rw [if_neg (by rcases b with b | b | b <;> rw [b] <;> decide)]
    obtain ⟨c1, c2, c3⟩ := lands_ok hz (xU d i) s k a1 a2 ht (hd.xU i)
    exact ⟨by omega, c2, c3⟩
  · rw [if_pos b]
    have g := gr_back hz (xU d i) s k (col 4 e) a1 a2 hh
    have h6 := g.ph
    refine ⟨?_, g.dv ht (hd.xU i), ?_⟩
    · have h7 : wU e = if col 4 e = 1 then 9 else 1 := by
        unfold wU
        by_cases h8 : col 4 e = 1
        · rw [if_pos ⟨b, h8⟩, if_pos h8]
        · rw [if_neg (fun q => h8 q.2), if_neg h8]
      omega
    · obtain ⟨NA, NU, -, b2, -, b4, -⟩ := g
      exact ⟨NU, b2, b4⟩
