/-! flows in pure words -/
theorem sumI_cong {f g : Nat → Int32} : ∀ {n : Nat}, (∀ i, i < n → f i = g i) → sumI f n = sumI g n
  | 0, _ => rfl
  | n + 1, h => by rw [sumI, sumI, sumI_cong (fun i hi => h i (by omega)), h n (by omega)]
theorem sumI_front (f : Nat → Int32) : ∀ n : Nat, sumI f (n + 1) = f 0 + sumI (fun i => f (i + 1)) n
  | 0 => by
    show 0 + f 0 = f 0 + 0
    rw [Int32.zero_add, Int32.add_zero]
  | n + 1 => by
    rw [sumI, sumI_front f n, sumI, Int32.add_assoc]
theorem sumI_rev (f : Nat → Int32) : ∀ n : Nat, sumI (fun i => f (n - 1 - i)) n = sumI f n
  | 0 => rfl
  | n + 1 => by
    rw [sumI_front, sumI]
    have h1 : sumI (fun i => f (n + 1 - 1 - (i + 1))) n = sumI (fun i => f (n - 1 - i)) n := sumI_cong (fun i hi => by congr 1; omega)
    rw [h1, sumI_rev f n, Int32.add_comm]
    congr 1
/-- what the shelf y hands on to x, if its own flow is v -/
def hnd (Z : Sg) (k x y : Nat) (v : Int32) : Int32 := if Z 3 0 y = nI x ∧ Z 6 y k = 0 then v else 0
/-- the flow of k at x, out of ns shelves (n: fuel) -/
def flw (Z : Sg) (ns k : Nat) : Nat → Nat → Int32
  | 0, _ => 0
  | n + 1, x => Z 8 x k + sumI (fun i => hnd Z k x (x + 1 + i) (flw Z ns k n (x + 1 + i))) (ns - 1 - x)
theorem flw_st (Z : Sg) (ns k : Nat) : ∀ (j x n m : Nat), ns - x ≤ j → ns - x ≤ n → ns - x ≤ m → 1 ≤ n → 1 ≤ m → flw Z ns k n x = flw Z ns k m x
  | j, x, 0, m, _, _, _, h, _ => absurd h (by omega)
  | j, x, n + 1, 0, _, _, _, _, h => absurd h (by omega)
  | 0, x, n + 1, m + 1, h1, h2, h3, _, _ => by
    rw [flw, flw, show ns - 1 - x = 0 by omega]
    rfl
  | j + 1, x, n + 1, m + 1, h1, h2, h3, _, _ => by
    rw [flw, flw]
    congr 1
    apply sumI_cong
    intro i hi
    congr 1
    exact flw_st Z ns k j (x + 1 + i) n m (by omega) (by omega) (by omega) (by omega) (by omega)
def flowF (Z : Sg) (ns k x : Nat) : Int32 := flw Z ns k 8 x
theorem flowF_eq (Z : Sg) {ns k x : Nat} (hn : ns ≤ 8) : flowF Z ns k x = Z 8 x k + sumI (fun i => hnd Z k x (x + 1 + i) (flowF Z ns k (x + 1 + i))) (ns - 1 - x) := by
  unfold flowF
  rw [show flw Z ns k 8 x = Z 8 x k + sumI (fun i => hnd Z k x (x + 1 + i) (flw Z ns k 7 (x + 1 + i))) (ns - 1 - x) from rfl]
  exact congrArg (fun v => Z 8 x k + v) (sumI_cong (fun i hi => congrArg (hnd Z k x (x + 1 + i)) (flw_st Z ns k 8 (x + 1 + i) 7 8 (by omega) (by omega) (by omega) (by omega) (by omega))))
/-- the flows behind the last j shelves -/
def prt (Z : Sg) (ns k j x : Nat) : Int32 := Z 8 x k + sumI (fun i => hnd Z k x (ns - 1 - i) (flowF Z ns k (ns - 1 - i))) j
theorem prt_0 (Z : Sg) (ns k x : Nat) : prt Z ns k 0 x = Z 8 x k := by
  unfold prt
  rw [sumI, Int32.add_zero]
theorem prt_s (Z : Sg) (ns k j x : Nat) : prt Z ns k (j + 1) x = prt Z ns k j x + hnd Z k x (ns - 1 - j) (flowF Z ns k (ns - 1 - j)) := by
  unfold prt
  rw [sumI, Int32.add_assoc]
theorem prt_e (Z : Sg) {ns k x : Nat} (hn : ns ≤ 8) (hx : x < ns) : prt Z ns k (ns - 1 - x) x = flowF Z ns k x := by
  rw [flowF_eq Z hn]
  unfold prt
  congr 1
  rw [← sumI_rev (fun i => hnd Z k x (x + 1 + i) (flowF Z ns k (x + 1 + i)))]
  apply sumI_cong
  intro i hi
  show _ = hnd Z k x (x + 1 + (ns - 1 - x - 1 - i)) _
  rw [show x + 1 + (ns - 1 - x - 1 - i) = ns - 1 - i by omega]
def pipeF (Z : Sg) (ns k s : Nat) : Int32 := flowF Z ns k s * (if 0 < Z 6 s k then Z 6 s k else Z 4 0 s)
def wantF (Z : Sg) (d : Dy) (ns k s : Nat) : Int32 := if 0 < pipeF Z ns k s - 1000 * d.1 7 s k then pipeF Z ns k s - 1000 * d.1 7 s k else 0
def pipeP (ns nk : Nat) (Z : Sg) (d : Dy) (s k w : Int32) : Int32 := if (isIn s ns && isIn k nk) = false then -1 else sw w [flowF Z ns (tN k) (tN s), pipeF Z ns (tN k) (tN s), wantF Z d ns (tN k) (tN s), Z 8 (tN s) (tN k)]
/-- choosing: the best so far, none or a shelf and a kind -/
def bW (Z : Sg) (d : Dy) (ns : Nat) (b : Option (Nat × Nat)) : Int64 := match b with
  | none => 0
  | some q => (wantF Z d ns q.2 q.1).toInt64
def bP (Z : Sg) (b : Option (Nat × Nat)) : Int64 := match b with
  | none => 1
  | some q => (Z 0 0 q.2).toInt64
def chs (Z : Sg) (d : Dy) (ns : Nat) (b : Option (Nat × Nat)) (s k : Nat) : Option (Nat × Nat) := if bW Z d ns b * (Z 0 0 k).toInt64 < (wantF Z d ns k s).toInt64 * bP Z b then some (s, k) else b
def chK (Z : Sg) (d : Dy) (ns s : Nat) : Nat → Option (Nat × Nat) → Option (Nat × Nat)
  | 0, b => b
  | j + 1, b => chs Z d ns (chK Z d ns s j b) s j
def chS (Z : Sg) (d : Dy) (ns nk : Nat) : Nat → Option (Nat × Nat)
  | 0 => none
  | j + 1 => chK Z d ns j nk (chS Z d ns nk j)
def chooseP (ns nk : Nat) (Z : Sg) (d : Dy) : RZD := match chS Z d ns nk ns with
  | none => (-1, Z, d)
  | some q => if 200 ≤ d.1 9 0 q.2 then (-4, Z, d) else (nI (8 * q.1 + q.2), Z, lands Z (inc d 9 q.2) q.1 q.2)
theorem chK_in {Z : Sg} {d : Dy} {ns nk s : Nat} : ∀ (j : Nat) (b : Option (Nat × Nat)), j ≤ nk → s < ns → (∀ q, b = some q → q.1 < ns ∧ q.2 < nk) → ∀ q, chK Z d ns s j b = some q → q.1 < ns ∧ q.2 < nk
  | 0, b, _, _, hb, q, h => hb q h
  | j + 1, b, hj, hs, hb, q, h => by
    rw [chK] at h
    unfold chs at h
    split at h
    · cases h
      exact ⟨hs, by show j < nk; omega⟩
    · exact chK_in j b (by omega) hs hb q h
theorem chS_in {Z : Sg} {d : Dy} {ns nk : Nat} : ∀ (j : Nat), j ≤ ns → ∀ q, chS Z d ns nk j = some q → q.1 < ns ∧ q.2 < nk
  | 0, _, q, h => by cases h
  | j + 1, hj, q, h => chK_in nk _ (Nat.le_refl _) (by omega) (chS_in j (by omega)) q h
