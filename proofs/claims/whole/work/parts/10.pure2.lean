/-! rooms only grow, numbers of asks and dues grow by little -/
def sz (d : Dy) : Nat := d.2.1.length + d.2.2.1.length
theorem sz_dA (d : Dy) (e : E5) : sz (dA d e) = sz d + 1 := by show (d.2.1 ++ [e]).length + d.2.2.1.length = d.2.1.length + d.2.2.1.length + 1; rw [List.length_append]; simp; omega
theorem sz_dU (d : Dy) (e : E5) : sz (dU d e) = sz d + 1 := by show d.2.1.length + (d.2.2.1 ++ [e]).length = d.2.1.length + d.2.2.1.length + 1; rw [List.length_append]; simp; omega
theorem sz_due (Z : Sg) (d : Dy) (so : Int32) (s k : Nat) (how bh : Int32) : sz (due Z d so s k how bh) = sz d + 1 := sz_dU d _
theorem cpl_due (Z : Sg) (d : Dy) (so : Int32) (s k : Nat) (how bh : Int32) : cp d ≤ cp (due Z d so s k how bh) := cpl_dU d _
theorem sz_down (Z : Sg) (d : Dy) (x k : Nat) : sz (down Z d x k) = sz d + 1 := sz_dU d _
theorem cpl_down (Z : Sg) (d : Dy) (x k : Nat) : cp d ≤ cp (down Z d x k) := cpl_dU d _
theorem sz_begins (Z : Sg) (d : Dy) (s k : Nat) : sz (begins Z d s k) = sz d + 1 := sz_dU d _
theorem cpl_begins (Z : Sg) (d : Dy) (s k : Nat) : cp d ≤ cp (begins Z d s k) := cpl_dU d _
theorem sz_sets (Z : Sg) (d : Dy) (s k e : Nat) (how : Int32) : sz (sets Z d s k e how) = sz d + 1 := sz_dU d _
theorem cpl_sets (Z : Sg) (d : Dy) (s k e : Nat) (how : Int32) : cp d ≤ cp (sets Z d s k e how) := cpl_dU d _
theorem sz_up1 (Z : Sg) (d : Dy) (x k : Nat) : sz (up1 Z d x k) = sz d + 1 := by
  unfold up1
  split
  · exact sz_dA d _
  · exact sz_dU _ _
theorem cpl_up1 (Z : Sg) (d : Dy) (x k : Nat) : cp d ≤ cp (up1 Z d x k) := by
  unfold up1
  split
  · exact cpl_dA d _
  · exact cpl_dU (dG d 7 (upx Z x) k (d.1 7 (upx Z x) k - 1)) _
theorem sz_ups (Z : Sg) (k e : Nat) : ∀ (n x : Nat) (d : Dy), sz (ups Z k e n x d) ≤ sz d + n
  | 0, x, d => Nat.le_refl _
  | n + 1, x, d => by
    rw [ups]
    split
    · omega
    · have h1 := sz_ups Z k e n (upx Z x) (up1 Z d x k)
      rw [sz_up1] at h1
      omega
theorem cpl_ups (Z : Sg) (k e : Nat) : ∀ (n x : Nat) (d : Dy), cp d ≤ cp (ups Z k e n x d)
  | 0, x, d => Nat.le_refl _
  | n + 1, x, d => by
    rw [ups]
    split
    · exact Nat.le_refl _
    · exact Nat.le_trans (cpl_up1 Z d x k) (cpl_ups Z k e n (upx Z x) (up1 Z d x k))
theorem sz_backP (Z : Sg) (d : Dy) (s k : Nat) : sz (backP Z d s k) = sz d + 1 := by
  unfold backP
  split
  · exact sz_dU _ _
  · exact sz_dU _ _
theorem cpl_backP (Z : Sg) (d : Dy) (s k : Nat) : cp d ≤ cp (backP Z d s k) := by
  unfold backP
  split
  · exact cpl_dU _ _
  · exact cpl_dU _ _
theorem sz_serveM (Z : Sg) (d : Dy) (s c o : Nat) : sz (serveM Z d s c o) ≤ sz d + 10 := by
  unfold serveM
  rw [sz_begins]
  have h1 := sz_ups Z c (mOf Z c s) 8 s (backP Z (inc (inc d 12 c) 13 c) s c)
  rw [sz_backP] at h1
  have h2 : sz (inc (inc d 12 c) 13 c) = sz d := rfl
  omega
theorem cpl_serveM (Z : Sg) (d : Dy) (s c o : Nat) : cp d ≤ cp (serveM Z d s c o) := by
  unfold serveM
  exact Nat.le_trans (Nat.le_trans (cpl_backP Z (inc (inc d 12 c) 13 c) s c) (cpl_ups _ _ _ _ _ _)) (cpl_begins _ _ _ _)
theorem sz_arrC (Z : Sg) (d : Dy) (s k c : Nat) : sz (arrC Z d s k c) ≤ sz d + 10 := by
  unfold arrC
  split
  · rw [sz_dA]; omega
  · exact sz_serveM Z (dG d 7 s c (d.1 7 s c - 1)) s c k
theorem cpl_arrC (Z : Sg) (d : Dy) (s k c : Nat) : cp d ≤ cp (arrC Z d s k c) := by
  unfold arrC
  split
  · exact cpl_dA _ _
  · exact cpl_serveM Z (dG d 7 s c (d.1 7 s c - 1)) s c k
theorem sz_back (Z : Sg) (d : Dy) (s k : Nat) (how : Int32) : sz (back Z d s k how) ≤ sz d + 10 := by
  unfold back
  split
  · split
    · rw [sz_begins]; omega
    · exact sz_arrC _ _ _ _ _
  · rw [sz_sets]; omega
theorem cpl_back (Z : Sg) (d : Dy) (s k : Nat) (how : Int32) : cp d ≤ cp (back Z d s k how) := by
  unfold back
  split
  · split
    · exact cpl_begins _ _ _ _
    · exact cpl_arrC _ _ _ _ _
  · exact cpl_sets _ _ _ _ _ _
theorem sz_serve (Z : Sg) (d : Dy) (s k : Nat) (e : E5) : sz (serve Z d s k e) ≤ sz d + 10 := by
  unfold serve
  split
  · exact Nat.le_add_right _ _
  · split
    · rw [sz_down]; omega
    · exact sz_serveM _ _ _ _ _
theorem cpl_serve (Z : Sg) (d : Dy) (s k : Nat) (e : E5) : cp d ≤ cp (serve Z d s k e) := by
  unfold serve
  split
  · exact Nat.le_refl _
  · split
    · exact cpl_down _ _ _ _
    · exact cpl_serveM _ _ _ _ _
theorem sz_xA (d : Dy) (i : Nat) : sz (xA d i) ≤ sz d := by
  show (d.2.1.eraseIdx i).length + _ ≤ _ + _
  have := List.length_eraseIdx_le d.2.1 i
  dsimp only [xA]
  omega
theorem sz_xU (d : Dy) (i : Nat) : sz (xU d i) ≤ sz d := by
  show _ + (d.2.2.1.eraseIdx i).length ≤ _ + _
  have := List.length_eraseIdx_le d.2.2.1 i
  dsimp only [xU]
  omega
theorem sz_lands (Z : Sg) (d : Dy) (s k : Nat) : sz (lands Z d s k) ≤ sz d + 10 := by
  unfold lands
  split
  · exact Nat.le_add_right _ _
  · exact Nat.le_trans (sz_serve _ _ _ _ _) (Nat.add_le_add_right (sz_xA d _) 10)
theorem cpl_lands (Z : Sg) (d : Dy) (s k : Nat) : cp d ≤ cp (lands Z d s k) := by
  unfold lands
  split
  · exact Nat.le_refl _
  · exact cpl_serve Z (xA d _) s k _
theorem sz_machine (Z : Sg) (d : Dy) (s k : Nat) : sz (machine Z d s k) ≤ sz d + 1 := by
  unfold machine
  split
  · rw [sz_dA]; omega
  · exact Nat.le_add_right _ _
theorem cpl_machine (Z : Sg) (d : Dy) (s k : Nat) : cp d ≤ cp (machine Z d s k) := by
  unfold machine
  split
  · exact cpl_dA _ _
  · exact Nat.le_refl _
theorem sz_breaks (Z : Sg) (d : Dy) (s k : Nat) (how : Int32) : sz (breaks Z d s k how) ≤ sz d + 30 := by
  have h0 := sz_machine Z (inc d 13 k) s k
  have h9 : sz (inc d 13 k) = sz d := rfl
  unfold breaks
  split
  · rw [sz_due]
    have h1 := sz_ups Z k 0 8 s (inc (machine Z (inc d 13 k) s k) 10 k)
    have h2 : sz (inc (machine Z (inc d 13 k) s k) 10 k) = sz (machine Z (inc d 13 k) s k) := rfl
    have h3 : sz (inc (ups Z k 0 8 s (inc (machine Z (inc d 13 k) s k) 10 k)) 9 k) = sz (ups Z k 0 8 s (inc (machine Z (inc d 13 k) s k) 10 k)) := rfl
    omega
  · have h1 := sz_ups Z k (mOf Z k s) 8 s (back Z (machine Z (inc d 13 k) s k) s k how)
    have h2 := sz_back Z (machine Z (inc d 13 k) s k) s k how
    omega
theorem cpl_breaks (Z : Sg) (d : Dy) (s k : Nat) (how : Int32) : cp d ≤ cp (breaks Z d s k how) := by
  have h0 : cp d ≤ cp (machine Z (inc d 13 k) s k) := cpl_machine Z (inc d 13 k) s k
  unfold breaks
  split
  · have h1 := cpl_ups Z k 0 8 s (inc (machine Z (inc d 13 k) s k) 10 k)
    have h2 : cp (inc (machine Z (inc d 13 k) s k) 10 k) = cp (machine Z (inc d 13 k) s k) := rfl
    have h3 : cp (inc (ups Z k 0 8 s (inc (machine Z (inc d 13 k) s k) 10 k)) 9 k) = cp (ups Z k 0 8 s (inc (machine Z (inc d 13 k) s k) 10 k)) := rfl
    have h4 := cpl_due Z (inc (ups Z k 0 8 s (inc (machine Z (inc d 13 k) s k) 10 k)) 9 k) 2 0 k 0 (Z 1 0 k)
    omega
  · exact Nat.le_trans (Nat.le_trans h0 (cpl_back _ _ _ _ _)) (cpl_ups _ _ _ _ _ _)
theorem su_comm (z : Sg) {f g : Nat} (h : f ≠ g) (r i r2 i2 : Nat) (v w : Int32) : su (su z f r i v) g r2 i2 w = su (su z g r2 i2 w) f r i v := by
  funext x y j
  by_cases h1 : x = f
  · subst h1
    rw [su_ne _ _ _ _ h, su_at, su_at, su_ne _ _ _ _ h]
  · by_cases h2 : x = g
    · subst h2
      rw [su_at, su_ne _ _ _ _ h1, su_ne _ _ _ _ h1, su_at]
    · rw [su_ne _ _ _ _ h2, su_ne _ _ _ _ h1, su_ne _ _ _ _ h1, su_ne _ _ _ _ h2]
theorem su_0 (z : Sg) (f r i : Nat) (v : Int32) : su z f r i v f r i = v := by rw [su_at, if_pos ⟨rfl, rfl⟩]
