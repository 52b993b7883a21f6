section
-- ===== PART A: goes FIRST, ahead of the names: the tables' words, and 'selects' of the private methods out of them =====
/-- a private method of a class that the tables say can be made, by its rows of tables_1 -/
def lw_okq (q : MethodName × Nat) : Prop := (q.1.cls ≠ "java/lang/invoke/MethodHandle" ∧ q.1.cls ≠ "java/lang/invoke/VarHandle") ∧ Cond.instantiable q.1.cls q.2 ∈ tables_1 ∧ Cond.privateMethod q.1 ∈ tables_1 ∧ Cond.instanceMethod q.1 ∈ tables_1
theorem lw_p0 : lw_okq (⟨"SpareShelves", "isNoPlace", "(II)Z"⟩, 9) := ⟨⟨by decide +kernel, by decide +kernel⟩, List.mem_of_getElem? (i := 10) (by decide +kernel), List.mem_of_getElem? (i := 153) (by decide +kernel), List.mem_of_getElem? (i := 154) (by decide +kernel)⟩
theorem lw_p1 : lw_okq (⟨"SpareShelves", "mendsThatWait", "(II)I"⟩, 9) := ⟨⟨by decide +kernel, by decide +kernel⟩, List.mem_of_getElem? (i := 10) (by decide +kernel), List.mem_of_getElem? (i := 157) (by decide +kernel), List.mem_of_getElem? (i := 158) (by decide +kernel)⟩
theorem lw_p2 : lw_okq (⟨"SpareShelves$Line", "fits", "(IIIII)Z"⟩, 2) := ⟨⟨by decide +kernel, by decide +kernel⟩, List.mem_of_getElem? (i := 88) (by decide +kernel), List.mem_of_getElem? (i := 165) (by decide +kernel), List.mem_of_getElem? (i := 166) (by decide +kernel)⟩
theorem lw_p3 : lw_okq (⟨"SpareShelves", "lands", "(II)V"⟩, 9) := ⟨⟨by decide +kernel, by decide +kernel⟩, List.mem_of_getElem? (i := 10) (by decide +kernel), List.mem_of_getElem? (i := 173) (by decide +kernel), List.mem_of_getElem? (i := 174) (by decide +kernel)⟩
theorem lw_p4 : lw_okq (⟨"SpareShelves", "goesDown", "(II)V"⟩, 9) := ⟨⟨by decide +kernel, by decide +kernel⟩, List.mem_of_getElem? (i := 10) (by decide +kernel), List.mem_of_getElem? (i := 192) (by decide +kernel), List.mem_of_getElem? (i := 193) (by decide +kernel)⟩
theorem lw_p5 : lw_okq (⟨"SpareShelves", "mendGetsCore", "(III)V"⟩, 9) := ⟨⟨by decide +kernel, by decide +kernel⟩, List.mem_of_getElem? (i := 10) (by decide +kernel), List.mem_of_getElem? (i := 214) (by decide +kernel), List.mem_of_getElem? (i := 215) (by decide +kernel)⟩
theorem lw_p6 : lw_okq (⟨"SpareShelves", "mendBegins", "(II)V"⟩, 9) := ⟨⟨by decide +kernel, by decide +kernel⟩, List.mem_of_getElem? (i := 10) (by decide +kernel), List.mem_of_getElem? (i := 222) (by decide +kernel), List.mem_of_getElem? (i := 223) (by decide +kernel)⟩
theorem lw_p7 : lw_okq (⟨"SpareShelves", "setsOut", "(IIII)V"⟩, 9) := ⟨⟨by decide +kernel, by decide +kernel⟩, List.mem_of_getElem? (i := 10) (by decide +kernel), List.mem_of_getElem? (i := 226) (by decide +kernel), List.mem_of_getElem? (i := 227) (by decide +kernel)⟩
theorem lw_p8 : lw_okq (⟨"SpareShelves", "asksGoUp", "(III)V"⟩, 9) := ⟨⟨by decide +kernel, by decide +kernel⟩, List.mem_of_getElem? (i := 10) (by decide +kernel), List.mem_of_getElem? (i := 234) (by decide +kernel), List.mem_of_getElem? (i := 235) (by decide +kernel)⟩
theorem lw_p9 : lw_okq (⟨"SpareShelves", "takesGood", "(II)Z"⟩, 9) := ⟨⟨by decide +kernel, by decide +kernel⟩, List.mem_of_getElem? (i := 10) (by decide +kernel), List.mem_of_getElem? (i := 238) (by decide +kernel), List.mem_of_getElem? (i := 239) (by decide +kernel)⟩
theorem lw_p10 : lw_okq (⟨"SpareShelves", "servesMachine", "(II)Z"⟩, 9) := ⟨⟨by decide +kernel, by decide +kernel⟩, List.mem_of_getElem? (i := 10) (by decide +kernel), List.mem_of_getElem? (i := 250) (by decide +kernel), List.mem_of_getElem? (i := 251) (by decide +kernel)⟩
theorem lw_p11 : lw_okq (⟨"SpareShelves", "goesBack", "(III)V"⟩, 9) := ⟨⟨by decide +kernel, by decide +kernel⟩, List.mem_of_getElem? (i := 10) (by decide +kernel), List.mem_of_getElem? (i := 254) (by decide +kernel), List.mem_of_getElem? (i := 255) (by decide +kernel)⟩
theorem lw_p12 : lw_okq (⟨"SpareShelves", "doWhatIsDue", "()V"⟩, 9) := ⟨⟨by decide +kernel, by decide +kernel⟩, List.mem_of_getElem? (i := 10) (by decide +kernel), List.mem_of_getElem? (i := 262) (by decide +kernel), List.mem_of_getElem? (i := 263) (by decide +kernel)⟩
theorem lw_p13 : lw_okq (⟨"SpareShelves", "countStanding", "()V"⟩, 9) := ⟨⟨by decide +kernel, by decide +kernel⟩, List.mem_of_getElem? (i := 10) (by decide +kernel), List.mem_of_getElem? (i := 266) (by decide +kernel), List.mem_of_getElem? (i := 267) (by decide +kernel)⟩
theorem lw_p14 : lw_okq (⟨"SpareShelves", "wantOf", "(II)I"⟩, 9) := ⟨⟨by decide +kernel, by decide +kernel⟩, List.mem_of_getElem? (i := 10) (by decide +kernel), List.mem_of_getElem? (i := 274) (by decide +kernel), List.mem_of_getElem? (i := 275) (by decide +kernel)⟩
theorem lw_p15 : lw_okq (⟨"SpareShelves", "pipeOf", "(II)I"⟩, 9) := ⟨⟨by decide +kernel, by decide +kernel⟩, List.mem_of_getElem? (i := 10) (by decide +kernel), List.mem_of_getElem? (i := 278) (by decide +kernel), List.mem_of_getElem? (i := 279) (by decide +kernel)⟩
def lw_privs_1 : List (MethodName × Nat) := [(⟨"SpareShelves", "isNoPlace", "(II)Z"⟩, 9), (⟨"SpareShelves", "mendsThatWait", "(II)I"⟩, 9), (⟨"SpareShelves$Line", "fits", "(IIIII)Z"⟩, 2), (⟨"SpareShelves", "lands", "(II)V"⟩, 9), (⟨"SpareShelves", "goesDown", "(II)V"⟩, 9), (⟨"SpareShelves", "mendGetsCore", "(III)V"⟩, 9), (⟨"SpareShelves", "mendBegins", "(II)V"⟩, 9), (⟨"SpareShelves", "setsOut", "(IIII)V"⟩, 9), (⟨"SpareShelves", "asksGoUp", "(III)V"⟩, 9), (⟨"SpareShelves", "takesGood", "(II)Z"⟩, 9), (⟨"SpareShelves", "servesMachine", "(II)Z"⟩, 9), (⟨"SpareShelves", "goesBack", "(III)V"⟩, 9), (⟨"SpareShelves", "doWhatIsDue", "()V"⟩, 9), (⟨"SpareShelves", "countStanding", "()V"⟩, 9), (⟨"SpareShelves", "wantOf", "(II)I"⟩, 9), (⟨"SpareShelves", "pipeOf", "(II)I"⟩, 9)]
theorem lw_r1 : ∀ q ∈ lw_privs_1, lw_okq q := List.forall_mem_cons.mpr ⟨lw_p0, List.forall_mem_cons.mpr ⟨lw_p1, List.forall_mem_cons.mpr ⟨lw_p2, List.forall_mem_cons.mpr ⟨lw_p3, List.forall_mem_cons.mpr ⟨lw_p4, List.forall_mem_cons.mpr ⟨lw_p5, List.forall_mem_cons.mpr ⟨lw_p6, List.forall_mem_cons.mpr ⟨lw_p7, List.forall_mem_cons.mpr ⟨lw_p8, List.forall_mem_cons.mpr ⟨lw_p9, List.forall_mem_cons.mpr ⟨lw_p10, List.forall_mem_cons.mpr ⟨lw_p11, List.forall_mem_cons.mpr ⟨lw_p12, List.forall_mem_cons.mpr ⟨lw_p13, List.forall_mem_cons.mpr ⟨lw_p14, List.forall_mem_cons.mpr ⟨lw_p15, fun _ h => absurd h List.not_mem_nil⟩⟩⟩⟩⟩⟩⟩⟩⟩⟩⟩⟩⟩⟩⟩⟩
theorem lw_p16 : lw_okq (⟨"SpareShelves", "flowOf", "(II)I"⟩, 9) := ⟨⟨by decide +kernel, by decide +kernel⟩, List.mem_of_getElem? (i := 10) (by decide +kernel), List.mem_of_getElem? (i := 282) (by decide +kernel), List.mem_of_getElem? (i := 283) (by decide +kernel)⟩
theorem lw_p17 : lw_okq (⟨"SpareShelves", "goodOnShelves", "(I)I"⟩, 9) := ⟨⟨by decide +kernel, by decide +kernel⟩, List.mem_of_getElem? (i := 10) (by decide +kernel), List.mem_of_getElem? (i := 301) (by decide +kernel), List.mem_of_getElem? (i := 302) (by decide +kernel)⟩
theorem lw_p18 : lw_okq (⟨"SpareShelves", "stoodOfAll", "()I"⟩, 9) := ⟨⟨by decide +kernel, by decide +kernel⟩, List.mem_of_getElem? (i := 10) (by decide +kernel), List.mem_of_getElem? (i := 325) (by decide +kernel), List.mem_of_getElem? (i := 326) (by decide +kernel)⟩
theorem lw_p19 : lw_okq (⟨"SpareShelvesModel", "isKind", "(I)Z"⟩, 30) := ⟨⟨by decide +kernel, by decide +kernel⟩, List.mem_of_getElem? (i := 329) (by decide +kernel), List.mem_of_getElem? (i := 432) (by decide +kernel), List.mem_of_getElem? (i := 433) (by decide +kernel)⟩
theorem lw_p20 : lw_okq (⟨"SpareShelvesModel", "isShelf", "(I)Z"⟩, 30) := ⟨⟨by decide +kernel, by decide +kernel⟩, List.mem_of_getElem? (i := 329) (by decide +kernel), List.mem_of_getElem? (i := 440) (by decide +kernel), List.mem_of_getElem? (i := 441) (by decide +kernel)⟩
theorem lw_p21 : lw_okq (⟨"SpareShelvesModel", "waiting", "(II)I"⟩, 30) := ⟨⟨by decide +kernel, by decide +kernel⟩, List.mem_of_getElem? (i := 329) (by decide +kernel), List.mem_of_getElem? (i := 448) (by decide +kernel), List.mem_of_getElem? (i := 449) (by decide +kernel)⟩
theorem lw_p22 : lw_okq (⟨"SpareShelvesModel", "menderOf", "(II)I"⟩, 30) := ⟨⟨by decide +kernel, by decide +kernel⟩, List.mem_of_getElem? (i := 329) (by decide +kernel), List.mem_of_getElem? (i := 456) (by decide +kernel), List.mem_of_getElem? (i := 457) (by decide +kernel)⟩
theorem lw_p23 : lw_okq (⟨"SpareShelvesModel", "asks", "(IIII)Z"⟩, 30) := ⟨⟨by decide +kernel, by decide +kernel⟩, List.mem_of_getElem? (i := 329) (by decide +kernel), List.mem_of_getElem? (i := 464) (by decide +kernel), List.mem_of_getElem? (i := 465) (by decide +kernel)⟩
theorem lw_p24 : lw_okq (⟨"SpareShelvesModel", "serves", "(IIII)V"⟩, 30) := ⟨⟨by decide +kernel, by decide +kernel⟩, List.mem_of_getElem? (i := 329) (by decide +kernel), List.mem_of_getElem? (i := 468) (by decide +kernel), List.mem_of_getElem? (i := 469) (by decide +kernel)⟩
theorem lw_p25 : lw_okq (⟨"SpareShelvesModel", "due", "(IIIII)V"⟩, 30) := ⟨⟨by decide +kernel, by decide +kernel⟩, List.mem_of_getElem? (i := 329) (by decide +kernel), List.mem_of_getElem? (i := 472) (by decide +kernel), List.mem_of_getElem? (i := 473) (by decide +kernel)⟩
theorem lw_p26 : lw_okq (⟨"SpareShelvesModel", "goesBack", "(III)V"⟩, 30) := ⟨⟨by decide +kernel, by decide +kernel⟩, List.mem_of_getElem? (i := 329) (by decide +kernel), List.mem_of_getElem? (i := 476) (by decide +kernel), List.mem_of_getElem? (i := 477) (by decide +kernel)⟩
theorem lw_p27 : lw_okq (⟨"SpareShelvesModel", "arrives", "(III)V"⟩, 30) := ⟨⟨by decide +kernel, by decide +kernel⟩, List.mem_of_getElem? (i := 329) (by decide +kernel), List.mem_of_getElem? (i := 480) (by decide +kernel), List.mem_of_getElem? (i := 481) (by decide +kernel)⟩
theorem lw_p28 : lw_okq (⟨"SpareShelvesModel", "asksUp", "(III)V"⟩, 30) := ⟨⟨by decide +kernel, by decide +kernel⟩, List.mem_of_getElem? (i := 329) (by decide +kernel), List.mem_of_getElem? (i := 484) (by decide +kernel), List.mem_of_getElem? (i := 485) (by decide +kernel)⟩
theorem lw_p29 : lw_okq (⟨"SpareShelvesModel", "isDone", "()Z"⟩, 30) := ⟨⟨by decide +kernel, by decide +kernel⟩, List.mem_of_getElem? (i := 329) (by decide +kernel), List.mem_of_getElem? (i := 492) (by decide +kernel), List.mem_of_getElem? (i := 493) (by decide +kernel)⟩
theorem lw_p30 : lw_okq (⟨"SpareShelvesModel", "lands", "(II)V"⟩, 30) := ⟨⟨by decide +kernel, by decide +kernel⟩, List.mem_of_getElem? (i := 329) (by decide +kernel), List.mem_of_getElem? (i := 496) (by decide +kernel), List.mem_of_getElem? (i := 497) (by decide +kernel)⟩
theorem lw_p31 : lw_okq (⟨"SpareShelvesModel", "asksOf", "(III)I"⟩, 30) := ⟨⟨by decide +kernel, by decide +kernel⟩, List.mem_of_getElem? (i := 329) (by decide +kernel), List.mem_of_getElem? (i := 508) (by decide +kernel), List.mem_of_getElem? (i := 509) (by decide +kernel)⟩
def lw_privs_2 : List (MethodName × Nat) := [(⟨"SpareShelves", "flowOf", "(II)I"⟩, 9), (⟨"SpareShelves", "goodOnShelves", "(I)I"⟩, 9), (⟨"SpareShelves", "stoodOfAll", "()I"⟩, 9), (⟨"SpareShelvesModel", "isKind", "(I)Z"⟩, 30), (⟨"SpareShelvesModel", "isShelf", "(I)Z"⟩, 30), (⟨"SpareShelvesModel", "waiting", "(II)I"⟩, 30), (⟨"SpareShelvesModel", "menderOf", "(II)I"⟩, 30), (⟨"SpareShelvesModel", "asks", "(IIII)Z"⟩, 30), (⟨"SpareShelvesModel", "serves", "(IIII)V"⟩, 30), (⟨"SpareShelvesModel", "due", "(IIIII)V"⟩, 30), (⟨"SpareShelvesModel", "goesBack", "(III)V"⟩, 30), (⟨"SpareShelvesModel", "arrives", "(III)V"⟩, 30), (⟨"SpareShelvesModel", "asksUp", "(III)V"⟩, 30), (⟨"SpareShelvesModel", "isDone", "()Z"⟩, 30), (⟨"SpareShelvesModel", "lands", "(II)V"⟩, 30), (⟨"SpareShelvesModel", "asksOf", "(III)I"⟩, 30)]
theorem lw_r2 : ∀ q ∈ lw_privs_2, lw_okq q := List.forall_mem_cons.mpr ⟨lw_p16, List.forall_mem_cons.mpr ⟨lw_p17, List.forall_mem_cons.mpr ⟨lw_p18, List.forall_mem_cons.mpr ⟨lw_p19, List.forall_mem_cons.mpr ⟨lw_p20, List.forall_mem_cons.mpr ⟨lw_p21, List.forall_mem_cons.mpr ⟨lw_p22, List.forall_mem_cons.mpr ⟨lw_p23, List.forall_mem_cons.mpr ⟨lw_p24, List.forall_mem_cons.mpr ⟨lw_p25, List.forall_mem_cons.mpr ⟨lw_p26, List.forall_mem_cons.mpr ⟨lw_p27, List.forall_mem_cons.mpr ⟨lw_p28, List.forall_mem_cons.mpr ⟨lw_p29, List.forall_mem_cons.mpr ⟨lw_p30, List.forall_mem_cons.mpr ⟨lw_p31, fun _ h => absurd h List.not_mem_nil⟩⟩⟩⟩⟩⟩⟩⟩⟩⟩⟩⟩⟩⟩⟩⟩
theorem lw_p32 : lw_okq (⟨"SpareShelvesModel", "duesOf", "(III)I"⟩, 30) := ⟨⟨by decide +kernel, by decide +kernel⟩, List.mem_of_getElem? (i := 329) (by decide +kernel), List.mem_of_getElem? (i := 512) (by decide +kernel), List.mem_of_getElem? (i := 513) (by decide +kernel)⟩
theorem lw_p33 : lw_okq (⟨"SpareShelvesModel", "standing", "(I)I"⟩, 30) := ⟨⟨by decide +kernel, by decide +kernel⟩, List.mem_of_getElem? (i := 329) (by decide +kernel), List.mem_of_getElem? (i := 528) (by decide +kernel), List.mem_of_getElem? (i := 529) (by decide +kernel)⟩
theorem lw_p34 : lw_okq (⟨"SpareShelvesModel", "flow", "(II)I"⟩, 30) := ⟨⟨by decide +kernel, by decide +kernel⟩, List.mem_of_getElem? (i := 329) (by decide +kernel), List.mem_of_getElem? (i := 540) (by decide +kernel), List.mem_of_getElem? (i := 541) (by decide +kernel)⟩
theorem lw_p35 : lw_okq (⟨"SpareShelvesModel", "pipeOf", "(II)I"⟩, 30) := ⟨⟨by decide +kernel, by decide +kernel⟩, List.mem_of_getElem? (i := 329) (by decide +kernel), List.mem_of_getElem? (i := 544) (by decide +kernel), List.mem_of_getElem? (i := 545) (by decide +kernel)⟩
theorem lw_p36 : lw_okq (⟨"SpareShelvesModel", "want", "(II)I"⟩, 30) := ⟨⟨by decide +kernel, by decide +kernel⟩, List.mem_of_getElem? (i := 329) (by decide +kernel), List.mem_of_getElem? (i := 548) (by decide +kernel), List.mem_of_getElem? (i := 549) (by decide +kernel)⟩
def lw_privs_3 : List (MethodName × Nat) := [(⟨"SpareShelvesModel", "duesOf", "(III)I"⟩, 30), (⟨"SpareShelvesModel", "standing", "(I)I"⟩, 30), (⟨"SpareShelvesModel", "flow", "(II)I"⟩, 30), (⟨"SpareShelvesModel", "pipeOf", "(II)I"⟩, 30), (⟨"SpareShelvesModel", "want", "(II)I"⟩, 30)]
theorem lw_r3 : ∀ q ∈ lw_privs_3, lw_okq q := List.forall_mem_cons.mpr ⟨lw_p32, List.forall_mem_cons.mpr ⟨lw_p33, List.forall_mem_cons.mpr ⟨lw_p34, List.forall_mem_cons.mpr ⟨lw_p35, List.forall_mem_cons.mpr ⟨lw_p36, fun _ h => absurd h List.not_mem_nil⟩⟩⟩⟩⟩
def lw_privs : List (MethodName × Nat) := lw_privs_1 ++ (lw_privs_2 ++ (lw_privs_3))
def lw_tbl : List Cond := k2_sels lw_privs ++ tables_1
theorem lw_privs_ok : ∀ q ∈ lw_privs, lw_okq q := by
  show ∀ q ∈ lw_privs_1 ++ (lw_privs_2 ++ (lw_privs_3)), lw_okq q
  exact List.forall_mem_append.mpr ⟨lw_r1, List.forall_mem_append.mpr ⟨lw_r2, lw_r3⟩⟩
end
section
/-- the printed names speak of va_AOA, which the kit of this claim lacks: arrays over arrays -/
def va_AOA (ty : FieldType) (U : State) : Prop := (Cond.arrayOver (.array ty)).before #[] U = true
theorem va_AOA.use {ty : FieldType} {A : Array Value} {U : State} (h : va_AOA ty U) : (Cond.arrayOver (.array ty)).before A U = true := h
/-! ===== BEGIN words of one list among another's, by their places ===== -/
theorem goodIn_r {big : List Cond} (ws : List Cond) (ps : List Nat) (hp : ws = ps.filterMap (fun i => big[i]?)) (h : ws.all goodWord = true) : GoodIn big ws := by
  intro w hw
  have h1 := List.all_eq_true.mp h w hw
  rw [hp] at hw
  obtain ⟨i, -, hi⟩ := List.mem_filterMap.mp hw
  have hm : w ∈ big := by first | exact List.mem_of_getElem? hi | exact List.getElem?_mem hi
  exact ⟨hm, good_of_word h1⟩
theorem goodIn_app {big a b : List Cond} (ha : GoodIn big a) (hb : GoodIn big b) : GoodIn big (a ++ b) := fun w h => (List.mem_append.mp h).elim (ha w) (hb w)
theorem goodIn_ca {big a b : List Cond} {c : Cond} (ha : GoodIn big (c :: a)) (hb : GoodIn big b) : GoodIn big (c :: (a ++ b)) := fun w h => (List.mem_cons.mp h).elim (fun e => ha w (List.mem_cons.mpr (Or.inl e))) (fun h => (List.mem_append.mp h).elim (fun h => ha w (List.mem_cons.mpr (Or.inr h))) (hb w))
theorem goodIn_sub {big ws : List Cond} (hm : ∀ w ∈ ws, w ∈ big) (h : ws.all goodWord = true) : GoodIn big ws := fun w hw => ⟨hm w hw, good_of_word (List.all_eq_true.mp h w hw)⟩
/-! ===== END ===== -/

/-! ===== BEGIN new T[n][m]: the outer array a place, the inner ones among the pooled ===== -/
/-- f, but v at every address of l -/
def vr_up {α : Type} (f : Nat → α) (l : List Nat) (v : α) : Nat → α := fun a => if a ∈ l then v else f a
theorem vr_up_in {α : Type} {f : Nat → α} {l : List Nat} {v : α} {a : Nat} (h : a ∈ l) : vr_up f l v a = v := if_pos h
theorem vr_up_ne {α : Type} {f : Nat → α} {l : List Nat} {v : α} {a : Nat} (h : a ∉ l) : vr_up f l v a = f a := if_neg h
theorem vr_rows {L l : List Nat} {f : Nat → va_E} {e : va_E} (h : ∀ a, a ∈ l → a ∉ L) : va_pl L f ++ l.map (fun a => (a, e)) = va_pl (L ++ l) (vr_up f l e) := by
  unfold va_pl
  rw [List.map_append]
  congr 1
  · apply List.map_congr_left
    intro a ha
    rw [vr_up_ne (fun q => h a q ha)]
  · apply List.map_congr_left
    intro a ha
    rw [vr_up_in ha]
theorem vr_lay {X rows : va_W} {x : Nat × va_E} {pl : va_W} {D : va_G} {cl : List vw_C} {H : Heap} (hP : va_P D cl (((X ++ pl) ++ [x]) ++ rows) H) : va_P D cl ((X ++ [x]) ++ (pl ++ rows)) H := by
  rw [List.append_assoc (X ++ pl)] at hP
  have h := va_P.swap hP
  rw [← List.append_assoc X] at h
  have h2 := va_P.swap h
  rw [List.append_assoc (X ++ [x])] at h2
  exact h2
theorem vr_layD {X rows : va_W} {x : Nat × va_E} {pl : va_W} {A : Nat → Prop} (hD : va_D A (((X ++ pl) ++ [x]) ++ rows)) : va_D A ((X ++ [x]) ++ (pl ++ rows)) := by
  rw [List.append_assoc (X ++ pl)] at hD
  have h := va_D.swap hD
  rw [← List.append_assoc X] at h
  have h2 := va_D.swap h
  rw [List.append_assoc (X ++ [x])] at h2
  exact h2
theorem vr_outer (c : ClassId) (N h0 : Nat) : ∀ i : Nat, Jvm.Free.Multi.outerC c N h0 i = arrV c N (fun j => va_rf (if j < i then some (h0 + 1 + j) else none))
  | 0 => by
    show ({ cls := c, slots := Array.replicate N .null, vm := .none } : Cell) = _
    rw [arrV_new]
    refine congrArg (arrV c N) (funext fun j => ?_)
    simp [va_rf]
  | i + 1 => by
    show (Jvm.Free.Multi.outerC c N h0 i).setSlot i (.ref (h0 + 1 + i)) = _
    rw [vr_outer c N h0 i, arrV_store]
    refine congrArg (arrV c N) (funext fun j => ?_)
    by_cases e : j = i
    · subst e
      simp [updV, va_rf]
    · by_cases h : j < i
      · simp [updV, e, h, Nat.lt_succ_of_lt h]
      · simp [updV, e, h, show ¬ j < i + 1 by omega]
section VGM
variable {p : Program} {l : Launch} {e : Env} {R : Room} {s : State} {m : MethodId} {args : Array Value} {below : List Frame} {meth : Method} {c : Code} {H : Heap} {locs : List Loc} {cells slots : Nat} {Q : State → Prop}
variable {cc : ByteArray} {pc : Nat} {ls : Array Slot} {rest : List Value} {D : va_G} {cl : List vw_C} {A : Nat → Prop} {a : Nat} {tys : List (ClassId × FieldType)} {ws : va_W} {H0 : Heap}
theorem va_mna {X : va_W} {L : List Nat} {f : Nat → va_E} {cc : ByteArray} (hexec : p.tables.exec = Jvm.exec) (hb : c.code = cc) {own : String} {index : Nat} {ty : FieldType} {cy : ClassId} (hown : s.vm.findClass own = some m.cls) (hclink : (Cond.classLink own index ("[" ++ (FieldType.array ty).toString)).before args s = true) (hover : va_AOA ty s) (harr : (Cond.arrayClass ty).before args s = true) (hcy : s.vm.findClass (FieldType.array ty).toString = some cy)
    (hK : va_K D cl tys s) (hP : va_P D cl (X ++ va_pl L f) H) (hD : va_D A (X ++ va_pl L f)) (hS : va_S A H0 H locs) (hA : ∀ q, H0.size ≤ q → A q) {n k : Int32} {N' K' : Nat} {z : vp_A} (hn : ¬ n < 0) (hk : ¬ k < 0) (hN : n.toNatClampNeg = N') (hM : k.toNatClampNeg = K')
    (hb1 : N' * 4 ≤ 536870912) (hb2 : K' * componentBytes ty ≤ 536870912) (hb3 : K' ≤ 536870912) (hdf : fits ty (defaultValue ty) = true) (hdd : (defaultValue ty).isDefault = true) (hcells : cells + (1 + N') ≤ R.cells) (hslots : slots + (N' + N' * K') ≤ R.slots) (hz : ∀ c : ClassId, Jvm.Free.Multi.innerC c K' (defaultValue ty) = vp_cell c z) (hdg : decode cc pc = .ok (.multianewarray index 2, 4))
    (kk : ∀ (q : Nat) (r : Nat → Nat) (cA : ClassId) (H1 : Heap), (∀ i j : Nat, i < N' → j < N' → r i = r j → i = j) → (∀ i : Nat, i < N' → r i ∉ L) → va_K D cl (tys ++ [(cA, .array ty)]) s →
      va_P D cl ((X ++ [(q, .inl (cA, N', .inr (.inr (.inr (.inr (fun i => if i < N' then some (r i) else none))))))]) ++ va_pl (L ++ (List.range N').map r) (vr_up f ((List.range N').map r) (.inl (cy, z)))) H1 → va_D A ((X ++ [(q, .inl (cA, N', .inr (.inr (.inr (.inr (fun i => if i < N' then some (r i) else none))))))]) ++ va_pl (L ++ (List.range N').map r) (vr_up f ((List.range N').map r) (.inl (cy, z)))) → va_S A H0 H1 locs →
      W p l e R s m args below meth c H1 locs (cells + 1 + N') (slots + N' + N' * K') Q (F0 m (pc + 4) ls (.ref q :: rest))) : W p l e R s m args below meth c H locs cells slots Q (F0 m pc ls (.int k :: .int n :: rest)) := by
  subst hN
  subst hM
  intro T hT Xs
  obtain ⟨vm₁, cA, comp, -, fA, fC, hO, -, X', step⟩ := Xs.multianewarray2F hexec hown hclink (va_AOA.use hover) harr (g := F0 m pc ls (.int k :: .int n :: rest)) rfl (by rw [hb]; exact hdg) rfl hn hk hb1 hb2 hb3 hdf hdd hcells hslots
  have ec : some cy = some comp := hcy.symm.trans fC
  cases ec
  generalize hF : Jvm.Free.Multi.fill (T.setVm vm₁) cA cy n.toNatClampNeg k.toNatClampNeg (defaultValue ty) n.toNatClampNeg = F at X' step
  have hTh : (T.setVm vm₁).heap = H := hT
  obtain ⟨f1, f2, -, -⟩ := Jvm.Free.Multi.fill_facts (T.setVm vm₁) cA cy n.toNatClampNeg k.toNatClampNeg (defaultValue ty) n.toNatClampNeg
  rw [hF, hTh] at f1 f2
  have hold : ∀ x : Nat, x < H.size → F.heap[x]? = H[x]? := fun x hx => by
    have := Jvm.Free.Multi.fill_old (T.setVm vm₁) cA cy n.toNatClampNeg k.toNatClampNeg (defaultValue ty) (a := x) (by rw [hTh]; exact hx) n.toNatClampNeg
    rw [hF, hTh] at this
    exact this
  have hrow : ∀ j : Nat, j < n.toNatClampNeg → F.heap[H.size + 1 + j]? = some (vp_cell cy z) := fun j hj => by
    have := Jvm.Free.Multi.fill_inner (T.setVm vm₁) cA cy n.toNatClampNeg k.toNatClampNeg (defaultValue ty) n.toNatClampNeg j hj
    rw [hF, hTh, hz] at this
    exact this
  have hout : Jvm.Free.Multi.outerC cA n.toNatClampNeg H.size n.toNatClampNeg = vp_cell cA (n.toNatClampNeg, .inr (.inr (.inr (.inr (fun i => if i < n.toNatClampNeg then some (H.size + 1 + i) else none))))) := by
    rw [vp_cell_q]
    exact vr_outer cA n.toNatClampNeg H.size n.toNatClampNeg
  rw [hout] at f2
  have hlt : ∀ a, a ∈ L → a < H.size := fun a ha => by
    obtain ⟨k9, hk9⟩ := va_pl_get (X := X) (f := f) ha
    exact (hP k9 _ hk9).lt
  have hnl : ∀ i : Nat, i < n.toNatClampNeg → H.size + 1 + i ∉ L := fun i _ h => by
    have := hlt _ h
    omega
  have hnm : ∀ a, a ∈ (List.range n.toNatClampNeg).map (fun i => H.size + 1 + i) → a ∉ L := fun a ha h => by
    obtain ⟨i, -, rfl⟩ := List.mem_map.mp ha
    have := hlt _ h
    omega
  have hP0 : va_P D cl (X ++ va_pl L f) F.heap := hP.kept (fun k9 x hx => hold x.1 ((hP k9 x hx).lt))
  have hP1 : va_P D cl ((X ++ va_pl L f) ++ [(H.size, .inl (cA, n.toNatClampNeg, .inr (.inr (.inr (.inr (fun i => if i < n.toNatClampNeg then some (H.size + 1 + i) else none))))))]) F.heap := hP0.app (fun k9 x hx => by
    have h0 : k9 < 1 := (List.getElem?_eq_some_iff.mp hx).1
    rw [show k9 = 0 by omega] at hx
    cases hx
    exact f2)
  have hP2 : va_P D cl (((X ++ va_pl L f) ++ [(H.size, .inl (cA, n.toNatClampNeg, .inr (.inr (.inr (.inr (fun i => if i < n.toNatClampNeg then some (H.size + 1 + i) else none))))))]) ++ ((List.range n.toNatClampNeg).map (fun i => H.size + 1 + i)).map (fun a => (a, .inl (cy, z)))) F.heap := hP1.app (fun k9 x hx => by
    obtain ⟨a, ha, rfl⟩ := List.mem_map.mp (List.mem_of_getElem? hx)
    obtain ⟨i, hi, rfl⟩ := List.mem_map.mp ha
    exact hrow i (List.mem_range.mp hi))
  have hD2 : va_D A (((X ++ va_pl L f) ++ [(H.size, .inl (cA, n.toNatClampNeg, .inr (.inr (.inr (.inr (fun i => if i < n.toNatClampNeg then some (H.size + 1 + i) else none))))))]) ++ ((List.range n.toNatClampNeg).map (fun i => H.size + 1 + i)).map (fun a => (a, .inl (cy, z)))) := by
    have hD1 := hD.push (e := .inl (cA, n.toNatClampNeg, .inr (.inr (.inr (.inr (fun i => if i < n.toNatClampNeg then some (H.size + 1 + i) else none)))))) hP rfl (hA _ hS.1)
    generalize hW1 : (X ++ va_pl L f) ++ [(H.size, .inl (cA, n.toNatClampNeg, .inr (.inr (.inr (.inr (fun i => if i < n.toNatClampNeg then some (H.size + 1 + i) else none))))))] = W1 at hD1 hP1 ⊢
    have hle : ∀ (k9 : Nat) (x : Nat × va_E), W1[k9]? = some x → x.1 ≤ H.size := fun k9 x hx => by
      rw [← hW1] at hx
      by_cases hl : k9 < (X ++ va_pl L f).length
      · rw [List.getElem?_append_left hl] at hx
        exact Nat.le_of_lt ((hP k9 x hx).lt)
      · rw [List.getElem?_append_right (by omega)] at hx
        have h0 : k9 - (X ++ va_pl L f).length < 1 := (List.getElem?_eq_some_iff.mp hx).1
        rw [show k9 - (X ++ va_pl L f).length = 0 by omega] at hx
        cases hx
        exact Nat.le_refl _
    have hr : ∀ (k9 : Nat) (x : Nat × va_E), (((List.range n.toNatClampNeg).map (fun i => H.size + 1 + i)).map (fun a => ((a, .inl (cy, z)) : Nat × va_E)))[k9]? = some x → x.1 = H.size + 1 + k9 := fun k9 x hx => by
      rw [List.getElem?_map, List.getElem?_map] at hx
      by_cases h9 : k9 < n.toNatClampNeg
      · rw [List.getElem?_range h9] at hx
        cases hx
        rfl
      · have hn0 : (List.range n.toNatClampNeg)[k9]? = none := List.getElem?_eq_none (by rw [List.length_range]; omega)
        rw [hn0] at hx
        cases hx
    refine ⟨fun i j x y hi hj hxy => ?_, fun k9 x hx => ?_⟩
    · by_cases h1 : i < W1.length <;> by_cases h2 : j < W1.length
      · rw [List.getElem?_append_left h1] at hi
        rw [List.getElem?_append_left h2] at hj
        exact hD1.1 i j x y hi hj hxy
      · rw [List.getElem?_append_left h1] at hi
        rw [List.getElem?_append_right (by omega)] at hj
        have := hle _ _ hi
        have := hr _ _ hj
        omega
      · rw [List.getElem?_append_right (by omega)] at hi
        rw [List.getElem?_append_left h2] at hj
        have := hle _ _ hj
        have := hr _ _ hi
        omega
      · rw [List.getElem?_append_right (by omega)] at hi hj
        have := hr _ _ hi
        have := hr _ _ hj
        omega
    · by_cases h1 : k9 < W1.length
      · rw [List.getElem?_append_left h1] at hx
        exact hD1.2 k9 x hx
      · rw [List.getElem?_append_right (by omega)] at hx
        have := hr _ _ hx
        exact hA _ (by have := hS.1; omega)
  have hAr : ArrOfT s cA (.array ty) := fun N9 z9 => by
    obtain ⟨-, k9, hk9, cm9, hkk9⟩ := (hO 0 0 0).1
    exact ⟨(fun q hq => by cases hq), k9, hk9, cm9, hkk9⟩
  have hK2 : va_K D cl (tys ++ [(cA, .array ty)]) s := ⟨hK.1, fun k9 x hx => by
    by_cases hl : k9 < tys.length
    · rw [List.getElem?_append_left hl] at hx
      exact hK.2 k9 x hx
    · rw [List.getElem?_append_right (by omega)] at hx
      have h0 : k9 - tys.length < 1 := (List.getElem?_eq_some_iff.mp hx).1
      rw [show k9 - tys.length = 0 by omega] at hx
      cases hx
      exact ⟨hAr, fA⟩⟩
  obtain ⟨t, a1, b1⟩ := kk H.size (fun i => H.size + 1 + i) cA F.heap (fun i j _ _ h => by have h9 : H.size + 1 + i = H.size + 1 + j := h; omega) hnl hK2 (by rw [← vr_rows hnm]; exact vr_lay hP2) (by rw [← vr_rows hnm]; exact vr_layD hD2) ⟨by rw [f1]; have := hS.1; omega, fun x h1 h2 => (hold x (Nat.lt_of_lt_of_le h1 hS.1)).trans (hS.2.1 x h1 h2), hS.2.2⟩ F rfl X'
  refine ⟨t, step t ?_, b1⟩
  have e : T.heap.size = H.size := by rw [hT]
  rw [e]
  exact a1
end VGM
/-! ===== END ===== -/

/-! ===== BEGIN printed: names, fields, word lists, decode rows ===== -/
def RX0 : String := "SpareShelves$Kinds"
def TX0 : u_T := fun k => match k with
  | 0 => ("SpareShelves$Kinds", "price", "[I", true)
  | 1 => ("SpareShelves$Kinds", "buyDays", "[I", true)
  | 2 => ("SpareShelves$Kinds", "core", "[I", true)
  | 3 => ("SpareShelves$Kinds", "bought", "[I", true)
  | 4 => ("SpareShelves$Kinds", "scrapped", "[I", true)
  | 5 => ("SpareShelves$Kinds", "machinesTook", "[I", true)
  | 6 => ("SpareShelves$Kinds", "mendsTook", "[I", true)
  | 7 => ("SpareShelves$Kinds", "broke", "[I", true)
  | _ => ("SpareShelves$Kinds", "size", "I", false)
def tyX0 : Nat → FieldType := fun k => match k with
  | 0 => .array .int
  | 1 => .array .int
  | 2 => .array .int
  | 3 => .array .int
  | 4 => .array .int
  | 5 => .array .int
  | 6 => .array .int
  | 7 => .array .int
  | _ => .int
abbrev wsX00 : List Cond := u_ws RX0 TX0 9
theorem nmX0 : ∀ a, a < 9 → ∀ b, b < 9 → a ≠ b → (TX0 a).2.1 ≠ (TX0 b).2.1 := by decide +kernel
theorem tyX0_ok : ∀ k, k < 9 → parseFieldDescriptor (TX0 k).2.2.1 = some (tyX0 k) := by decide +kernel
abbrev cX0_init : ByteArray := prog_2_method_1_code
def yX0_init : MethodName := ⟨RX0, "<init>", "()V"⟩
abbrev cX0_has : ByteArray := prog_2_method_2_code
def yX0_has : MethodName := ⟨RX0, "has", "(I)Z"⟩
def RX1 : String := "SpareShelves$Line"
def TX1 : u_T := fun k => match k with
  | 0 => ("SpareShelves$Line", "cells", "[I", false)
  | _ => ("SpareShelves$Line", "size", "I", false)
def tyX1 : Nat → FieldType := fun k => match k with
  | 0 => .array .int
  | _ => .int
abbrev wsX10 : List Cond := u_ws RX1 TX1 2
theorem nmX1 : ∀ a, a < 2 → ∀ b, b < 2 → a ≠ b → (TX1 a).2.1 ≠ (TX1 b).2.1 := by decide +kernel
theorem tyX1_ok : ∀ k, k < 2 → parseFieldDescriptor (TX1 k).2.2.1 = some (tyX1 k) := by decide +kernel
abbrev cX1_init : ByteArray := prog_3_method_1_code
def yX1_init : MethodName := ⟨RX1, "<init>", "()V"⟩
abbrev cX1_add : ByteArray := prog_3_method_2_code
def yX1_add : MethodName := ⟨RX1, "add", "(IIIII)V"⟩
abbrev cX1_drop : ByteArray := prog_3_method_3_code
def yX1_drop : MethodName := ⟨RX1, "drop", "(I)V"⟩
abbrev cX1_read : ByteArray := prog_3_method_4_code
def yX1_read : MethodName := ⟨RX1, "read", "(II)I"⟩
abbrev cX1_find : ByteArray := prog_3_method_5_code
def yX1_find : MethodName := ⟨RX1, "find", "(IIII)I"⟩
abbrev cX1_tally : ByteArray := prog_3_method_6_code
def yX1_tally : MethodName := ⟨RX1, "tally", "(IIII)I"⟩
abbrev cX1_fits : ByteArray := prog_3_method_7_code
def yX1_fits : MethodName := ⟨RX1, "fits", "(IIIII)Z"⟩
def RX2 : String := "SpareShelves$Tree"
def TX2 : u_T := fun k => match k with
  | 0 => ("SpareShelves$Tree", "up", "[I", true)
  | 1 => ("SpareShelves$Tree", "way", "[I", true)
  | 2 => ("SpareShelves$Tree", "mendDays", "[[I", true)
  | _ => ("SpareShelves$Tree", "size", "I", false)
def tyX2 : Nat → FieldType := fun k => match k with
  | 0 => .array .int
  | 1 => .array .int
  | 2 => .array (.array .int)
  | _ => .int
abbrev wsX20 : List Cond := u_ws RX2 TX2 4
theorem nmX2 : ∀ a, a < 4 → ∀ b, b < 4 → a ≠ b → (TX2 a).2.1 ≠ (TX2 b).2.1 := by decide +kernel
theorem tyX2_ok : ∀ k, k < 4 → parseFieldDescriptor (TX2 k).2.2.1 = some (tyX2 k) := by decide +kernel
abbrev cX2_init : ByteArray := prog_4_method_1_code
def yX2_init : MethodName := ⟨RX2, "<init>", "()V"⟩
abbrev cX2_has : ByteArray := prog_4_method_2_code
def yX2_has : MethodName := ⟨RX2, "has", "(I)Z"⟩
abbrev cX2_firstThatMends : ByteArray := prog_4_method_3_code
def yX2_firstThatMends : MethodName := ⟨RX2, "firstThatMends", "(II)I"⟩
abbrev cX2_waysUp : ByteArray := prog_4_method_4_code
def yX2_waysUp : MethodName := ⟨RX2, "waysUp", "(II)I"⟩
def RX3 : String := "SpareShelves"
def TX3 : u_T := fun k => match k with
  | 0 => ("SpareShelves", "kinds", "LSpareShelves$Kinds;", true)
  | 1 => ("SpareShelves", "tree", "LSpareShelves$Tree;", true)
  | 2 => ("SpareShelves", "good", "[[I", true)
  | 3 => ("SpareShelves", "rates", "[[I", true)
  | 4 => ("SpareShelves", "stood", "[I", true)
  | 5 => ("SpareShelves", "flows", "[I", true)
  | 6 => ("SpareShelves", "asks", "LSpareShelves$Line;", true)
  | 7 => ("SpareShelves", "dues", "LSpareShelves$Line;", true)
  | _ => ("SpareShelves", "time", "I", false)
def tyX3 : Nat → FieldType := fun k => match k with
  | 0 => .object "SpareShelves$Kinds"
  | 1 => .object "SpareShelves$Tree"
  | 2 => .array (.array .int)
  | 3 => .array (.array .int)
  | 4 => .array .int
  | 5 => .array .int
  | 6 => .object "SpareShelves$Line"
  | 7 => .object "SpareShelves$Line"
  | _ => .int
abbrev wsX30 : List Cond := u_ws RX3 TX3 9
theorem nmX3 : ∀ a, a < 9 → ∀ b, b < 9 → a ≠ b → (TX3 a).2.1 ≠ (TX3 b).2.1 := by decide +kernel
theorem tyX3_ok : ∀ k, k < 9 → parseFieldDescriptor (TX3 k).2.2.1 = some (tyX3 k) := by decide +kernel
abbrev cX3_init : ByteArray := prog_1_method_1_code
def yX3_init : MethodName := ⟨RX3, "<init>", "()V"⟩
abbrev cX3_kind : ByteArray := prog_1_method_2_code
def yX3_kind : MethodName := ⟨RX3, "kind", "(III)I"⟩
abbrev cX3_shelf : ByteArray := prog_1_method_3_code
def yX3_shelf : MethodName := ⟨RX3, "shelf", "(II)I"⟩
abbrev cX3_mend : ByteArray := prog_1_method_4_code
def yX3_mend : MethodName := ⟨RX3, "mend", "(III)I"⟩
abbrev cX3_stock : ByteArray := prog_1_method_5_code
def yX3_stock : MethodName := ⟨RX3, "stock", "(III)I"⟩
abbrev cX3_rate : ByteArray := prog_1_method_6_code
def yX3_rate : MethodName := ⟨RX3, "rate", "(III)I"⟩
abbrev cX3_fails : ByteArray := prog_1_method_7_code
def yX3_fails : MethodName := ⟨RX3, "fails", "(III)I"⟩
abbrev cX3_days : ByteArray := prog_1_method_8_code
def yX3_days : MethodName := ⟨RX3, "days", "(I)I"⟩
abbrev cX3_choose : ByteArray := prog_1_method_9_code
def yX3_choose : MethodName := ⟨RX3, "choose", "()I"⟩
abbrev cX3_about : ByteArray := prog_1_method_10_code
def yX3_about : MethodName := ⟨RX3, "about", "(III)I"⟩
abbrev cX3_ask : ByteArray := prog_1_method_11_code
def yX3_ask : MethodName := ⟨RX3, "ask", "(IIII)I"⟩
abbrev cX3_all : ByteArray := prog_1_method_12_code
def yX3_all : MethodName := ⟨RX3, "all", "(II)I"⟩
abbrev cX3_field : ByteArray := prog_1_method_13_code
def yX3_field : MethodName := ⟨RX3, "field", "(II)I"⟩
abbrev cX3_mender : ByteArray := prog_1_method_14_code
def yX3_mender : MethodName := ⟨RX3, "mender", "(II)I"⟩
abbrev cX3_pipe : ByteArray := prog_1_method_15_code
def yX3_pipe : MethodName := ⟨RX3, "pipe", "(III)I"⟩
abbrev cX3_worth : ByteArray := prog_1_method_16_code
def yX3_worth : MethodName := ⟨RX3, "worth", "()I"⟩
abbrev cX3_count : ByteArray := prog_1_method_17_code
def yX3_count : MethodName := ⟨RX3, "count", "(I)I"⟩
abbrev cX3_isOutside : ByteArray := prog_1_method_18_code
def yX3_isOutside : MethodName := ⟨RX3, "isOutside", "(III)Z"⟩
abbrev cX3_isNoPlace : ByteArray := prog_1_method_19_code
def yX3_isNoPlace : MethodName := ⟨RX3, "isNoPlace", "(II)Z"⟩
abbrev cX3_mendsThatWait : ByteArray := prog_1_method_20_code
def yX3_mendsThatWait : MethodName := ⟨RX3, "mendsThatWait", "(II)I"⟩
abbrev cX3_takesGood : ByteArray := prog_1_method_21_code
def yX3_takesGood : MethodName := ⟨RX3, "takesGood", "(II)Z"⟩
abbrev cX3_servesMachine : ByteArray := prog_1_method_22_code
def yX3_servesMachine : MethodName := ⟨RX3, "servesMachine", "(II)Z"⟩
abbrev cX3_lands : ByteArray := prog_1_method_23_code
def yX3_lands : MethodName := ⟨RX3, "lands", "(II)V"⟩
abbrev cX3_goesDown : ByteArray := prog_1_method_24_code
def yX3_goesDown : MethodName := ⟨RX3, "goesDown", "(II)V"⟩
abbrev cX3_goesBack : ByteArray := prog_1_method_25_code
def yX3_goesBack : MethodName := ⟨RX3, "goesBack", "(III)V"⟩
abbrev cX3_setsOut : ByteArray := prog_1_method_26_code
def yX3_setsOut : MethodName := ⟨RX3, "setsOut", "(IIII)V"⟩
abbrev cX3_mendBegins : ByteArray := prog_1_method_27_code
def yX3_mendBegins : MethodName := ⟨RX3, "mendBegins", "(II)V"⟩
abbrev cX3_mendGetsCore : ByteArray := prog_1_method_28_code
def yX3_mendGetsCore : MethodName := ⟨RX3, "mendGetsCore", "(III)V"⟩
abbrev cX3_asksGoUp : ByteArray := prog_1_method_29_code
def yX3_asksGoUp : MethodName := ⟨RX3, "asksGoUp", "(III)V"⟩
abbrev cX3_doWhatIsDue : ByteArray := prog_1_method_30_code
def yX3_doWhatIsDue : MethodName := ⟨RX3, "doWhatIsDue", "()V"⟩
abbrev cX3_countStanding : ByteArray := prog_1_method_31_code
def yX3_countStanding : MethodName := ⟨RX3, "countStanding", "()V"⟩
abbrev cX3_stoodOfAll : ByteArray := prog_1_method_32_code
def yX3_stoodOfAll : MethodName := ⟨RX3, "stoodOfAll", "()I"⟩
abbrev cX3_goodOnShelves : ByteArray := prog_1_method_33_code
def yX3_goodOnShelves : MethodName := ⟨RX3, "goodOnShelves", "(I)I"⟩
abbrev cX3_flowOf : ByteArray := prog_1_method_34_code
def yX3_flowOf : MethodName := ⟨RX3, "flowOf", "(II)I"⟩
abbrev cX3_pipeOf : ByteArray := prog_1_method_35_code
def yX3_pipeOf : MethodName := ⟨RX3, "pipeOf", "(II)I"⟩
abbrev cX3_wantOf : ByteArray := prog_1_method_36_code
def yX3_wantOf : MethodName := ⟨RX3, "wantOf", "(II)I"⟩
def RX4 : String := "SpareShelvesModel"
def TX4 : u_T := fun k => match k with
  | 0 => ("SpareShelvesModel", "thrown", "I", false)
  | 1 => ("SpareShelvesModel", "kinds", "I", false)
  | 2 => ("SpareShelvesModel", "price", "[I", true)
  | 3 => ("SpareShelvesModel", "buys", "[I", true)
  | 4 => ("SpareShelvesModel", "core", "[I", true)
  | 5 => ("SpareShelvesModel", "shelves", "I", false)
  | 6 => ("SpareShelvesModel", "up", "[I", true)
  | 7 => ("SpareShelvesModel", "way", "[I", true)
  | 8 => ("SpareShelvesModel", "stood", "[I", true)
  | 9 => ("SpareShelvesModel", "mends", "[I", true)
  | 10 => ("SpareShelvesModel", "good", "[I", true)
  | 11 => ("SpareShelvesModel", "rates", "[I", true)
  | 12 => ("SpareShelvesModel", "time", "I", false)
  | 13 => ("SpareShelvesModel", "bought", "[I", true)
  | 14 => ("SpareShelvesModel", "scrapped", "[I", true)
  | 15 => ("SpareShelvesModel", "taken", "[I", true)
  | 16 => ("SpareShelvesModel", "cores", "[I", true)
  | 17 => ("SpareShelvesModel", "broke", "[I", true)
  | 18 => ("SpareShelvesModel", "asks", "I", false)
  | 19 => ("SpareShelvesModel", "askShelf", "[I", true)
  | 20 => ("SpareShelvesModel", "askKind", "[I", true)
  | 21 => ("SpareShelvesModel", "askBy", "[I", true)
  | 22 => ("SpareShelvesModel", "askOf", "[I", true)
  | 23 => ("SpareShelvesModel", "askSince", "[I", true)
  | 24 => ("SpareShelvesModel", "dues", "I", false)
  | 25 => ("SpareShelvesModel", "dueSort", "[I", true)
  | 26 => ("SpareShelvesModel", "dueShelf", "[I", true)
  | 27 => ("SpareShelvesModel", "dueKind", "[I", true)
  | 28 => ("SpareShelvesModel", "dueHow", "[I", true)
  | _ => ("SpareShelvesModel", "dueTime", "[I", true)
def tyX4 : Nat → FieldType := fun k => match k with
  | 0 => .int
  | 1 => .int
  | 2 => .array .int
  | 3 => .array .int
  | 4 => .array .int
  | 5 => .int
  | 6 => .array .int
  | 7 => .array .int
  | 8 => .array .int
  | 9 => .array .int
  | 10 => .array .int
  | 11 => .array .int
  | 12 => .int
  | 13 => .array .int
  | 14 => .array .int
  | 15 => .array .int
  | 16 => .array .int
  | 17 => .array .int
  | 18 => .int
  | 19 => .array .int
  | 20 => .array .int
  | 21 => .array .int
  | 22 => .array .int
  | 23 => .array .int
  | 24 => .int
  | 25 => .array .int
  | 26 => .array .int
  | 27 => .array .int
  | 28 => .array .int
  | _ => .array .int
abbrev wsX40 : List Cond := u_ws RX4 TX4 30
theorem nmX4 : ∀ a, a < 30 → ∀ b, b < 30 → a ≠ b → (TX4 a).2.1 ≠ (TX4 b).2.1 := by decide +kernel
theorem tyX4_ok : ∀ k, k < 30 → parseFieldDescriptor (TX4 k).2.2.1 = some (tyX4 k) := by decide +kernel
abbrev cX4_in : ByteArray := prog_6_method_2_code
def yX4_in : MethodName := ⟨RX4, "in", "(III)Z"⟩
abbrev cX4_init : ByteArray := prog_6_method_3_code
def yX4_init : MethodName := ⟨RX4, "<init>", "()V"⟩
abbrev cX4_isKind : ByteArray := prog_6_method_4_code
def yX4_isKind : MethodName := ⟨RX4, "isKind", "(I)Z"⟩
abbrev cX4_isShelf : ByteArray := prog_6_method_5_code
def yX4_isShelf : MethodName := ⟨RX4, "isShelf", "(I)Z"⟩
abbrev cX4_kind : ByteArray := prog_6_method_6_code
def yX4_kind : MethodName := ⟨RX4, "kind", "(III)I"⟩
abbrev cX4_shelf : ByteArray := prog_6_method_7_code
def yX4_shelf : MethodName := ⟨RX4, "shelf", "(II)I"⟩
abbrev cX4_mend : ByteArray := prog_6_method_8_code
def yX4_mend : MethodName := ⟨RX4, "mend", "(III)I"⟩
abbrev cX4_menderOf : ByteArray := prog_6_method_9_code
def yX4_menderOf : MethodName := ⟨RX4, "menderOf", "(II)I"⟩
abbrev cX4_mender : ByteArray := prog_6_method_10_code
def yX4_mender : MethodName := ⟨RX4, "mender", "(II)I"⟩
abbrev cX4_waiting : ByteArray := prog_6_method_11_code
def yX4_waiting : MethodName := ⟨RX4, "waiting", "(II)I"⟩
abbrev cX4_due : ByteArray := prog_6_method_12_code
def yX4_due : MethodName := ⟨RX4, "due", "(IIIII)V"⟩
abbrev cX4_serves : ByteArray := prog_6_method_13_code
def yX4_serves : MethodName := ⟨RX4, "serves", "(IIII)V"⟩
abbrev cX4_asks : ByteArray := prog_6_method_14_code
def yX4_asks : MethodName := ⟨RX4, "asks", "(IIII)Z"⟩
abbrev cX4_lands : ByteArray := prog_6_method_15_code
def yX4_lands : MethodName := ⟨RX4, "lands", "(II)V"⟩
abbrev cX4_goesBack : ByteArray := prog_6_method_16_code
def yX4_goesBack : MethodName := ⟨RX4, "goesBack", "(III)V"⟩
abbrev cX4_arrives : ByteArray := prog_6_method_17_code
def yX4_arrives : MethodName := ⟨RX4, "arrives", "(III)V"⟩
abbrev cX4_asksUp : ByteArray := prog_6_method_18_code
def yX4_asksUp : MethodName := ⟨RX4, "asksUp", "(III)V"⟩
abbrev cX4_fails : ByteArray := prog_6_method_19_code
def yX4_fails : MethodName := ⟨RX4, "fails", "(III)I"⟩
abbrev cX4_isDone : ByteArray := prog_6_method_20_code
def yX4_isDone : MethodName := ⟨RX4, "isDone", "()Z"⟩
abbrev cX4_days : ByteArray := prog_6_method_21_code
def yX4_days : MethodName := ⟨RX4, "days", "(I)I"⟩
abbrev cX4_stock : ByteArray := prog_6_method_22_code
def yX4_stock : MethodName := ⟨RX4, "stock", "(III)I"⟩
abbrev cX4_asksOf : ByteArray := prog_6_method_23_code
def yX4_asksOf : MethodName := ⟨RX4, "asksOf", "(III)I"⟩
abbrev cX4_duesOf : ByteArray := prog_6_method_24_code
def yX4_duesOf : MethodName := ⟨RX4, "duesOf", "(III)I"⟩
abbrev cX4_about : ByteArray := prog_6_method_25_code
def yX4_about : MethodName := ⟨RX4, "about", "(III)I"⟩
abbrev cX4_ask : ByteArray := prog_6_method_26_code
def yX4_ask : MethodName := ⟨RX4, "ask", "(IIII)I"⟩
abbrev cX4_all : ByteArray := prog_6_method_27_code
def yX4_all : MethodName := ⟨RX4, "all", "(II)I"⟩
abbrev cX4_standing : ByteArray := prog_6_method_28_code
def yX4_standing : MethodName := ⟨RX4, "standing", "(I)I"⟩
abbrev cX4_field : ByteArray := prog_6_method_29_code
def yX4_field : MethodName := ⟨RX4, "field", "(II)I"⟩
abbrev cX4_rate : ByteArray := prog_6_method_30_code
def yX4_rate : MethodName := ⟨RX4, "rate", "(III)I"⟩
abbrev cX4_flow : ByteArray := prog_6_method_31_code
def yX4_flow : MethodName := ⟨RX4, "flow", "(II)I"⟩
abbrev cX4_pipeOf : ByteArray := prog_6_method_32_code
def yX4_pipeOf : MethodName := ⟨RX4, "pipeOf", "(II)I"⟩
abbrev cX4_want : ByteArray := prog_6_method_33_code
def yX4_want : MethodName := ⟨RX4, "want", "(II)I"⟩
abbrev cX4_pipe : ByteArray := prog_6_method_34_code
def yX4_pipe : MethodName := ⟨RX4, "pipe", "(III)I"⟩
abbrev cX4_choose : ByteArray := prog_6_method_35_code
def yX4_choose : MethodName := ⟨RX4, "choose", "()I"⟩
abbrev cX4_worth : ByteArray := prog_6_method_36_code
def yX4_worth : MethodName := ⟨RX4, "worth", "()I"⟩
abbrev cX4_count : ByteArray := prog_6_method_37_code
def yX4_count : MethodName := ⟨RX4, "count", "(I)I"⟩
def RJx8e188 : String := "java/lang/Cloneable"
def TJx8e188 : u_T := fun k => match k with
  | _ => ("", "", "", false)
def tyJx8e188 : Nat → FieldType := fun k => match k with
  | _ => .int
abbrev wsJx8e1880 : List Cond := u_ws RJx8e188 TJx8e188 0
theorem nmJx8e188 : ∀ a, a < 0 → ∀ b, b < 0 → a ≠ b → (TJx8e188 a).2.1 ≠ (TJx8e188 b).2.1 := by decide +kernel
theorem tyJx8e188_ok : ∀ k, k < 0 → parseFieldDescriptor (TJx8e188 k).2.2.1 = some (tyJx8e188 k) := by decide +kernel
def RJ9 : String := "java/lang/Math"
def TJ9 : u_T := fun k => match k with
  | _ => ("", "", "", false)
def tyJ9 : Nat → FieldType := fun k => match k with
  | _ => .int
abbrev wsJ90 : List Cond := u_ws RJ9 TJ9 0
theorem nmJ9 : ∀ a, a < 0 → ∀ b, b < 0 → a ≠ b → (TJ9 a).2.1 ≠ (TJ9 b).2.1 := by decide +kernel
theorem tyJ9_ok : ∀ k, k < 0 → parseFieldDescriptor (TJ9 k).2.2.1 = some (tyJ9 k) := by decide +kernel
abbrev cJ9_max_7cf53 : ByteArray := prog_8_method_65_code
def yJ9_max_7cf53 : MethodName := ⟨RJ9, "max", "(II)I"⟩
abbrev cJ9_min_7cf53 : ByteArray := prog_8_method_69_code
def yJ9_min_7cf53 : MethodName := ⟨RJ9, "min", "(II)I"⟩
def RJ10 : String := "java/lang/System"
def TJ10 : u_T := fun k => match k with
  | _ => ("", "", "", false)
def tyJ10 : Nat → FieldType := fun k => match k with
  | _ => .int
abbrev wsJ100 : List Cond := u_ws RJ10 TJ10 0
theorem nmJ10 : ∀ a, a < 0 → ∀ b, b < 0 → a ≠ b → (TJ10 a).2.1 ≠ (TJ10 b).2.1 := by decide +kernel
theorem tyJ10_ok : ∀ k, k < 0 → parseFieldDescriptor (TJ10 k).2.2.1 = some (tyJ10 k) := by decide +kernel
def RJ7 : String := "java/util/Arrays"
def TJ7 : u_T := fun k => match k with
  | _ => ("", "", "", false)
def tyJ7 : Nat → FieldType := fun k => match k with
  | _ => .int
abbrev wsJ70 : List Cond := u_ws RJ7 TJ7 0
theorem nmJ7 : ∀ a, a < 0 → ∀ b, b < 0 → a ≠ b → (TJ7 a).2.1 ≠ (TJ7 b).2.1 := by decide +kernel
theorem tyJ7_ok : ∀ k, k < 0 → parseFieldDescriptor (TJ7 k).2.2.1 = some (tyJ7 k) := by decide +kernel
abbrev cJ7_copyOf_59c91 : ByteArray := prog_10_method_123_code
def yJ7_copyOf_59c91 : MethodName := ⟨RJ7, "copyOf", "([II)[I"⟩
def RL : String := "SpareShelvesLaw"
abbrev cL_law : ByteArray := code
def yL_law : MethodName := ⟨RL, "law", "([I)Z"⟩
def wsX0_init : List Cond := .code yX0_init cX0_init 1 none :: ([.methodLink RX0 3 objectInit, .instanceMethod objectInit, .code objectInit ⟨#[0xb1]⟩ 1 none, .arrayClass .int, .fieldLink RX0 9 "SpareShelves$Kinds" "price" "[I", .fieldLink RX0 15 "SpareShelves$Kinds" "buyDays" "[I", .fieldLink RX0 18 "SpareShelves$Kinds" "core" "[I", .fieldLink RX0 21 "SpareShelves$Kinds" "bought" "[I", .fieldLink RX0 24 "SpareShelves$Kinds" "scrapped" "[I", .fieldLink RX0 27 "SpareShelves$Kinds" "machinesTook" "[I", .fieldLink RX0 30 "SpareShelves$Kinds" "mendsTook" "[I", .fieldLink RX0 33 "SpareShelves$Kinds" "broke" "[I", .fieldLink RX0 36 "SpareShelves$Kinds" "size" "I"] ++ wsX00)
def wsX0_has : List Cond := .code yX0_has cX0_has 2 (some .boolean) :: ([.fieldLink RX0 36 "SpareShelves$Kinds" "size" "I"] ++ wsX00)
def wsX1_init : List Cond := .code yX1_init cX1_init 1 none :: ([.methodLink RX1 3 objectInit, .instanceMethod objectInit, .code objectInit ⟨#[0xb1]⟩ 1 none, .arrayClass .int, .fieldLink RX1 11 "SpareShelves$Line" "cells" "[I", .fieldLink RX1 15 "SpareShelves$Line" "size" "I"] ++ wsX10)
def wsJ7_copyOf_59c91 : List Cond := .code yJ7_copyOf_59c91 cJ7_copyOf_59c91 3 (some (.array .int)) :: ([.methodLink RJ7 316 ⟨"[I", "clone", "()Ljava/lang/Object;"⟩, .sameMethod "[I" "java/lang/Object" "clone" "()Ljava/lang/Object;", .native ⟨"java/lang/Object", "clone", "()Ljava/lang/Object;"⟩, .instanceMethod ⟨"java/lang/Object", "clone", "()Ljava/lang/Object;"⟩, .selects "[I" ⟨"[I", "clone", "()Ljava/lang/Object;"⟩ ⟨"java/lang/Object", "clone", "()Ljava/lang/Object;"⟩, .classLink RJ7 317 "[I", .arrayClass .int, .methodLink RJ7 304 Lib.Math.min.name, .static Lib.Math.min.name, .initialized "java/lang/Math", .code Lib.Math.min.name Lib.Math.min.code 2 (some .int), .methodLink RJ7 150 arraycopyName, .native arraycopyName, .static arraycopyName, .initialized "java/lang/System"])
def wsX1_add : List Cond := .code yX1_add cX1_add 7 none :: ([.fieldLink RX1 15 "SpareShelves$Line" "size" "I", .fieldLink RX1 11 "SpareShelves$Line" "cells" "[I", .methodLink RX1 19 yJ7_copyOf_59c91, .static yJ7_copyOf_59c91, .initialized RJ7, .code yJ7_copyOf_59c91 cJ7_copyOf_59c91 3 (some (.array .int)), .methodLink RJ7 316 ⟨"[I", "clone", "()Ljava/lang/Object;"⟩, .sameMethod "[I" "java/lang/Object" "clone" "()Ljava/lang/Object;", .native ⟨"java/lang/Object", "clone", "()Ljava/lang/Object;"⟩, .instanceMethod ⟨"java/lang/Object", "clone", "()Ljava/lang/Object;"⟩, .selects "[I" ⟨"[I", "clone", "()Ljava/lang/Object;"⟩ ⟨"java/lang/Object", "clone", "()Ljava/lang/Object;"⟩, .classLink RJ7 317 "[I", .arrayClass .int, .methodLink RJ7 304 Lib.Math.min.name, .static Lib.Math.min.name, .initialized "java/lang/Math", .code Lib.Math.min.name Lib.Math.min.code 2 (some .int), .methodLink RJ7 150 arraycopyName, .native arraycopyName, .static arraycopyName, .initialized "java/lang/System"] ++ wsX10)
def wsX1_drop : List Cond := .code yX1_drop cX1_drop 4 none :: ([.fieldLink RX1 15 "SpareShelves$Line" "size" "I", .fieldLink RX1 11 "SpareShelves$Line" "cells" "[I", .methodLink RX1 25 arraycopyName, .native arraycopyName, .static arraycopyName, .initialized "java/lang/System"] ++ wsX10)
def wsX1_read : List Cond := .code yX1_read cX1_read 3 (some .int) :: ([.fieldLink RX1 15 "SpareShelves$Line" "size" "I", .fieldLink RX1 11 "SpareShelves$Line" "cells" "[I"] ++ wsX10)
def wsX1_fits : List Cond := .code yX1_fits cX1_fits 7 (some .boolean) :: ([.fieldLink RX1 11 "SpareShelves$Line" "cells" "[I"] ++ wsX10)
def wsX1_find : List Cond := .code yX1_find cX1_find 7 (some .int) :: ([.fieldLink RX1 15 "SpareShelves$Line" "size" "I", .methodLink RX1 31 yX1_fits, .instanceMethod yX1_fits, .selects RX1 yX1_fits yX1_fits, .initialized RX1, .code yX1_fits cX1_fits 7 (some .boolean), .fieldLink RX1 11 "SpareShelves$Line" "cells" "[I"] ++ wsX10)
def wsX1_tally : List Cond := .code yX1_tally cX1_tally 7 (some .int) :: ([.fieldLink RX1 15 "SpareShelves$Line" "size" "I", .methodLink RX1 31 yX1_fits, .instanceMethod yX1_fits, .selects RX1 yX1_fits yX1_fits, .initialized RX1, .code yX1_fits cX1_fits 7 (some .boolean), .fieldLink RX1 11 "SpareShelves$Line" "cells" "[I"] ++ wsX10)
def wsX2_init : List Cond := .code yX2_init cX2_init 1 none :: ([.methodLink RX2 3 objectInit, .instanceMethod objectInit, .code objectInit ⟨#[0xb1]⟩ 1 none, .arrayClass .int, .fieldLink RX2 9 "SpareShelves$Tree" "up" "[I", .fieldLink RX2 15 "SpareShelves$Tree" "way" "[I", .classLink RX2 18 "[[I", .fieldLink RX2 20 "SpareShelves$Tree" "mendDays" "[[I", .fieldLink RX2 23 "SpareShelves$Tree" "size" "I"] ++ wsX20)
def wsX2_has : List Cond := .code yX2_has cX2_has 2 (some .boolean) :: ([.fieldLink RX2 23 "SpareShelves$Tree" "size" "I"] ++ wsX20)
def wsX2_firstThatMends : List Cond := .code yX2_firstThatMends cX2_firstThatMends 5 (some .int) :: ([.fieldLink RX2 20 "SpareShelves$Tree" "mendDays" "[[I", .fieldLink RX2 9 "SpareShelves$Tree" "up" "[I"] ++ wsX20)
def wsX2_waysUp : List Cond := .code yX2_waysUp cX2_waysUp 6 (some .int) :: ([.fieldLink RX2 15 "SpareShelves$Tree" "way" "[I", .fieldLink RX2 9 "SpareShelves$Tree" "up" "[I"] ++ wsX20)
def wsX3_init_r1 : List Cond := [Cond.methodLink RX3 1 objectInit, Cond.instanceMethod objectInit, Cond.code objectInit ⟨#[0xb1]⟩ 1 none, Cond.classLink RX3 7 RX0, Cond.instantiable RX0 9, Cond.initialized RX0, Cond.fieldLink RX3 10 "SpareShelves" "kinds" "LSpareShelves$Kinds;", Cond.classLink RX3 16 RX2, Cond.instantiable RX2 4, Cond.initialized RX2, Cond.fieldLink RX3 19 "SpareShelves" "tree" "LSpareShelves$Tree;", Cond.classLink RX3 23 "[[I", Cond.arrayClass .int, Cond.fieldLink RX3 25 "SpareShelves" "good" "[[I", Cond.fieldLink RX3 28 "SpareShelves" "rates" "[[I", Cond.fieldLink RX3 31 "SpareShelves" "stood" "[I", Cond.fieldLink RX3 35 "SpareShelves" "flows" "[I", Cond.classLink RX3 38 RX1, Cond.instantiable RX1 2, Cond.initialized RX1, Cond.fieldLink RX3 41 "SpareShelves" "asks" "LSpareShelves$Line;", Cond.fieldLink RX3 45 "SpareShelves" "dues" "LSpareShelves$Line;", Cond.fieldLink RX3 48 "SpareShelves" "time" "I", Cond.instanceMethod yX0_init]
def wsX3_init_r2 : List Cond := [Cond.code yX0_init cX0_init 1 none, Cond.methodLink RX0 3 objectInit, Cond.fieldLink RX0 9 "SpareShelves$Kinds" "price" "[I", Cond.fieldLink RX0 15 "SpareShelves$Kinds" "buyDays" "[I", Cond.fieldLink RX0 18 "SpareShelves$Kinds" "core" "[I", Cond.fieldLink RX0 21 "SpareShelves$Kinds" "bought" "[I", Cond.fieldLink RX0 24 "SpareShelves$Kinds" "scrapped" "[I", Cond.fieldLink RX0 27 "SpareShelves$Kinds" "machinesTook" "[I", Cond.fieldLink RX0 30 "SpareShelves$Kinds" "mendsTook" "[I", Cond.fieldLink RX0 33 "SpareShelves$Kinds" "broke" "[I", Cond.fieldLink RX0 36 "SpareShelves$Kinds" "size" "I", Cond.methodLink RX3 18 yX2_init, Cond.instanceMethod yX2_init, Cond.code yX2_init cX2_init 1 none, Cond.methodLink RX2 3 objectInit, Cond.fieldLink RX2 9 "SpareShelves$Tree" "up" "[I", Cond.fieldLink RX2 15 "SpareShelves$Tree" "way" "[I", Cond.classLink RX2 18 "[[I", Cond.fieldLink RX2 20 "SpareShelves$Tree" "mendDays" "[[I", Cond.fieldLink RX2 23 "SpareShelves$Tree" "size" "I", Cond.instanceMethod yX1_init, Cond.code yX1_init cX1_init 1 none, Cond.methodLink RX1 3 objectInit, Cond.fieldLink RX1 11 "SpareShelves$Line" "cells" "[I"]
def wsX3_init_r3 : List Cond := [Cond.fieldLink RX1 15 "SpareShelves$Line" "size" "I"]
def wsX3_init : List Cond := .code yX3_init cX3_init 1 none :: ((wsX3_init_r1 ++ (wsX3_init_r2 ++ wsX3_init_r3)) ++ wsX00 ++ wsX30 ++ wsX20 ++ wsX10)
def wsX3_isOutside : List Cond := .code yX3_isOutside cX3_isOutside 3 (some .boolean) :: ([])
def wsX3_kind : List Cond := .code yX3_kind cX3_kind 5 (some .int) :: ([.fieldLink RX3 10 "SpareShelves" "kinds" "LSpareShelves$Kinds;", .fieldLink RX3 60 "SpareShelves$Kinds" "size" "I", .fieldLink RX3 63 "SpareShelves$Kinds" "price" "[I", .fieldLink RX3 66 "SpareShelves$Kinds" "buyDays" "[I", .fieldLink RX3 69 "SpareShelves$Kinds" "core" "[I", .fieldLink RX3 19 "SpareShelves" "tree" "LSpareShelves$Tree;", .fieldLink RX3 72 "SpareShelves$Tree" "mendDays" "[[I", .methodLink RX3 52 yX3_isOutside, .static yX3_isOutside, .initialized RX3, .code yX3_isOutside cX3_isOutside 3 (some .boolean), .methodLink RX3 56 yX0_has, .instanceMethod yX0_has, .selects RX0 yX0_has yX0_has, .initialized RX0, .code yX0_has cX0_has 2 (some .boolean), .fieldLink RX0 36 "SpareShelves$Kinds" "size" "I"] ++ wsX30 ++ wsX00 ++ wsX20)
def wsX3_shelf : List Cond := .code yX3_shelf cX3_shelf 4 (some .int) :: ([.fieldLink RX3 19 "SpareShelves" "tree" "LSpareShelves$Tree;", .fieldLink RX3 76 "SpareShelves$Tree" "size" "I", .fieldLink RX3 77 "SpareShelves$Tree" "up" "[I", .fieldLink RX3 80 "SpareShelves$Tree" "way" "[I", .methodLink RX3 75 yX2_has, .instanceMethod yX2_has, .selects RX2 yX2_has yX2_has, .initialized RX2, .code yX2_has cX2_has 2 (some .boolean), .fieldLink RX2 23 "SpareShelves$Tree" "size" "I", .methodLink RX3 52 yX3_isOutside, .static yX3_isOutside, .initialized RX3, .code yX3_isOutside cX3_isOutside 3 (some .boolean)] ++ wsX30 ++ wsX20)
def wsX3_isNoPlace : List Cond := .code yX3_isNoPlace cX3_isNoPlace 3 (some .boolean) :: ([.fieldLink RX3 19 "SpareShelves" "tree" "LSpareShelves$Tree;", .fieldLink RX3 10 "SpareShelves" "kinds" "LSpareShelves$Kinds;", .methodLink RX3 75 yX2_has, .instanceMethod yX2_has, .selects RX2 yX2_has yX2_has, .initialized RX2, .code yX2_has cX2_has 2 (some .boolean), .fieldLink RX2 23 "SpareShelves$Tree" "size" "I", .methodLink RX3 56 yX0_has, .instanceMethod yX0_has, .selects RX0 yX0_has yX0_has, .initialized RX0, .code yX0_has cX0_has 2 (some .boolean), .fieldLink RX0 36 "SpareShelves$Kinds" "size" "I"] ++ wsX30 ++ wsX20 ++ wsX00)
def wsX3_mendsThatWait : List Cond := .code yX3_mendsThatWait cX3_mendsThatWait 3 (some .int) :: ([.fieldLink RX3 41 "SpareShelves" "asks" "LSpareShelves$Line;", .methodLink RX3 131 yX1_tally, .instanceMethod yX1_tally, .selects RX1 yX1_tally yX1_tally, .initialized RX1, .code yX1_tally cX1_tally 7 (some .int), .fieldLink RX1 15 "SpareShelves$Line" "size" "I", .methodLink RX1 31 yX1_fits, .instanceMethod yX1_fits, .selects RX1 yX1_fits yX1_fits, .code yX1_fits cX1_fits 7 (some .boolean), .fieldLink RX1 11 "SpareShelves$Line" "cells" "[I"] ++ wsX30 ++ wsX10)
def wsX3_mend_r1 : List Cond := [Cond.fieldLink RX3 19 "SpareShelves" "tree" "LSpareShelves$Tree;", Cond.fieldLink RX3 72 "SpareShelves$Tree" "mendDays" "[[I", Cond.methodLink RX3 83 yX3_isNoPlace, Cond.instanceMethod yX3_isNoPlace, Cond.selects RX3 yX3_isNoPlace yX3_isNoPlace, Cond.initialized RX3, Cond.code yX3_isNoPlace cX3_isNoPlace 3 (some .boolean), Cond.fieldLink RX3 10 "SpareShelves" "kinds" "LSpareShelves$Kinds;", Cond.methodLink RX3 75 yX2_has, Cond.instanceMethod yX2_has, Cond.selects RX2 yX2_has yX2_has, Cond.initialized RX2, Cond.code yX2_has cX2_has 2 (some .boolean), Cond.fieldLink RX2 23 "SpareShelves$Tree" "size" "I", Cond.methodLink RX3 56 yX0_has, Cond.instanceMethod yX0_has, Cond.selects RX0 yX0_has yX0_has, Cond.initialized RX0, Cond.code yX0_has cX0_has 2 (some .boolean), Cond.fieldLink RX0 36 "SpareShelves$Kinds" "size" "I", Cond.methodLink RX3 52 yX3_isOutside, Cond.static yX3_isOutside, Cond.code yX3_isOutside cX3_isOutside 3 (some .boolean), Cond.methodLink RX3 87 yX3_mendsThatWait]
def wsX3_mend_r2 : List Cond := [Cond.instanceMethod yX3_mendsThatWait, Cond.selects RX3 yX3_mendsThatWait yX3_mendsThatWait, Cond.code yX3_mendsThatWait cX3_mendsThatWait 3 (some .int), Cond.fieldLink RX3 41 "SpareShelves" "asks" "LSpareShelves$Line;", Cond.methodLink RX3 131 yX1_tally, Cond.instanceMethod yX1_tally, Cond.selects RX1 yX1_tally yX1_tally, Cond.initialized RX1, Cond.code yX1_tally cX1_tally 7 (some .int), Cond.fieldLink RX1 15 "SpareShelves$Line" "size" "I", Cond.methodLink RX1 31 yX1_fits, Cond.instanceMethod yX1_fits, Cond.selects RX1 yX1_fits yX1_fits, Cond.code yX1_fits cX1_fits 7 (some .boolean), Cond.fieldLink RX1 11 "SpareShelves$Line" "cells" "[I"]
def wsX3_mend : List Cond := .code yX3_mend cX3_mend 5 (some .int) :: ((wsX3_mend_r1 ++ wsX3_mend_r2) ++ wsX30 ++ wsX20 ++ wsX00 ++ wsX10)
def wsX3_goesDown_r1 : List Cond := [Cond.fieldLink RX3 45 "SpareShelves" "dues" "LSpareShelves$Line;", Cond.fieldLink RX3 48 "SpareShelves" "time" "I", Cond.fieldLink RX3 19 "SpareShelves" "tree" "LSpareShelves$Tree;", Cond.fieldLink RX3 80 "SpareShelves$Tree" "way" "[I", Cond.methodLink RX3 112 yX1_add, Cond.instanceMethod yX1_add, Cond.selects RX1 yX1_add yX1_add, Cond.initialized RX1, Cond.code yX1_add cX1_add 7 none, Cond.fieldLink RX1 15 "SpareShelves$Line" "size" "I", Cond.fieldLink RX1 11 "SpareShelves$Line" "cells" "[I", Cond.methodLink RX1 19 yJ7_copyOf_59c91, Cond.static yJ7_copyOf_59c91, Cond.initialized RJ7, Cond.code yJ7_copyOf_59c91 cJ7_copyOf_59c91 3 (some (.array .int)), Cond.methodLink RJ7 316 ⟨"[I", "clone", "()Ljava/lang/Object;"⟩, Cond.sameMethod "[I" "java/lang/Object" "clone" "()Ljava/lang/Object;", Cond.native ⟨"java/lang/Object", "clone", "()Ljava/lang/Object;"⟩, Cond.instanceMethod ⟨"java/lang/Object", "clone", "()Ljava/lang/Object;"⟩, Cond.selects "[I" ⟨"[I", "clone", "()Ljava/lang/Object;"⟩ ⟨"java/lang/Object", "clone", "()Ljava/lang/Object;"⟩, Cond.classLink RJ7 317 "[I", Cond.arrayClass .int, Cond.methodLink RJ7 304 Lib.Math.min.name, Cond.static Lib.Math.min.name]
def wsX3_goesDown_r2 : List Cond := [Cond.initialized "java/lang/Math", Cond.code Lib.Math.min.name Lib.Math.min.code 2 (some .int), Cond.methodLink RJ7 150 arraycopyName, Cond.native arraycopyName, Cond.static arraycopyName, Cond.initialized "java/lang/System"]
def wsX3_goesDown : List Cond := .code yX3_goesDown cX3_goesDown 3 none :: ((wsX3_goesDown_r1 ++ wsX3_goesDown_r2) ++ wsX30 ++ wsX20 ++ wsX10)
def wsX3_mendBegins_r1 : List Cond := [Cond.fieldLink RX3 45 "SpareShelves" "dues" "LSpareShelves$Line;", Cond.fieldLink RX3 48 "SpareShelves" "time" "I", Cond.fieldLink RX3 19 "SpareShelves" "tree" "LSpareShelves$Tree;", Cond.fieldLink RX3 72 "SpareShelves$Tree" "mendDays" "[[I", Cond.methodLink RX3 112 yX1_add, Cond.instanceMethod yX1_add, Cond.selects RX1 yX1_add yX1_add, Cond.initialized RX1, Cond.code yX1_add cX1_add 7 none, Cond.fieldLink RX1 15 "SpareShelves$Line" "size" "I", Cond.fieldLink RX1 11 "SpareShelves$Line" "cells" "[I", Cond.methodLink RX1 19 yJ7_copyOf_59c91, Cond.static yJ7_copyOf_59c91, Cond.initialized RJ7, Cond.code yJ7_copyOf_59c91 cJ7_copyOf_59c91 3 (some (.array .int)), Cond.methodLink RJ7 316 ⟨"[I", "clone", "()Ljava/lang/Object;"⟩, Cond.sameMethod "[I" "java/lang/Object" "clone" "()Ljava/lang/Object;", Cond.native ⟨"java/lang/Object", "clone", "()Ljava/lang/Object;"⟩, Cond.instanceMethod ⟨"java/lang/Object", "clone", "()Ljava/lang/Object;"⟩, Cond.selects "[I" ⟨"[I", "clone", "()Ljava/lang/Object;"⟩ ⟨"java/lang/Object", "clone", "()Ljava/lang/Object;"⟩, Cond.classLink RJ7 317 "[I", Cond.arrayClass .int, Cond.methodLink RJ7 304 Lib.Math.min.name, Cond.static Lib.Math.min.name]
def wsX3_mendBegins_r2 : List Cond := [Cond.initialized "java/lang/Math", Cond.code Lib.Math.min.name Lib.Math.min.code 2 (some .int), Cond.methodLink RJ7 150 arraycopyName, Cond.native arraycopyName, Cond.static arraycopyName, Cond.initialized "java/lang/System"]
def wsX3_mendBegins : List Cond := .code yX3_mendBegins cX3_mendBegins 3 none :: ((wsX3_mendBegins_r1 ++ wsX3_mendBegins_r2) ++ wsX30 ++ wsX20 ++ wsX10)
def wsX3_setsOut_r1 : List Cond := [Cond.fieldLink RX3 45 "SpareShelves" "dues" "LSpareShelves$Line;", Cond.fieldLink RX3 48 "SpareShelves" "time" "I", Cond.fieldLink RX3 19 "SpareShelves" "tree" "LSpareShelves$Tree;", Cond.methodLink RX3 181 yX2_waysUp, Cond.instanceMethod yX2_waysUp, Cond.selects RX2 yX2_waysUp yX2_waysUp, Cond.initialized RX2, Cond.code yX2_waysUp cX2_waysUp 6 (some .int), Cond.fieldLink RX2 15 "SpareShelves$Tree" "way" "[I", Cond.fieldLink RX2 9 "SpareShelves$Tree" "up" "[I", Cond.methodLink RX3 112 yX1_add, Cond.instanceMethod yX1_add, Cond.selects RX1 yX1_add yX1_add, Cond.initialized RX1, Cond.code yX1_add cX1_add 7 none, Cond.fieldLink RX1 15 "SpareShelves$Line" "size" "I", Cond.fieldLink RX1 11 "SpareShelves$Line" "cells" "[I", Cond.methodLink RX1 19 yJ7_copyOf_59c91, Cond.static yJ7_copyOf_59c91, Cond.initialized RJ7, Cond.code yJ7_copyOf_59c91 cJ7_copyOf_59c91 3 (some (.array .int)), Cond.methodLink RJ7 316 ⟨"[I", "clone", "()Ljava/lang/Object;"⟩, Cond.sameMethod "[I" "java/lang/Object" "clone" "()Ljava/lang/Object;", Cond.native ⟨"java/lang/Object", "clone", "()Ljava/lang/Object;"⟩]
def wsX3_setsOut_r2 : List Cond := [Cond.instanceMethod ⟨"java/lang/Object", "clone", "()Ljava/lang/Object;"⟩, Cond.selects "[I" ⟨"[I", "clone", "()Ljava/lang/Object;"⟩ ⟨"java/lang/Object", "clone", "()Ljava/lang/Object;"⟩, Cond.classLink RJ7 317 "[I", Cond.arrayClass .int, Cond.methodLink RJ7 304 Lib.Math.min.name, Cond.static Lib.Math.min.name, Cond.initialized "java/lang/Math", Cond.code Lib.Math.min.name Lib.Math.min.code 2 (some .int), Cond.methodLink RJ7 150 arraycopyName, Cond.native arraycopyName, Cond.static arraycopyName, Cond.initialized "java/lang/System"]
def wsX3_setsOut : List Cond := .code yX3_setsOut cX3_setsOut 5 none :: ((wsX3_setsOut_r1 ++ wsX3_setsOut_r2) ++ wsX30 ++ wsX20 ++ wsX10)
def wsX3_takesGood : List Cond := .code yX3_takesGood cX3_takesGood 3 (some .boolean) :: ([.fieldLink RX3 25 "SpareShelves" "good" "[[I"] ++ wsX30)
def wsX3_asksGoUp_r1 : List Cond := [Cond.fieldLink RX3 19 "SpareShelves" "tree" "LSpareShelves$Tree;", Cond.fieldLink RX3 77 "SpareShelves$Tree" "up" "[I", Cond.fieldLink RX3 41 "SpareShelves" "asks" "LSpareShelves$Line;", Cond.fieldLink RX3 48 "SpareShelves" "time" "I", Cond.methodLink RX3 161 yX3_takesGood, Cond.instanceMethod yX3_takesGood, Cond.selects RX3 yX3_takesGood yX3_takesGood, Cond.initialized RX3, Cond.code yX3_takesGood cX3_takesGood 3 (some .boolean), Cond.fieldLink RX3 25 "SpareShelves" "good" "[[I", Cond.methodLink RX3 168 yX3_goesDown, Cond.instanceMethod yX3_goesDown, Cond.selects RX3 yX3_goesDown yX3_goesDown, Cond.code yX3_goesDown cX3_goesDown 3 none, Cond.fieldLink RX3 45 "SpareShelves" "dues" "LSpareShelves$Line;", Cond.fieldLink RX3 80 "SpareShelves$Tree" "way" "[I", Cond.methodLink RX3 112 yX1_add, Cond.instanceMethod yX1_add, Cond.selects RX1 yX1_add yX1_add, Cond.initialized RX1, Cond.code yX1_add cX1_add 7 none, Cond.fieldLink RX1 15 "SpareShelves$Line" "size" "I", Cond.fieldLink RX1 11 "SpareShelves$Line" "cells" "[I", Cond.methodLink RX1 19 yJ7_copyOf_59c91]
def wsX3_asksGoUp_r2 : List Cond := [Cond.static yJ7_copyOf_59c91, Cond.initialized RJ7, Cond.code yJ7_copyOf_59c91 cJ7_copyOf_59c91 3 (some (.array .int)), Cond.methodLink RJ7 316 ⟨"[I", "clone", "()Ljava/lang/Object;"⟩, Cond.sameMethod "[I" "java/lang/Object" "clone" "()Ljava/lang/Object;", Cond.native ⟨"java/lang/Object", "clone", "()Ljava/lang/Object;"⟩, Cond.instanceMethod ⟨"java/lang/Object", "clone", "()Ljava/lang/Object;"⟩, Cond.selects "[I" ⟨"[I", "clone", "()Ljava/lang/Object;"⟩ ⟨"java/lang/Object", "clone", "()Ljava/lang/Object;"⟩, Cond.classLink RJ7 317 "[I", Cond.arrayClass .int, Cond.methodLink RJ7 304 Lib.Math.min.name, Cond.static Lib.Math.min.name, Cond.initialized "java/lang/Math", Cond.code Lib.Math.min.name Lib.Math.min.code 2 (some .int), Cond.methodLink RJ7 150 arraycopyName, Cond.native arraycopyName, Cond.static arraycopyName, Cond.initialized "java/lang/System"]
def wsX3_asksGoUp : List Cond := .code yX3_asksGoUp cX3_asksGoUp 7 none :: ((wsX3_asksGoUp_r1 ++ wsX3_asksGoUp_r2) ++ wsX30 ++ wsX20 ++ wsX10)
def wsX3_mendGetsCore_r1 : List Cond := [Cond.fieldLink RX3 10 "SpareShelves" "kinds" "LSpareShelves$Kinds;", Cond.fieldLink RX3 148 "SpareShelves$Kinds" "mendsTook" "[I", Cond.fieldLink RX3 102 "SpareShelves$Kinds" "broke" "[I", Cond.fieldLink RX3 19 "SpareShelves" "tree" "LSpareShelves$Tree;", Cond.methodLink RX3 119 yX2_firstThatMends, Cond.instanceMethod yX2_firstThatMends, Cond.selects RX2 yX2_firstThatMends yX2_firstThatMends, Cond.initialized RX2, Cond.code yX2_firstThatMends cX2_firstThatMends 5 (some .int), Cond.fieldLink RX2 20 "SpareShelves$Tree" "mendDays" "[[I", Cond.fieldLink RX2 9 "SpareShelves$Tree" "up" "[I", Cond.methodLink RX3 178 yX3_mendBegins, Cond.instanceMethod yX3_mendBegins, Cond.selects RX3 yX3_mendBegins yX3_mendBegins, Cond.initialized RX3, Cond.code yX3_mendBegins cX3_mendBegins 3 none, Cond.fieldLink RX3 45 "SpareShelves" "dues" "LSpareShelves$Line;", Cond.fieldLink RX3 48 "SpareShelves" "time" "I", Cond.fieldLink RX3 72 "SpareShelves$Tree" "mendDays" "[[I", Cond.methodLink RX3 112 yX1_add, Cond.instanceMethod yX1_add, Cond.selects RX1 yX1_add yX1_add, Cond.initialized RX1, Cond.code yX1_add cX1_add 7 none]
def wsX3_mendGetsCore_r2 : List Cond := [Cond.fieldLink RX1 15 "SpareShelves$Line" "size" "I", Cond.fieldLink RX1 11 "SpareShelves$Line" "cells" "[I", Cond.methodLink RX1 19 yJ7_copyOf_59c91, Cond.static yJ7_copyOf_59c91, Cond.initialized RJ7, Cond.code yJ7_copyOf_59c91 cJ7_copyOf_59c91 3 (some (.array .int)), Cond.methodLink RJ7 316 ⟨"[I", "clone", "()Ljava/lang/Object;"⟩, Cond.sameMethod "[I" "java/lang/Object" "clone" "()Ljava/lang/Object;", Cond.native ⟨"java/lang/Object", "clone", "()Ljava/lang/Object;"⟩, Cond.instanceMethod ⟨"java/lang/Object", "clone", "()Ljava/lang/Object;"⟩, Cond.selects "[I" ⟨"[I", "clone", "()Ljava/lang/Object;"⟩ ⟨"java/lang/Object", "clone", "()Ljava/lang/Object;"⟩, Cond.classLink RJ7 317 "[I", Cond.arrayClass .int, Cond.methodLink RJ7 304 Lib.Math.min.name, Cond.static Lib.Math.min.name, Cond.initialized "java/lang/Math", Cond.code Lib.Math.min.name Lib.Math.min.code 2 (some .int), Cond.methodLink RJ7 150 arraycopyName, Cond.native arraycopyName, Cond.static arraycopyName, Cond.initialized "java/lang/System", Cond.methodLink RX3 174 yX3_setsOut, Cond.instanceMethod yX3_setsOut, Cond.selects RX3 yX3_setsOut yX3_setsOut]
def wsX3_mendGetsCore_r3 : List Cond := [Cond.code yX3_setsOut cX3_setsOut 5 none, Cond.methodLink RX3 181 yX2_waysUp, Cond.instanceMethod yX2_waysUp, Cond.selects RX2 yX2_waysUp yX2_waysUp, Cond.code yX2_waysUp cX2_waysUp 6 (some .int), Cond.fieldLink RX2 15 "SpareShelves$Tree" "way" "[I", Cond.methodLink RX3 108 yX3_asksGoUp, Cond.instanceMethod yX3_asksGoUp, Cond.selects RX3 yX3_asksGoUp yX3_asksGoUp, Cond.code yX3_asksGoUp cX3_asksGoUp 7 none, Cond.fieldLink RX3 77 "SpareShelves$Tree" "up" "[I", Cond.fieldLink RX3 41 "SpareShelves" "asks" "LSpareShelves$Line;", Cond.methodLink RX3 161 yX3_takesGood, Cond.instanceMethod yX3_takesGood, Cond.selects RX3 yX3_takesGood yX3_takesGood, Cond.code yX3_takesGood cX3_takesGood 3 (some .boolean), Cond.fieldLink RX3 25 "SpareShelves" "good" "[[I", Cond.methodLink RX3 168 yX3_goesDown, Cond.instanceMethod yX3_goesDown, Cond.selects RX3 yX3_goesDown yX3_goesDown, Cond.code yX3_goesDown cX3_goesDown 3 none, Cond.fieldLink RX3 80 "SpareShelves$Tree" "way" "[I"]
def wsX3_mendGetsCore : List Cond := .code yX3_mendGetsCore cX3_mendGetsCore 5 none :: ((wsX3_mendGetsCore_r1 ++ (wsX3_mendGetsCore_r2 ++ wsX3_mendGetsCore_r3)) ++ wsX30 ++ wsX00 ++ wsX20 ++ wsX10)
def wsX3_lands_r1 : List Cond := [Cond.fieldLink RX3 41 "SpareShelves" "asks" "LSpareShelves$Line;", Cond.fieldLink RX3 25 "SpareShelves" "good" "[[I", Cond.fieldLink RX3 10 "SpareShelves" "kinds" "LSpareShelves$Kinds;", Cond.fieldLink RX3 145 "SpareShelves$Kinds" "machinesTook" "[I", Cond.methodLink RX3 135 yX1_find, Cond.instanceMethod yX1_find, Cond.selects RX1 yX1_find yX1_find, Cond.initialized RX1, Cond.code yX1_find cX1_find 7 (some .int), Cond.fieldLink RX1 15 "SpareShelves$Line" "size" "I", Cond.methodLink RX1 31 yX1_fits, Cond.instanceMethod yX1_fits, Cond.selects RX1 yX1_fits yX1_fits, Cond.code yX1_fits cX1_fits 7 (some .boolean), Cond.fieldLink RX1 11 "SpareShelves$Line" "cells" "[I", Cond.methodLink RX3 138 yX1_read, Cond.instanceMethod yX1_read, Cond.selects RX1 yX1_read yX1_read, Cond.code yX1_read cX1_read 3 (some .int), Cond.methodLink RX3 164 yX1_drop, Cond.instanceMethod yX1_drop, Cond.selects RX1 yX1_drop yX1_drop, Cond.code yX1_drop cX1_drop 4 none, Cond.methodLink RX1 25 arraycopyName]
def wsX3_lands_r2 : List Cond := [Cond.native arraycopyName, Cond.static arraycopyName, Cond.initialized "java/lang/System", Cond.methodLink RX3 168 yX3_goesDown, Cond.instanceMethod yX3_goesDown, Cond.selects RX3 yX3_goesDown yX3_goesDown, Cond.initialized RX3, Cond.code yX3_goesDown cX3_goesDown 3 none, Cond.fieldLink RX3 45 "SpareShelves" "dues" "LSpareShelves$Line;", Cond.fieldLink RX3 48 "SpareShelves" "time" "I", Cond.fieldLink RX3 19 "SpareShelves" "tree" "LSpareShelves$Tree;", Cond.fieldLink RX3 80 "SpareShelves$Tree" "way" "[I", Cond.methodLink RX3 112 yX1_add, Cond.instanceMethod yX1_add, Cond.selects RX1 yX1_add yX1_add, Cond.code yX1_add cX1_add 7 none, Cond.methodLink RX1 19 yJ7_copyOf_59c91, Cond.static yJ7_copyOf_59c91, Cond.initialized RJ7, Cond.code yJ7_copyOf_59c91 cJ7_copyOf_59c91 3 (some (.array .int)), Cond.methodLink RJ7 316 ⟨"[I", "clone", "()Ljava/lang/Object;"⟩, Cond.sameMethod "[I" "java/lang/Object" "clone" "()Ljava/lang/Object;", Cond.native ⟨"java/lang/Object", "clone", "()Ljava/lang/Object;"⟩, Cond.instanceMethod ⟨"java/lang/Object", "clone", "()Ljava/lang/Object;"⟩]
def wsX3_lands_r3 : List Cond := [Cond.selects "[I" ⟨"[I", "clone", "()Ljava/lang/Object;"⟩ ⟨"java/lang/Object", "clone", "()Ljava/lang/Object;"⟩, Cond.classLink RJ7 317 "[I", Cond.arrayClass .int, Cond.methodLink RJ7 304 Lib.Math.min.name, Cond.static Lib.Math.min.name, Cond.initialized "java/lang/Math", Cond.code Lib.Math.min.name Lib.Math.min.code 2 (some .int), Cond.methodLink RJ7 150 arraycopyName, Cond.methodLink RX3 171 yX3_mendGetsCore, Cond.instanceMethod yX3_mendGetsCore, Cond.selects RX3 yX3_mendGetsCore yX3_mendGetsCore, Cond.code yX3_mendGetsCore cX3_mendGetsCore 5 none, Cond.fieldLink RX3 148 "SpareShelves$Kinds" "mendsTook" "[I", Cond.fieldLink RX3 102 "SpareShelves$Kinds" "broke" "[I", Cond.methodLink RX3 119 yX2_firstThatMends, Cond.instanceMethod yX2_firstThatMends, Cond.selects RX2 yX2_firstThatMends yX2_firstThatMends, Cond.initialized RX2, Cond.code yX2_firstThatMends cX2_firstThatMends 5 (some .int), Cond.fieldLink RX2 20 "SpareShelves$Tree" "mendDays" "[[I", Cond.fieldLink RX2 9 "SpareShelves$Tree" "up" "[I", Cond.methodLink RX3 178 yX3_mendBegins, Cond.instanceMethod yX3_mendBegins, Cond.selects RX3 yX3_mendBegins yX3_mendBegins]
def wsX3_lands_r4 : List Cond := [Cond.code yX3_mendBegins cX3_mendBegins 3 none, Cond.fieldLink RX3 72 "SpareShelves$Tree" "mendDays" "[[I", Cond.methodLink RX3 174 yX3_setsOut, Cond.instanceMethod yX3_setsOut, Cond.selects RX3 yX3_setsOut yX3_setsOut, Cond.code yX3_setsOut cX3_setsOut 5 none, Cond.methodLink RX3 181 yX2_waysUp, Cond.instanceMethod yX2_waysUp, Cond.selects RX2 yX2_waysUp yX2_waysUp, Cond.code yX2_waysUp cX2_waysUp 6 (some .int), Cond.fieldLink RX2 15 "SpareShelves$Tree" "way" "[I", Cond.methodLink RX3 108 yX3_asksGoUp, Cond.instanceMethod yX3_asksGoUp, Cond.selects RX3 yX3_asksGoUp yX3_asksGoUp, Cond.code yX3_asksGoUp cX3_asksGoUp 7 none, Cond.fieldLink RX3 77 "SpareShelves$Tree" "up" "[I", Cond.methodLink RX3 161 yX3_takesGood, Cond.instanceMethod yX3_takesGood, Cond.selects RX3 yX3_takesGood yX3_takesGood, Cond.code yX3_takesGood cX3_takesGood 3 (some .boolean)]
def wsX3_lands : List Cond := .code yX3_lands cX3_lands 6 none :: ((wsX3_lands_r1 ++ (wsX3_lands_r2 ++ (wsX3_lands_r3 ++ wsX3_lands_r4))) ++ wsX30 ++ wsX00 ++ wsX10 ++ wsX20)
def wsX3_stock_r1 : List Cond := [Cond.fieldLink RX3 10 "SpareShelves" "kinds" "LSpareShelves$Kinds;", Cond.fieldLink RX3 91 "SpareShelves$Kinds" "bought" "[I", Cond.fieldLink RX3 25 "SpareShelves" "good" "[[I", Cond.methodLink RX3 83 yX3_isNoPlace, Cond.instanceMethod yX3_isNoPlace, Cond.selects RX3 yX3_isNoPlace yX3_isNoPlace, Cond.initialized RX3, Cond.code yX3_isNoPlace cX3_isNoPlace 3 (some .boolean), Cond.fieldLink RX3 19 "SpareShelves" "tree" "LSpareShelves$Tree;", Cond.methodLink RX3 75 yX2_has, Cond.instanceMethod yX2_has, Cond.selects RX2 yX2_has yX2_has, Cond.initialized RX2, Cond.code yX2_has cX2_has 2 (some .boolean), Cond.fieldLink RX2 23 "SpareShelves$Tree" "size" "I", Cond.methodLink RX3 56 yX0_has, Cond.instanceMethod yX0_has, Cond.selects RX0 yX0_has yX0_has, Cond.initialized RX0, Cond.code yX0_has cX0_has 2 (some .boolean), Cond.fieldLink RX0 36 "SpareShelves$Kinds" "size" "I", Cond.methodLink RX3 52 yX3_isOutside, Cond.static yX3_isOutside, Cond.code yX3_isOutside cX3_isOutside 3 (some .boolean)]
def wsX3_stock_r2 : List Cond := [Cond.methodLink RX3 94 yX3_lands, Cond.instanceMethod yX3_lands, Cond.selects RX3 yX3_lands yX3_lands, Cond.code yX3_lands cX3_lands 6 none, Cond.fieldLink RX3 41 "SpareShelves" "asks" "LSpareShelves$Line;", Cond.fieldLink RX3 145 "SpareShelves$Kinds" "machinesTook" "[I", Cond.methodLink RX3 135 yX1_find, Cond.instanceMethod yX1_find, Cond.selects RX1 yX1_find yX1_find, Cond.initialized RX1, Cond.code yX1_find cX1_find 7 (some .int), Cond.fieldLink RX1 15 "SpareShelves$Line" "size" "I", Cond.methodLink RX1 31 yX1_fits, Cond.instanceMethod yX1_fits, Cond.selects RX1 yX1_fits yX1_fits, Cond.code yX1_fits cX1_fits 7 (some .boolean), Cond.fieldLink RX1 11 "SpareShelves$Line" "cells" "[I", Cond.methodLink RX3 138 yX1_read, Cond.instanceMethod yX1_read, Cond.selects RX1 yX1_read yX1_read, Cond.code yX1_read cX1_read 3 (some .int), Cond.methodLink RX3 164 yX1_drop, Cond.instanceMethod yX1_drop, Cond.selects RX1 yX1_drop yX1_drop]
def wsX3_stock_r3 : List Cond := [Cond.code yX1_drop cX1_drop 4 none, Cond.methodLink RX1 25 arraycopyName, Cond.native arraycopyName, Cond.static arraycopyName, Cond.initialized "java/lang/System", Cond.methodLink RX3 168 yX3_goesDown, Cond.instanceMethod yX3_goesDown, Cond.selects RX3 yX3_goesDown yX3_goesDown, Cond.code yX3_goesDown cX3_goesDown 3 none, Cond.fieldLink RX3 45 "SpareShelves" "dues" "LSpareShelves$Line;", Cond.fieldLink RX3 48 "SpareShelves" "time" "I", Cond.fieldLink RX3 80 "SpareShelves$Tree" "way" "[I", Cond.methodLink RX3 112 yX1_add, Cond.instanceMethod yX1_add, Cond.selects RX1 yX1_add yX1_add, Cond.code yX1_add cX1_add 7 none, Cond.methodLink RX1 19 yJ7_copyOf_59c91, Cond.static yJ7_copyOf_59c91, Cond.initialized RJ7, Cond.code yJ7_copyOf_59c91 cJ7_copyOf_59c91 3 (some (.array .int)), Cond.methodLink RJ7 316 ⟨"[I", "clone", "()Ljava/lang/Object;"⟩, Cond.sameMethod "[I" "java/lang/Object" "clone" "()Ljava/lang/Object;", Cond.native ⟨"java/lang/Object", "clone", "()Ljava/lang/Object;"⟩, Cond.instanceMethod ⟨"java/lang/Object", "clone", "()Ljava/lang/Object;"⟩]
def wsX3_stock_r4 : List Cond := [Cond.selects "[I" ⟨"[I", "clone", "()Ljava/lang/Object;"⟩ ⟨"java/lang/Object", "clone", "()Ljava/lang/Object;"⟩, Cond.classLink RJ7 317 "[I", Cond.arrayClass .int, Cond.methodLink RJ7 304 Lib.Math.min.name, Cond.static Lib.Math.min.name, Cond.initialized "java/lang/Math", Cond.code Lib.Math.min.name Lib.Math.min.code 2 (some .int), Cond.methodLink RJ7 150 arraycopyName, Cond.methodLink RX3 171 yX3_mendGetsCore, Cond.instanceMethod yX3_mendGetsCore, Cond.selects RX3 yX3_mendGetsCore yX3_mendGetsCore, Cond.code yX3_mendGetsCore cX3_mendGetsCore 5 none, Cond.fieldLink RX3 148 "SpareShelves$Kinds" "mendsTook" "[I", Cond.fieldLink RX3 102 "SpareShelves$Kinds" "broke" "[I", Cond.methodLink RX3 119 yX2_firstThatMends, Cond.instanceMethod yX2_firstThatMends, Cond.selects RX2 yX2_firstThatMends yX2_firstThatMends, Cond.code yX2_firstThatMends cX2_firstThatMends 5 (some .int), Cond.fieldLink RX2 20 "SpareShelves$Tree" "mendDays" "[[I", Cond.fieldLink RX2 9 "SpareShelves$Tree" "up" "[I", Cond.methodLink RX3 178 yX3_mendBegins, Cond.instanceMethod yX3_mendBegins, Cond.selects RX3 yX3_mendBegins yX3_mendBegins, Cond.code yX3_mendBegins cX3_mendBegins 3 none]
def wsX3_stock_r5 : List Cond := [Cond.fieldLink RX3 72 "SpareShelves$Tree" "mendDays" "[[I", Cond.methodLink RX3 174 yX3_setsOut, Cond.instanceMethod yX3_setsOut, Cond.selects RX3 yX3_setsOut yX3_setsOut, Cond.code yX3_setsOut cX3_setsOut 5 none, Cond.methodLink RX3 181 yX2_waysUp, Cond.instanceMethod yX2_waysUp, Cond.selects RX2 yX2_waysUp yX2_waysUp, Cond.code yX2_waysUp cX2_waysUp 6 (some .int), Cond.fieldLink RX2 15 "SpareShelves$Tree" "way" "[I", Cond.methodLink RX3 108 yX3_asksGoUp, Cond.instanceMethod yX3_asksGoUp, Cond.selects RX3 yX3_asksGoUp yX3_asksGoUp, Cond.code yX3_asksGoUp cX3_asksGoUp 7 none, Cond.fieldLink RX3 77 "SpareShelves$Tree" "up" "[I", Cond.methodLink RX3 161 yX3_takesGood, Cond.instanceMethod yX3_takesGood, Cond.selects RX3 yX3_takesGood yX3_takesGood, Cond.code yX3_takesGood cX3_takesGood 3 (some .boolean)]
def wsX3_stock : List Cond := .code yX3_stock cX3_stock 5 (some .int) :: ((wsX3_stock_r1 ++ (wsX3_stock_r2 ++ (wsX3_stock_r3 ++ (wsX3_stock_r4 ++ wsX3_stock_r5)))) ++ wsX30 ++ wsX00 ++ wsX20 ++ wsX10)
def wsX3_rate : List Cond := .code yX3_rate cX3_rate 5 (some .int) :: ([.fieldLink RX3 28 "SpareShelves" "rates" "[[I", .methodLink RX3 83 yX3_isNoPlace, .instanceMethod yX3_isNoPlace, .selects RX3 yX3_isNoPlace yX3_isNoPlace, .initialized RX3, .code yX3_isNoPlace cX3_isNoPlace 3 (some .boolean), .fieldLink RX3 19 "SpareShelves" "tree" "LSpareShelves$Tree;", .fieldLink RX3 10 "SpareShelves" "kinds" "LSpareShelves$Kinds;", .methodLink RX3 75 yX2_has, .instanceMethod yX2_has, .selects RX2 yX2_has yX2_has, .initialized RX2, .code yX2_has cX2_has 2 (some .boolean), .fieldLink RX2 23 "SpareShelves$Tree" "size" "I", .methodLink RX3 56 yX0_has, .instanceMethod yX0_has, .selects RX0 yX0_has yX0_has, .initialized RX0, .code yX0_has cX0_has 2 (some .boolean), .fieldLink RX0 36 "SpareShelves$Kinds" "size" "I", .methodLink RX3 52 yX3_isOutside, .static yX3_isOutside, .code yX3_isOutside cX3_isOutside 3 (some .boolean)] ++ wsX30 ++ wsX20 ++ wsX00)
def wsX3_servesMachine_r1 : List Cond := [Cond.fieldLink RX3 10 "SpareShelves" "kinds" "LSpareShelves$Kinds;", Cond.fieldLink RX3 145 "SpareShelves$Kinds" "machinesTook" "[I", Cond.fieldLink RX3 41 "SpareShelves" "asks" "LSpareShelves$Line;", Cond.fieldLink RX3 48 "SpareShelves" "time" "I", Cond.methodLink RX3 161 yX3_takesGood, Cond.instanceMethod yX3_takesGood, Cond.selects RX3 yX3_takesGood yX3_takesGood, Cond.initialized RX3, Cond.code yX3_takesGood cX3_takesGood 3 (some .boolean), Cond.fieldLink RX3 25 "SpareShelves" "good" "[[I", Cond.methodLink RX3 112 yX1_add, Cond.instanceMethod yX1_add, Cond.selects RX1 yX1_add yX1_add, Cond.initialized RX1, Cond.code yX1_add cX1_add 7 none, Cond.fieldLink RX1 15 "SpareShelves$Line" "size" "I", Cond.fieldLink RX1 11 "SpareShelves$Line" "cells" "[I", Cond.methodLink RX1 19 yJ7_copyOf_59c91, Cond.static yJ7_copyOf_59c91, Cond.initialized RJ7, Cond.code yJ7_copyOf_59c91 cJ7_copyOf_59c91 3 (some (.array .int)), Cond.methodLink RJ7 316 ⟨"[I", "clone", "()Ljava/lang/Object;"⟩, Cond.sameMethod "[I" "java/lang/Object" "clone" "()Ljava/lang/Object;", Cond.native ⟨"java/lang/Object", "clone", "()Ljava/lang/Object;"⟩]
def wsX3_servesMachine_r2 : List Cond := [Cond.instanceMethod ⟨"java/lang/Object", "clone", "()Ljava/lang/Object;"⟩, Cond.selects "[I" ⟨"[I", "clone", "()Ljava/lang/Object;"⟩ ⟨"java/lang/Object", "clone", "()Ljava/lang/Object;"⟩, Cond.classLink RJ7 317 "[I", Cond.arrayClass .int, Cond.methodLink RJ7 304 Lib.Math.min.name, Cond.static Lib.Math.min.name, Cond.initialized "java/lang/Math", Cond.code Lib.Math.min.name Lib.Math.min.code 2 (some .int), Cond.methodLink RJ7 150 arraycopyName, Cond.native arraycopyName, Cond.static arraycopyName, Cond.initialized "java/lang/System"]
def wsX3_servesMachine : List Cond := .code yX3_servesMachine cX3_servesMachine 3 (some .boolean) :: ((wsX3_servesMachine_r1 ++ wsX3_servesMachine_r2) ++ wsX30 ++ wsX00 ++ wsX10)
def wsX3_goesBack_r1 : List Cond := [Cond.fieldLink RX3 19 "SpareShelves" "tree" "LSpareShelves$Tree;", Cond.fieldLink RX3 10 "SpareShelves" "kinds" "LSpareShelves$Kinds;", Cond.fieldLink RX3 69 "SpareShelves$Kinds" "core" "[I", Cond.fieldLink RX3 41 "SpareShelves" "asks" "LSpareShelves$Line;", Cond.fieldLink RX3 48 "SpareShelves" "time" "I", Cond.methodLink RX3 119 yX2_firstThatMends, Cond.instanceMethod yX2_firstThatMends, Cond.selects RX2 yX2_firstThatMends yX2_firstThatMends, Cond.initialized RX2, Cond.code yX2_firstThatMends cX2_firstThatMends 5 (some .int), Cond.fieldLink RX2 20 "SpareShelves$Tree" "mendDays" "[[I", Cond.fieldLink RX2 9 "SpareShelves$Tree" "up" "[I", Cond.methodLink RX3 174 yX3_setsOut, Cond.instanceMethod yX3_setsOut, Cond.selects RX3 yX3_setsOut yX3_setsOut, Cond.initialized RX3, Cond.code yX3_setsOut cX3_setsOut 5 none, Cond.fieldLink RX3 45 "SpareShelves" "dues" "LSpareShelves$Line;", Cond.methodLink RX3 181 yX2_waysUp, Cond.instanceMethod yX2_waysUp, Cond.selects RX2 yX2_waysUp yX2_waysUp, Cond.code yX2_waysUp cX2_waysUp 6 (some .int), Cond.fieldLink RX2 15 "SpareShelves$Tree" "way" "[I", Cond.methodLink RX3 112 yX1_add]
def wsX3_goesBack_r2 : List Cond := [Cond.instanceMethod yX1_add, Cond.selects RX1 yX1_add yX1_add, Cond.initialized RX1, Cond.code yX1_add cX1_add 7 none, Cond.fieldLink RX1 15 "SpareShelves$Line" "size" "I", Cond.fieldLink RX1 11 "SpareShelves$Line" "cells" "[I", Cond.methodLink RX1 19 yJ7_copyOf_59c91, Cond.static yJ7_copyOf_59c91, Cond.initialized RJ7, Cond.code yJ7_copyOf_59c91 cJ7_copyOf_59c91 3 (some (.array .int)), Cond.methodLink RJ7 316 ⟨"[I", "clone", "()Ljava/lang/Object;"⟩, Cond.sameMethod "[I" "java/lang/Object" "clone" "()Ljava/lang/Object;", Cond.native ⟨"java/lang/Object", "clone", "()Ljava/lang/Object;"⟩, Cond.instanceMethod ⟨"java/lang/Object", "clone", "()Ljava/lang/Object;"⟩, Cond.selects "[I" ⟨"[I", "clone", "()Ljava/lang/Object;"⟩ ⟨"java/lang/Object", "clone", "()Ljava/lang/Object;"⟩, Cond.classLink RJ7 317 "[I", Cond.arrayClass .int, Cond.methodLink RJ7 304 Lib.Math.min.name, Cond.static Lib.Math.min.name, Cond.initialized "java/lang/Math", Cond.code Lib.Math.min.name Lib.Math.min.code 2 (some .int), Cond.methodLink RJ7 150 arraycopyName, Cond.native arraycopyName, Cond.static arraycopyName]
def wsX3_goesBack_r3 : List Cond := [Cond.initialized "java/lang/System", Cond.methodLink RX3 178 yX3_mendBegins, Cond.instanceMethod yX3_mendBegins, Cond.selects RX3 yX3_mendBegins yX3_mendBegins, Cond.code yX3_mendBegins cX3_mendBegins 3 none, Cond.fieldLink RX3 72 "SpareShelves$Tree" "mendDays" "[[I", Cond.methodLink RX3 161 yX3_takesGood, Cond.instanceMethod yX3_takesGood, Cond.selects RX3 yX3_takesGood yX3_takesGood, Cond.code yX3_takesGood cX3_takesGood 3 (some .boolean), Cond.fieldLink RX3 25 "SpareShelves" "good" "[[I", Cond.methodLink RX3 171 yX3_mendGetsCore, Cond.instanceMethod yX3_mendGetsCore, Cond.selects RX3 yX3_mendGetsCore yX3_mendGetsCore, Cond.code yX3_mendGetsCore cX3_mendGetsCore 5 none, Cond.fieldLink RX3 148 "SpareShelves$Kinds" "mendsTook" "[I", Cond.fieldLink RX3 102 "SpareShelves$Kinds" "broke" "[I", Cond.methodLink RX3 108 yX3_asksGoUp, Cond.instanceMethod yX3_asksGoUp, Cond.selects RX3 yX3_asksGoUp yX3_asksGoUp, Cond.code yX3_asksGoUp cX3_asksGoUp 7 none, Cond.fieldLink RX3 77 "SpareShelves$Tree" "up" "[I", Cond.methodLink RX3 168 yX3_goesDown, Cond.instanceMethod yX3_goesDown]
def wsX3_goesBack_r4 : List Cond := [Cond.selects RX3 yX3_goesDown yX3_goesDown, Cond.code yX3_goesDown cX3_goesDown 3 none, Cond.fieldLink RX3 80 "SpareShelves$Tree" "way" "[I"]
def wsX3_goesBack : List Cond := .code yX3_goesBack cX3_goesBack 6 none :: ((wsX3_goesBack_r1 ++ (wsX3_goesBack_r2 ++ (wsX3_goesBack_r3 ++ wsX3_goesBack_r4))) ++ wsX30 ++ wsX00 ++ wsX20 ++ wsX10)
def wsX3_fails_r1 : List Cond := [Cond.fieldLink RX3 10 "SpareShelves" "kinds" "LSpareShelves$Kinds;", Cond.fieldLink RX3 69 "SpareShelves$Kinds" "core" "[I", Cond.fieldLink RX3 41 "SpareShelves" "asks" "LSpareShelves$Line;", Cond.fieldLink RX3 98 "SpareShelves$Line" "size" "I", Cond.fieldLink RX3 45 "SpareShelves" "dues" "LSpareShelves$Line;", Cond.fieldLink RX3 102 "SpareShelves$Kinds" "broke" "[I", Cond.fieldLink RX3 105 "SpareShelves$Kinds" "scrapped" "[I", Cond.fieldLink RX3 91 "SpareShelves$Kinds" "bought" "[I", Cond.fieldLink RX3 48 "SpareShelves" "time" "I", Cond.fieldLink RX3 66 "SpareShelves$Kinds" "buyDays" "[I", Cond.fieldLink RX3 19 "SpareShelves" "tree" "LSpareShelves$Tree;", Cond.methodLink RX3 83 yX3_isNoPlace, Cond.instanceMethod yX3_isNoPlace, Cond.selects RX3 yX3_isNoPlace yX3_isNoPlace, Cond.initialized RX3, Cond.code yX3_isNoPlace cX3_isNoPlace 3 (some .boolean), Cond.methodLink RX3 75 yX2_has, Cond.instanceMethod yX2_has, Cond.selects RX2 yX2_has yX2_has, Cond.initialized RX2, Cond.code yX2_has cX2_has 2 (some .boolean), Cond.fieldLink RX2 23 "SpareShelves$Tree" "size" "I", Cond.methodLink RX3 56 yX0_has, Cond.instanceMethod yX0_has]
def wsX3_fails_r2 : List Cond := [Cond.selects RX0 yX0_has yX0_has, Cond.initialized RX0, Cond.code yX0_has cX0_has 2 (some .boolean), Cond.fieldLink RX0 36 "SpareShelves$Kinds" "size" "I", Cond.methodLink RX3 52 yX3_isOutside, Cond.static yX3_isOutside, Cond.code yX3_isOutside cX3_isOutside 3 (some .boolean), Cond.methodLink RX3 99 yX3_servesMachine, Cond.instanceMethod yX3_servesMachine, Cond.selects RX3 yX3_servesMachine yX3_servesMachine, Cond.code yX3_servesMachine cX3_servesMachine 3 (some .boolean), Cond.fieldLink RX3 145 "SpareShelves$Kinds" "machinesTook" "[I", Cond.methodLink RX3 161 yX3_takesGood, Cond.instanceMethod yX3_takesGood, Cond.selects RX3 yX3_takesGood yX3_takesGood, Cond.code yX3_takesGood cX3_takesGood 3 (some .boolean), Cond.fieldLink RX3 25 "SpareShelves" "good" "[[I", Cond.methodLink RX3 112 yX1_add, Cond.instanceMethod yX1_add, Cond.selects RX1 yX1_add yX1_add, Cond.initialized RX1, Cond.code yX1_add cX1_add 7 none, Cond.fieldLink RX1 15 "SpareShelves$Line" "size" "I", Cond.fieldLink RX1 11 "SpareShelves$Line" "cells" "[I"]
def wsX3_fails_r3 : List Cond := [Cond.methodLink RX1 19 yJ7_copyOf_59c91, Cond.static yJ7_copyOf_59c91, Cond.initialized RJ7, Cond.code yJ7_copyOf_59c91 cJ7_copyOf_59c91 3 (some (.array .int)), Cond.methodLink RJ7 316 ⟨"[I", "clone", "()Ljava/lang/Object;"⟩, Cond.sameMethod "[I" "java/lang/Object" "clone" "()Ljava/lang/Object;", Cond.native ⟨"java/lang/Object", "clone", "()Ljava/lang/Object;"⟩, Cond.instanceMethod ⟨"java/lang/Object", "clone", "()Ljava/lang/Object;"⟩, Cond.selects "[I" ⟨"[I", "clone", "()Ljava/lang/Object;"⟩ ⟨"java/lang/Object", "clone", "()Ljava/lang/Object;"⟩, Cond.classLink RJ7 317 "[I", Cond.arrayClass .int, Cond.methodLink RJ7 304 Lib.Math.min.name, Cond.static Lib.Math.min.name, Cond.initialized "java/lang/Math", Cond.code Lib.Math.min.name Lib.Math.min.code 2 (some .int), Cond.methodLink RJ7 150 arraycopyName, Cond.native arraycopyName, Cond.static arraycopyName, Cond.initialized "java/lang/System", Cond.methodLink RX3 108 yX3_asksGoUp, Cond.instanceMethod yX3_asksGoUp, Cond.selects RX3 yX3_asksGoUp yX3_asksGoUp, Cond.code yX3_asksGoUp cX3_asksGoUp 7 none, Cond.fieldLink RX3 77 "SpareShelves$Tree" "up" "[I"]
def wsX3_fails_r4 : List Cond := [Cond.methodLink RX3 168 yX3_goesDown, Cond.instanceMethod yX3_goesDown, Cond.selects RX3 yX3_goesDown yX3_goesDown, Cond.code yX3_goesDown cX3_goesDown 3 none, Cond.fieldLink RX3 80 "SpareShelves$Tree" "way" "[I", Cond.methodLink RX3 116 yX3_goesBack, Cond.instanceMethod yX3_goesBack, Cond.selects RX3 yX3_goesBack yX3_goesBack, Cond.code yX3_goesBack cX3_goesBack 6 none, Cond.methodLink RX3 119 yX2_firstThatMends, Cond.instanceMethod yX2_firstThatMends, Cond.selects RX2 yX2_firstThatMends yX2_firstThatMends, Cond.code yX2_firstThatMends cX2_firstThatMends 5 (some .int), Cond.fieldLink RX2 20 "SpareShelves$Tree" "mendDays" "[[I", Cond.fieldLink RX2 9 "SpareShelves$Tree" "up" "[I", Cond.methodLink RX3 174 yX3_setsOut, Cond.instanceMethod yX3_setsOut, Cond.selects RX3 yX3_setsOut yX3_setsOut, Cond.code yX3_setsOut cX3_setsOut 5 none, Cond.methodLink RX3 181 yX2_waysUp, Cond.instanceMethod yX2_waysUp, Cond.selects RX2 yX2_waysUp yX2_waysUp, Cond.code yX2_waysUp cX2_waysUp 6 (some .int), Cond.fieldLink RX2 15 "SpareShelves$Tree" "way" "[I"]
def wsX3_fails_r5 : List Cond := [Cond.methodLink RX3 178 yX3_mendBegins, Cond.instanceMethod yX3_mendBegins, Cond.selects RX3 yX3_mendBegins yX3_mendBegins, Cond.code yX3_mendBegins cX3_mendBegins 3 none, Cond.fieldLink RX3 72 "SpareShelves$Tree" "mendDays" "[[I", Cond.methodLink RX3 171 yX3_mendGetsCore, Cond.instanceMethod yX3_mendGetsCore, Cond.selects RX3 yX3_mendGetsCore yX3_mendGetsCore, Cond.code yX3_mendGetsCore cX3_mendGetsCore 5 none, Cond.fieldLink RX3 148 "SpareShelves$Kinds" "mendsTook" "[I"]
def wsX3_fails : List Cond := .code yX3_fails cX3_fails 5 (some .int) :: ((wsX3_fails_r1 ++ (wsX3_fails_r2 ++ (wsX3_fails_r3 ++ (wsX3_fails_r4 ++ wsX3_fails_r5)))) ++ wsX30 ++ wsX00 ++ wsX10 ++ wsX20)
def wsX3_doWhatIsDue_r1 : List Cond := [Cond.fieldLink RX3 45 "SpareShelves" "dues" "LSpareShelves$Line;", Cond.fieldLink RX3 98 "SpareShelves$Line" "size" "I", Cond.fieldLink RX3 48 "SpareShelves" "time" "I", Cond.methodLink RX3 138 yX1_read, Cond.instanceMethod yX1_read, Cond.selects RX1 yX1_read yX1_read, Cond.initialized RX1, Cond.code yX1_read cX1_read 3 (some .int), Cond.fieldLink RX1 15 "SpareShelves$Line" "size" "I", Cond.fieldLink RX1 11 "SpareShelves$Line" "cells" "[I", Cond.methodLink RX3 164 yX1_drop, Cond.instanceMethod yX1_drop, Cond.selects RX1 yX1_drop yX1_drop, Cond.code yX1_drop cX1_drop 4 none, Cond.methodLink RX1 25 arraycopyName, Cond.native arraycopyName, Cond.static arraycopyName, Cond.initialized "java/lang/System", Cond.methodLink RX3 116 yX3_goesBack, Cond.instanceMethod yX3_goesBack, Cond.selects RX3 yX3_goesBack yX3_goesBack, Cond.initialized RX3, Cond.code yX3_goesBack cX3_goesBack 6 none, Cond.fieldLink RX3 19 "SpareShelves" "tree" "LSpareShelves$Tree;"]
def wsX3_doWhatIsDue_r2 : List Cond := [Cond.fieldLink RX3 10 "SpareShelves" "kinds" "LSpareShelves$Kinds;", Cond.fieldLink RX3 69 "SpareShelves$Kinds" "core" "[I", Cond.fieldLink RX3 41 "SpareShelves" "asks" "LSpareShelves$Line;", Cond.methodLink RX3 119 yX2_firstThatMends, Cond.instanceMethod yX2_firstThatMends, Cond.selects RX2 yX2_firstThatMends yX2_firstThatMends, Cond.initialized RX2, Cond.code yX2_firstThatMends cX2_firstThatMends 5 (some .int), Cond.fieldLink RX2 20 "SpareShelves$Tree" "mendDays" "[[I", Cond.fieldLink RX2 9 "SpareShelves$Tree" "up" "[I", Cond.methodLink RX3 174 yX3_setsOut, Cond.instanceMethod yX3_setsOut, Cond.selects RX3 yX3_setsOut yX3_setsOut, Cond.code yX3_setsOut cX3_setsOut 5 none, Cond.methodLink RX3 181 yX2_waysUp, Cond.instanceMethod yX2_waysUp, Cond.selects RX2 yX2_waysUp yX2_waysUp, Cond.code yX2_waysUp cX2_waysUp 6 (some .int), Cond.fieldLink RX2 15 "SpareShelves$Tree" "way" "[I", Cond.methodLink RX3 112 yX1_add, Cond.instanceMethod yX1_add, Cond.selects RX1 yX1_add yX1_add, Cond.code yX1_add cX1_add 7 none, Cond.methodLink RX1 19 yJ7_copyOf_59c91]
def wsX3_doWhatIsDue_r3 : List Cond := [Cond.static yJ7_copyOf_59c91, Cond.initialized RJ7, Cond.code yJ7_copyOf_59c91 cJ7_copyOf_59c91 3 (some (.array .int)), Cond.methodLink RJ7 316 ⟨"[I", "clone", "()Ljava/lang/Object;"⟩, Cond.sameMethod "[I" "java/lang/Object" "clone" "()Ljava/lang/Object;", Cond.native ⟨"java/lang/Object", "clone", "()Ljava/lang/Object;"⟩, Cond.instanceMethod ⟨"java/lang/Object", "clone", "()Ljava/lang/Object;"⟩, Cond.selects "[I" ⟨"[I", "clone", "()Ljava/lang/Object;"⟩ ⟨"java/lang/Object", "clone", "()Ljava/lang/Object;"⟩, Cond.classLink RJ7 317 "[I", Cond.arrayClass .int, Cond.methodLink RJ7 304 Lib.Math.min.name, Cond.static Lib.Math.min.name, Cond.initialized "java/lang/Math", Cond.code Lib.Math.min.name Lib.Math.min.code 2 (some .int), Cond.methodLink RJ7 150 arraycopyName, Cond.methodLink RX3 178 yX3_mendBegins, Cond.instanceMethod yX3_mendBegins, Cond.selects RX3 yX3_mendBegins yX3_mendBegins, Cond.code yX3_mendBegins cX3_mendBegins 3 none, Cond.fieldLink RX3 72 "SpareShelves$Tree" "mendDays" "[[I", Cond.methodLink RX3 161 yX3_takesGood, Cond.instanceMethod yX3_takesGood, Cond.selects RX3 yX3_takesGood yX3_takesGood, Cond.code yX3_takesGood cX3_takesGood 3 (some .boolean)]
def wsX3_doWhatIsDue_r4 : List Cond := [Cond.fieldLink RX3 25 "SpareShelves" "good" "[[I", Cond.methodLink RX3 171 yX3_mendGetsCore, Cond.instanceMethod yX3_mendGetsCore, Cond.selects RX3 yX3_mendGetsCore yX3_mendGetsCore, Cond.code yX3_mendGetsCore cX3_mendGetsCore 5 none, Cond.fieldLink RX3 148 "SpareShelves$Kinds" "mendsTook" "[I", Cond.fieldLink RX3 102 "SpareShelves$Kinds" "broke" "[I", Cond.methodLink RX3 108 yX3_asksGoUp, Cond.instanceMethod yX3_asksGoUp, Cond.selects RX3 yX3_asksGoUp yX3_asksGoUp, Cond.code yX3_asksGoUp cX3_asksGoUp 7 none, Cond.fieldLink RX3 77 "SpareShelves$Tree" "up" "[I", Cond.methodLink RX3 168 yX3_goesDown, Cond.instanceMethod yX3_goesDown, Cond.selects RX3 yX3_goesDown yX3_goesDown, Cond.code yX3_goesDown cX3_goesDown 3 none, Cond.fieldLink RX3 80 "SpareShelves$Tree" "way" "[I", Cond.methodLink RX3 94 yX3_lands, Cond.instanceMethod yX3_lands, Cond.selects RX3 yX3_lands yX3_lands, Cond.code yX3_lands cX3_lands 6 none, Cond.fieldLink RX3 145 "SpareShelves$Kinds" "machinesTook" "[I", Cond.methodLink RX3 135 yX1_find, Cond.instanceMethod yX1_find]
def wsX3_doWhatIsDue_r5 : List Cond := [Cond.selects RX1 yX1_find yX1_find, Cond.code yX1_find cX1_find 7 (some .int), Cond.methodLink RX1 31 yX1_fits, Cond.instanceMethod yX1_fits, Cond.selects RX1 yX1_fits yX1_fits, Cond.code yX1_fits cX1_fits 7 (some .boolean)]
def wsX3_doWhatIsDue : List Cond := .code yX3_doWhatIsDue cX3_doWhatIsDue 8 none :: ((wsX3_doWhatIsDue_r1 ++ (wsX3_doWhatIsDue_r2 ++ (wsX3_doWhatIsDue_r3 ++ (wsX3_doWhatIsDue_r4 ++ wsX3_doWhatIsDue_r5)))) ++ wsX30 ++ wsX10 ++ wsX00 ++ wsX20)
def wsX3_countStanding : List Cond := .code yX3_countStanding cX3_countStanding 2 none :: ([.fieldLink RX3 41 "SpareShelves" "asks" "LSpareShelves$Line;", .fieldLink RX3 98 "SpareShelves$Line" "size" "I", .fieldLink RX3 31 "SpareShelves" "stood" "[I", .methodLink RX3 138 yX1_read, .instanceMethod yX1_read, .selects RX1 yX1_read yX1_read, .initialized RX1, .code yX1_read cX1_read 3 (some .int), .fieldLink RX1 15 "SpareShelves$Line" "size" "I", .fieldLink RX1 11 "SpareShelves$Line" "cells" "[I"] ++ wsX30 ++ wsX10)
def wsX3_days_r1 : List Cond := [Cond.fieldLink RX3 48 "SpareShelves" "time" "I", Cond.methodLink RX3 52 yX3_isOutside, Cond.static yX3_isOutside, Cond.initialized RX3, Cond.code yX3_isOutside cX3_isOutside 3 (some .boolean), Cond.methodLink RX3 122 yX3_doWhatIsDue, Cond.instanceMethod yX3_doWhatIsDue, Cond.selects RX3 yX3_doWhatIsDue yX3_doWhatIsDue, Cond.code yX3_doWhatIsDue cX3_doWhatIsDue 8 none, Cond.fieldLink RX3 45 "SpareShelves" "dues" "LSpareShelves$Line;", Cond.fieldLink RX3 98 "SpareShelves$Line" "size" "I", Cond.methodLink RX3 138 yX1_read, Cond.instanceMethod yX1_read, Cond.selects RX1 yX1_read yX1_read, Cond.initialized RX1, Cond.code yX1_read cX1_read 3 (some .int), Cond.fieldLink RX1 15 "SpareShelves$Line" "size" "I", Cond.fieldLink RX1 11 "SpareShelves$Line" "cells" "[I", Cond.methodLink RX3 164 yX1_drop, Cond.instanceMethod yX1_drop, Cond.selects RX1 yX1_drop yX1_drop, Cond.code yX1_drop cX1_drop 4 none, Cond.methodLink RX1 25 arraycopyName, Cond.native arraycopyName]
def wsX3_days_r2 : List Cond := [Cond.static arraycopyName, Cond.initialized "java/lang/System", Cond.methodLink RX3 116 yX3_goesBack, Cond.instanceMethod yX3_goesBack, Cond.selects RX3 yX3_goesBack yX3_goesBack, Cond.code yX3_goesBack cX3_goesBack 6 none, Cond.fieldLink RX3 19 "SpareShelves" "tree" "LSpareShelves$Tree;", Cond.fieldLink RX3 10 "SpareShelves" "kinds" "LSpareShelves$Kinds;", Cond.fieldLink RX3 69 "SpareShelves$Kinds" "core" "[I", Cond.fieldLink RX3 41 "SpareShelves" "asks" "LSpareShelves$Line;", Cond.methodLink RX3 119 yX2_firstThatMends, Cond.instanceMethod yX2_firstThatMends, Cond.selects RX2 yX2_firstThatMends yX2_firstThatMends, Cond.initialized RX2, Cond.code yX2_firstThatMends cX2_firstThatMends 5 (some .int), Cond.fieldLink RX2 20 "SpareShelves$Tree" "mendDays" "[[I", Cond.fieldLink RX2 9 "SpareShelves$Tree" "up" "[I", Cond.methodLink RX3 174 yX3_setsOut, Cond.instanceMethod yX3_setsOut, Cond.selects RX3 yX3_setsOut yX3_setsOut, Cond.code yX3_setsOut cX3_setsOut 5 none, Cond.methodLink RX3 181 yX2_waysUp, Cond.instanceMethod yX2_waysUp, Cond.selects RX2 yX2_waysUp yX2_waysUp]
def wsX3_days_r3 : List Cond := [Cond.code yX2_waysUp cX2_waysUp 6 (some .int), Cond.fieldLink RX2 15 "SpareShelves$Tree" "way" "[I", Cond.methodLink RX3 112 yX1_add, Cond.instanceMethod yX1_add, Cond.selects RX1 yX1_add yX1_add, Cond.code yX1_add cX1_add 7 none, Cond.methodLink RX1 19 yJ7_copyOf_59c91, Cond.static yJ7_copyOf_59c91, Cond.initialized RJ7, Cond.code yJ7_copyOf_59c91 cJ7_copyOf_59c91 3 (some (.array .int)), Cond.methodLink RJ7 316 ⟨"[I", "clone", "()Ljava/lang/Object;"⟩, Cond.sameMethod "[I" "java/lang/Object" "clone" "()Ljava/lang/Object;", Cond.native ⟨"java/lang/Object", "clone", "()Ljava/lang/Object;"⟩, Cond.instanceMethod ⟨"java/lang/Object", "clone", "()Ljava/lang/Object;"⟩, Cond.selects "[I" ⟨"[I", "clone", "()Ljava/lang/Object;"⟩ ⟨"java/lang/Object", "clone", "()Ljava/lang/Object;"⟩, Cond.classLink RJ7 317 "[I", Cond.arrayClass .int, Cond.methodLink RJ7 304 Lib.Math.min.name, Cond.static Lib.Math.min.name, Cond.initialized "java/lang/Math", Cond.code Lib.Math.min.name Lib.Math.min.code 2 (some .int), Cond.methodLink RJ7 150 arraycopyName, Cond.methodLink RX3 178 yX3_mendBegins, Cond.instanceMethod yX3_mendBegins]
def wsX3_days_r4 : List Cond := [Cond.selects RX3 yX3_mendBegins yX3_mendBegins, Cond.code yX3_mendBegins cX3_mendBegins 3 none, Cond.fieldLink RX3 72 "SpareShelves$Tree" "mendDays" "[[I", Cond.methodLink RX3 161 yX3_takesGood, Cond.instanceMethod yX3_takesGood, Cond.selects RX3 yX3_takesGood yX3_takesGood, Cond.code yX3_takesGood cX3_takesGood 3 (some .boolean), Cond.fieldLink RX3 25 "SpareShelves" "good" "[[I", Cond.methodLink RX3 171 yX3_mendGetsCore, Cond.instanceMethod yX3_mendGetsCore, Cond.selects RX3 yX3_mendGetsCore yX3_mendGetsCore, Cond.code yX3_mendGetsCore cX3_mendGetsCore 5 none, Cond.fieldLink RX3 148 "SpareShelves$Kinds" "mendsTook" "[I", Cond.fieldLink RX3 102 "SpareShelves$Kinds" "broke" "[I", Cond.methodLink RX3 108 yX3_asksGoUp, Cond.instanceMethod yX3_asksGoUp, Cond.selects RX3 yX3_asksGoUp yX3_asksGoUp, Cond.code yX3_asksGoUp cX3_asksGoUp 7 none, Cond.fieldLink RX3 77 "SpareShelves$Tree" "up" "[I", Cond.methodLink RX3 168 yX3_goesDown, Cond.instanceMethod yX3_goesDown, Cond.selects RX3 yX3_goesDown yX3_goesDown, Cond.code yX3_goesDown cX3_goesDown 3 none, Cond.fieldLink RX3 80 "SpareShelves$Tree" "way" "[I"]
def wsX3_days_r5 : List Cond := [Cond.methodLink RX3 94 yX3_lands, Cond.instanceMethod yX3_lands, Cond.selects RX3 yX3_lands yX3_lands, Cond.code yX3_lands cX3_lands 6 none, Cond.fieldLink RX3 145 "SpareShelves$Kinds" "machinesTook" "[I", Cond.methodLink RX3 135 yX1_find, Cond.instanceMethod yX1_find, Cond.selects RX1 yX1_find yX1_find, Cond.code yX1_find cX1_find 7 (some .int), Cond.methodLink RX1 31 yX1_fits, Cond.instanceMethod yX1_fits, Cond.selects RX1 yX1_fits yX1_fits, Cond.code yX1_fits cX1_fits 7 (some .boolean), Cond.methodLink RX3 125 yX3_countStanding, Cond.instanceMethod yX3_countStanding, Cond.selects RX3 yX3_countStanding yX3_countStanding, Cond.code yX3_countStanding cX3_countStanding 2 none, Cond.fieldLink RX3 31 "SpareShelves" "stood" "[I"]
def wsX3_days : List Cond := .code yX3_days cX3_days 3 (some .int) :: ((wsX3_days_r1 ++ (wsX3_days_r2 ++ (wsX3_days_r3 ++ (wsX3_days_r4 ++ wsX3_days_r5)))) ++ wsX30 ++ wsX10 ++ wsX00 ++ wsX20)
def wsX3_flowOf : List Cond := .code yX3_flowOf cX3_flowOf 4 (some .int) :: ([.fieldLink RX3 19 "SpareShelves" "tree" "LSpareShelves$Tree;", .fieldLink RX3 76 "SpareShelves$Tree" "size" "I", .fieldLink RX3 35 "SpareShelves" "flows" "[I", .fieldLink RX3 28 "SpareShelves" "rates" "[[I", .fieldLink RX3 72 "SpareShelves$Tree" "mendDays" "[[I", .fieldLink RX3 77 "SpareShelves$Tree" "up" "[I"] ++ wsX30 ++ wsX20)
def wsX3_pipeOf : List Cond := .code yX3_pipeOf cX3_pipeOf 4 (some .int) :: ([.fieldLink RX3 19 "SpareShelves" "tree" "LSpareShelves$Tree;", .fieldLink RX3 72 "SpareShelves$Tree" "mendDays" "[[I", .fieldLink RX3 80 "SpareShelves$Tree" "way" "[I", .methodLink RX3 151 yX3_flowOf, .instanceMethod yX3_flowOf, .selects RX3 yX3_flowOf yX3_flowOf, .initialized RX3, .code yX3_flowOf cX3_flowOf 4 (some .int), .fieldLink RX3 76 "SpareShelves$Tree" "size" "I", .fieldLink RX3 35 "SpareShelves" "flows" "[I", .fieldLink RX3 28 "SpareShelves" "rates" "[[I", .fieldLink RX3 77 "SpareShelves$Tree" "up" "[I"] ++ wsX30 ++ wsX20)
def wsX3_wantOf : List Cond := .code yX3_wantOf cX3_wantOf 3 (some .int) :: ([.fieldLink RX3 25 "SpareShelves" "good" "[[I", .methodLink RX3 184 Lib.Math.max.name, .static Lib.Math.max.name, .initialized "java/lang/Math", .code Lib.Math.max.name Lib.Math.max.code 2 (some .int), .methodLink RX3 154 yX3_pipeOf, .instanceMethod yX3_pipeOf, .selects RX3 yX3_pipeOf yX3_pipeOf, .initialized RX3, .code yX3_pipeOf cX3_pipeOf 4 (some .int), .fieldLink RX3 19 "SpareShelves" "tree" "LSpareShelves$Tree;", .fieldLink RX3 72 "SpareShelves$Tree" "mendDays" "[[I", .fieldLink RX3 80 "SpareShelves$Tree" "way" "[I", .methodLink RX3 151 yX3_flowOf, .instanceMethod yX3_flowOf, .selects RX3 yX3_flowOf yX3_flowOf, .code yX3_flowOf cX3_flowOf 4 (some .int), .fieldLink RX3 76 "SpareShelves$Tree" "size" "I", .fieldLink RX3 35 "SpareShelves" "flows" "[I", .fieldLink RX3 28 "SpareShelves" "rates" "[[I", .fieldLink RX3 77 "SpareShelves$Tree" "up" "[I"] ++ wsX30 ++ wsX20)
def wsX3_choose_r1 : List Cond := [Cond.fieldLink RX3 19 "SpareShelves" "tree" "LSpareShelves$Tree;", Cond.fieldLink RX3 76 "SpareShelves$Tree" "size" "I", Cond.fieldLink RX3 10 "SpareShelves" "kinds" "LSpareShelves$Kinds;", Cond.fieldLink RX3 60 "SpareShelves$Kinds" "size" "I", Cond.fieldLink RX3 63 "SpareShelves$Kinds" "price" "[I", Cond.fieldLink RX3 91 "SpareShelves$Kinds" "bought" "[I", Cond.methodLink RX3 128 yX3_wantOf, Cond.instanceMethod yX3_wantOf, Cond.selects RX3 yX3_wantOf yX3_wantOf, Cond.initialized RX3, Cond.code yX3_wantOf cX3_wantOf 3 (some .int), Cond.fieldLink RX3 25 "SpareShelves" "good" "[[I", Cond.methodLink RX3 184 Lib.Math.max.name, Cond.static Lib.Math.max.name, Cond.initialized "java/lang/Math", Cond.code Lib.Math.max.name Lib.Math.max.code 2 (some .int), Cond.methodLink RX3 154 yX3_pipeOf, Cond.instanceMethod yX3_pipeOf, Cond.selects RX3 yX3_pipeOf yX3_pipeOf, Cond.code yX3_pipeOf cX3_pipeOf 4 (some .int), Cond.fieldLink RX3 72 "SpareShelves$Tree" "mendDays" "[[I", Cond.fieldLink RX3 80 "SpareShelves$Tree" "way" "[I", Cond.methodLink RX3 151 yX3_flowOf, Cond.instanceMethod yX3_flowOf]
def wsX3_choose_r2 : List Cond := [Cond.selects RX3 yX3_flowOf yX3_flowOf, Cond.code yX3_flowOf cX3_flowOf 4 (some .int), Cond.fieldLink RX3 35 "SpareShelves" "flows" "[I", Cond.fieldLink RX3 28 "SpareShelves" "rates" "[[I", Cond.fieldLink RX3 77 "SpareShelves$Tree" "up" "[I", Cond.methodLink RX3 83 yX3_isNoPlace, Cond.instanceMethod yX3_isNoPlace, Cond.selects RX3 yX3_isNoPlace yX3_isNoPlace, Cond.code yX3_isNoPlace cX3_isNoPlace 3 (some .boolean), Cond.methodLink RX3 75 yX2_has, Cond.instanceMethod yX2_has, Cond.selects RX2 yX2_has yX2_has, Cond.initialized RX2, Cond.code yX2_has cX2_has 2 (some .boolean), Cond.fieldLink RX2 23 "SpareShelves$Tree" "size" "I", Cond.methodLink RX3 56 yX0_has, Cond.instanceMethod yX0_has, Cond.selects RX0 yX0_has yX0_has, Cond.initialized RX0, Cond.code yX0_has cX0_has 2 (some .boolean), Cond.fieldLink RX0 36 "SpareShelves$Kinds" "size" "I", Cond.methodLink RX3 94 yX3_lands, Cond.instanceMethod yX3_lands, Cond.selects RX3 yX3_lands yX3_lands]
def wsX3_choose_r3 : List Cond := [Cond.code yX3_lands cX3_lands 6 none, Cond.fieldLink RX3 41 "SpareShelves" "asks" "LSpareShelves$Line;", Cond.fieldLink RX3 145 "SpareShelves$Kinds" "machinesTook" "[I", Cond.methodLink RX3 135 yX1_find, Cond.instanceMethod yX1_find, Cond.selects RX1 yX1_find yX1_find, Cond.initialized RX1, Cond.code yX1_find cX1_find 7 (some .int), Cond.fieldLink RX1 15 "SpareShelves$Line" "size" "I", Cond.methodLink RX1 31 yX1_fits, Cond.instanceMethod yX1_fits, Cond.selects RX1 yX1_fits yX1_fits, Cond.code yX1_fits cX1_fits 7 (some .boolean), Cond.fieldLink RX1 11 "SpareShelves$Line" "cells" "[I", Cond.methodLink RX3 138 yX1_read, Cond.instanceMethod yX1_read, Cond.selects RX1 yX1_read yX1_read, Cond.code yX1_read cX1_read 3 (some .int), Cond.methodLink RX3 164 yX1_drop, Cond.instanceMethod yX1_drop, Cond.selects RX1 yX1_drop yX1_drop, Cond.code yX1_drop cX1_drop 4 none, Cond.methodLink RX1 25 arraycopyName, Cond.native arraycopyName]
def wsX3_choose_r4 : List Cond := [Cond.static arraycopyName, Cond.initialized "java/lang/System", Cond.methodLink RX3 168 yX3_goesDown, Cond.instanceMethod yX3_goesDown, Cond.selects RX3 yX3_goesDown yX3_goesDown, Cond.code yX3_goesDown cX3_goesDown 3 none, Cond.fieldLink RX3 45 "SpareShelves" "dues" "LSpareShelves$Line;", Cond.fieldLink RX3 48 "SpareShelves" "time" "I", Cond.methodLink RX3 112 yX1_add, Cond.instanceMethod yX1_add, Cond.selects RX1 yX1_add yX1_add, Cond.code yX1_add cX1_add 7 none, Cond.methodLink RX1 19 yJ7_copyOf_59c91, Cond.static yJ7_copyOf_59c91, Cond.initialized RJ7, Cond.code yJ7_copyOf_59c91 cJ7_copyOf_59c91 3 (some (.array .int)), Cond.methodLink RJ7 316 ⟨"[I", "clone", "()Ljava/lang/Object;"⟩, Cond.sameMethod "[I" "java/lang/Object" "clone" "()Ljava/lang/Object;", Cond.native ⟨"java/lang/Object", "clone", "()Ljava/lang/Object;"⟩, Cond.instanceMethod ⟨"java/lang/Object", "clone", "()Ljava/lang/Object;"⟩, Cond.selects "[I" ⟨"[I", "clone", "()Ljava/lang/Object;"⟩ ⟨"java/lang/Object", "clone", "()Ljava/lang/Object;"⟩, Cond.classLink RJ7 317 "[I", Cond.arrayClass .int, Cond.methodLink RJ7 304 Lib.Math.min.name]
def wsX3_choose_r5 : List Cond := [Cond.static Lib.Math.min.name, Cond.code Lib.Math.min.name Lib.Math.min.code 2 (some .int), Cond.methodLink RJ7 150 arraycopyName, Cond.methodLink RX3 171 yX3_mendGetsCore, Cond.instanceMethod yX3_mendGetsCore, Cond.selects RX3 yX3_mendGetsCore yX3_mendGetsCore, Cond.code yX3_mendGetsCore cX3_mendGetsCore 5 none, Cond.fieldLink RX3 148 "SpareShelves$Kinds" "mendsTook" "[I", Cond.fieldLink RX3 102 "SpareShelves$Kinds" "broke" "[I", Cond.methodLink RX3 119 yX2_firstThatMends, Cond.instanceMethod yX2_firstThatMends, Cond.selects RX2 yX2_firstThatMends yX2_firstThatMends, Cond.code yX2_firstThatMends cX2_firstThatMends 5 (some .int), Cond.fieldLink RX2 20 "SpareShelves$Tree" "mendDays" "[[I", Cond.fieldLink RX2 9 "SpareShelves$Tree" "up" "[I", Cond.methodLink RX3 178 yX3_mendBegins, Cond.instanceMethod yX3_mendBegins, Cond.selects RX3 yX3_mendBegins yX3_mendBegins, Cond.code yX3_mendBegins cX3_mendBegins 3 none, Cond.methodLink RX3 174 yX3_setsOut, Cond.instanceMethod yX3_setsOut, Cond.selects RX3 yX3_setsOut yX3_setsOut, Cond.code yX3_setsOut cX3_setsOut 5 none, Cond.methodLink RX3 181 yX2_waysUp]
def wsX3_choose_r6 : List Cond := [Cond.instanceMethod yX2_waysUp, Cond.selects RX2 yX2_waysUp yX2_waysUp, Cond.code yX2_waysUp cX2_waysUp 6 (some .int), Cond.fieldLink RX2 15 "SpareShelves$Tree" "way" "[I", Cond.methodLink RX3 108 yX3_asksGoUp, Cond.instanceMethod yX3_asksGoUp, Cond.selects RX3 yX3_asksGoUp yX3_asksGoUp, Cond.code yX3_asksGoUp cX3_asksGoUp 7 none, Cond.methodLink RX3 161 yX3_takesGood, Cond.instanceMethod yX3_takesGood, Cond.selects RX3 yX3_takesGood yX3_takesGood, Cond.code yX3_takesGood cX3_takesGood 3 (some .boolean)]
def wsX3_choose : List Cond := .code yX3_choose cX3_choose 13 (some .int) :: ((wsX3_choose_r1 ++ (wsX3_choose_r2 ++ (wsX3_choose_r3 ++ (wsX3_choose_r4 ++ (wsX3_choose_r5 ++ wsX3_choose_r6))))) ++ wsX30 ++ wsX20 ++ wsX00 ++ wsX10)
def wsX3_about_r1 : List Cond := [Cond.fieldLink RX3 25 "SpareShelves" "good" "[[I", Cond.fieldLink RX3 41 "SpareShelves" "asks" "LSpareShelves$Line;", Cond.fieldLink RX3 45 "SpareShelves" "dues" "LSpareShelves$Line;", Cond.methodLink RX3 83 yX3_isNoPlace, Cond.instanceMethod yX3_isNoPlace, Cond.selects RX3 yX3_isNoPlace yX3_isNoPlace, Cond.initialized RX3, Cond.code yX3_isNoPlace cX3_isNoPlace 3 (some .boolean), Cond.fieldLink RX3 19 "SpareShelves" "tree" "LSpareShelves$Tree;", Cond.fieldLink RX3 10 "SpareShelves" "kinds" "LSpareShelves$Kinds;", Cond.methodLink RX3 75 yX2_has, Cond.instanceMethod yX2_has, Cond.selects RX2 yX2_has yX2_has, Cond.initialized RX2, Cond.code yX2_has cX2_has 2 (some .boolean), Cond.fieldLink RX2 23 "SpareShelves$Tree" "size" "I", Cond.methodLink RX3 56 yX0_has, Cond.instanceMethod yX0_has, Cond.selects RX0 yX0_has yX0_has, Cond.initialized RX0, Cond.code yX0_has cX0_has 2 (some .boolean), Cond.fieldLink RX0 36 "SpareShelves$Kinds" "size" "I", Cond.methodLink RX3 131 yX1_tally, Cond.instanceMethod yX1_tally]
def wsX3_about_r2 : List Cond := [Cond.selects RX1 yX1_tally yX1_tally, Cond.initialized RX1, Cond.code yX1_tally cX1_tally 7 (some .int), Cond.fieldLink RX1 15 "SpareShelves$Line" "size" "I", Cond.methodLink RX1 31 yX1_fits, Cond.instanceMethod yX1_fits, Cond.selects RX1 yX1_fits yX1_fits, Cond.code yX1_fits cX1_fits 7 (some .boolean), Cond.fieldLink RX1 11 "SpareShelves$Line" "cells" "[I", Cond.methodLink RX3 87 yX3_mendsThatWait, Cond.instanceMethod yX3_mendsThatWait, Cond.selects RX3 yX3_mendsThatWait yX3_mendsThatWait, Cond.code yX3_mendsThatWait cX3_mendsThatWait 3 (some .int)]
def wsX3_about : List Cond := .code yX3_about cX3_about 4 (some .int) :: ((wsX3_about_r1 ++ wsX3_about_r2) ++ wsX30 ++ wsX20 ++ wsX00 ++ wsX10)
def wsX3_ask_r1 : List Cond := [Cond.fieldLink RX3 41 "SpareShelves" "asks" "LSpareShelves$Line;", Cond.methodLink RX3 83 yX3_isNoPlace, Cond.instanceMethod yX3_isNoPlace, Cond.selects RX3 yX3_isNoPlace yX3_isNoPlace, Cond.initialized RX3, Cond.code yX3_isNoPlace cX3_isNoPlace 3 (some .boolean), Cond.fieldLink RX3 19 "SpareShelves" "tree" "LSpareShelves$Tree;", Cond.fieldLink RX3 10 "SpareShelves" "kinds" "LSpareShelves$Kinds;", Cond.methodLink RX3 75 yX2_has, Cond.instanceMethod yX2_has, Cond.selects RX2 yX2_has yX2_has, Cond.initialized RX2, Cond.code yX2_has cX2_has 2 (some .boolean), Cond.fieldLink RX2 23 "SpareShelves$Tree" "size" "I", Cond.methodLink RX3 56 yX0_has, Cond.instanceMethod yX0_has, Cond.selects RX0 yX0_has yX0_has, Cond.initialized RX0, Cond.code yX0_has cX0_has 2 (some .boolean), Cond.fieldLink RX0 36 "SpareShelves$Kinds" "size" "I", Cond.methodLink RX3 135 yX1_find, Cond.instanceMethod yX1_find, Cond.selects RX1 yX1_find yX1_find, Cond.initialized RX1]
def wsX3_ask_r2 : List Cond := [Cond.code yX1_find cX1_find 7 (some .int), Cond.fieldLink RX1 15 "SpareShelves$Line" "size" "I", Cond.methodLink RX1 31 yX1_fits, Cond.instanceMethod yX1_fits, Cond.selects RX1 yX1_fits yX1_fits, Cond.code yX1_fits cX1_fits 7 (some .boolean), Cond.fieldLink RX1 11 "SpareShelves$Line" "cells" "[I", Cond.methodLink RX3 138 yX1_read, Cond.instanceMethod yX1_read, Cond.selects RX1 yX1_read yX1_read, Cond.code yX1_read cX1_read 3 (some .int)]
def wsX3_ask : List Cond := .code yX3_ask cX3_ask 6 (some .int) :: ((wsX3_ask_r1 ++ wsX3_ask_r2) ++ wsX30 ++ wsX20 ++ wsX00 ++ wsX10)
def wsX3_goodOnShelves : List Cond := .code yX3_goodOnShelves cX3_goodOnShelves 4 (some .int) :: ([.fieldLink RX3 19 "SpareShelves" "tree" "LSpareShelves$Tree;", .fieldLink RX3 76 "SpareShelves$Tree" "size" "I", .fieldLink RX3 25 "SpareShelves" "good" "[[I"] ++ wsX30 ++ wsX20)
def wsX3_all_r1 : List Cond := [Cond.fieldLink RX3 10 "SpareShelves" "kinds" "LSpareShelves$Kinds;", Cond.fieldLink RX3 91 "SpareShelves$Kinds" "bought" "[I", Cond.fieldLink RX3 105 "SpareShelves$Kinds" "scrapped" "[I", Cond.fieldLink RX3 45 "SpareShelves" "dues" "LSpareShelves$Line;", Cond.fieldLink RX3 145 "SpareShelves$Kinds" "machinesTook" "[I", Cond.fieldLink RX3 148 "SpareShelves$Kinds" "mendsTook" "[I", Cond.fieldLink RX3 102 "SpareShelves$Kinds" "broke" "[I", Cond.methodLink RX3 56 yX0_has, Cond.instanceMethod yX0_has, Cond.selects RX0 yX0_has yX0_has, Cond.initialized RX0, Cond.code yX0_has cX0_has 2 (some .boolean), Cond.fieldLink RX0 36 "SpareShelves$Kinds" "size" "I", Cond.methodLink RX3 141 yX3_goodOnShelves, Cond.instanceMethod yX3_goodOnShelves, Cond.selects RX3 yX3_goodOnShelves yX3_goodOnShelves, Cond.initialized RX3, Cond.code yX3_goodOnShelves cX3_goodOnShelves 4 (some .int), Cond.fieldLink RX3 19 "SpareShelves" "tree" "LSpareShelves$Tree;", Cond.fieldLink RX3 76 "SpareShelves$Tree" "size" "I", Cond.fieldLink RX3 25 "SpareShelves" "good" "[[I", Cond.methodLink RX3 131 yX1_tally, Cond.instanceMethod yX1_tally, Cond.selects RX1 yX1_tally yX1_tally]
def wsX3_all_r2 : List Cond := [Cond.initialized RX1, Cond.code yX1_tally cX1_tally 7 (some .int), Cond.fieldLink RX1 15 "SpareShelves$Line" "size" "I", Cond.methodLink RX1 31 yX1_fits, Cond.instanceMethod yX1_fits, Cond.selects RX1 yX1_fits yX1_fits, Cond.code yX1_fits cX1_fits 7 (some .boolean), Cond.fieldLink RX1 11 "SpareShelves$Line" "cells" "[I", Cond.methodLink RX3 87 yX3_mendsThatWait, Cond.instanceMethod yX3_mendsThatWait, Cond.selects RX3 yX3_mendsThatWait yX3_mendsThatWait, Cond.code yX3_mendsThatWait cX3_mendsThatWait 3 (some .int), Cond.fieldLink RX3 41 "SpareShelves" "asks" "LSpareShelves$Line;"]
def wsX3_all : List Cond := .code yX3_all cX3_all 3 (some .int) :: ((wsX3_all_r1 ++ wsX3_all_r2) ++ wsX30 ++ wsX00 ++ wsX20 ++ wsX10)
def wsX3_field_r1 : List Cond := [Cond.fieldLink RX3 19 "SpareShelves" "tree" "LSpareShelves$Tree;", Cond.fieldLink RX3 77 "SpareShelves$Tree" "up" "[I", Cond.fieldLink RX3 80 "SpareShelves$Tree" "way" "[I", Cond.fieldLink RX3 41 "SpareShelves" "asks" "LSpareShelves$Line;", Cond.fieldLink RX3 31 "SpareShelves" "stood" "[I", Cond.methodLink RX3 75 yX2_has, Cond.instanceMethod yX2_has, Cond.selects RX2 yX2_has yX2_has, Cond.initialized RX2, Cond.code yX2_has cX2_has 2 (some .boolean), Cond.fieldLink RX2 23 "SpareShelves$Tree" "size" "I", Cond.methodLink RX3 131 yX1_tally, Cond.instanceMethod yX1_tally, Cond.selects RX1 yX1_tally yX1_tally, Cond.initialized RX1, Cond.code yX1_tally cX1_tally 7 (some .int), Cond.fieldLink RX1 15 "SpareShelves$Line" "size" "I", Cond.methodLink RX1 31 yX1_fits, Cond.instanceMethod yX1_fits, Cond.selects RX1 yX1_fits yX1_fits, Cond.code yX1_fits cX1_fits 7 (some .boolean), Cond.fieldLink RX1 11 "SpareShelves$Line" "cells" "[I", Cond.methodLink RX3 135 yX1_find, Cond.instanceMethod yX1_find]
def wsX3_field_r2 : List Cond := [Cond.selects RX1 yX1_find yX1_find, Cond.code yX1_find cX1_find 7 (some .int), Cond.methodLink RX3 138 yX1_read, Cond.instanceMethod yX1_read, Cond.selects RX1 yX1_read yX1_read, Cond.code yX1_read cX1_read 3 (some .int)]
def wsX3_field : List Cond := .code yX3_field cX3_field 3 (some .int) :: ((wsX3_field_r1 ++ wsX3_field_r2) ++ wsX30 ++ wsX20 ++ wsX10)
def wsX3_mender_r1 : List Cond := [Cond.fieldLink RX3 19 "SpareShelves" "tree" "LSpareShelves$Tree;", Cond.methodLink RX3 83 yX3_isNoPlace, Cond.instanceMethod yX3_isNoPlace, Cond.selects RX3 yX3_isNoPlace yX3_isNoPlace, Cond.initialized RX3, Cond.code yX3_isNoPlace cX3_isNoPlace 3 (some .boolean), Cond.fieldLink RX3 10 "SpareShelves" "kinds" "LSpareShelves$Kinds;", Cond.methodLink RX3 75 yX2_has, Cond.instanceMethod yX2_has, Cond.selects RX2 yX2_has yX2_has, Cond.initialized RX2, Cond.code yX2_has cX2_has 2 (some .boolean), Cond.fieldLink RX2 23 "SpareShelves$Tree" "size" "I", Cond.methodLink RX3 56 yX0_has, Cond.instanceMethod yX0_has, Cond.selects RX0 yX0_has yX0_has, Cond.initialized RX0, Cond.code yX0_has cX0_has 2 (some .boolean), Cond.fieldLink RX0 36 "SpareShelves$Kinds" "size" "I", Cond.methodLink RX3 119 yX2_firstThatMends, Cond.instanceMethod yX2_firstThatMends, Cond.selects RX2 yX2_firstThatMends yX2_firstThatMends, Cond.code yX2_firstThatMends cX2_firstThatMends 5 (some .int), Cond.fieldLink RX2 20 "SpareShelves$Tree" "mendDays" "[[I"]
def wsX3_mender_r2 : List Cond := [Cond.fieldLink RX2 9 "SpareShelves$Tree" "up" "[I"]
def wsX3_mender : List Cond := .code yX3_mender cX3_mender 3 (some .int) :: ((wsX3_mender_r1 ++ wsX3_mender_r2) ++ wsX30 ++ wsX20 ++ wsX00)
def wsX3_pipe_r1 : List Cond := [Cond.fieldLink RX3 28 "SpareShelves" "rates" "[[I", Cond.methodLink RX3 83 yX3_isNoPlace, Cond.instanceMethod yX3_isNoPlace, Cond.selects RX3 yX3_isNoPlace yX3_isNoPlace, Cond.initialized RX3, Cond.code yX3_isNoPlace cX3_isNoPlace 3 (some .boolean), Cond.fieldLink RX3 19 "SpareShelves" "tree" "LSpareShelves$Tree;", Cond.fieldLink RX3 10 "SpareShelves" "kinds" "LSpareShelves$Kinds;", Cond.methodLink RX3 75 yX2_has, Cond.instanceMethod yX2_has, Cond.selects RX2 yX2_has yX2_has, Cond.initialized RX2, Cond.code yX2_has cX2_has 2 (some .boolean), Cond.fieldLink RX2 23 "SpareShelves$Tree" "size" "I", Cond.methodLink RX3 56 yX0_has, Cond.instanceMethod yX0_has, Cond.selects RX0 yX0_has yX0_has, Cond.initialized RX0, Cond.code yX0_has cX0_has 2 (some .boolean), Cond.fieldLink RX0 36 "SpareShelves$Kinds" "size" "I", Cond.methodLink RX3 151 yX3_flowOf, Cond.instanceMethod yX3_flowOf, Cond.selects RX3 yX3_flowOf yX3_flowOf, Cond.code yX3_flowOf cX3_flowOf 4 (some .int)]
def wsX3_pipe_r2 : List Cond := [Cond.fieldLink RX3 76 "SpareShelves$Tree" "size" "I", Cond.fieldLink RX3 35 "SpareShelves" "flows" "[I", Cond.fieldLink RX3 72 "SpareShelves$Tree" "mendDays" "[[I", Cond.fieldLink RX3 77 "SpareShelves$Tree" "up" "[I", Cond.methodLink RX3 154 yX3_pipeOf, Cond.instanceMethod yX3_pipeOf, Cond.selects RX3 yX3_pipeOf yX3_pipeOf, Cond.code yX3_pipeOf cX3_pipeOf 4 (some .int), Cond.fieldLink RX3 80 "SpareShelves$Tree" "way" "[I", Cond.methodLink RX3 128 yX3_wantOf, Cond.instanceMethod yX3_wantOf, Cond.selects RX3 yX3_wantOf yX3_wantOf, Cond.code yX3_wantOf cX3_wantOf 3 (some .int), Cond.fieldLink RX3 25 "SpareShelves" "good" "[[I", Cond.methodLink RX3 184 Lib.Math.max.name, Cond.static Lib.Math.max.name, Cond.initialized "java/lang/Math", Cond.code Lib.Math.max.name Lib.Math.max.code 2 (some .int)]
def wsX3_pipe : List Cond := .code yX3_pipe cX3_pipe 4 (some .int) :: ((wsX3_pipe_r1 ++ wsX3_pipe_r2) ++ wsX30 ++ wsX20 ++ wsX00)
def wsX3_worth : List Cond := .code yX3_worth cX3_worth 3 (some .int) :: ([.fieldLink RX3 10 "SpareShelves" "kinds" "LSpareShelves$Kinds;", .fieldLink RX3 60 "SpareShelves$Kinds" "size" "I", .fieldLink RX3 63 "SpareShelves$Kinds" "price" "[I", .fieldLink RX3 91 "SpareShelves$Kinds" "bought" "[I", .fieldLink RX3 105 "SpareShelves$Kinds" "scrapped" "[I"] ++ wsX30 ++ wsX00)
def wsX3_stoodOfAll : List Cond := .code yX3_stoodOfAll cX3_stoodOfAll 3 (some .int) :: ([.fieldLink RX3 19 "SpareShelves" "tree" "LSpareShelves$Tree;", .fieldLink RX3 76 "SpareShelves$Tree" "size" "I", .fieldLink RX3 31 "SpareShelves" "stood" "[I"] ++ wsX30 ++ wsX20)
def wsX3_count_r1 : List Cond := [Cond.fieldLink RX3 10 "SpareShelves" "kinds" "LSpareShelves$Kinds;", Cond.fieldLink RX3 60 "SpareShelves$Kinds" "size" "I", Cond.fieldLink RX3 19 "SpareShelves" "tree" "LSpareShelves$Tree;", Cond.fieldLink RX3 76 "SpareShelves$Tree" "size" "I", Cond.fieldLink RX3 48 "SpareShelves" "time" "I", Cond.fieldLink RX3 41 "SpareShelves" "asks" "LSpareShelves$Line;", Cond.fieldLink RX3 98 "SpareShelves$Line" "size" "I", Cond.fieldLink RX3 45 "SpareShelves" "dues" "LSpareShelves$Line;", Cond.methodLink RX3 131 yX1_tally, Cond.instanceMethod yX1_tally, Cond.selects RX1 yX1_tally yX1_tally, Cond.initialized RX1, Cond.code yX1_tally cX1_tally 7 (some .int), Cond.fieldLink RX1 15 "SpareShelves$Line" "size" "I", Cond.methodLink RX1 31 yX1_fits, Cond.instanceMethod yX1_fits, Cond.selects RX1 yX1_fits yX1_fits, Cond.code yX1_fits cX1_fits 7 (some .boolean), Cond.fieldLink RX1 11 "SpareShelves$Line" "cells" "[I", Cond.methodLink RX3 157 yX3_stoodOfAll, Cond.instanceMethod yX3_stoodOfAll, Cond.selects RX3 yX3_stoodOfAll yX3_stoodOfAll, Cond.initialized RX3, Cond.code yX3_stoodOfAll cX3_stoodOfAll 3 (some .int)]
def wsX3_count_r2 : List Cond := [Cond.fieldLink RX3 31 "SpareShelves" "stood" "[I"]
def wsX3_count : List Cond := .code yX3_count cX3_count 2 (some .int) :: ((wsX3_count_r1 ++ wsX3_count_r2) ++ wsX30 ++ wsX00 ++ wsX20 ++ wsX10)
def wsX4_in : List Cond := .code yX4_in cX4_in 3 (some .boolean) :: ([])
def wsX4_init_r1 : List Cond := [Cond.methodLink RX4 7 objectInit, Cond.instanceMethod objectInit, Cond.code objectInit ⟨#[0xb1]⟩ 1 none, Cond.arrayClass .int, Cond.fieldLink RX4 13 "SpareShelvesModel" "price" "[I", Cond.fieldLink RX4 17 "SpareShelvesModel" "buys" "[I", Cond.fieldLink RX4 20 "SpareShelvesModel" "core" "[I", Cond.fieldLink RX4 23 "SpareShelvesModel" "shelves" "I", Cond.fieldLink RX4 26 "SpareShelvesModel" "up" "[I", Cond.fieldLink RX4 29 "SpareShelvesModel" "way" "[I", Cond.fieldLink RX4 32 "SpareShelvesModel" "stood" "[I", Cond.fieldLink RX4 35 "SpareShelvesModel" "mends" "[I", Cond.fieldLink RX4 38 "SpareShelvesModel" "good" "[I", Cond.fieldLink RX4 41 "SpareShelvesModel" "rates" "[I", Cond.fieldLink RX4 44 "SpareShelvesModel" "bought" "[I", Cond.fieldLink RX4 47 "SpareShelvesModel" "scrapped" "[I", Cond.fieldLink RX4 50 "SpareShelvesModel" "taken" "[I", Cond.fieldLink RX4 53 "SpareShelvesModel" "cores" "[I", Cond.fieldLink RX4 56 "SpareShelvesModel" "broke" "[I", Cond.fieldLink RX4 59 "SpareShelvesModel" "askShelf" "[I", Cond.fieldLink RX4 62 "SpareShelvesModel" "askKind" "[I", Cond.fieldLink RX4 65 "SpareShelvesModel" "askBy" "[I", Cond.fieldLink RX4 68 "SpareShelvesModel" "askOf" "[I", Cond.fieldLink RX4 71 "SpareShelvesModel" "askSince" "[I"]
def wsX4_init_r2 : List Cond := [Cond.fieldLink RX4 74 "SpareShelvesModel" "dueSort" "[I", Cond.fieldLink RX4 77 "SpareShelvesModel" "dueShelf" "[I", Cond.fieldLink RX4 80 "SpareShelvesModel" "dueKind" "[I", Cond.fieldLink RX4 83 "SpareShelvesModel" "dueHow" "[I", Cond.fieldLink RX4 86 "SpareShelvesModel" "dueTime" "[I"]
def wsX4_init : List Cond := .code yX4_init cX4_init 1 none :: ((wsX4_init_r1 ++ wsX4_init_r2) ++ wsX40)
def wsX4_isKind : List Cond := .code yX4_isKind cX4_isKind 2 (some .boolean) :: ([.fieldLink RX4 89 "SpareShelvesModel" "kinds" "I", .methodLink RX4 92 yX4_in, .static yX4_in, .initialized RX4, .code yX4_in cX4_in 3 (some .boolean)] ++ wsX40)
def wsX4_isShelf : List Cond := .code yX4_isShelf cX4_isShelf 2 (some .boolean) :: ([.fieldLink RX4 23 "SpareShelvesModel" "shelves" "I", .methodLink RX4 92 yX4_in, .static yX4_in, .initialized RX4, .code yX4_in cX4_in 3 (some .boolean)] ++ wsX40)
def wsX4_kind : List Cond := .code yX4_kind cX4_kind 4 (some .int) :: ([.fieldLink RX4 89 "SpareShelvesModel" "kinds" "I", .fieldLink RX4 13 "SpareShelvesModel" "price" "[I", .fieldLink RX4 17 "SpareShelvesModel" "buys" "[I", .fieldLink RX4 20 "SpareShelvesModel" "core" "[I", .fieldLink RX4 35 "SpareShelvesModel" "mends" "[I", .methodLink RX4 92 yX4_in, .static yX4_in, .initialized RX4, .code yX4_in cX4_in 3 (some .boolean), .methodLink RX4 96 yX4_isKind, .instanceMethod yX4_isKind, .selects RX4 yX4_isKind yX4_isKind, .code yX4_isKind cX4_isKind 2 (some .boolean)] ++ wsX40)
def wsX4_shelf : List Cond := .code yX4_shelf cX4_shelf 3 (some .int) :: ([.fieldLink RX4 23 "SpareShelvesModel" "shelves" "I", .fieldLink RX4 26 "SpareShelvesModel" "up" "[I", .fieldLink RX4 29 "SpareShelvesModel" "way" "[I", .methodLink RX4 100 yX4_isShelf, .instanceMethod yX4_isShelf, .selects RX4 yX4_isShelf yX4_isShelf, .initialized RX4, .code yX4_isShelf cX4_isShelf 2 (some .boolean), .methodLink RX4 92 yX4_in, .static yX4_in, .code yX4_in cX4_in 3 (some .boolean)] ++ wsX40)
def wsX4_waiting : List Cond := .code yX4_waiting cX4_waiting 5 (some .int) :: ([.fieldLink RX4 110 "SpareShelvesModel" "asks" "I", .fieldLink RX4 59 "SpareShelvesModel" "askShelf" "[I", .fieldLink RX4 65 "SpareShelvesModel" "askBy" "[I", .fieldLink RX4 68 "SpareShelvesModel" "askOf" "[I"] ++ wsX40)
def wsX4_mend : List Cond := .code yX4_mend cX4_mend 5 (some .int) :: ([.fieldLink RX4 35 "SpareShelvesModel" "mends" "[I", .methodLink RX4 100 yX4_isShelf, .instanceMethod yX4_isShelf, .selects RX4 yX4_isShelf yX4_isShelf, .initialized RX4, .code yX4_isShelf cX4_isShelf 2 (some .boolean), .fieldLink RX4 23 "SpareShelvesModel" "shelves" "I", .methodLink RX4 92 yX4_in, .static yX4_in, .code yX4_in cX4_in 3 (some .boolean), .methodLink RX4 96 yX4_isKind, .instanceMethod yX4_isKind, .selects RX4 yX4_isKind yX4_isKind, .code yX4_isKind cX4_isKind 2 (some .boolean), .fieldLink RX4 89 "SpareShelvesModel" "kinds" "I", .methodLink RX4 103 yX4_waiting, .instanceMethod yX4_waiting, .selects RX4 yX4_waiting yX4_waiting, .code yX4_waiting cX4_waiting 5 (some .int), .fieldLink RX4 110 "SpareShelvesModel" "asks" "I", .fieldLink RX4 59 "SpareShelvesModel" "askShelf" "[I", .fieldLink RX4 65 "SpareShelvesModel" "askBy" "[I", .fieldLink RX4 68 "SpareShelvesModel" "askOf" "[I"] ++ wsX40)
def wsX4_menderOf : List Cond := .code yX4_menderOf cX4_menderOf 4 (some .int) :: ([.fieldLink RX4 35 "SpareShelvesModel" "mends" "[I", .fieldLink RX4 26 "SpareShelvesModel" "up" "[I"] ++ wsX40)
def wsX4_mender : List Cond := .code yX4_mender cX4_mender 3 (some .int) :: ([.methodLink RX4 100 yX4_isShelf, .instanceMethod yX4_isShelf, .selects RX4 yX4_isShelf yX4_isShelf, .initialized RX4, .code yX4_isShelf cX4_isShelf 2 (some .boolean), .fieldLink RX4 23 "SpareShelvesModel" "shelves" "I", .methodLink RX4 92 yX4_in, .static yX4_in, .code yX4_in cX4_in 3 (some .boolean), .methodLink RX4 96 yX4_isKind, .instanceMethod yX4_isKind, .selects RX4 yX4_isKind yX4_isKind, .code yX4_isKind cX4_isKind 2 (some .boolean), .fieldLink RX4 89 "SpareShelvesModel" "kinds" "I", .methodLink RX4 107 yX4_menderOf, .instanceMethod yX4_menderOf, .selects RX4 yX4_menderOf yX4_menderOf, .code yX4_menderOf cX4_menderOf 4 (some .int), .fieldLink RX4 35 "SpareShelvesModel" "mends" "[I", .fieldLink RX4 26 "SpareShelvesModel" "up" "[I"] ++ wsX40)
def wsX4_due : List Cond := .code yX4_due cX4_due 6 none :: ([.fieldLink RX4 74 "SpareShelvesModel" "dueSort" "[I", .fieldLink RX4 113 "SpareShelvesModel" "dues" "I", .fieldLink RX4 77 "SpareShelvesModel" "dueShelf" "[I", .fieldLink RX4 80 "SpareShelvesModel" "dueKind" "[I", .fieldLink RX4 83 "SpareShelvesModel" "dueHow" "[I", .fieldLink RX4 86 "SpareShelvesModel" "dueTime" "[I", .fieldLink RX4 116 "SpareShelvesModel" "time" "I"] ++ wsX40)
def wsX4_arrives_r1 : List Cond := [Cond.fieldLink RX4 35 "SpareShelvesModel" "mends" "[I", Cond.fieldLink RX4 20 "SpareShelvesModel" "core" "[I", Cond.methodLink RX4 123 yX4_goesBack, Cond.instanceMethod yX4_goesBack, Cond.selects RX4 yX4_goesBack yX4_goesBack, Cond.initialized RX4, Cond.methodLink RX4 119 yX4_due, Cond.instanceMethod yX4_due, Cond.selects RX4 yX4_due yX4_due, Cond.code yX4_due cX4_due 6 none, Cond.fieldLink RX4 74 "SpareShelvesModel" "dueSort" "[I", Cond.fieldLink RX4 113 "SpareShelvesModel" "dues" "I", Cond.fieldLink RX4 77 "SpareShelvesModel" "dueShelf" "[I", Cond.fieldLink RX4 80 "SpareShelvesModel" "dueKind" "[I", Cond.fieldLink RX4 83 "SpareShelvesModel" "dueHow" "[I", Cond.fieldLink RX4 86 "SpareShelvesModel" "dueTime" "[I", Cond.fieldLink RX4 116 "SpareShelvesModel" "time" "I", Cond.methodLink RX4 137 yX4_asks, Cond.instanceMethod yX4_asks, Cond.selects RX4 yX4_asks yX4_asks, Cond.code yX4_asks cX4_asks 5 (some .boolean), Cond.fieldLink RX4 38 "SpareShelvesModel" "good" "[I", Cond.fieldLink RX4 59 "SpareShelvesModel" "askShelf" "[I", Cond.fieldLink RX4 110 "SpareShelvesModel" "asks" "I"]
def wsX4_arrives_r2 : List Cond := [Cond.fieldLink RX4 62 "SpareShelvesModel" "askKind" "[I", Cond.fieldLink RX4 65 "SpareShelvesModel" "askBy" "[I", Cond.fieldLink RX4 68 "SpareShelvesModel" "askOf" "[I", Cond.fieldLink RX4 71 "SpareShelvesModel" "askSince" "[I", Cond.methodLink RX4 130 yX4_serves, Cond.instanceMethod yX4_serves, Cond.selects RX4 yX4_serves yX4_serves, Cond.code yX4_asksUp cX4_asksUp 6 none, Cond.fieldLink RX4 26 "SpareShelvesModel" "up" "[I", Cond.code yX4_goesBack cX4_goesBack 7 none, Cond.fieldLink RX4 29 "SpareShelvesModel" "way" "[I", Cond.methodLink RX4 107 yX4_menderOf, Cond.instanceMethod yX4_menderOf, Cond.selects RX4 yX4_menderOf yX4_menderOf, Cond.code yX4_menderOf cX4_menderOf 4 (some .int), Cond.methodLink RX4 134 yX4_arrives, Cond.instanceMethod yX4_arrives, Cond.selects RX4 yX4_arrives yX4_arrives, Cond.code yX4_serves cX4_serves 5 none, Cond.fieldLink RX4 50 "SpareShelvesModel" "taken" "[I", Cond.fieldLink RX4 53 "SpareShelvesModel" "cores" "[I", Cond.fieldLink RX4 56 "SpareShelvesModel" "broke" "[I", Cond.methodLink RX4 127 yX4_asksUp, Cond.instanceMethod yX4_asksUp]
def wsX4_arrives_r3 : List Cond := [Cond.selects RX4 yX4_asksUp yX4_asksUp]
def wsX4_arrives : List Cond := .code yX4_arrives cX4_arrives 5 none :: ((wsX4_arrives_r1 ++ (wsX4_arrives_r2 ++ wsX4_arrives_r3)) ++ wsX40)
def wsX4_asks_r1 : List Cond := [Cond.fieldLink RX4 38 "SpareShelvesModel" "good" "[I", Cond.fieldLink RX4 59 "SpareShelvesModel" "askShelf" "[I", Cond.fieldLink RX4 110 "SpareShelvesModel" "asks" "I", Cond.fieldLink RX4 62 "SpareShelvesModel" "askKind" "[I", Cond.fieldLink RX4 65 "SpareShelvesModel" "askBy" "[I", Cond.fieldLink RX4 68 "SpareShelvesModel" "askOf" "[I", Cond.fieldLink RX4 71 "SpareShelvesModel" "askSince" "[I", Cond.fieldLink RX4 116 "SpareShelvesModel" "time" "I", Cond.methodLink RX4 130 yX4_serves, Cond.instanceMethod yX4_serves, Cond.selects RX4 yX4_serves yX4_serves, Cond.initialized RX4, Cond.code yX4_arrives cX4_arrives 5 none, Cond.fieldLink RX4 35 "SpareShelvesModel" "mends" "[I", Cond.fieldLink RX4 20 "SpareShelvesModel" "core" "[I", Cond.methodLink RX4 123 yX4_goesBack, Cond.instanceMethod yX4_goesBack, Cond.selects RX4 yX4_goesBack yX4_goesBack, Cond.methodLink RX4 119 yX4_due, Cond.instanceMethod yX4_due, Cond.selects RX4 yX4_due yX4_due, Cond.code yX4_due cX4_due 6 none, Cond.fieldLink RX4 74 "SpareShelvesModel" "dueSort" "[I", Cond.fieldLink RX4 113 "SpareShelvesModel" "dues" "I"]
def wsX4_asks_r2 : List Cond := [Cond.fieldLink RX4 77 "SpareShelvesModel" "dueShelf" "[I", Cond.fieldLink RX4 80 "SpareShelvesModel" "dueKind" "[I", Cond.fieldLink RX4 83 "SpareShelvesModel" "dueHow" "[I", Cond.fieldLink RX4 86 "SpareShelvesModel" "dueTime" "[I", Cond.methodLink RX4 137 yX4_asks, Cond.instanceMethod yX4_asks, Cond.selects RX4 yX4_asks yX4_asks, Cond.code yX4_asksUp cX4_asksUp 6 none, Cond.fieldLink RX4 26 "SpareShelvesModel" "up" "[I", Cond.code yX4_goesBack cX4_goesBack 7 none, Cond.fieldLink RX4 29 "SpareShelvesModel" "way" "[I", Cond.methodLink RX4 107 yX4_menderOf, Cond.instanceMethod yX4_menderOf, Cond.selects RX4 yX4_menderOf yX4_menderOf, Cond.code yX4_menderOf cX4_menderOf 4 (some .int), Cond.methodLink RX4 134 yX4_arrives, Cond.instanceMethod yX4_arrives, Cond.selects RX4 yX4_arrives yX4_arrives, Cond.code yX4_serves cX4_serves 5 none, Cond.fieldLink RX4 50 "SpareShelvesModel" "taken" "[I", Cond.fieldLink RX4 53 "SpareShelvesModel" "cores" "[I", Cond.fieldLink RX4 56 "SpareShelvesModel" "broke" "[I", Cond.methodLink RX4 127 yX4_asksUp, Cond.instanceMethod yX4_asksUp]
def wsX4_asks_r3 : List Cond := [Cond.selects RX4 yX4_asksUp yX4_asksUp]
def wsX4_asks : List Cond := .code yX4_asks cX4_asks 5 (some .boolean) :: ((wsX4_asks_r1 ++ (wsX4_asks_r2 ++ wsX4_asks_r3)) ++ wsX40)
def wsX4_asksUp_r1 : List Cond := [Cond.fieldLink RX4 26 "SpareShelvesModel" "up" "[I", Cond.methodLink RX4 137 yX4_asks, Cond.instanceMethod yX4_asks, Cond.selects RX4 yX4_asks yX4_asks, Cond.initialized RX4, Cond.code yX4_arrives cX4_arrives 5 none, Cond.fieldLink RX4 35 "SpareShelvesModel" "mends" "[I", Cond.fieldLink RX4 20 "SpareShelvesModel" "core" "[I", Cond.methodLink RX4 123 yX4_goesBack, Cond.instanceMethod yX4_goesBack, Cond.selects RX4 yX4_goesBack yX4_goesBack, Cond.methodLink RX4 119 yX4_due, Cond.instanceMethod yX4_due, Cond.selects RX4 yX4_due yX4_due, Cond.code yX4_due cX4_due 6 none, Cond.fieldLink RX4 74 "SpareShelvesModel" "dueSort" "[I", Cond.fieldLink RX4 113 "SpareShelvesModel" "dues" "I", Cond.fieldLink RX4 77 "SpareShelvesModel" "dueShelf" "[I", Cond.fieldLink RX4 80 "SpareShelvesModel" "dueKind" "[I", Cond.fieldLink RX4 83 "SpareShelvesModel" "dueHow" "[I", Cond.fieldLink RX4 86 "SpareShelvesModel" "dueTime" "[I", Cond.fieldLink RX4 116 "SpareShelvesModel" "time" "I", Cond.code yX4_asks cX4_asks 5 (some .boolean), Cond.fieldLink RX4 38 "SpareShelvesModel" "good" "[I"]
def wsX4_asksUp_r2 : List Cond := [Cond.fieldLink RX4 59 "SpareShelvesModel" "askShelf" "[I", Cond.fieldLink RX4 110 "SpareShelvesModel" "asks" "I", Cond.fieldLink RX4 62 "SpareShelvesModel" "askKind" "[I", Cond.fieldLink RX4 65 "SpareShelvesModel" "askBy" "[I", Cond.fieldLink RX4 68 "SpareShelvesModel" "askOf" "[I", Cond.fieldLink RX4 71 "SpareShelvesModel" "askSince" "[I", Cond.methodLink RX4 130 yX4_serves, Cond.instanceMethod yX4_serves, Cond.selects RX4 yX4_serves yX4_serves, Cond.code yX4_goesBack cX4_goesBack 7 none, Cond.fieldLink RX4 29 "SpareShelvesModel" "way" "[I", Cond.methodLink RX4 107 yX4_menderOf, Cond.instanceMethod yX4_menderOf, Cond.selects RX4 yX4_menderOf yX4_menderOf, Cond.code yX4_menderOf cX4_menderOf 4 (some .int), Cond.methodLink RX4 134 yX4_arrives, Cond.instanceMethod yX4_arrives, Cond.selects RX4 yX4_arrives yX4_arrives, Cond.code yX4_serves cX4_serves 5 none, Cond.fieldLink RX4 50 "SpareShelvesModel" "taken" "[I", Cond.fieldLink RX4 53 "SpareShelvesModel" "cores" "[I", Cond.fieldLink RX4 56 "SpareShelvesModel" "broke" "[I", Cond.methodLink RX4 127 yX4_asksUp, Cond.instanceMethod yX4_asksUp]
def wsX4_asksUp_r3 : List Cond := [Cond.selects RX4 yX4_asksUp yX4_asksUp]
def wsX4_asksUp : List Cond := .code yX4_asksUp cX4_asksUp 6 none :: ((wsX4_asksUp_r1 ++ (wsX4_asksUp_r2 ++ wsX4_asksUp_r3)) ++ wsX40)
def wsX4_goesBack_r1 : List Cond := [Cond.fieldLink RX4 29 "SpareShelvesModel" "way" "[I", Cond.fieldLink RX4 26 "SpareShelvesModel" "up" "[I", Cond.methodLink RX4 107 yX4_menderOf, Cond.instanceMethod yX4_menderOf, Cond.selects RX4 yX4_menderOf yX4_menderOf, Cond.initialized RX4, Cond.code yX4_menderOf cX4_menderOf 4 (some .int), Cond.fieldLink RX4 35 "SpareShelvesModel" "mends" "[I", Cond.methodLink RX4 134 yX4_arrives, Cond.instanceMethod yX4_arrives, Cond.selects RX4 yX4_arrives yX4_arrives, Cond.methodLink RX4 119 yX4_due, Cond.instanceMethod yX4_due, Cond.selects RX4 yX4_due yX4_due, Cond.code yX4_due cX4_due 6 none, Cond.fieldLink RX4 74 "SpareShelvesModel" "dueSort" "[I", Cond.fieldLink RX4 113 "SpareShelvesModel" "dues" "I", Cond.fieldLink RX4 77 "SpareShelvesModel" "dueShelf" "[I", Cond.fieldLink RX4 80 "SpareShelvesModel" "dueKind" "[I", Cond.fieldLink RX4 83 "SpareShelvesModel" "dueHow" "[I", Cond.fieldLink RX4 86 "SpareShelvesModel" "dueTime" "[I", Cond.fieldLink RX4 116 "SpareShelvesModel" "time" "I", Cond.code yX4_arrives cX4_arrives 5 none, Cond.fieldLink RX4 20 "SpareShelvesModel" "core" "[I"]
def wsX4_goesBack_r2 : List Cond := [Cond.methodLink RX4 123 yX4_goesBack, Cond.instanceMethod yX4_goesBack, Cond.selects RX4 yX4_goesBack yX4_goesBack, Cond.methodLink RX4 137 yX4_asks, Cond.instanceMethod yX4_asks, Cond.selects RX4 yX4_asks yX4_asks, Cond.code yX4_asks cX4_asks 5 (some .boolean), Cond.fieldLink RX4 38 "SpareShelvesModel" "good" "[I", Cond.fieldLink RX4 59 "SpareShelvesModel" "askShelf" "[I", Cond.fieldLink RX4 110 "SpareShelvesModel" "asks" "I", Cond.fieldLink RX4 62 "SpareShelvesModel" "askKind" "[I", Cond.fieldLink RX4 65 "SpareShelvesModel" "askBy" "[I", Cond.fieldLink RX4 68 "SpareShelvesModel" "askOf" "[I", Cond.fieldLink RX4 71 "SpareShelvesModel" "askSince" "[I", Cond.methodLink RX4 130 yX4_serves, Cond.instanceMethod yX4_serves, Cond.selects RX4 yX4_serves yX4_serves, Cond.code yX4_asksUp cX4_asksUp 6 none, Cond.code yX4_serves cX4_serves 5 none, Cond.fieldLink RX4 50 "SpareShelvesModel" "taken" "[I", Cond.fieldLink RX4 53 "SpareShelvesModel" "cores" "[I", Cond.fieldLink RX4 56 "SpareShelvesModel" "broke" "[I", Cond.methodLink RX4 127 yX4_asksUp, Cond.instanceMethod yX4_asksUp]
def wsX4_goesBack_r3 : List Cond := [Cond.selects RX4 yX4_asksUp yX4_asksUp]
def wsX4_goesBack : List Cond := .code yX4_goesBack cX4_goesBack 7 none :: ((wsX4_goesBack_r1 ++ (wsX4_goesBack_r2 ++ wsX4_goesBack_r3)) ++ wsX40)
def wsX4_serves_r1 : List Cond := [Cond.fieldLink RX4 50 "SpareShelvesModel" "taken" "[I", Cond.fieldLink RX4 29 "SpareShelvesModel" "way" "[I", Cond.fieldLink RX4 53 "SpareShelvesModel" "cores" "[I", Cond.fieldLink RX4 56 "SpareShelvesModel" "broke" "[I", Cond.fieldLink RX4 35 "SpareShelvesModel" "mends" "[I", Cond.methodLink RX4 119 yX4_due, Cond.instanceMethod yX4_due, Cond.selects RX4 yX4_due yX4_due, Cond.initialized RX4, Cond.code yX4_due cX4_due 6 none, Cond.fieldLink RX4 74 "SpareShelvesModel" "dueSort" "[I", Cond.fieldLink RX4 113 "SpareShelvesModel" "dues" "I", Cond.fieldLink RX4 77 "SpareShelvesModel" "dueShelf" "[I", Cond.fieldLink RX4 80 "SpareShelvesModel" "dueKind" "[I", Cond.fieldLink RX4 83 "SpareShelvesModel" "dueHow" "[I", Cond.fieldLink RX4 86 "SpareShelvesModel" "dueTime" "[I", Cond.fieldLink RX4 116 "SpareShelvesModel" "time" "I", Cond.methodLink RX4 123 yX4_goesBack, Cond.instanceMethod yX4_goesBack, Cond.selects RX4 yX4_goesBack yX4_goesBack, Cond.methodLink RX4 107 yX4_menderOf, Cond.instanceMethod yX4_menderOf, Cond.selects RX4 yX4_menderOf yX4_menderOf, Cond.code yX4_menderOf cX4_menderOf 4 (some .int)]
def wsX4_serves_r2 : List Cond := [Cond.fieldLink RX4 26 "SpareShelvesModel" "up" "[I", Cond.methodLink RX4 127 yX4_asksUp, Cond.instanceMethod yX4_asksUp, Cond.selects RX4 yX4_asksUp yX4_asksUp, Cond.code yX4_arrives cX4_arrives 5 none, Cond.fieldLink RX4 20 "SpareShelvesModel" "core" "[I", Cond.methodLink RX4 137 yX4_asks, Cond.instanceMethod yX4_asks, Cond.selects RX4 yX4_asks yX4_asks, Cond.code yX4_asks cX4_asks 5 (some .boolean), Cond.fieldLink RX4 38 "SpareShelvesModel" "good" "[I", Cond.fieldLink RX4 59 "SpareShelvesModel" "askShelf" "[I", Cond.fieldLink RX4 110 "SpareShelvesModel" "asks" "I", Cond.fieldLink RX4 62 "SpareShelvesModel" "askKind" "[I", Cond.fieldLink RX4 65 "SpareShelvesModel" "askBy" "[I", Cond.fieldLink RX4 68 "SpareShelvesModel" "askOf" "[I", Cond.fieldLink RX4 71 "SpareShelvesModel" "askSince" "[I", Cond.methodLink RX4 130 yX4_serves, Cond.instanceMethod yX4_serves, Cond.selects RX4 yX4_serves yX4_serves, Cond.code yX4_asksUp cX4_asksUp 6 none, Cond.code yX4_goesBack cX4_goesBack 7 none, Cond.methodLink RX4 134 yX4_arrives, Cond.instanceMethod yX4_arrives]
def wsX4_serves_r3 : List Cond := [Cond.selects RX4 yX4_arrives yX4_arrives]
def wsX4_serves : List Cond := .code yX4_serves cX4_serves 5 none :: ((wsX4_serves_r1 ++ (wsX4_serves_r2 ++ wsX4_serves_r3)) ++ wsX40)
def wsX4_lands_r1 : List Cond := [Cond.fieldLink RX4 110 "SpareShelvesModel" "asks" "I", Cond.fieldLink RX4 59 "SpareShelvesModel" "askShelf" "[I", Cond.fieldLink RX4 62 "SpareShelvesModel" "askKind" "[I", Cond.fieldLink RX4 38 "SpareShelvesModel" "good" "[I", Cond.fieldLink RX4 65 "SpareShelvesModel" "askBy" "[I", Cond.fieldLink RX4 68 "SpareShelvesModel" "askOf" "[I", Cond.fieldLink RX4 71 "SpareShelvesModel" "askSince" "[I", Cond.methodLink RX4 130 yX4_serves, Cond.instanceMethod yX4_serves, Cond.selects RX4 yX4_serves yX4_serves, Cond.initialized RX4, Cond.code yX4_serves cX4_serves 5 none, Cond.fieldLink RX4 50 "SpareShelvesModel" "taken" "[I", Cond.fieldLink RX4 29 "SpareShelvesModel" "way" "[I", Cond.fieldLink RX4 53 "SpareShelvesModel" "cores" "[I", Cond.fieldLink RX4 56 "SpareShelvesModel" "broke" "[I", Cond.fieldLink RX4 35 "SpareShelvesModel" "mends" "[I", Cond.methodLink RX4 119 yX4_due, Cond.instanceMethod yX4_due, Cond.selects RX4 yX4_due yX4_due, Cond.code yX4_due cX4_due 6 none, Cond.fieldLink RX4 74 "SpareShelvesModel" "dueSort" "[I", Cond.fieldLink RX4 113 "SpareShelvesModel" "dues" "I", Cond.fieldLink RX4 77 "SpareShelvesModel" "dueShelf" "[I"]
def wsX4_lands_r2 : List Cond := [Cond.fieldLink RX4 80 "SpareShelvesModel" "dueKind" "[I", Cond.fieldLink RX4 83 "SpareShelvesModel" "dueHow" "[I", Cond.fieldLink RX4 86 "SpareShelvesModel" "dueTime" "[I", Cond.fieldLink RX4 116 "SpareShelvesModel" "time" "I", Cond.methodLink RX4 123 yX4_goesBack, Cond.instanceMethod yX4_goesBack, Cond.selects RX4 yX4_goesBack yX4_goesBack, Cond.methodLink RX4 107 yX4_menderOf, Cond.instanceMethod yX4_menderOf, Cond.selects RX4 yX4_menderOf yX4_menderOf, Cond.code yX4_menderOf cX4_menderOf 4 (some .int), Cond.fieldLink RX4 26 "SpareShelvesModel" "up" "[I", Cond.methodLink RX4 127 yX4_asksUp, Cond.instanceMethod yX4_asksUp, Cond.selects RX4 yX4_asksUp yX4_asksUp, Cond.code yX4_arrives cX4_arrives 5 none, Cond.fieldLink RX4 20 "SpareShelvesModel" "core" "[I", Cond.methodLink RX4 137 yX4_asks, Cond.instanceMethod yX4_asks, Cond.selects RX4 yX4_asks yX4_asks, Cond.code yX4_asks cX4_asks 5 (some .boolean), Cond.code yX4_asksUp cX4_asksUp 6 none, Cond.code yX4_goesBack cX4_goesBack 7 none, Cond.methodLink RX4 134 yX4_arrives]
def wsX4_lands_r3 : List Cond := [Cond.instanceMethod yX4_arrives, Cond.selects RX4 yX4_arrives yX4_arrives]
def wsX4_lands : List Cond := .code yX4_lands cX4_lands 7 none :: ((wsX4_lands_r1 ++ (wsX4_lands_r2 ++ wsX4_lands_r3)) ++ wsX40)
def wsX4_fails_r1 : List Cond := [Cond.fieldLink RX4 20 "SpareShelvesModel" "core" "[I", Cond.fieldLink RX4 110 "SpareShelvesModel" "asks" "I", Cond.fieldLink RX4 113 "SpareShelvesModel" "dues" "I", Cond.fieldLink RX4 56 "SpareShelvesModel" "broke" "[I", Cond.fieldLink RX4 47 "SpareShelvesModel" "scrapped" "[I", Cond.fieldLink RX4 44 "SpareShelvesModel" "bought" "[I", Cond.fieldLink RX4 17 "SpareShelvesModel" "buys" "[I", Cond.methodLink RX4 100 yX4_isShelf, Cond.instanceMethod yX4_isShelf, Cond.selects RX4 yX4_isShelf yX4_isShelf, Cond.initialized RX4, Cond.code yX4_isShelf cX4_isShelf 2 (some .boolean), Cond.fieldLink RX4 23 "SpareShelvesModel" "shelves" "I", Cond.methodLink RX4 92 yX4_in, Cond.static yX4_in, Cond.code yX4_in cX4_in 3 (some .boolean), Cond.methodLink RX4 96 yX4_isKind, Cond.instanceMethod yX4_isKind, Cond.selects RX4 yX4_isKind yX4_isKind, Cond.code yX4_isKind cX4_isKind 2 (some .boolean), Cond.fieldLink RX4 89 "SpareShelvesModel" "kinds" "I", Cond.methodLink RX4 137 yX4_asks, Cond.instanceMethod yX4_asks, Cond.selects RX4 yX4_asks yX4_asks]
def wsX4_fails_r2 : List Cond := [Cond.code yX4_asks cX4_asks 5 (some .boolean), Cond.fieldLink RX4 38 "SpareShelvesModel" "good" "[I", Cond.fieldLink RX4 59 "SpareShelvesModel" "askShelf" "[I", Cond.fieldLink RX4 62 "SpareShelvesModel" "askKind" "[I", Cond.fieldLink RX4 65 "SpareShelvesModel" "askBy" "[I", Cond.fieldLink RX4 68 "SpareShelvesModel" "askOf" "[I", Cond.fieldLink RX4 71 "SpareShelvesModel" "askSince" "[I", Cond.fieldLink RX4 116 "SpareShelvesModel" "time" "I", Cond.methodLink RX4 130 yX4_serves, Cond.instanceMethod yX4_serves, Cond.selects RX4 yX4_serves yX4_serves, Cond.code yX4_arrives cX4_arrives 5 none, Cond.fieldLink RX4 35 "SpareShelvesModel" "mends" "[I", Cond.methodLink RX4 123 yX4_goesBack, Cond.instanceMethod yX4_goesBack, Cond.selects RX4 yX4_goesBack yX4_goesBack, Cond.methodLink RX4 119 yX4_due, Cond.instanceMethod yX4_due, Cond.selects RX4 yX4_due yX4_due, Cond.code yX4_due cX4_due 6 none, Cond.fieldLink RX4 74 "SpareShelvesModel" "dueSort" "[I", Cond.fieldLink RX4 77 "SpareShelvesModel" "dueShelf" "[I", Cond.fieldLink RX4 80 "SpareShelvesModel" "dueKind" "[I", Cond.fieldLink RX4 83 "SpareShelvesModel" "dueHow" "[I"]
def wsX4_fails_r3 : List Cond := [Cond.fieldLink RX4 86 "SpareShelvesModel" "dueTime" "[I", Cond.code yX4_asksUp cX4_asksUp 6 none, Cond.fieldLink RX4 26 "SpareShelvesModel" "up" "[I", Cond.code yX4_goesBack cX4_goesBack 7 none, Cond.fieldLink RX4 29 "SpareShelvesModel" "way" "[I", Cond.methodLink RX4 107 yX4_menderOf, Cond.instanceMethod yX4_menderOf, Cond.selects RX4 yX4_menderOf yX4_menderOf, Cond.code yX4_menderOf cX4_menderOf 4 (some .int), Cond.methodLink RX4 134 yX4_arrives, Cond.instanceMethod yX4_arrives, Cond.selects RX4 yX4_arrives yX4_arrives, Cond.code yX4_serves cX4_serves 5 none, Cond.fieldLink RX4 50 "SpareShelvesModel" "taken" "[I", Cond.fieldLink RX4 53 "SpareShelvesModel" "cores" "[I", Cond.methodLink RX4 127 yX4_asksUp, Cond.instanceMethod yX4_asksUp, Cond.selects RX4 yX4_asksUp yX4_asksUp]
def wsX4_fails : List Cond := .code yX4_fails cX4_fails 5 (some .int) :: ((wsX4_fails_r1 ++ (wsX4_fails_r2 ++ wsX4_fails_r3)) ++ wsX40)
def wsX4_isDone_r1 : List Cond := [Cond.fieldLink RX4 113 "SpareShelvesModel" "dues" "I", Cond.fieldLink RX4 86 "SpareShelvesModel" "dueTime" "[I", Cond.fieldLink RX4 116 "SpareShelvesModel" "time" "I", Cond.fieldLink RX4 74 "SpareShelvesModel" "dueSort" "[I", Cond.fieldLink RX4 77 "SpareShelvesModel" "dueShelf" "[I", Cond.fieldLink RX4 80 "SpareShelvesModel" "dueKind" "[I", Cond.fieldLink RX4 83 "SpareShelvesModel" "dueHow" "[I", Cond.methodLink RX4 134 yX4_arrives, Cond.instanceMethod yX4_arrives, Cond.selects RX4 yX4_arrives yX4_arrives, Cond.initialized RX4, Cond.code yX4_arrives cX4_arrives 5 none, Cond.fieldLink RX4 35 "SpareShelvesModel" "mends" "[I", Cond.fieldLink RX4 20 "SpareShelvesModel" "core" "[I", Cond.methodLink RX4 123 yX4_goesBack, Cond.instanceMethod yX4_goesBack, Cond.selects RX4 yX4_goesBack yX4_goesBack, Cond.methodLink RX4 119 yX4_due, Cond.instanceMethod yX4_due, Cond.selects RX4 yX4_due yX4_due, Cond.code yX4_due cX4_due 6 none, Cond.methodLink RX4 137 yX4_asks, Cond.instanceMethod yX4_asks, Cond.selects RX4 yX4_asks yX4_asks]
def wsX4_isDone_r2 : List Cond := [Cond.code yX4_asks cX4_asks 5 (some .boolean), Cond.fieldLink RX4 38 "SpareShelvesModel" "good" "[I", Cond.fieldLink RX4 59 "SpareShelvesModel" "askShelf" "[I", Cond.fieldLink RX4 110 "SpareShelvesModel" "asks" "I", Cond.fieldLink RX4 62 "SpareShelvesModel" "askKind" "[I", Cond.fieldLink RX4 65 "SpareShelvesModel" "askBy" "[I", Cond.fieldLink RX4 68 "SpareShelvesModel" "askOf" "[I", Cond.fieldLink RX4 71 "SpareShelvesModel" "askSince" "[I", Cond.methodLink RX4 130 yX4_serves, Cond.instanceMethod yX4_serves, Cond.selects RX4 yX4_serves yX4_serves, Cond.code yX4_asksUp cX4_asksUp 6 none, Cond.fieldLink RX4 26 "SpareShelvesModel" "up" "[I", Cond.code yX4_goesBack cX4_goesBack 7 none, Cond.fieldLink RX4 29 "SpareShelvesModel" "way" "[I", Cond.methodLink RX4 107 yX4_menderOf, Cond.instanceMethod yX4_menderOf, Cond.selects RX4 yX4_menderOf yX4_menderOf, Cond.code yX4_menderOf cX4_menderOf 4 (some .int), Cond.code yX4_serves cX4_serves 5 none, Cond.fieldLink RX4 50 "SpareShelvesModel" "taken" "[I", Cond.fieldLink RX4 53 "SpareShelvesModel" "cores" "[I", Cond.fieldLink RX4 56 "SpareShelvesModel" "broke" "[I", Cond.methodLink RX4 127 yX4_asksUp]
def wsX4_isDone_r3 : List Cond := [Cond.instanceMethod yX4_asksUp, Cond.selects RX4 yX4_asksUp yX4_asksUp, Cond.methodLink RX4 140 yX4_lands, Cond.instanceMethod yX4_lands, Cond.selects RX4 yX4_lands yX4_lands, Cond.code yX4_lands cX4_lands 7 none]
def wsX4_isDone : List Cond := .code yX4_isDone cX4_isDone 7 (some .boolean) :: ((wsX4_isDone_r1 ++ (wsX4_isDone_r2 ++ wsX4_isDone_r3)) ++ wsX40)
def wsX4_days_r1 : List Cond := [Cond.fieldLink RX4 116 "SpareShelvesModel" "time" "I", Cond.fieldLink RX4 110 "SpareShelvesModel" "asks" "I", Cond.fieldLink RX4 32 "SpareShelvesModel" "stood" "[I", Cond.fieldLink RX4 59 "SpareShelvesModel" "askShelf" "[I", Cond.fieldLink RX4 65 "SpareShelvesModel" "askBy" "[I", Cond.methodLink RX4 92 yX4_in, Cond.static yX4_in, Cond.initialized RX4, Cond.code yX4_in cX4_in 3 (some .boolean), Cond.methodLink RX4 144 yX4_isDone, Cond.instanceMethod yX4_isDone, Cond.selects RX4 yX4_isDone yX4_isDone, Cond.code yX4_isDone cX4_isDone 7 (some .boolean), Cond.fieldLink RX4 113 "SpareShelvesModel" "dues" "I", Cond.fieldLink RX4 86 "SpareShelvesModel" "dueTime" "[I", Cond.fieldLink RX4 74 "SpareShelvesModel" "dueSort" "[I", Cond.fieldLink RX4 77 "SpareShelvesModel" "dueShelf" "[I", Cond.fieldLink RX4 80 "SpareShelvesModel" "dueKind" "[I", Cond.fieldLink RX4 83 "SpareShelvesModel" "dueHow" "[I", Cond.methodLink RX4 134 yX4_arrives, Cond.instanceMethod yX4_arrives, Cond.selects RX4 yX4_arrives yX4_arrives, Cond.code yX4_arrives cX4_arrives 5 none, Cond.fieldLink RX4 35 "SpareShelvesModel" "mends" "[I"]
def wsX4_days_r2 : List Cond := [Cond.fieldLink RX4 20 "SpareShelvesModel" "core" "[I", Cond.methodLink RX4 123 yX4_goesBack, Cond.instanceMethod yX4_goesBack, Cond.selects RX4 yX4_goesBack yX4_goesBack, Cond.methodLink RX4 119 yX4_due, Cond.instanceMethod yX4_due, Cond.selects RX4 yX4_due yX4_due, Cond.code yX4_due cX4_due 6 none, Cond.methodLink RX4 137 yX4_asks, Cond.instanceMethod yX4_asks, Cond.selects RX4 yX4_asks yX4_asks, Cond.code yX4_asks cX4_asks 5 (some .boolean), Cond.fieldLink RX4 38 "SpareShelvesModel" "good" "[I", Cond.fieldLink RX4 62 "SpareShelvesModel" "askKind" "[I", Cond.fieldLink RX4 68 "SpareShelvesModel" "askOf" "[I", Cond.fieldLink RX4 71 "SpareShelvesModel" "askSince" "[I", Cond.methodLink RX4 130 yX4_serves, Cond.instanceMethod yX4_serves, Cond.selects RX4 yX4_serves yX4_serves, Cond.code yX4_asksUp cX4_asksUp 6 none, Cond.fieldLink RX4 26 "SpareShelvesModel" "up" "[I", Cond.code yX4_goesBack cX4_goesBack 7 none, Cond.fieldLink RX4 29 "SpareShelvesModel" "way" "[I", Cond.methodLink RX4 107 yX4_menderOf]
def wsX4_days_r3 : List Cond := [Cond.instanceMethod yX4_menderOf, Cond.selects RX4 yX4_menderOf yX4_menderOf, Cond.code yX4_menderOf cX4_menderOf 4 (some .int), Cond.code yX4_serves cX4_serves 5 none, Cond.fieldLink RX4 50 "SpareShelvesModel" "taken" "[I", Cond.fieldLink RX4 53 "SpareShelvesModel" "cores" "[I", Cond.fieldLink RX4 56 "SpareShelvesModel" "broke" "[I", Cond.methodLink RX4 127 yX4_asksUp, Cond.instanceMethod yX4_asksUp, Cond.selects RX4 yX4_asksUp yX4_asksUp, Cond.methodLink RX4 140 yX4_lands, Cond.instanceMethod yX4_lands, Cond.selects RX4 yX4_lands yX4_lands, Cond.code yX4_lands cX4_lands 7 none]
def wsX4_days : List Cond := .code yX4_days cX4_days 5 (some .int) :: ((wsX4_days_r1 ++ (wsX4_days_r2 ++ wsX4_days_r3)) ++ wsX40)
def wsX4_stock_r1 : List Cond := [Cond.fieldLink RX4 44 "SpareShelvesModel" "bought" "[I", Cond.fieldLink RX4 38 "SpareShelvesModel" "good" "[I", Cond.methodLink RX4 100 yX4_isShelf, Cond.instanceMethod yX4_isShelf, Cond.selects RX4 yX4_isShelf yX4_isShelf, Cond.initialized RX4, Cond.code yX4_isShelf cX4_isShelf 2 (some .boolean), Cond.fieldLink RX4 23 "SpareShelvesModel" "shelves" "I", Cond.methodLink RX4 92 yX4_in, Cond.static yX4_in, Cond.code yX4_in cX4_in 3 (some .boolean), Cond.methodLink RX4 96 yX4_isKind, Cond.instanceMethod yX4_isKind, Cond.selects RX4 yX4_isKind yX4_isKind, Cond.code yX4_isKind cX4_isKind 2 (some .boolean), Cond.fieldLink RX4 89 "SpareShelvesModel" "kinds" "I", Cond.methodLink RX4 140 yX4_lands, Cond.instanceMethod yX4_lands, Cond.selects RX4 yX4_lands yX4_lands, Cond.code yX4_lands cX4_lands 7 none, Cond.fieldLink RX4 110 "SpareShelvesModel" "asks" "I", Cond.fieldLink RX4 59 "SpareShelvesModel" "askShelf" "[I", Cond.fieldLink RX4 62 "SpareShelvesModel" "askKind" "[I", Cond.fieldLink RX4 65 "SpareShelvesModel" "askBy" "[I"]
def wsX4_stock_r2 : List Cond := [Cond.fieldLink RX4 68 "SpareShelvesModel" "askOf" "[I", Cond.fieldLink RX4 71 "SpareShelvesModel" "askSince" "[I", Cond.methodLink RX4 130 yX4_serves, Cond.instanceMethod yX4_serves, Cond.selects RX4 yX4_serves yX4_serves, Cond.code yX4_serves cX4_serves 5 none, Cond.fieldLink RX4 50 "SpareShelvesModel" "taken" "[I", Cond.fieldLink RX4 29 "SpareShelvesModel" "way" "[I", Cond.fieldLink RX4 53 "SpareShelvesModel" "cores" "[I", Cond.fieldLink RX4 56 "SpareShelvesModel" "broke" "[I", Cond.fieldLink RX4 35 "SpareShelvesModel" "mends" "[I", Cond.methodLink RX4 119 yX4_due, Cond.instanceMethod yX4_due, Cond.selects RX4 yX4_due yX4_due, Cond.code yX4_due cX4_due 6 none, Cond.fieldLink RX4 74 "SpareShelvesModel" "dueSort" "[I", Cond.fieldLink RX4 113 "SpareShelvesModel" "dues" "I", Cond.fieldLink RX4 77 "SpareShelvesModel" "dueShelf" "[I", Cond.fieldLink RX4 80 "SpareShelvesModel" "dueKind" "[I", Cond.fieldLink RX4 83 "SpareShelvesModel" "dueHow" "[I", Cond.fieldLink RX4 86 "SpareShelvesModel" "dueTime" "[I", Cond.fieldLink RX4 116 "SpareShelvesModel" "time" "I", Cond.methodLink RX4 123 yX4_goesBack, Cond.instanceMethod yX4_goesBack]
def wsX4_stock_r3 : List Cond := [Cond.selects RX4 yX4_goesBack yX4_goesBack, Cond.methodLink RX4 107 yX4_menderOf, Cond.instanceMethod yX4_menderOf, Cond.selects RX4 yX4_menderOf yX4_menderOf, Cond.code yX4_menderOf cX4_menderOf 4 (some .int), Cond.fieldLink RX4 26 "SpareShelvesModel" "up" "[I", Cond.methodLink RX4 127 yX4_asksUp, Cond.instanceMethod yX4_asksUp, Cond.selects RX4 yX4_asksUp yX4_asksUp, Cond.code yX4_arrives cX4_arrives 5 none, Cond.fieldLink RX4 20 "SpareShelvesModel" "core" "[I", Cond.methodLink RX4 137 yX4_asks, Cond.instanceMethod yX4_asks, Cond.selects RX4 yX4_asks yX4_asks, Cond.code yX4_asks cX4_asks 5 (some .boolean), Cond.code yX4_asksUp cX4_asksUp 6 none, Cond.code yX4_goesBack cX4_goesBack 7 none, Cond.methodLink RX4 134 yX4_arrives, Cond.instanceMethod yX4_arrives, Cond.selects RX4 yX4_arrives yX4_arrives]
def wsX4_stock : List Cond := .code yX4_stock cX4_stock 5 (some .int) :: ((wsX4_stock_r1 ++ (wsX4_stock_r2 ++ wsX4_stock_r3)) ++ wsX40)
def wsX4_asksOf : List Cond := .code yX4_asksOf cX4_asksOf 6 (some .int) :: ([.fieldLink RX4 110 "SpareShelvesModel" "asks" "I", .fieldLink RX4 59 "SpareShelvesModel" "askShelf" "[I", .fieldLink RX4 62 "SpareShelvesModel" "askKind" "[I", .fieldLink RX4 65 "SpareShelvesModel" "askBy" "[I"] ++ wsX40)
def wsX4_duesOf : List Cond := .code yX4_duesOf cX4_duesOf 6 (some .int) :: ([.fieldLink RX4 113 "SpareShelvesModel" "dues" "I", .fieldLink RX4 77 "SpareShelvesModel" "dueShelf" "[I", .fieldLink RX4 80 "SpareShelvesModel" "dueKind" "[I", .fieldLink RX4 74 "SpareShelvesModel" "dueSort" "[I"] ++ wsX40)
def wsX4_about_r1 : List Cond := [Cond.fieldLink RX4 38 "SpareShelvesModel" "good" "[I", Cond.methodLink RX4 100 yX4_isShelf, Cond.instanceMethod yX4_isShelf, Cond.selects RX4 yX4_isShelf yX4_isShelf, Cond.initialized RX4, Cond.code yX4_isShelf cX4_isShelf 2 (some .boolean), Cond.fieldLink RX4 23 "SpareShelvesModel" "shelves" "I", Cond.methodLink RX4 92 yX4_in, Cond.static yX4_in, Cond.code yX4_in cX4_in 3 (some .boolean), Cond.methodLink RX4 96 yX4_isKind, Cond.instanceMethod yX4_isKind, Cond.selects RX4 yX4_isKind yX4_isKind, Cond.code yX4_isKind cX4_isKind 2 (some .boolean), Cond.fieldLink RX4 89 "SpareShelvesModel" "kinds" "I", Cond.methodLink RX4 148 yX4_asksOf, Cond.instanceMethod yX4_asksOf, Cond.selects RX4 yX4_asksOf yX4_asksOf, Cond.code yX4_asksOf cX4_asksOf 6 (some .int), Cond.fieldLink RX4 110 "SpareShelvesModel" "asks" "I", Cond.fieldLink RX4 59 "SpareShelvesModel" "askShelf" "[I", Cond.fieldLink RX4 62 "SpareShelvesModel" "askKind" "[I", Cond.fieldLink RX4 65 "SpareShelvesModel" "askBy" "[I", Cond.methodLink RX4 152 yX4_duesOf]
def wsX4_about_r2 : List Cond := [Cond.instanceMethod yX4_duesOf, Cond.selects RX4 yX4_duesOf yX4_duesOf, Cond.code yX4_duesOf cX4_duesOf 6 (some .int), Cond.fieldLink RX4 113 "SpareShelvesModel" "dues" "I", Cond.fieldLink RX4 77 "SpareShelvesModel" "dueShelf" "[I", Cond.fieldLink RX4 80 "SpareShelvesModel" "dueKind" "[I", Cond.fieldLink RX4 74 "SpareShelvesModel" "dueSort" "[I", Cond.methodLink RX4 103 yX4_waiting, Cond.instanceMethod yX4_waiting, Cond.selects RX4 yX4_waiting yX4_waiting, Cond.code yX4_waiting cX4_waiting 5 (some .int), Cond.fieldLink RX4 68 "SpareShelvesModel" "askOf" "[I"]
def wsX4_about : List Cond := .code yX4_about cX4_about 4 (some .int) :: ((wsX4_about_r1 ++ wsX4_about_r2) ++ wsX40)
def wsX4_ask : List Cond := .code yX4_ask cX4_ask 7 (some .int) :: ([.fieldLink RX4 110 "SpareShelvesModel" "asks" "I", .fieldLink RX4 59 "SpareShelvesModel" "askShelf" "[I", .fieldLink RX4 62 "SpareShelvesModel" "askKind" "[I", .fieldLink RX4 65 "SpareShelvesModel" "askBy" "[I", .fieldLink RX4 71 "SpareShelvesModel" "askSince" "[I", .fieldLink RX4 68 "SpareShelvesModel" "askOf" "[I", .methodLink RX4 100 yX4_isShelf, .instanceMethod yX4_isShelf, .selects RX4 yX4_isShelf yX4_isShelf, .initialized RX4, .code yX4_isShelf cX4_isShelf 2 (some .boolean), .fieldLink RX4 23 "SpareShelvesModel" "shelves" "I", .methodLink RX4 92 yX4_in, .static yX4_in, .code yX4_in cX4_in 3 (some .boolean), .methodLink RX4 96 yX4_isKind, .instanceMethod yX4_isKind, .selects RX4 yX4_isKind yX4_isKind, .code yX4_isKind cX4_isKind 2 (some .boolean), .fieldLink RX4 89 "SpareShelvesModel" "kinds" "I"] ++ wsX40)
def wsX4_all_r1 : List Cond := [Cond.fieldLink RX4 44 "SpareShelvesModel" "bought" "[I", Cond.fieldLink RX4 47 "SpareShelvesModel" "scrapped" "[I", Cond.fieldLink RX4 23 "SpareShelvesModel" "shelves" "I", Cond.fieldLink RX4 38 "SpareShelvesModel" "good" "[I", Cond.fieldLink RX4 50 "SpareShelvesModel" "taken" "[I", Cond.fieldLink RX4 53 "SpareShelvesModel" "cores" "[I", Cond.fieldLink RX4 56 "SpareShelvesModel" "broke" "[I", Cond.methodLink RX4 96 yX4_isKind, Cond.instanceMethod yX4_isKind, Cond.selects RX4 yX4_isKind yX4_isKind, Cond.initialized RX4, Cond.code yX4_isKind cX4_isKind 2 (some .boolean), Cond.fieldLink RX4 89 "SpareShelvesModel" "kinds" "I", Cond.methodLink RX4 92 yX4_in, Cond.static yX4_in, Cond.code yX4_in cX4_in 3 (some .boolean), Cond.methodLink RX4 152 yX4_duesOf, Cond.instanceMethod yX4_duesOf, Cond.selects RX4 yX4_duesOf yX4_duesOf, Cond.code yX4_duesOf cX4_duesOf 6 (some .int), Cond.fieldLink RX4 113 "SpareShelvesModel" "dues" "I", Cond.fieldLink RX4 77 "SpareShelvesModel" "dueShelf" "[I", Cond.fieldLink RX4 80 "SpareShelvesModel" "dueKind" "[I", Cond.fieldLink RX4 74 "SpareShelvesModel" "dueSort" "[I"]
def wsX4_all_r2 : List Cond := [Cond.methodLink RX4 103 yX4_waiting, Cond.instanceMethod yX4_waiting, Cond.selects RX4 yX4_waiting yX4_waiting, Cond.code yX4_waiting cX4_waiting 5 (some .int), Cond.fieldLink RX4 110 "SpareShelvesModel" "asks" "I", Cond.fieldLink RX4 59 "SpareShelvesModel" "askShelf" "[I", Cond.fieldLink RX4 65 "SpareShelvesModel" "askBy" "[I", Cond.fieldLink RX4 68 "SpareShelvesModel" "askOf" "[I"]
def wsX4_all : List Cond := .code yX4_all cX4_all 5 (some .int) :: ((wsX4_all_r1 ++ wsX4_all_r2) ++ wsX40)
def wsX4_standing : List Cond := .code yX4_standing cX4_standing 4 (some .int) :: ([.fieldLink RX4 110 "SpareShelvesModel" "asks" "I", .fieldLink RX4 65 "SpareShelvesModel" "askBy" "[I", .fieldLink RX4 59 "SpareShelvesModel" "askShelf" "[I"] ++ wsX40)
def wsX4_field : List Cond := .code yX4_field cX4_field 4 (some .int) :: ([.fieldLink RX4 26 "SpareShelvesModel" "up" "[I", .fieldLink RX4 29 "SpareShelvesModel" "way" "[I", .fieldLink RX4 32 "SpareShelvesModel" "stood" "[I", .fieldLink RX4 110 "SpareShelvesModel" "asks" "I", .fieldLink RX4 65 "SpareShelvesModel" "askBy" "[I", .fieldLink RX4 59 "SpareShelvesModel" "askShelf" "[I", .fieldLink RX4 71 "SpareShelvesModel" "askSince" "[I", .methodLink RX4 100 yX4_isShelf, .instanceMethod yX4_isShelf, .selects RX4 yX4_isShelf yX4_isShelf, .initialized RX4, .code yX4_isShelf cX4_isShelf 2 (some .boolean), .fieldLink RX4 23 "SpareShelvesModel" "shelves" "I", .methodLink RX4 92 yX4_in, .static yX4_in, .code yX4_in cX4_in 3 (some .boolean), .methodLink RX4 155 yX4_standing, .instanceMethod yX4_standing, .selects RX4 yX4_standing yX4_standing, .code yX4_standing cX4_standing 4 (some .int)] ++ wsX40)
def wsX4_rate : List Cond := .code yX4_rate cX4_rate 5 (some .int) :: ([.fieldLink RX4 41 "SpareShelvesModel" "rates" "[I", .methodLink RX4 100 yX4_isShelf, .instanceMethod yX4_isShelf, .selects RX4 yX4_isShelf yX4_isShelf, .initialized RX4, .code yX4_isShelf cX4_isShelf 2 (some .boolean), .fieldLink RX4 23 "SpareShelvesModel" "shelves" "I", .methodLink RX4 92 yX4_in, .static yX4_in, .code yX4_in cX4_in 3 (some .boolean), .methodLink RX4 96 yX4_isKind, .instanceMethod yX4_isKind, .selects RX4 yX4_isKind yX4_isKind, .code yX4_isKind cX4_isKind 2 (some .boolean), .fieldLink RX4 89 "SpareShelvesModel" "kinds" "I"] ++ wsX40)
def wsX4_flow : List Cond := .code yX4_flow cX4_flow 5 (some .int) :: ([.fieldLink RX4 41 "SpareShelvesModel" "rates" "[I", .fieldLink RX4 23 "SpareShelvesModel" "shelves" "I", .fieldLink RX4 26 "SpareShelvesModel" "up" "[I", .fieldLink RX4 35 "SpareShelvesModel" "mends" "[I", .methodLink RX4 159 yX4_flow, .instanceMethod yX4_flow, .selects RX4 yX4_flow yX4_flow, .initialized RX4] ++ wsX40)
def wsX4_pipeOf : List Cond := .code yX4_pipeOf cX4_pipeOf 3 (some .int) :: ([.fieldLink RX4 35 "SpareShelvesModel" "mends" "[I", .fieldLink RX4 29 "SpareShelvesModel" "way" "[I", .methodLink RX4 159 yX4_flow, .instanceMethod yX4_flow, .selects RX4 yX4_flow yX4_flow, .initialized RX4, .code yX4_flow cX4_flow 5 (some .int), .fieldLink RX4 41 "SpareShelvesModel" "rates" "[I", .fieldLink RX4 23 "SpareShelvesModel" "shelves" "I", .fieldLink RX4 26 "SpareShelvesModel" "up" "[I"] ++ wsX40)
def wsX4_want : List Cond := .code yX4_want cX4_want 4 (some .int) :: ([.fieldLink RX4 38 "SpareShelvesModel" "good" "[I", .methodLink RX4 162 yX4_pipeOf, .instanceMethod yX4_pipeOf, .selects RX4 yX4_pipeOf yX4_pipeOf, .initialized RX4, .code yX4_pipeOf cX4_pipeOf 3 (some .int), .fieldLink RX4 35 "SpareShelvesModel" "mends" "[I", .fieldLink RX4 29 "SpareShelvesModel" "way" "[I", .methodLink RX4 159 yX4_flow, .instanceMethod yX4_flow, .selects RX4 yX4_flow yX4_flow, .code yX4_flow cX4_flow 5 (some .int), .fieldLink RX4 41 "SpareShelvesModel" "rates" "[I", .fieldLink RX4 23 "SpareShelvesModel" "shelves" "I", .fieldLink RX4 26 "SpareShelvesModel" "up" "[I"] ++ wsX40)
def wsX4_pipe_r1 : List Cond := [Cond.fieldLink RX4 41 "SpareShelvesModel" "rates" "[I", Cond.methodLink RX4 100 yX4_isShelf, Cond.instanceMethod yX4_isShelf, Cond.selects RX4 yX4_isShelf yX4_isShelf, Cond.initialized RX4, Cond.code yX4_isShelf cX4_isShelf 2 (some .boolean), Cond.fieldLink RX4 23 "SpareShelvesModel" "shelves" "I", Cond.methodLink RX4 92 yX4_in, Cond.static yX4_in, Cond.code yX4_in cX4_in 3 (some .boolean), Cond.methodLink RX4 96 yX4_isKind, Cond.instanceMethod yX4_isKind, Cond.selects RX4 yX4_isKind yX4_isKind, Cond.code yX4_isKind cX4_isKind 2 (some .boolean), Cond.fieldLink RX4 89 "SpareShelvesModel" "kinds" "I", Cond.methodLink RX4 159 yX4_flow, Cond.instanceMethod yX4_flow, Cond.selects RX4 yX4_flow yX4_flow, Cond.code yX4_flow cX4_flow 5 (some .int), Cond.fieldLink RX4 26 "SpareShelvesModel" "up" "[I", Cond.fieldLink RX4 35 "SpareShelvesModel" "mends" "[I", Cond.methodLink RX4 162 yX4_pipeOf, Cond.instanceMethod yX4_pipeOf, Cond.selects RX4 yX4_pipeOf yX4_pipeOf]
def wsX4_pipe_r2 : List Cond := [Cond.code yX4_pipeOf cX4_pipeOf 3 (some .int), Cond.fieldLink RX4 29 "SpareShelvesModel" "way" "[I", Cond.methodLink RX4 165 yX4_want, Cond.instanceMethod yX4_want, Cond.selects RX4 yX4_want yX4_want, Cond.code yX4_want cX4_want 4 (some .int), Cond.fieldLink RX4 38 "SpareShelvesModel" "good" "[I"]
def wsX4_pipe : List Cond := .code yX4_pipe cX4_pipe 4 (some .int) :: ((wsX4_pipe_r1 ++ wsX4_pipe_r2) ++ wsX40)
def wsX4_choose_r1 : List Cond := [Cond.fieldLink RX4 23 "SpareShelvesModel" "shelves" "I", Cond.fieldLink RX4 89 "SpareShelvesModel" "kinds" "I", Cond.fieldLink RX4 13 "SpareShelvesModel" "price" "[I", Cond.fieldLink RX4 44 "SpareShelvesModel" "bought" "[I", Cond.methodLink RX4 165 yX4_want, Cond.instanceMethod yX4_want, Cond.selects RX4 yX4_want yX4_want, Cond.initialized RX4, Cond.code yX4_want cX4_want 4 (some .int), Cond.fieldLink RX4 38 "SpareShelvesModel" "good" "[I", Cond.methodLink RX4 162 yX4_pipeOf, Cond.instanceMethod yX4_pipeOf, Cond.selects RX4 yX4_pipeOf yX4_pipeOf, Cond.code yX4_pipeOf cX4_pipeOf 3 (some .int), Cond.fieldLink RX4 35 "SpareShelvesModel" "mends" "[I", Cond.fieldLink RX4 29 "SpareShelvesModel" "way" "[I", Cond.methodLink RX4 159 yX4_flow, Cond.instanceMethod yX4_flow, Cond.selects RX4 yX4_flow yX4_flow, Cond.code yX4_flow cX4_flow 5 (some .int), Cond.fieldLink RX4 41 "SpareShelvesModel" "rates" "[I", Cond.fieldLink RX4 26 "SpareShelvesModel" "up" "[I", Cond.methodLink RX4 140 yX4_lands, Cond.instanceMethod yX4_lands]
def wsX4_choose_r2 : List Cond := [Cond.selects RX4 yX4_lands yX4_lands, Cond.code yX4_lands cX4_lands 7 none, Cond.fieldLink RX4 110 "SpareShelvesModel" "asks" "I", Cond.fieldLink RX4 59 "SpareShelvesModel" "askShelf" "[I", Cond.fieldLink RX4 62 "SpareShelvesModel" "askKind" "[I", Cond.fieldLink RX4 65 "SpareShelvesModel" "askBy" "[I", Cond.fieldLink RX4 68 "SpareShelvesModel" "askOf" "[I", Cond.fieldLink RX4 71 "SpareShelvesModel" "askSince" "[I", Cond.methodLink RX4 130 yX4_serves, Cond.instanceMethod yX4_serves, Cond.selects RX4 yX4_serves yX4_serves, Cond.code yX4_serves cX4_serves 5 none, Cond.fieldLink RX4 50 "SpareShelvesModel" "taken" "[I", Cond.fieldLink RX4 53 "SpareShelvesModel" "cores" "[I", Cond.fieldLink RX4 56 "SpareShelvesModel" "broke" "[I", Cond.methodLink RX4 119 yX4_due, Cond.instanceMethod yX4_due, Cond.selects RX4 yX4_due yX4_due, Cond.code yX4_due cX4_due 6 none, Cond.fieldLink RX4 74 "SpareShelvesModel" "dueSort" "[I", Cond.fieldLink RX4 113 "SpareShelvesModel" "dues" "I", Cond.fieldLink RX4 77 "SpareShelvesModel" "dueShelf" "[I", Cond.fieldLink RX4 80 "SpareShelvesModel" "dueKind" "[I", Cond.fieldLink RX4 83 "SpareShelvesModel" "dueHow" "[I"]
def wsX4_choose_r3 : List Cond := [Cond.fieldLink RX4 86 "SpareShelvesModel" "dueTime" "[I", Cond.fieldLink RX4 116 "SpareShelvesModel" "time" "I", Cond.methodLink RX4 123 yX4_goesBack, Cond.instanceMethod yX4_goesBack, Cond.selects RX4 yX4_goesBack yX4_goesBack, Cond.methodLink RX4 107 yX4_menderOf, Cond.instanceMethod yX4_menderOf, Cond.selects RX4 yX4_menderOf yX4_menderOf, Cond.code yX4_menderOf cX4_menderOf 4 (some .int), Cond.methodLink RX4 127 yX4_asksUp, Cond.instanceMethod yX4_asksUp, Cond.selects RX4 yX4_asksUp yX4_asksUp, Cond.code yX4_arrives cX4_arrives 5 none, Cond.fieldLink RX4 20 "SpareShelvesModel" "core" "[I", Cond.methodLink RX4 137 yX4_asks, Cond.instanceMethod yX4_asks, Cond.selects RX4 yX4_asks yX4_asks, Cond.code yX4_asks cX4_asks 5 (some .boolean), Cond.code yX4_asksUp cX4_asksUp 6 none, Cond.code yX4_goesBack cX4_goesBack 7 none, Cond.methodLink RX4 134 yX4_arrives, Cond.instanceMethod yX4_arrives, Cond.selects RX4 yX4_arrives yX4_arrives]
def wsX4_choose : List Cond := .code yX4_choose cX4_choose 3 (some .int) :: ((wsX4_choose_r1 ++ (wsX4_choose_r2 ++ wsX4_choose_r3)) ++ wsX40)
def wsX4_worth : List Cond := .code yX4_worth cX4_worth 3 (some .int) :: ([.fieldLink RX4 89 "SpareShelvesModel" "kinds" "I", .fieldLink RX4 13 "SpareShelvesModel" "price" "[I", .fieldLink RX4 44 "SpareShelvesModel" "bought" "[I", .fieldLink RX4 47 "SpareShelvesModel" "scrapped" "[I"] ++ wsX40)
def wsX4_count : List Cond := .code yX4_count cX4_count 4 (some .int) :: ([.fieldLink RX4 89 "SpareShelvesModel" "kinds" "I", .fieldLink RX4 23 "SpareShelvesModel" "shelves" "I", .fieldLink RX4 116 "SpareShelvesModel" "time" "I", .fieldLink RX4 110 "SpareShelvesModel" "asks" "I", .fieldLink RX4 113 "SpareShelvesModel" "dues" "I", .fieldLink RX4 32 "SpareShelvesModel" "stood" "[I", .methodLink RX4 155 yX4_standing, .instanceMethod yX4_standing, .selects RX4 yX4_standing yX4_standing, .initialized RX4, .code yX4_standing cX4_standing 4 (some .int), .fieldLink RX4 65 "SpareShelvesModel" "askBy" "[I", .fieldLink RX4 59 "SpareShelvesModel" "askShelf" "[I"] ++ wsX40)
def wsJ9_max_7cf53 : List Cond := .code yJ9_max_7cf53 cJ9_max_7cf53 2 (some .int) :: ([])
def wsJ9_min_7cf53 : List Cond := .code yJ9_min_7cf53 cJ9_min_7cf53 2 (some .int) :: ([])
def wsL_law_r1 : List Cond := [Cond.classLink RL 7 RX3, Cond.instantiable RX3 9, Cond.initialized RX3, Cond.classLink RL 10 RX4, Cond.instantiable RX4 30, Cond.initialized RX4, Cond.methodLink RL 9 yX3_init, Cond.instanceMethod yX3_init, Cond.code yX3_init cX3_init 1 none, Cond.methodLink RX3 1 objectInit, Cond.instanceMethod objectInit, Cond.code objectInit ⟨#[0xb1]⟩ 1 none, Cond.classLink RX3 7 RX0, Cond.instantiable RX0 9, Cond.initialized RX0, Cond.fieldLink RX3 10 "SpareShelves" "kinds" "LSpareShelves$Kinds;", Cond.classLink RX3 16 RX2, Cond.instantiable RX2 4, Cond.initialized RX2, Cond.fieldLink RX3 19 "SpareShelves" "tree" "LSpareShelves$Tree;", Cond.classLink RX3 23 "[[I", Cond.arrayClass .int, Cond.fieldLink RX3 25 "SpareShelves" "good" "[[I", Cond.fieldLink RX3 28 "SpareShelves" "rates" "[[I"]
def wsL_law_r2 : List Cond := [Cond.fieldLink RX3 31 "SpareShelves" "stood" "[I", Cond.fieldLink RX3 35 "SpareShelves" "flows" "[I", Cond.classLink RX3 38 RX1, Cond.instantiable RX1 2, Cond.initialized RX1, Cond.fieldLink RX3 41 "SpareShelves" "asks" "LSpareShelves$Line;", Cond.fieldLink RX3 45 "SpareShelves" "dues" "LSpareShelves$Line;", Cond.fieldLink RX3 48 "SpareShelves" "time" "I", Cond.instanceMethod yX0_init, Cond.code yX0_init cX0_init 1 none, Cond.methodLink RX0 3 objectInit, Cond.fieldLink RX0 9 "SpareShelves$Kinds" "price" "[I", Cond.fieldLink RX0 15 "SpareShelves$Kinds" "buyDays" "[I", Cond.fieldLink RX0 18 "SpareShelves$Kinds" "core" "[I", Cond.fieldLink RX0 21 "SpareShelves$Kinds" "bought" "[I", Cond.fieldLink RX0 24 "SpareShelves$Kinds" "scrapped" "[I", Cond.fieldLink RX0 27 "SpareShelves$Kinds" "machinesTook" "[I", Cond.fieldLink RX0 30 "SpareShelves$Kinds" "mendsTook" "[I", Cond.fieldLink RX0 33 "SpareShelves$Kinds" "broke" "[I", Cond.fieldLink RX0 36 "SpareShelves$Kinds" "size" "I", Cond.methodLink RX3 18 yX2_init, Cond.instanceMethod yX2_init, Cond.code yX2_init cX2_init 1 none, Cond.methodLink RX2 3 objectInit]
def wsL_law_r3 : List Cond := [Cond.fieldLink RX2 9 "SpareShelves$Tree" "up" "[I", Cond.fieldLink RX2 15 "SpareShelves$Tree" "way" "[I", Cond.classLink RX2 18 "[[I", Cond.fieldLink RX2 20 "SpareShelves$Tree" "mendDays" "[[I", Cond.fieldLink RX2 23 "SpareShelves$Tree" "size" "I", Cond.instanceMethod yX1_init, Cond.code yX1_init cX1_init 1 none, Cond.methodLink RX1 3 objectInit, Cond.fieldLink RX1 11 "SpareShelves$Line" "cells" "[I", Cond.fieldLink RX1 15 "SpareShelves$Line" "size" "I", Cond.methodLink RL 12 yX4_init, Cond.instanceMethod yX4_init, Cond.code yX4_init cX4_init 1 none, Cond.methodLink RX4 7 objectInit, Cond.fieldLink RX4 13 "SpareShelvesModel" "price" "[I", Cond.fieldLink RX4 17 "SpareShelvesModel" "buys" "[I", Cond.fieldLink RX4 20 "SpareShelvesModel" "core" "[I", Cond.fieldLink RX4 23 "SpareShelvesModel" "shelves" "I", Cond.fieldLink RX4 26 "SpareShelvesModel" "up" "[I", Cond.fieldLink RX4 29 "SpareShelvesModel" "way" "[I", Cond.fieldLink RX4 32 "SpareShelvesModel" "stood" "[I", Cond.fieldLink RX4 35 "SpareShelvesModel" "mends" "[I", Cond.fieldLink RX4 38 "SpareShelvesModel" "good" "[I", Cond.fieldLink RX4 41 "SpareShelvesModel" "rates" "[I"]
def wsL_law_r4 : List Cond := [Cond.fieldLink RX4 44 "SpareShelvesModel" "bought" "[I", Cond.fieldLink RX4 47 "SpareShelvesModel" "scrapped" "[I", Cond.fieldLink RX4 50 "SpareShelvesModel" "taken" "[I", Cond.fieldLink RX4 53 "SpareShelvesModel" "cores" "[I", Cond.fieldLink RX4 56 "SpareShelvesModel" "broke" "[I", Cond.fieldLink RX4 59 "SpareShelvesModel" "askShelf" "[I", Cond.fieldLink RX4 62 "SpareShelvesModel" "askKind" "[I", Cond.fieldLink RX4 65 "SpareShelvesModel" "askBy" "[I", Cond.fieldLink RX4 68 "SpareShelvesModel" "askOf" "[I", Cond.fieldLink RX4 71 "SpareShelvesModel" "askSince" "[I", Cond.fieldLink RX4 74 "SpareShelvesModel" "dueSort" "[I", Cond.fieldLink RX4 77 "SpareShelvesModel" "dueShelf" "[I", Cond.fieldLink RX4 80 "SpareShelvesModel" "dueKind" "[I", Cond.fieldLink RX4 83 "SpareShelvesModel" "dueHow" "[I", Cond.fieldLink RX4 86 "SpareShelvesModel" "dueTime" "[I", Cond.methodLink RL 13 yX3_kind, Cond.instanceMethod yX3_kind, Cond.selects RX3 yX3_kind yX3_kind, Cond.code yX3_kind cX3_kind 5 (some .int), Cond.fieldLink RX3 60 "SpareShelves$Kinds" "size" "I", Cond.fieldLink RX3 63 "SpareShelves$Kinds" "price" "[I", Cond.fieldLink RX3 66 "SpareShelves$Kinds" "buyDays" "[I", Cond.fieldLink RX3 69 "SpareShelves$Kinds" "core" "[I", Cond.fieldLink RX3 72 "SpareShelves$Tree" "mendDays" "[[I"]
def wsL_law_r5 : List Cond := [Cond.methodLink RX3 52 yX3_isOutside, Cond.static yX3_isOutside, Cond.code yX3_isOutside cX3_isOutside 3 (some .boolean), Cond.methodLink RX3 56 yX0_has, Cond.instanceMethod yX0_has, Cond.selects RX0 yX0_has yX0_has, Cond.code yX0_has cX0_has 2 (some .boolean), Cond.methodLink RL 17 yX4_kind, Cond.instanceMethod yX4_kind, Cond.selects RX4 yX4_kind yX4_kind, Cond.code yX4_kind cX4_kind 4 (some .int), Cond.fieldLink RX4 89 "SpareShelvesModel" "kinds" "I", Cond.methodLink RX4 92 yX4_in, Cond.static yX4_in, Cond.code yX4_in cX4_in 3 (some .boolean), Cond.methodLink RX4 96 yX4_isKind, Cond.instanceMethod yX4_isKind, Cond.selects RX4 yX4_isKind yX4_isKind, Cond.code yX4_isKind cX4_isKind 2 (some .boolean), Cond.methodLink RL 18 yX3_shelf, Cond.instanceMethod yX3_shelf, Cond.selects RX3 yX3_shelf yX3_shelf, Cond.code yX3_shelf cX3_shelf 4 (some .int), Cond.fieldLink RX3 76 "SpareShelves$Tree" "size" "I"]
def wsL_law_r6 : List Cond := [Cond.fieldLink RX3 77 "SpareShelves$Tree" "up" "[I", Cond.fieldLink RX3 80 "SpareShelves$Tree" "way" "[I", Cond.methodLink RX3 75 yX2_has, Cond.instanceMethod yX2_has, Cond.selects RX2 yX2_has yX2_has, Cond.code yX2_has cX2_has 2 (some .boolean), Cond.methodLink RL 22 yX4_shelf, Cond.instanceMethod yX4_shelf, Cond.selects RX4 yX4_shelf yX4_shelf, Cond.code yX4_shelf cX4_shelf 3 (some .int), Cond.methodLink RX4 100 yX4_isShelf, Cond.instanceMethod yX4_isShelf, Cond.selects RX4 yX4_isShelf yX4_isShelf, Cond.code yX4_isShelf cX4_isShelf 2 (some .boolean), Cond.methodLink RL 23 yX3_mend, Cond.instanceMethod yX3_mend, Cond.selects RX3 yX3_mend yX3_mend, Cond.code yX3_mend cX3_mend 5 (some .int), Cond.methodLink RX3 83 yX3_isNoPlace, Cond.instanceMethod yX3_isNoPlace, Cond.selects RX3 yX3_isNoPlace yX3_isNoPlace, Cond.code yX3_isNoPlace cX3_isNoPlace 3 (some .boolean), Cond.methodLink RX3 87 yX3_mendsThatWait, Cond.instanceMethod yX3_mendsThatWait]
def wsL_law_r7 : List Cond := [Cond.selects RX3 yX3_mendsThatWait yX3_mendsThatWait, Cond.code yX3_mendsThatWait cX3_mendsThatWait 3 (some .int), Cond.methodLink RX3 131 yX1_tally, Cond.instanceMethod yX1_tally, Cond.selects RX1 yX1_tally yX1_tally, Cond.code yX1_tally cX1_tally 7 (some .int), Cond.methodLink RX1 31 yX1_fits, Cond.instanceMethod yX1_fits, Cond.selects RX1 yX1_fits yX1_fits, Cond.code yX1_fits cX1_fits 7 (some .boolean), Cond.methodLink RL 26 yX4_mend, Cond.instanceMethod yX4_mend, Cond.selects RX4 yX4_mend yX4_mend, Cond.code yX4_mend cX4_mend 5 (some .int), Cond.methodLink RX4 103 yX4_waiting, Cond.instanceMethod yX4_waiting, Cond.selects RX4 yX4_waiting yX4_waiting, Cond.code yX4_waiting cX4_waiting 5 (some .int), Cond.fieldLink RX4 110 "SpareShelvesModel" "asks" "I", Cond.methodLink RL 27 yX3_stock, Cond.instanceMethod yX3_stock, Cond.selects RX3 yX3_stock yX3_stock, Cond.code yX3_stock cX3_stock 5 (some .int), Cond.fieldLink RX3 91 "SpareShelves$Kinds" "bought" "[I"]
def wsL_law_r8 : List Cond := [Cond.methodLink RX3 94 yX3_lands, Cond.instanceMethod yX3_lands, Cond.selects RX3 yX3_lands yX3_lands, Cond.code yX3_lands cX3_lands 6 none, Cond.fieldLink RX3 145 "SpareShelves$Kinds" "machinesTook" "[I", Cond.methodLink RX3 135 yX1_find, Cond.instanceMethod yX1_find, Cond.selects RX1 yX1_find yX1_find, Cond.code yX1_find cX1_find 7 (some .int), Cond.methodLink RX3 138 yX1_read, Cond.instanceMethod yX1_read, Cond.selects RX1 yX1_read yX1_read, Cond.code yX1_read cX1_read 3 (some .int), Cond.methodLink RX3 164 yX1_drop, Cond.instanceMethod yX1_drop, Cond.selects RX1 yX1_drop yX1_drop, Cond.code yX1_drop cX1_drop 4 none, Cond.methodLink RX1 25 arraycopyName, Cond.native arraycopyName, Cond.static arraycopyName, Cond.initialized "java/lang/System", Cond.methodLink RX3 168 yX3_goesDown, Cond.instanceMethod yX3_goesDown, Cond.selects RX3 yX3_goesDown yX3_goesDown]
def wsL_law_r9 : List Cond := [Cond.code yX3_goesDown cX3_goesDown 3 none, Cond.methodLink RX3 112 yX1_add, Cond.instanceMethod yX1_add, Cond.selects RX1 yX1_add yX1_add, Cond.code yX1_add cX1_add 7 none, Cond.methodLink RX1 19 yJ7_copyOf_59c91, Cond.static yJ7_copyOf_59c91, Cond.initialized RJ7, Cond.code yJ7_copyOf_59c91 cJ7_copyOf_59c91 3 (some (.array .int)), Cond.methodLink RJ7 316 ⟨"[I", "clone", "()Ljava/lang/Object;"⟩, Cond.sameMethod "[I" "java/lang/Object" "clone" "()Ljava/lang/Object;", Cond.native ⟨"java/lang/Object", "clone", "()Ljava/lang/Object;"⟩, Cond.instanceMethod ⟨"java/lang/Object", "clone", "()Ljava/lang/Object;"⟩, Cond.selects "[I" ⟨"[I", "clone", "()Ljava/lang/Object;"⟩ ⟨"java/lang/Object", "clone", "()Ljava/lang/Object;"⟩, Cond.classLink RJ7 317 "[I", Cond.methodLink RJ7 304 Lib.Math.min.name, Cond.static Lib.Math.min.name, Cond.initialized "java/lang/Math", Cond.code Lib.Math.min.name Lib.Math.min.code 2 (some .int), Cond.methodLink RJ7 150 arraycopyName, Cond.methodLink RX3 171 yX3_mendGetsCore, Cond.instanceMethod yX3_mendGetsCore, Cond.selects RX3 yX3_mendGetsCore yX3_mendGetsCore, Cond.code yX3_mendGetsCore cX3_mendGetsCore 5 none]
def wsL_law_r10 : List Cond := [Cond.fieldLink RX3 148 "SpareShelves$Kinds" "mendsTook" "[I", Cond.fieldLink RX3 102 "SpareShelves$Kinds" "broke" "[I", Cond.methodLink RX3 119 yX2_firstThatMends, Cond.instanceMethod yX2_firstThatMends, Cond.selects RX2 yX2_firstThatMends yX2_firstThatMends, Cond.code yX2_firstThatMends cX2_firstThatMends 5 (some .int), Cond.methodLink RX3 178 yX3_mendBegins, Cond.instanceMethod yX3_mendBegins, Cond.selects RX3 yX3_mendBegins yX3_mendBegins, Cond.code yX3_mendBegins cX3_mendBegins 3 none, Cond.methodLink RX3 174 yX3_setsOut, Cond.instanceMethod yX3_setsOut, Cond.selects RX3 yX3_setsOut yX3_setsOut, Cond.code yX3_setsOut cX3_setsOut 5 none, Cond.methodLink RX3 181 yX2_waysUp, Cond.instanceMethod yX2_waysUp, Cond.selects RX2 yX2_waysUp yX2_waysUp, Cond.code yX2_waysUp cX2_waysUp 6 (some .int), Cond.methodLink RX3 108 yX3_asksGoUp, Cond.instanceMethod yX3_asksGoUp, Cond.selects RX3 yX3_asksGoUp yX3_asksGoUp, Cond.code yX3_asksGoUp cX3_asksGoUp 7 none, Cond.methodLink RX3 161 yX3_takesGood, Cond.instanceMethod yX3_takesGood]
def wsL_law_r11 : List Cond := [Cond.selects RX3 yX3_takesGood yX3_takesGood, Cond.code yX3_takesGood cX3_takesGood 3 (some .boolean), Cond.methodLink RL 30 yX4_stock, Cond.instanceMethod yX4_stock, Cond.selects RX4 yX4_stock yX4_stock, Cond.code yX4_stock cX4_stock 5 (some .int), Cond.methodLink RX4 140 yX4_lands, Cond.instanceMethod yX4_lands, Cond.selects RX4 yX4_lands yX4_lands, Cond.code yX4_lands cX4_lands 7 none, Cond.methodLink RX4 130 yX4_serves, Cond.instanceMethod yX4_serves, Cond.selects RX4 yX4_serves yX4_serves, Cond.code yX4_serves cX4_serves 5 none, Cond.methodLink RX4 119 yX4_due, Cond.instanceMethod yX4_due, Cond.selects RX4 yX4_due yX4_due, Cond.code yX4_due cX4_due 6 none, Cond.fieldLink RX4 113 "SpareShelvesModel" "dues" "I", Cond.fieldLink RX4 116 "SpareShelvesModel" "time" "I", Cond.methodLink RX4 123 yX4_goesBack, Cond.instanceMethod yX4_goesBack, Cond.selects RX4 yX4_goesBack yX4_goesBack, Cond.methodLink RX4 107 yX4_menderOf]
def wsL_law_r12 : List Cond := [Cond.instanceMethod yX4_menderOf, Cond.selects RX4 yX4_menderOf yX4_menderOf, Cond.code yX4_menderOf cX4_menderOf 4 (some .int), Cond.methodLink RX4 127 yX4_asksUp, Cond.instanceMethod yX4_asksUp, Cond.selects RX4 yX4_asksUp yX4_asksUp, Cond.code yX4_arrives cX4_arrives 5 none, Cond.methodLink RX4 137 yX4_asks, Cond.instanceMethod yX4_asks, Cond.selects RX4 yX4_asks yX4_asks, Cond.code yX4_asks cX4_asks 5 (some .boolean), Cond.code yX4_asksUp cX4_asksUp 6 none, Cond.code yX4_goesBack cX4_goesBack 7 none, Cond.methodLink RX4 134 yX4_arrives, Cond.instanceMethod yX4_arrives, Cond.selects RX4 yX4_arrives yX4_arrives, Cond.methodLink RL 31 yX3_rate, Cond.instanceMethod yX3_rate, Cond.selects RX3 yX3_rate yX3_rate, Cond.code yX3_rate cX3_rate 5 (some .int), Cond.methodLink RL 34 yX4_rate, Cond.instanceMethod yX4_rate, Cond.selects RX4 yX4_rate yX4_rate, Cond.code yX4_rate cX4_rate 5 (some .int)]
def wsL_law_r13 : List Cond := [Cond.methodLink RL 35 yX3_fails, Cond.instanceMethod yX3_fails, Cond.selects RX3 yX3_fails yX3_fails, Cond.code yX3_fails cX3_fails 5 (some .int), Cond.fieldLink RX3 98 "SpareShelves$Line" "size" "I", Cond.fieldLink RX3 105 "SpareShelves$Kinds" "scrapped" "[I", Cond.methodLink RX3 99 yX3_servesMachine, Cond.instanceMethod yX3_servesMachine, Cond.selects RX3 yX3_servesMachine yX3_servesMachine, Cond.code yX3_servesMachine cX3_servesMachine 3 (some .boolean), Cond.methodLink RX3 116 yX3_goesBack, Cond.instanceMethod yX3_goesBack, Cond.selects RX3 yX3_goesBack yX3_goesBack, Cond.code yX3_goesBack cX3_goesBack 6 none, Cond.methodLink RL 38 yX4_fails, Cond.instanceMethod yX4_fails, Cond.selects RX4 yX4_fails yX4_fails, Cond.code yX4_fails cX4_fails 5 (some .int), Cond.methodLink RL 39 yX3_days, Cond.instanceMethod yX3_days, Cond.selects RX3 yX3_days yX3_days, Cond.code yX3_days cX3_days 3 (some .int), Cond.methodLink RX3 122 yX3_doWhatIsDue, Cond.instanceMethod yX3_doWhatIsDue]
def wsL_law_r14 : List Cond := [Cond.selects RX3 yX3_doWhatIsDue yX3_doWhatIsDue, Cond.code yX3_doWhatIsDue cX3_doWhatIsDue 8 none, Cond.methodLink RX3 125 yX3_countStanding, Cond.instanceMethod yX3_countStanding, Cond.selects RX3 yX3_countStanding yX3_countStanding, Cond.code yX3_countStanding cX3_countStanding 2 none, Cond.methodLink RL 43 yX4_days, Cond.instanceMethod yX4_days, Cond.selects RX4 yX4_days yX4_days, Cond.code yX4_days cX4_days 5 (some .int), Cond.methodLink RX4 144 yX4_isDone, Cond.instanceMethod yX4_isDone, Cond.selects RX4 yX4_isDone yX4_isDone, Cond.code yX4_isDone cX4_isDone 7 (some .boolean), Cond.methodLink RL 44 yX3_choose, Cond.instanceMethod yX3_choose, Cond.selects RX3 yX3_choose yX3_choose, Cond.code yX3_choose cX3_choose 13 (some .int), Cond.methodLink RX3 128 yX3_wantOf, Cond.instanceMethod yX3_wantOf, Cond.selects RX3 yX3_wantOf yX3_wantOf, Cond.code yX3_wantOf cX3_wantOf 3 (some .int), Cond.methodLink RX3 184 Lib.Math.max.name, Cond.static Lib.Math.max.name]
def wsL_law_r15 : List Cond := [Cond.code Lib.Math.max.name Lib.Math.max.code 2 (some .int), Cond.methodLink RX3 154 yX3_pipeOf, Cond.instanceMethod yX3_pipeOf, Cond.selects RX3 yX3_pipeOf yX3_pipeOf, Cond.code yX3_pipeOf cX3_pipeOf 4 (some .int), Cond.methodLink RX3 151 yX3_flowOf, Cond.instanceMethod yX3_flowOf, Cond.selects RX3 yX3_flowOf yX3_flowOf, Cond.code yX3_flowOf cX3_flowOf 4 (some .int), Cond.methodLink RL 48 yX4_choose, Cond.instanceMethod yX4_choose, Cond.selects RX4 yX4_choose yX4_choose, Cond.code yX4_choose cX4_choose 3 (some .int), Cond.methodLink RX4 165 yX4_want, Cond.instanceMethod yX4_want, Cond.selects RX4 yX4_want yX4_want, Cond.code yX4_want cX4_want 4 (some .int), Cond.methodLink RX4 162 yX4_pipeOf, Cond.instanceMethod yX4_pipeOf, Cond.selects RX4 yX4_pipeOf yX4_pipeOf, Cond.code yX4_pipeOf cX4_pipeOf 3 (some .int), Cond.methodLink RX4 159 yX4_flow, Cond.instanceMethod yX4_flow, Cond.selects RX4 yX4_flow yX4_flow]
def wsL_law_r16 : List Cond := [Cond.code yX4_flow cX4_flow 5 (some .int), Cond.methodLink RL 49 yX3_about, Cond.instanceMethod yX3_about, Cond.selects RX3 yX3_about yX3_about, Cond.code yX3_about cX3_about 4 (some .int), Cond.methodLink RL 52 yX4_about, Cond.instanceMethod yX4_about, Cond.selects RX4 yX4_about yX4_about, Cond.code yX4_about cX4_about 4 (some .int), Cond.methodLink RX4 148 yX4_asksOf, Cond.instanceMethod yX4_asksOf, Cond.selects RX4 yX4_asksOf yX4_asksOf, Cond.code yX4_asksOf cX4_asksOf 6 (some .int), Cond.methodLink RX4 152 yX4_duesOf, Cond.instanceMethod yX4_duesOf, Cond.selects RX4 yX4_duesOf yX4_duesOf, Cond.code yX4_duesOf cX4_duesOf 6 (some .int), Cond.methodLink RL 53 yX3_ask, Cond.instanceMethod yX3_ask, Cond.selects RX3 yX3_ask yX3_ask, Cond.code yX3_ask cX3_ask 6 (some .int), Cond.methodLink RL 57 yX4_ask, Cond.instanceMethod yX4_ask, Cond.selects RX4 yX4_ask yX4_ask]
def wsL_law_r17 : List Cond := [Cond.code yX4_ask cX4_ask 7 (some .int), Cond.methodLink RL 58 yX3_all, Cond.instanceMethod yX3_all, Cond.selects RX3 yX3_all yX3_all, Cond.code yX3_all cX3_all 3 (some .int), Cond.methodLink RX3 141 yX3_goodOnShelves, Cond.instanceMethod yX3_goodOnShelves, Cond.selects RX3 yX3_goodOnShelves yX3_goodOnShelves, Cond.code yX3_goodOnShelves cX3_goodOnShelves 4 (some .int), Cond.methodLink RL 61 yX4_all, Cond.instanceMethod yX4_all, Cond.selects RX4 yX4_all yX4_all, Cond.code yX4_all cX4_all 5 (some .int), Cond.methodLink RL 62 yX3_field, Cond.instanceMethod yX3_field, Cond.selects RX3 yX3_field yX3_field, Cond.code yX3_field cX3_field 3 (some .int), Cond.methodLink RL 65 yX4_field, Cond.instanceMethod yX4_field, Cond.selects RX4 yX4_field yX4_field, Cond.code yX4_field cX4_field 4 (some .int), Cond.methodLink RX4 155 yX4_standing, Cond.instanceMethod yX4_standing, Cond.selects RX4 yX4_standing yX4_standing]
def wsL_law_r18 : List Cond := [Cond.code yX4_standing cX4_standing 4 (some .int), Cond.methodLink RL 66 yX3_mender, Cond.instanceMethod yX3_mender, Cond.selects RX3 yX3_mender yX3_mender, Cond.code yX3_mender cX3_mender 3 (some .int), Cond.methodLink RL 69 yX4_mender, Cond.instanceMethod yX4_mender, Cond.selects RX4 yX4_mender yX4_mender, Cond.code yX4_mender cX4_mender 3 (some .int), Cond.methodLink RL 70 yX3_pipe, Cond.instanceMethod yX3_pipe, Cond.selects RX3 yX3_pipe yX3_pipe, Cond.code yX3_pipe cX3_pipe 4 (some .int), Cond.methodLink RL 73 yX4_pipe, Cond.instanceMethod yX4_pipe, Cond.selects RX4 yX4_pipe yX4_pipe, Cond.code yX4_pipe cX4_pipe 4 (some .int), Cond.methodLink RL 74 yX3_worth, Cond.instanceMethod yX3_worth, Cond.selects RX3 yX3_worth yX3_worth, Cond.code yX3_worth cX3_worth 3 (some .int), Cond.methodLink RL 77 yX4_worth, Cond.instanceMethod yX4_worth, Cond.selects RX4 yX4_worth yX4_worth]
def wsL_law_r19 : List Cond := [Cond.code yX4_worth cX4_worth 3 (some .int), Cond.methodLink RL 78 yX3_count, Cond.instanceMethod yX3_count, Cond.selects RX3 yX3_count yX3_count, Cond.code yX3_count cX3_count 2 (some .int), Cond.methodLink RX3 157 yX3_stoodOfAll, Cond.instanceMethod yX3_stoodOfAll, Cond.selects RX3 yX3_stoodOfAll yX3_stoodOfAll, Cond.code yX3_stoodOfAll cX3_stoodOfAll 3 (some .int), Cond.methodLink RL 81 yX4_count, Cond.instanceMethod yX4_count, Cond.selects RX4 yX4_count yX4_count, Cond.code yX4_count cX4_count 4 (some .int)]
def wsL_law : List Cond := (wsL_law_r1 ++ (wsL_law_r2 ++ (wsL_law_r3 ++ (wsL_law_r4 ++ (wsL_law_r5 ++ (wsL_law_r6 ++ (wsL_law_r7 ++ (wsL_law_r8 ++ (wsL_law_r9 ++ (wsL_law_r10 ++ (wsL_law_r11 ++ (wsL_law_r12 ++ (wsL_law_r13 ++ (wsL_law_r14 ++ (wsL_law_r15 ++ (wsL_law_r16 ++ (wsL_law_r17 ++ (wsL_law_r18 ++ wsL_law_r19)))))))))))))))))) ++ wsX30 ++ wsX40 ++ wsX00 ++ wsX20 ++ wsX10 ++ ([] : List Cond)
end
section
abbrev vwCl : List vw_C := [(RX0, TX0, 9), (RX1, TX1, 2), (RX2, TX2, 4), (RX3, TX3, 9), (RX4, TX4, 30)]
theorem dX0_init_0 : decode cX0_init 0 = .ok (.aload_n 0, 1) := by decide +kernel
theorem dX0_init_1 : decode cX0_init 1 = .ok (.invokespecial 3, 3) := by decide +kernel
theorem dX0_init_4 : decode cX0_init 4 = .ok (.aload_n 0, 1) := by decide +kernel
theorem dX0_init_5 : decode cX0_init 5 = .ok (.bipush 8, 2) := by decide +kernel
theorem dX0_init_7 : decode cX0_init 7 = .ok (.newarray .int, 2) := by decide +kernel
theorem dX0_init_9 : decode cX0_init 9 = .ok (.putfield 9, 3) := by decide +kernel
theorem dX0_init_12 : decode cX0_init 12 = .ok (.aload_n 0, 1) := by decide +kernel
theorem dX0_init_13 : decode cX0_init 13 = .ok (.bipush 8, 2) := by decide +kernel
theorem dX0_init_15 : decode cX0_init 15 = .ok (.newarray .int, 2) := by decide +kernel
theorem dX0_init_17 : decode cX0_init 17 = .ok (.putfield 15, 3) := by decide +kernel
theorem dX0_init_20 : decode cX0_init 20 = .ok (.aload_n 0, 1) := by decide +kernel
theorem dX0_init_21 : decode cX0_init 21 = .ok (.bipush 8, 2) := by decide +kernel
theorem dX0_init_23 : decode cX0_init 23 = .ok (.newarray .int, 2) := by decide +kernel
theorem dX0_init_25 : decode cX0_init 25 = .ok (.putfield 18, 3) := by decide +kernel
theorem dX0_init_28 : decode cX0_init 28 = .ok (.aload_n 0, 1) := by decide +kernel
theorem dX0_init_29 : decode cX0_init 29 = .ok (.bipush 8, 2) := by decide +kernel
theorem dX0_init_31 : decode cX0_init 31 = .ok (.newarray .int, 2) := by decide +kernel
theorem dX0_init_33 : decode cX0_init 33 = .ok (.putfield 21, 3) := by decide +kernel
theorem dX0_init_36 : decode cX0_init 36 = .ok (.aload_n 0, 1) := by decide +kernel
theorem dX0_init_37 : decode cX0_init 37 = .ok (.bipush 8, 2) := by decide +kernel
theorem dX0_init_39 : decode cX0_init 39 = .ok (.newarray .int, 2) := by decide +kernel
theorem dX0_init_41 : decode cX0_init 41 = .ok (.putfield 24, 3) := by decide +kernel
theorem dX0_init_44 : decode cX0_init 44 = .ok (.aload_n 0, 1) := by decide +kernel
theorem dX0_init_45 : decode cX0_init 45 = .ok (.bipush 8, 2) := by decide +kernel
theorem dX0_init_47 : decode cX0_init 47 = .ok (.newarray .int, 2) := by decide +kernel
theorem dX0_init_49 : decode cX0_init 49 = .ok (.putfield 27, 3) := by decide +kernel
theorem dX0_init_52 : decode cX0_init 52 = .ok (.aload_n 0, 1) := by decide +kernel
theorem dX0_init_53 : decode cX0_init 53 = .ok (.bipush 8, 2) := by decide +kernel
theorem dX0_init_55 : decode cX0_init 55 = .ok (.newarray .int, 2) := by decide +kernel
theorem dX0_init_57 : decode cX0_init 57 = .ok (.putfield 30, 3) := by decide +kernel
theorem dX0_init_60 : decode cX0_init 60 = .ok (.aload_n 0, 1) := by decide +kernel
theorem dX0_init_61 : decode cX0_init 61 = .ok (.bipush 8, 2) := by decide +kernel
theorem dX0_init_63 : decode cX0_init 63 = .ok (.newarray .int, 2) := by decide +kernel
theorem dX0_init_65 : decode cX0_init 65 = .ok (.putfield 33, 3) := by decide +kernel
theorem dX0_init_68 : decode cX0_init 68 = .ok (.aload_n 0, 1) := by decide +kernel
theorem dX0_init_69 : decode cX0_init 69 = .ok (.iconst 0, 1) := by decide +kernel
theorem dX0_init_70 : decode cX0_init 70 = .ok (.putfield 36, 3) := by decide +kernel
theorem dX0_init_73 : decode cX0_init 73 = .ok (.return_, 1) := by decide +kernel
theorem dX0_has_0 : decode cX0_has 0 = .ok (.iload_n 1, 1) := by decide +kernel
theorem dX0_has_1 : decode cX0_has 1 = .ok (.ifCond .lt 15, 3) := by decide +kernel
theorem dX0_has_4 : decode cX0_has 4 = .ok (.iload_n 1, 1) := by decide +kernel
theorem dX0_has_5 : decode cX0_has 5 = .ok (.aload_n 0, 1) := by decide +kernel
theorem dX0_has_6 : decode cX0_has 6 = .ok (.getfield 36, 3) := by decide +kernel
theorem dX0_has_9 : decode cX0_has 9 = .ok (.if_icmp .ge 7, 3) := by decide +kernel
theorem dX0_has_12 : decode cX0_has 12 = .ok (.iconst 1, 1) := by decide +kernel
theorem dX0_has_13 : decode cX0_has 13 = .ok (.goto 4, 3) := by decide +kernel
theorem dX0_has_16 : decode cX0_has 16 = .ok (.iconst 0, 1) := by decide +kernel
theorem dX0_has_17 : decode cX0_has 17 = .ok (.ireturn, 1) := by decide +kernel
theorem dX1_init_0 : decode cX1_init 0 = .ok (.aload_n 0, 1) := by decide +kernel
theorem dX1_init_1 : decode cX1_init 1 = .ok (.invokespecial 3, 3) := by decide +kernel
theorem dX1_init_4 : decode cX1_init 4 = .ok (.aload_n 0, 1) := by decide +kernel
theorem dX1_init_5 : decode cX1_init 5 = .ok (.sipush 640, 3) := by decide +kernel
theorem dX1_init_8 : decode cX1_init 8 = .ok (.newarray .int, 2) := by decide +kernel
theorem dX1_init_10 : decode cX1_init 10 = .ok (.putfield 11, 3) := by decide +kernel
theorem dX1_init_13 : decode cX1_init 13 = .ok (.aload_n 0, 1) := by decide +kernel
theorem dX1_init_14 : decode cX1_init 14 = .ok (.iconst 0, 1) := by decide +kernel
theorem dX1_init_15 : decode cX1_init 15 = .ok (.putfield 15, 3) := by decide +kernel
theorem dX1_init_18 : decode cX1_init 18 = .ok (.return_, 1) := by decide +kernel
set_option maxRecDepth 20000 in
theorem ggX1_add_J7_copyOf_59c91 : GoodIn wsX1_add wsJ7_copyOf_59c91 := goodIn_r _ [6, 7, 8, 9, 10, 11, 12, 13, 14, 15, 16, 17, 18, 19, 20, 21] (by decide +kernel) (by decide +kernel)
set_option maxRecDepth 20000 in
theorem gX1_add_J7_copyOf_59c91 : GoodIn wsX1_add (va_wsS RX1 19 yJ7_copyOf_59c91 wsJ7_copyOf_59c91) := goodIn_app (goodIn_of _ (by decide +kernel)) ggX1_add_J7_copyOf_59c91
theorem dX1_add_0 : decode cX1_add 0 = .ok (.aload_n 0, 1) := by decide +kernel
theorem dX1_add_1 : decode cX1_add 1 = .ok (.getfield 15, 3) := by decide +kernel
theorem dX1_add_4 : decode cX1_add 4 = .ok (.iconst 5, 1) := by decide +kernel
theorem dX1_add_5 : decode cX1_add 5 = .ok (.imul, 1) := by decide +kernel
theorem dX1_add_6 : decode cX1_add 6 = .ok (.istore 6, 2) := by decide +kernel
theorem dX1_add_8 : decode cX1_add 8 = .ok (.iload 6, 2) := by decide +kernel
theorem dX1_add_10 : decode cX1_add 10 = .ok (.iconst 5, 1) := by decide +kernel
theorem dX1_add_11 : decode cX1_add 11 = .ok (.iadd, 1) := by decide +kernel
theorem dX1_add_12 : decode cX1_add 12 = .ok (.aload_n 0, 1) := by decide +kernel
theorem dX1_add_13 : decode cX1_add 13 = .ok (.getfield 11, 3) := by decide +kernel
theorem dX1_add_16 : decode cX1_add 16 = .ok (.arraylength, 1) := by decide +kernel
theorem dX1_add_17 : decode cX1_add 17 = .ok (.if_icmp .le 21, 3) := by decide +kernel
theorem dX1_add_20 : decode cX1_add 20 = .ok (.aload_n 0, 1) := by decide +kernel
theorem dX1_add_21 : decode cX1_add 21 = .ok (.aload_n 0, 1) := by decide +kernel
theorem dX1_add_22 : decode cX1_add 22 = .ok (.getfield 11, 3) := by decide +kernel
theorem dX1_add_25 : decode cX1_add 25 = .ok (.iconst 2, 1) := by decide +kernel
theorem dX1_add_26 : decode cX1_add 26 = .ok (.aload_n 0, 1) := by decide +kernel
theorem dX1_add_27 : decode cX1_add 27 = .ok (.getfield 11, 3) := by decide +kernel
theorem dX1_add_30 : decode cX1_add 30 = .ok (.arraylength, 1) := by decide +kernel
theorem dX1_add_31 : decode cX1_add 31 = .ok (.imul, 1) := by decide +kernel
theorem dX1_add_32 : decode cX1_add 32 = .ok (.invokestatic 19, 3) := by decide +kernel
theorem dX1_add_35 : decode cX1_add 35 = .ok (.putfield 11, 3) := by decide +kernel
theorem dX1_add_38 : decode cX1_add 38 = .ok (.aload_n 0, 1) := by decide +kernel
theorem dX1_add_39 : decode cX1_add 39 = .ok (.getfield 11, 3) := by decide +kernel
theorem dX1_add_42 : decode cX1_add 42 = .ok (.iload 6, 2) := by decide +kernel
theorem dX1_add_44 : decode cX1_add 44 = .ok (.iconst 0, 1) := by decide +kernel
theorem dX1_add_45 : decode cX1_add 45 = .ok (.iadd, 1) := by decide +kernel
theorem dX1_add_46 : decode cX1_add 46 = .ok (.iload_n 1, 1) := by decide +kernel
theorem dX1_add_47 : decode cX1_add 47 = .ok (.iastore, 1) := by decide +kernel
theorem dX1_add_48 : decode cX1_add 48 = .ok (.aload_n 0, 1) := by decide +kernel
theorem dX1_add_49 : decode cX1_add 49 = .ok (.getfield 11, 3) := by decide +kernel
theorem dX1_add_52 : decode cX1_add 52 = .ok (.iload 6, 2) := by decide +kernel
theorem dX1_add_54 : decode cX1_add 54 = .ok (.iconst 1, 1) := by decide +kernel
theorem dX1_add_55 : decode cX1_add 55 = .ok (.iadd, 1) := by decide +kernel
theorem dX1_add_56 : decode cX1_add 56 = .ok (.iload_n 2, 1) := by decide +kernel
theorem dX1_add_57 : decode cX1_add 57 = .ok (.iastore, 1) := by decide +kernel
theorem dX1_add_58 : decode cX1_add 58 = .ok (.aload_n 0, 1) := by decide +kernel
theorem dX1_add_59 : decode cX1_add 59 = .ok (.getfield 11, 3) := by decide +kernel
theorem dX1_add_62 : decode cX1_add 62 = .ok (.iload 6, 2) := by decide +kernel
theorem dX1_add_64 : decode cX1_add 64 = .ok (.iconst 2, 1) := by decide +kernel
theorem dX1_add_65 : decode cX1_add 65 = .ok (.iadd, 1) := by decide +kernel
theorem dX1_add_66 : decode cX1_add 66 = .ok (.iload_n 3, 1) := by decide +kernel
theorem dX1_add_67 : decode cX1_add 67 = .ok (.iastore, 1) := by decide +kernel
theorem dX1_add_68 : decode cX1_add 68 = .ok (.aload_n 0, 1) := by decide +kernel
theorem dX1_add_69 : decode cX1_add 69 = .ok (.getfield 11, 3) := by decide +kernel
theorem dX1_add_72 : decode cX1_add 72 = .ok (.iload 6, 2) := by decide +kernel
theorem dX1_add_74 : decode cX1_add 74 = .ok (.iconst 3, 1) := by decide +kernel
theorem dX1_add_75 : decode cX1_add 75 = .ok (.iadd, 1) := by decide +kernel
theorem dX1_add_76 : decode cX1_add 76 = .ok (.iload 4, 2) := by decide +kernel
theorem dX1_add_78 : decode cX1_add 78 = .ok (.iastore, 1) := by decide +kernel
theorem dX1_add_79 : decode cX1_add 79 = .ok (.aload_n 0, 1) := by decide +kernel
theorem dX1_add_80 : decode cX1_add 80 = .ok (.getfield 11, 3) := by decide +kernel
theorem dX1_add_83 : decode cX1_add 83 = .ok (.iload 6, 2) := by decide +kernel
theorem dX1_add_85 : decode cX1_add 85 = .ok (.iconst 4, 1) := by decide +kernel
theorem dX1_add_86 : decode cX1_add 86 = .ok (.iadd, 1) := by decide +kernel
theorem dX1_add_87 : decode cX1_add 87 = .ok (.iload 5, 2) := by decide +kernel
theorem dX1_add_89 : decode cX1_add 89 = .ok (.iastore, 1) := by decide +kernel
theorem dX1_add_90 : decode cX1_add 90 = .ok (.aload_n 0, 1) := by decide +kernel
theorem dX1_add_91 : decode cX1_add 91 = .ok (.dup, 1) := by decide +kernel
theorem dX1_add_92 : decode cX1_add 92 = .ok (.getfield 15, 3) := by decide +kernel
theorem dX1_add_95 : decode cX1_add 95 = .ok (.iconst 1, 1) := by decide +kernel
theorem dX1_add_96 : decode cX1_add 96 = .ok (.iadd, 1) := by decide +kernel
theorem dX1_add_97 : decode cX1_add 97 = .ok (.putfield 15, 3) := by decide +kernel
theorem dX1_add_100 : decode cX1_add 100 = .ok (.return_, 1) := by decide +kernel
theorem dX1_drop_0 : decode cX1_drop 0 = .ok (.iload_n 1, 1) := by decide +kernel
theorem dX1_drop_1 : decode cX1_drop 1 = .ok (.ifCond .lt 11, 3) := by decide +kernel
theorem dX1_drop_4 : decode cX1_drop 4 = .ok (.iload_n 1, 1) := by decide +kernel
theorem dX1_drop_5 : decode cX1_drop 5 = .ok (.aload_n 0, 1) := by decide +kernel
theorem dX1_drop_6 : decode cX1_drop 6 = .ok (.getfield 15, 3) := by decide +kernel
theorem dX1_drop_9 : decode cX1_drop 9 = .ok (.if_icmp .lt 4, 3) := by decide +kernel
theorem dX1_drop_12 : decode cX1_drop 12 = .ok (.return_, 1) := by decide +kernel
theorem dX1_drop_13 : decode cX1_drop 13 = .ok (.iload_n 1, 1) := by decide +kernel
theorem dX1_drop_14 : decode cX1_drop 14 = .ok (.iconst 5, 1) := by decide +kernel
theorem dX1_drop_15 : decode cX1_drop 15 = .ok (.imul, 1) := by decide +kernel
theorem dX1_drop_16 : decode cX1_drop 16 = .ok (.istore_n 2, 1) := by decide +kernel
theorem dX1_drop_17 : decode cX1_drop 17 = .ok (.iload_n 2, 1) := by decide +kernel
theorem dX1_drop_18 : decode cX1_drop 18 = .ok (.iconst 5, 1) := by decide +kernel
theorem dX1_drop_19 : decode cX1_drop 19 = .ok (.iadd, 1) := by decide +kernel
theorem dX1_drop_20 : decode cX1_drop 20 = .ok (.istore_n 3, 1) := by decide +kernel
theorem dX1_drop_21 : decode cX1_drop 21 = .ok (.aload_n 0, 1) := by decide +kernel
theorem dX1_drop_22 : decode cX1_drop 22 = .ok (.getfield 11, 3) := by decide +kernel
theorem dX1_drop_25 : decode cX1_drop 25 = .ok (.iload_n 3, 1) := by decide +kernel
theorem dX1_drop_26 : decode cX1_drop 26 = .ok (.aload_n 0, 1) := by decide +kernel
theorem dX1_drop_27 : decode cX1_drop 27 = .ok (.getfield 11, 3) := by decide +kernel
theorem dX1_drop_30 : decode cX1_drop 30 = .ok (.iload_n 2, 1) := by decide +kernel
theorem dX1_drop_31 : decode cX1_drop 31 = .ok (.aload_n 0, 1) := by decide +kernel
theorem dX1_drop_32 : decode cX1_drop 32 = .ok (.getfield 15, 3) := by decide +kernel
theorem dX1_drop_35 : decode cX1_drop 35 = .ok (.iconst 5, 1) := by decide +kernel
theorem dX1_drop_36 : decode cX1_drop 36 = .ok (.imul, 1) := by decide +kernel
theorem dX1_drop_37 : decode cX1_drop 37 = .ok (.iload_n 3, 1) := by decide +kernel
theorem dX1_drop_38 : decode cX1_drop 38 = .ok (.isub, 1) := by decide +kernel
theorem dX1_drop_39 : decode cX1_drop 39 = .ok (.invokestatic 25, 3) := by decide +kernel
theorem dX1_drop_42 : decode cX1_drop 42 = .ok (.aload_n 0, 1) := by decide +kernel
theorem dX1_drop_43 : decode cX1_drop 43 = .ok (.dup, 1) := by decide +kernel
theorem dX1_drop_44 : decode cX1_drop 44 = .ok (.getfield 15, 3) := by decide +kernel
theorem dX1_drop_47 : decode cX1_drop 47 = .ok (.iconst 1, 1) := by decide +kernel
theorem dX1_drop_48 : decode cX1_drop 48 = .ok (.isub, 1) := by decide +kernel
theorem dX1_drop_49 : decode cX1_drop 49 = .ok (.putfield 15, 3) := by decide +kernel
theorem dX1_drop_52 : decode cX1_drop 52 = .ok (.return_, 1) := by decide +kernel
theorem dX1_read_0 : decode cX1_read 0 = .ok (.iload_n 1, 1) := by decide +kernel
theorem dX1_read_1 : decode cX1_read 1 = .ok (.ifCond .lt 11, 3) := by decide +kernel
theorem dX1_read_4 : decode cX1_read 4 = .ok (.iload_n 1, 1) := by decide +kernel
theorem dX1_read_5 : decode cX1_read 5 = .ok (.aload_n 0, 1) := by decide +kernel
theorem dX1_read_6 : decode cX1_read 6 = .ok (.getfield 15, 3) := by decide +kernel
theorem dX1_read_9 : decode cX1_read 9 = .ok (.if_icmp .lt 7, 3) := by decide +kernel
theorem dX1_read_12 : decode cX1_read 12 = .ok (.iconst (-1), 1) := by decide +kernel
theorem dX1_read_13 : decode cX1_read 13 = .ok (.goto 13, 3) := by decide +kernel
theorem dX1_read_16 : decode cX1_read 16 = .ok (.aload_n 0, 1) := by decide +kernel
theorem dX1_read_17 : decode cX1_read 17 = .ok (.getfield 11, 3) := by decide +kernel
theorem dX1_read_20 : decode cX1_read 20 = .ok (.iload_n 1, 1) := by decide +kernel
theorem dX1_read_21 : decode cX1_read 21 = .ok (.iconst 5, 1) := by decide +kernel
theorem dX1_read_22 : decode cX1_read 22 = .ok (.imul, 1) := by decide +kernel
theorem dX1_read_23 : decode cX1_read 23 = .ok (.iload_n 2, 1) := by decide +kernel
theorem dX1_read_24 : decode cX1_read 24 = .ok (.iadd, 1) := by decide +kernel
theorem dX1_read_25 : decode cX1_read 25 = .ok (.iaload, 1) := by decide +kernel
theorem dX1_read_26 : decode cX1_read 26 = .ok (.ireturn, 1) := by decide +kernel
set_option maxRecDepth 20000 in
theorem ggX1_find_X1_fits : GoodIn wsX1_find wsX1_fits := goodIn_r _ [6, 7, 8, 9] (by decide +kernel) (by decide +kernel)
set_option maxRecDepth 20000 in
theorem gX1_find_X1_fits : GoodIn wsX1_find (wsV RX1 31 RX1 yX1_fits wsX1_fits) := goodIn_app (goodIn_of _ (by decide +kernel)) ggX1_find_X1_fits
theorem dX1_find_0 : decode cX1_find 0 = .ok (.iload 4, 2) := by decide +kernel
theorem dX1_find_2 : decode cX1_find 2 = .ok (.istore 5, 2) := by decide +kernel
theorem dX1_find_4 : decode cX1_find 4 = .ok (.iconst 0, 1) := by decide +kernel
theorem dX1_find_5 : decode cX1_find 5 = .ok (.istore 6, 2) := by decide +kernel
theorem dX1_find_7 : decode cX1_find 7 = .ok (.iload 6, 2) := by decide +kernel
theorem dX1_find_9 : decode cX1_find 9 = .ok (.aload_n 0, 1) := by decide +kernel
theorem dX1_find_10 : decode cX1_find 10 = .ok (.getfield 15, 3) := by decide +kernel
theorem dX1_find_13 : decode cX1_find 13 = .ok (.if_icmp .ge 33, 3) := by decide +kernel
theorem dX1_find_16 : decode cX1_find 16 = .ok (.aload_n 0, 1) := by decide +kernel
theorem dX1_find_17 : decode cX1_find 17 = .ok (.iload 6, 2) := by decide +kernel
theorem dX1_find_19 : decode cX1_find 19 = .ok (.iload_n 1, 1) := by decide +kernel
theorem dX1_find_20 : decode cX1_find 20 = .ok (.iload_n 2, 1) := by decide +kernel
theorem dX1_find_21 : decode cX1_find 21 = .ok (.iload_n 3, 1) := by decide +kernel
theorem dX1_find_22 : decode cX1_find 22 = .ok (.iconst (-1), 1) := by decide +kernel
theorem dX1_find_23 : decode cX1_find 23 = .ok (.invokevirtual 31, 3) := by decide +kernel
theorem dX1_find_26 : decode cX1_find 26 = .ok (.ifCond .eq 14, 3) := by decide +kernel
theorem dX1_find_29 : decode cX1_find 29 = .ok (.iload 5, 2) := by decide +kernel
theorem dX1_find_31 : decode cX1_find 31 = .ok (.ifCond .ne 6, 3) := by decide +kernel
theorem dX1_find_34 : decode cX1_find 34 = .ok (.iload 6, 2) := by decide +kernel
theorem dX1_find_36 : decode cX1_find 36 = .ok (.ireturn, 1) := by decide +kernel
theorem dX1_find_37 : decode cX1_find 37 = .ok (.iinc 5 (-1), 3) := by decide +kernel
theorem dX1_find_40 : decode cX1_find 40 = .ok (.iinc 6 1, 3) := by decide +kernel
theorem dX1_find_43 : decode cX1_find 43 = .ok (.goto (-36), 3) := by decide +kernel
theorem dX1_find_46 : decode cX1_find 46 = .ok (.iconst (-1), 1) := by decide +kernel
theorem dX1_find_47 : decode cX1_find 47 = .ok (.ireturn, 1) := by decide +kernel
set_option maxRecDepth 20000 in
theorem ggX1_tally_X1_fits : GoodIn wsX1_tally wsX1_fits := goodIn_r _ [6, 7, 8, 9] (by decide +kernel) (by decide +kernel)
set_option maxRecDepth 20000 in
theorem gX1_tally_X1_fits : GoodIn wsX1_tally (wsV RX1 31 RX1 yX1_fits wsX1_fits) := goodIn_app (goodIn_of _ (by decide +kernel)) ggX1_tally_X1_fits
theorem dX1_tally_0 : decode cX1_tally 0 = .ok (.iconst 0, 1) := by decide +kernel
theorem dX1_tally_1 : decode cX1_tally 1 = .ok (.istore 5, 2) := by decide +kernel
theorem dX1_tally_3 : decode cX1_tally 3 = .ok (.iconst 0, 1) := by decide +kernel
theorem dX1_tally_4 : decode cX1_tally 4 = .ok (.istore 6, 2) := by decide +kernel
theorem dX1_tally_6 : decode cX1_tally 6 = .ok (.iload 6, 2) := by decide +kernel
theorem dX1_tally_8 : decode cX1_tally 8 = .ok (.aload_n 0, 1) := by decide +kernel
theorem dX1_tally_9 : decode cX1_tally 9 = .ok (.getfield 15, 3) := by decide +kernel
theorem dX1_tally_12 : decode cX1_tally 12 = .ok (.if_icmp .ge 26, 3) := by decide +kernel
theorem dX1_tally_15 : decode cX1_tally 15 = .ok (.aload_n 0, 1) := by decide +kernel
theorem dX1_tally_16 : decode cX1_tally 16 = .ok (.iload 6, 2) := by decide +kernel
theorem dX1_tally_18 : decode cX1_tally 18 = .ok (.iload_n 1, 1) := by decide +kernel
theorem dX1_tally_19 : decode cX1_tally 19 = .ok (.iload_n 2, 1) := by decide +kernel
theorem dX1_tally_20 : decode cX1_tally 20 = .ok (.iload_n 3, 1) := by decide +kernel
theorem dX1_tally_21 : decode cX1_tally 21 = .ok (.iload 4, 2) := by decide +kernel
theorem dX1_tally_23 : decode cX1_tally 23 = .ok (.invokevirtual 31, 3) := by decide +kernel
theorem dX1_tally_26 : decode cX1_tally 26 = .ok (.ifCond .eq 6, 3) := by decide +kernel
theorem dX1_tally_29 : decode cX1_tally 29 = .ok (.iinc 5 1, 3) := by decide +kernel
theorem dX1_tally_32 : decode cX1_tally 32 = .ok (.iinc 6 1, 3) := by decide +kernel
theorem dX1_tally_35 : decode cX1_tally 35 = .ok (.goto (-29), 3) := by decide +kernel
theorem dX1_tally_38 : decode cX1_tally 38 = .ok (.iload 5, 2) := by decide +kernel
theorem dX1_tally_40 : decode cX1_tally 40 = .ok (.ireturn, 1) := by decide +kernel
theorem dX1_fits_0 : decode cX1_fits 0 = .ok (.iload_n 1, 1) := by decide +kernel
theorem dX1_fits_1 : decode cX1_fits 1 = .ok (.iconst 5, 1) := by decide +kernel
theorem dX1_fits_2 : decode cX1_fits 2 = .ok (.imul, 1) := by decide +kernel
theorem dX1_fits_3 : decode cX1_fits 3 = .ok (.istore 6, 2) := by decide +kernel
theorem dX1_fits_5 : decode cX1_fits 5 = .ok (.iload_n 2, 1) := by decide +kernel
theorem dX1_fits_6 : decode cX1_fits 6 = .ok (.iconst (-1), 1) := by decide +kernel
theorem dX1_fits_7 : decode cX1_fits 7 = .ok (.if_icmp .eq 16, 3) := by decide +kernel
theorem dX1_fits_10 : decode cX1_fits 10 = .ok (.aload_n 0, 1) := by decide +kernel
theorem dX1_fits_11 : decode cX1_fits 11 = .ok (.getfield 11, 3) := by decide +kernel
theorem dX1_fits_14 : decode cX1_fits 14 = .ok (.iload 6, 2) := by decide +kernel
theorem dX1_fits_16 : decode cX1_fits 16 = .ok (.iconst 0, 1) := by decide +kernel
theorem dX1_fits_17 : decode cX1_fits 17 = .ok (.iadd, 1) := by decide +kernel
theorem dX1_fits_18 : decode cX1_fits 18 = .ok (.iaload, 1) := by decide +kernel
theorem dX1_fits_19 : decode cX1_fits 19 = .ok (.iload_n 2, 1) := by decide +kernel
theorem dX1_fits_20 : decode cX1_fits 20 = .ok (.if_icmp .ne 65, 3) := by decide +kernel
theorem dX1_fits_23 : decode cX1_fits 23 = .ok (.iload_n 3, 1) := by decide +kernel
theorem dX1_fits_24 : decode cX1_fits 24 = .ok (.iconst (-1), 1) := by decide +kernel
theorem dX1_fits_25 : decode cX1_fits 25 = .ok (.if_icmp .eq 16, 3) := by decide +kernel
theorem dX1_fits_28 : decode cX1_fits 28 = .ok (.aload_n 0, 1) := by decide +kernel
theorem dX1_fits_29 : decode cX1_fits 29 = .ok (.getfield 11, 3) := by decide +kernel
theorem dX1_fits_32 : decode cX1_fits 32 = .ok (.iload 6, 2) := by decide +kernel
theorem dX1_fits_34 : decode cX1_fits 34 = .ok (.iconst 1, 1) := by decide +kernel
theorem dX1_fits_35 : decode cX1_fits 35 = .ok (.iadd, 1) := by decide +kernel
theorem dX1_fits_36 : decode cX1_fits 36 = .ok (.iaload, 1) := by decide +kernel
theorem dX1_fits_37 : decode cX1_fits 37 = .ok (.iload_n 3, 1) := by decide +kernel
theorem dX1_fits_38 : decode cX1_fits 38 = .ok (.if_icmp .ne 47, 3) := by decide +kernel
theorem dX1_fits_41 : decode cX1_fits 41 = .ok (.iload 4, 2) := by decide +kernel
theorem dX1_fits_43 : decode cX1_fits 43 = .ok (.iconst (-1), 1) := by decide +kernel
theorem dX1_fits_44 : decode cX1_fits 44 = .ok (.if_icmp .eq 17, 3) := by decide +kernel
theorem dX1_fits_47 : decode cX1_fits 47 = .ok (.aload_n 0, 1) := by decide +kernel
theorem dX1_fits_48 : decode cX1_fits 48 = .ok (.getfield 11, 3) := by decide +kernel
theorem dX1_fits_51 : decode cX1_fits 51 = .ok (.iload 6, 2) := by decide +kernel
theorem dX1_fits_53 : decode cX1_fits 53 = .ok (.iconst 2, 1) := by decide +kernel
theorem dX1_fits_54 : decode cX1_fits 54 = .ok (.iadd, 1) := by decide +kernel
theorem dX1_fits_55 : decode cX1_fits 55 = .ok (.iaload, 1) := by decide +kernel
theorem dX1_fits_56 : decode cX1_fits 56 = .ok (.iload 4, 2) := by decide +kernel
theorem dX1_fits_58 : decode cX1_fits 58 = .ok (.if_icmp .ne 27, 3) := by decide +kernel
theorem dX1_fits_61 : decode cX1_fits 61 = .ok (.iload 5, 2) := by decide +kernel
theorem dX1_fits_63 : decode cX1_fits 63 = .ok (.iconst (-1), 1) := by decide +kernel
theorem dX1_fits_64 : decode cX1_fits 64 = .ok (.if_icmp .eq 17, 3) := by decide +kernel
theorem dX1_fits_67 : decode cX1_fits 67 = .ok (.aload_n 0, 1) := by decide +kernel
theorem dX1_fits_68 : decode cX1_fits 68 = .ok (.getfield 11, 3) := by decide +kernel
theorem dX1_fits_71 : decode cX1_fits 71 = .ok (.iload 6, 2) := by decide +kernel
theorem dX1_fits_73 : decode cX1_fits 73 = .ok (.iconst 4, 1) := by decide +kernel
theorem dX1_fits_74 : decode cX1_fits 74 = .ok (.iadd, 1) := by decide +kernel
theorem dX1_fits_75 : decode cX1_fits 75 = .ok (.iaload, 1) := by decide +kernel
theorem dX1_fits_76 : decode cX1_fits 76 = .ok (.iload 5, 2) := by decide +kernel
theorem dX1_fits_78 : decode cX1_fits 78 = .ok (.if_icmp .ne 7, 3) := by decide +kernel
theorem dX1_fits_81 : decode cX1_fits 81 = .ok (.iconst 1, 1) := by decide +kernel
theorem dX1_fits_82 : decode cX1_fits 82 = .ok (.goto 4, 3) := by decide +kernel
theorem dX1_fits_85 : decode cX1_fits 85 = .ok (.iconst 0, 1) := by decide +kernel
theorem dX1_fits_86 : decode cX1_fits 86 = .ok (.ireturn, 1) := by decide +kernel
theorem dX2_init_0 : decode cX2_init 0 = .ok (.aload_n 0, 1) := by decide +kernel
theorem dX2_init_1 : decode cX2_init 1 = .ok (.invokespecial 3, 3) := by decide +kernel
theorem dX2_init_4 : decode cX2_init 4 = .ok (.aload_n 0, 1) := by decide +kernel
theorem dX2_init_5 : decode cX2_init 5 = .ok (.bipush 8, 2) := by decide +kernel
theorem dX2_init_7 : decode cX2_init 7 = .ok (.newarray .int, 2) := by decide +kernel
theorem dX2_init_9 : decode cX2_init 9 = .ok (.putfield 9, 3) := by decide +kernel
theorem dX2_init_12 : decode cX2_init 12 = .ok (.aload_n 0, 1) := by decide +kernel
theorem dX2_init_13 : decode cX2_init 13 = .ok (.bipush 8, 2) := by decide +kernel
theorem dX2_init_15 : decode cX2_init 15 = .ok (.newarray .int, 2) := by decide +kernel
theorem dX2_init_17 : decode cX2_init 17 = .ok (.putfield 15, 3) := by decide +kernel
theorem dX2_init_20 : decode cX2_init 20 = .ok (.aload_n 0, 1) := by decide +kernel
theorem dX2_init_21 : decode cX2_init 21 = .ok (.bipush 8, 2) := by decide +kernel
theorem dX2_init_23 : decode cX2_init 23 = .ok (.bipush 8, 2) := by decide +kernel
theorem dX2_init_25 : decode cX2_init 25 = .ok (.multianewarray 18 2, 4) := by decide +kernel
theorem dX2_init_29 : decode cX2_init 29 = .ok (.putfield 20, 3) := by decide +kernel
theorem dX2_init_32 : decode cX2_init 32 = .ok (.aload_n 0, 1) := by decide +kernel
theorem dX2_init_33 : decode cX2_init 33 = .ok (.iconst 1, 1) := by decide +kernel
theorem dX2_init_34 : decode cX2_init 34 = .ok (.putfield 23, 3) := by decide +kernel
theorem dX2_init_37 : decode cX2_init 37 = .ok (.aload_n 0, 1) := by decide +kernel
theorem dX2_init_38 : decode cX2_init 38 = .ok (.getfield 9, 3) := by decide +kernel
theorem dX2_init_41 : decode cX2_init 41 = .ok (.iconst 0, 1) := by decide +kernel
theorem dX2_init_42 : decode cX2_init 42 = .ok (.iconst (-1), 1) := by decide +kernel
theorem dX2_init_43 : decode cX2_init 43 = .ok (.iastore, 1) := by decide +kernel
theorem dX2_init_44 : decode cX2_init 44 = .ok (.return_, 1) := by decide +kernel
theorem dX2_has_0 : decode cX2_has 0 = .ok (.iload_n 1, 1) := by decide +kernel
theorem dX2_has_1 : decode cX2_has 1 = .ok (.ifCond .lt 15, 3) := by decide +kernel
theorem dX2_has_4 : decode cX2_has 4 = .ok (.iload_n 1, 1) := by decide +kernel
theorem dX2_has_5 : decode cX2_has 5 = .ok (.aload_n 0, 1) := by decide +kernel
theorem dX2_has_6 : decode cX2_has 6 = .ok (.getfield 23, 3) := by decide +kernel
theorem dX2_has_9 : decode cX2_has 9 = .ok (.if_icmp .ge 7, 3) := by decide +kernel
theorem dX2_has_12 : decode cX2_has 12 = .ok (.iconst 1, 1) := by decide +kernel
theorem dX2_has_13 : decode cX2_has 13 = .ok (.goto 4, 3) := by decide +kernel
theorem dX2_has_16 : decode cX2_has 16 = .ok (.iconst 0, 1) := by decide +kernel
theorem dX2_has_17 : decode cX2_has 17 = .ok (.ireturn, 1) := by decide +kernel
theorem dX2_firstThatMends_0 : decode cX2_firstThatMends 0 = .ok (.iload_n 1, 1) := by decide +kernel
theorem dX2_firstThatMends_1 : decode cX2_firstThatMends 1 = .ok (.istore_n 3, 1) := by decide +kernel
theorem dX2_firstThatMends_2 : decode cX2_firstThatMends 2 = .ok (.iconst 0, 1) := by decide +kernel
theorem dX2_firstThatMends_3 : decode cX2_firstThatMends 3 = .ok (.istore 4, 2) := by decide +kernel
theorem dX2_firstThatMends_5 : decode cX2_firstThatMends 5 = .ok (.iload 4, 2) := by decide +kernel
theorem dX2_firstThatMends_7 : decode cX2_firstThatMends 7 = .ok (.bipush 8, 2) := by decide +kernel
theorem dX2_firstThatMends_9 : decode cX2_firstThatMends 9 = .ok (.if_icmp .ge 31, 3) := by decide +kernel
theorem dX2_firstThatMends_12 : decode cX2_firstThatMends 12 = .ok (.iload_n 3, 1) := by decide +kernel
theorem dX2_firstThatMends_13 : decode cX2_firstThatMends 13 = .ok (.ifCond .le 27, 3) := by decide +kernel
theorem dX2_firstThatMends_16 : decode cX2_firstThatMends 16 = .ok (.aload_n 0, 1) := by decide +kernel
theorem dX2_firstThatMends_17 : decode cX2_firstThatMends 17 = .ok (.getfield 20, 3) := by decide +kernel
theorem dX2_firstThatMends_20 : decode cX2_firstThatMends 20 = .ok (.iload_n 3, 1) := by decide +kernel
theorem dX2_firstThatMends_21 : decode cX2_firstThatMends 21 = .ok (.aaload, 1) := by decide +kernel
theorem dX2_firstThatMends_22 : decode cX2_firstThatMends 22 = .ok (.iload_n 2, 1) := by decide +kernel
theorem dX2_firstThatMends_23 : decode cX2_firstThatMends 23 = .ok (.iaload, 1) := by decide +kernel
theorem dX2_firstThatMends_24 : decode cX2_firstThatMends 24 = .ok (.ifCond .ne 16, 3) := by decide +kernel
theorem dX2_firstThatMends_27 : decode cX2_firstThatMends 27 = .ok (.aload_n 0, 1) := by decide +kernel
theorem dX2_firstThatMends_28 : decode cX2_firstThatMends 28 = .ok (.getfield 9, 3) := by decide +kernel
theorem dX2_firstThatMends_31 : decode cX2_firstThatMends 31 = .ok (.iload_n 3, 1) := by decide +kernel
theorem dX2_firstThatMends_32 : decode cX2_firstThatMends 32 = .ok (.iaload, 1) := by decide +kernel
theorem dX2_firstThatMends_33 : decode cX2_firstThatMends 33 = .ok (.istore_n 3, 1) := by decide +kernel
theorem dX2_firstThatMends_34 : decode cX2_firstThatMends 34 = .ok (.iinc 4 1, 3) := by decide +kernel
theorem dX2_firstThatMends_37 : decode cX2_firstThatMends 37 = .ok (.goto (-32), 3) := by decide +kernel
theorem dX2_firstThatMends_40 : decode cX2_firstThatMends 40 = .ok (.iload_n 3, 1) := by decide +kernel
theorem dX2_firstThatMends_41 : decode cX2_firstThatMends 41 = .ok (.ireturn, 1) := by decide +kernel
theorem dX2_waysUp_0 : decode cX2_waysUp 0 = .ok (.iconst 0, 1) := by decide +kernel
theorem dX2_waysUp_1 : decode cX2_waysUp 1 = .ok (.istore_n 3, 1) := by decide +kernel
theorem dX2_waysUp_2 : decode cX2_waysUp 2 = .ok (.iload_n 1, 1) := by decide +kernel
theorem dX2_waysUp_3 : decode cX2_waysUp 3 = .ok (.istore 4, 2) := by decide +kernel
theorem dX2_waysUp_5 : decode cX2_waysUp 5 = .ok (.iconst 0, 1) := by decide +kernel
theorem dX2_waysUp_6 : decode cX2_waysUp 6 = .ok (.istore 5, 2) := by decide +kernel
theorem dX2_waysUp_8 : decode cX2_waysUp 8 = .ok (.iload 5, 2) := by decide +kernel
theorem dX2_waysUp_10 : decode cX2_waysUp 10 = .ok (.bipush 8, 2) := by decide +kernel
theorem dX2_waysUp_12 : decode cX2_waysUp 12 = .ok (.if_icmp .ge 34, 3) := by decide +kernel
theorem dX2_waysUp_15 : decode cX2_waysUp 15 = .ok (.iload 4, 2) := by decide +kernel
theorem dX2_waysUp_17 : decode cX2_waysUp 17 = .ok (.iload_n 2, 1) := by decide +kernel
theorem dX2_waysUp_18 : decode cX2_waysUp 18 = .ok (.if_icmp .le 28, 3) := by decide +kernel
theorem dX2_waysUp_21 : decode cX2_waysUp 21 = .ok (.iload_n 3, 1) := by decide +kernel
theorem dX2_waysUp_22 : decode cX2_waysUp 22 = .ok (.aload_n 0, 1) := by decide +kernel
theorem dX2_waysUp_23 : decode cX2_waysUp 23 = .ok (.getfield 15, 3) := by decide +kernel
theorem dX2_waysUp_26 : decode cX2_waysUp 26 = .ok (.iload 4, 2) := by decide +kernel
theorem dX2_waysUp_28 : decode cX2_waysUp 28 = .ok (.iaload, 1) := by decide +kernel
theorem dX2_waysUp_29 : decode cX2_waysUp 29 = .ok (.iadd, 1) := by decide +kernel
theorem dX2_waysUp_30 : decode cX2_waysUp 30 = .ok (.istore_n 3, 1) := by decide +kernel
theorem dX2_waysUp_31 : decode cX2_waysUp 31 = .ok (.aload_n 0, 1) := by decide +kernel
theorem dX2_waysUp_32 : decode cX2_waysUp 32 = .ok (.getfield 9, 3) := by decide +kernel
theorem dX2_waysUp_35 : decode cX2_waysUp 35 = .ok (.iload 4, 2) := by decide +kernel
theorem dX2_waysUp_37 : decode cX2_waysUp 37 = .ok (.iaload, 1) := by decide +kernel
theorem dX2_waysUp_38 : decode cX2_waysUp 38 = .ok (.istore 4, 2) := by decide +kernel
theorem dX2_waysUp_40 : decode cX2_waysUp 40 = .ok (.iinc 5 1, 3) := by decide +kernel
theorem dX2_waysUp_43 : decode cX2_waysUp 43 = .ok (.goto (-35), 3) := by decide +kernel
theorem dX2_waysUp_46 : decode cX2_waysUp 46 = .ok (.iload_n 3, 1) := by decide +kernel
theorem dX2_waysUp_47 : decode cX2_waysUp 47 = .ok (.ireturn, 1) := by decide +kernel
theorem dJ9_max_7cf53_0 : decode cJ9_max_7cf53 0 = .ok (.iload_n 0, 1) := by decide +kernel
theorem dJ9_max_7cf53_1 : decode cJ9_max_7cf53 1 = .ok (.iload_n 1, 1) := by decide +kernel
theorem dJ9_max_7cf53_2 : decode cJ9_max_7cf53 2 = .ok (.if_icmp .lt 7, 3) := by decide +kernel
theorem dJ9_max_7cf53_5 : decode cJ9_max_7cf53 5 = .ok (.iload_n 0, 1) := by decide +kernel
theorem dJ9_max_7cf53_6 : decode cJ9_max_7cf53 6 = .ok (.goto 4, 3) := by decide +kernel
theorem dJ9_max_7cf53_9 : decode cJ9_max_7cf53 9 = .ok (.iload_n 1, 1) := by decide +kernel
theorem dJ9_max_7cf53_10 : decode cJ9_max_7cf53 10 = .ok (.ireturn, 1) := by decide +kernel
theorem dJ9_min_7cf53_0 : decode cJ9_min_7cf53 0 = .ok (.iload_n 0, 1) := by decide +kernel
theorem dJ9_min_7cf53_1 : decode cJ9_min_7cf53 1 = .ok (.iload_n 1, 1) := by decide +kernel
theorem dJ9_min_7cf53_2 : decode cJ9_min_7cf53 2 = .ok (.if_icmp .gt 7, 3) := by decide +kernel
theorem dJ9_min_7cf53_5 : decode cJ9_min_7cf53 5 = .ok (.iload_n 0, 1) := by decide +kernel
theorem dJ9_min_7cf53_6 : decode cJ9_min_7cf53 6 = .ok (.goto 4, 3) := by decide +kernel
theorem dJ9_min_7cf53_9 : decode cJ9_min_7cf53 9 = .ok (.iload_n 1, 1) := by decide +kernel
theorem dJ9_min_7cf53_10 : decode cJ9_min_7cf53 10 = .ok (.ireturn, 1) := by decide +kernel
theorem dJ7_copyOf_59c91_0 : decode cJ7_copyOf_59c91 0 = .ok (.iload_n 1, 1) := by decide +kernel
theorem dJ7_copyOf_59c91_1 : decode cJ7_copyOf_59c91 1 = .ok (.aload_n 0, 1) := by decide +kernel
theorem dJ7_copyOf_59c91_2 : decode cJ7_copyOf_59c91 2 = .ok (.arraylength, 1) := by decide +kernel
theorem dJ7_copyOf_59c91_3 : decode cJ7_copyOf_59c91 3 = .ok (.if_icmp .ne 11, 3) := by decide +kernel
theorem dJ7_copyOf_59c91_6 : decode cJ7_copyOf_59c91 6 = .ok (.aload_n 0, 1) := by decide +kernel
theorem dJ7_copyOf_59c91_7 : decode cJ7_copyOf_59c91 7 = .ok (.invokevirtual 316, 3) := by decide +kernel
theorem dJ7_copyOf_59c91_10 : decode cJ7_copyOf_59c91 10 = .ok (.checkcast 317, 3) := by decide +kernel
theorem dJ7_copyOf_59c91_13 : decode cJ7_copyOf_59c91 13 = .ok (.areturn, 1) := by decide +kernel
theorem dJ7_copyOf_59c91_14 : decode cJ7_copyOf_59c91 14 = .ok (.iload_n 1, 1) := by decide +kernel
theorem dJ7_copyOf_59c91_15 : decode cJ7_copyOf_59c91 15 = .ok (.newarray .int, 2) := by decide +kernel
theorem dJ7_copyOf_59c91_17 : decode cJ7_copyOf_59c91 17 = .ok (.astore_n 2, 1) := by decide +kernel
theorem dJ7_copyOf_59c91_18 : decode cJ7_copyOf_59c91 18 = .ok (.aload_n 0, 1) := by decide +kernel
theorem dJ7_copyOf_59c91_19 : decode cJ7_copyOf_59c91 19 = .ok (.iconst 0, 1) := by decide +kernel
theorem dJ7_copyOf_59c91_20 : decode cJ7_copyOf_59c91 20 = .ok (.aload_n 2, 1) := by decide +kernel
theorem dJ7_copyOf_59c91_21 : decode cJ7_copyOf_59c91 21 = .ok (.iconst 0, 1) := by decide +kernel
theorem dJ7_copyOf_59c91_22 : decode cJ7_copyOf_59c91 22 = .ok (.aload_n 0, 1) := by decide +kernel
theorem dJ7_copyOf_59c91_23 : decode cJ7_copyOf_59c91 23 = .ok (.arraylength, 1) := by decide +kernel
theorem dJ7_copyOf_59c91_24 : decode cJ7_copyOf_59c91 24 = .ok (.iload_n 1, 1) := by decide +kernel
theorem dJ7_copyOf_59c91_25 : decode cJ7_copyOf_59c91 25 = .ok (.invokestatic 304, 3) := by decide +kernel
theorem dJ7_copyOf_59c91_28 : decode cJ7_copyOf_59c91 28 = .ok (.invokestatic 150, 3) := by decide +kernel
theorem dJ7_copyOf_59c91_31 : decode cJ7_copyOf_59c91 31 = .ok (.aload_n 2, 1) := by decide +kernel
theorem dJ7_copyOf_59c91_32 : decode cJ7_copyOf_59c91 32 = .ok (.areturn, 1) := by decide +kernel
end
section
set_option maxRecDepth 20000 in
theorem ggX3_init_X0_init : GoodIn wsX3_init wsX0_init := goodIn_r _ [25, 26, 2, 3, 13, 27, 28, 29, 30, 31, 32, 33, 34, 35, 50, 51, 52, 53, 54, 55, 56, 57, 58] (by decide +kernel) (by decide +kernel)
set_option maxRecDepth 20000 in
theorem gX3_init_X0_init_n9 : GoodIn wsX3_init (wsX0_init) := ggX3_init_X0_init
set_option maxRecDepth 20000 in
theorem ggX3_init_X2_init : GoodIn wsX3_init wsX2_init := goodIn_r _ [38, 39, 2, 3, 13, 40, 41, 42, 43, 44, 68, 69, 70, 71] (by decide +kernel) (by decide +kernel)
set_option maxRecDepth 20000 in
theorem gX3_init_X2_init : GoodIn wsX3_init (wsX2_init) := ggX3_init_X2_init
set_option maxRecDepth 20000 in
theorem ggX3_init_X1_init : GoodIn wsX3_init wsX1_init := goodIn_r _ [46, 47, 2, 3, 13, 48, 49, 72, 73] (by decide +kernel) (by decide +kernel)
set_option maxRecDepth 20000 in
theorem gX3_init_X1_init_n40 : GoodIn wsX3_init (wsX1_init) := ggX3_init_X1_init
theorem dX3_init_0 : decode cX3_init 0 = .ok (.aload_n 0, 1) := by decide +kernel
theorem dX3_init_1 : decode cX3_init 1 = .ok (.invokespecial 1, 3) := by decide +kernel
theorem dX3_init_4 : decode cX3_init 4 = .ok (.aload_n 0, 1) := by decide +kernel
theorem dX3_init_5 : decode cX3_init 5 = .ok (.new 7, 3) := by decide +kernel
theorem dX3_init_8 : decode cX3_init 8 = .ok (.dup, 1) := by decide +kernel
theorem dX3_init_9 : decode cX3_init 9 = .ok (.invokespecial 9, 3) := by decide +kernel
theorem dX3_init_12 : decode cX3_init 12 = .ok (.putfield 10, 3) := by decide +kernel
theorem dX3_init_15 : decode cX3_init 15 = .ok (.aload_n 0, 1) := by decide +kernel
theorem dX3_init_16 : decode cX3_init 16 = .ok (.new 16, 3) := by decide +kernel
theorem dX3_init_19 : decode cX3_init 19 = .ok (.dup, 1) := by decide +kernel
theorem dX3_init_20 : decode cX3_init 20 = .ok (.invokespecial 18, 3) := by decide +kernel
theorem dX3_init_23 : decode cX3_init 23 = .ok (.putfield 19, 3) := by decide +kernel
theorem dX3_init_26 : decode cX3_init 26 = .ok (.aload_n 0, 1) := by decide +kernel
theorem dX3_init_27 : decode cX3_init 27 = .ok (.bipush 8, 2) := by decide +kernel
theorem dX3_init_29 : decode cX3_init 29 = .ok (.bipush 8, 2) := by decide +kernel
theorem dX3_init_31 : decode cX3_init 31 = .ok (.multianewarray 23 2, 4) := by decide +kernel
theorem dX3_init_35 : decode cX3_init 35 = .ok (.putfield 25, 3) := by decide +kernel
theorem dX3_init_38 : decode cX3_init 38 = .ok (.aload_n 0, 1) := by decide +kernel
theorem dX3_init_39 : decode cX3_init 39 = .ok (.bipush 8, 2) := by decide +kernel
theorem dX3_init_41 : decode cX3_init 41 = .ok (.bipush 8, 2) := by decide +kernel
theorem dX3_init_43 : decode cX3_init 43 = .ok (.multianewarray 23 2, 4) := by decide +kernel
theorem dX3_init_47 : decode cX3_init 47 = .ok (.putfield 28, 3) := by decide +kernel
theorem dX3_init_50 : decode cX3_init 50 = .ok (.aload_n 0, 1) := by decide +kernel
theorem dX3_init_51 : decode cX3_init 51 = .ok (.bipush 8, 2) := by decide +kernel
theorem dX3_init_53 : decode cX3_init 53 = .ok (.newarray .int, 2) := by decide +kernel
theorem dX3_init_55 : decode cX3_init 55 = .ok (.putfield 31, 3) := by decide +kernel
theorem dX3_init_58 : decode cX3_init 58 = .ok (.aload_n 0, 1) := by decide +kernel
theorem dX3_init_59 : decode cX3_init 59 = .ok (.bipush 8, 2) := by decide +kernel
theorem dX3_init_61 : decode cX3_init 61 = .ok (.newarray .int, 2) := by decide +kernel
theorem dX3_init_63 : decode cX3_init 63 = .ok (.putfield 35, 3) := by decide +kernel
theorem dX3_init_66 : decode cX3_init 66 = .ok (.aload_n 0, 1) := by decide +kernel
theorem dX3_init_67 : decode cX3_init 67 = .ok (.new 38, 3) := by decide +kernel
theorem dX3_init_70 : decode cX3_init 70 = .ok (.dup, 1) := by decide +kernel
theorem dX3_init_71 : decode cX3_init 71 = .ok (.invokespecial 40, 3) := by decide +kernel
theorem dX3_init_74 : decode cX3_init 74 = .ok (.putfield 41, 3) := by decide +kernel
theorem dX3_init_77 : decode cX3_init 77 = .ok (.aload_n 0, 1) := by decide +kernel
theorem dX3_init_78 : decode cX3_init 78 = .ok (.new 38, 3) := by decide +kernel
theorem dX3_init_81 : decode cX3_init 81 = .ok (.dup, 1) := by decide +kernel
theorem dX3_init_82 : decode cX3_init 82 = .ok (.invokespecial 40, 3) := by decide +kernel
theorem dX3_init_85 : decode cX3_init 85 = .ok (.putfield 45, 3) := by decide +kernel
theorem dX3_init_88 : decode cX3_init 88 = .ok (.aload_n 0, 1) := by decide +kernel
theorem dX3_init_89 : decode cX3_init 89 = .ok (.iconst 0, 1) := by decide +kernel
theorem dX3_init_90 : decode cX3_init 90 = .ok (.putfield 48, 3) := by decide +kernel
theorem dX3_init_93 : decode cX3_init 93 = .ok (.return_, 1) := by decide +kernel
set_option maxRecDepth 20000 in
theorem ggX3_kind_X3_isOutside : GoodIn wsX3_kind wsX3_isOutside := goodIn_r _ [11] (by decide +kernel) (by decide +kernel)
set_option maxRecDepth 20000 in
theorem gX3_kind_X3_isOutside : GoodIn wsX3_kind (va_wsS RX3 52 yX3_isOutside wsX3_isOutside) := goodIn_app (goodIn_of _ (by decide +kernel)) ggX3_kind_X3_isOutside
set_option maxRecDepth 20000 in
theorem ggX3_kind_X0_has : GoodIn wsX3_kind wsX0_has := goodIn_r _ [16, 17, 27, 28, 29, 30, 31, 32, 33, 34, 35] (by decide +kernel) (by decide +kernel)
set_option maxRecDepth 20000 in
theorem gX3_kind_X0_has : GoodIn wsX3_kind (wsV RX3 56 RX0 yX0_has wsX0_has) := goodIn_app (goodIn_of _ (by decide +kernel)) ggX3_kind_X0_has
theorem dX3_kind_0 : decode cX3_kind 0 = .ok (.iload_n 1, 1) := by decide +kernel
theorem dX3_kind_1 : decode cX3_kind 1 = .ok (.iconst 1, 1) := by decide +kernel
theorem dX3_kind_2 : decode cX3_kind 2 = .ok (.sipush 1000, 3) := by decide +kernel
theorem dX3_kind_5 : decode cX3_kind 5 = .ok (.invokestatic 52, 3) := by decide +kernel
theorem dX3_kind_8 : decode cX3_kind 8 = .ok (.ifCond .ne 13, 3) := by decide +kernel
theorem dX3_kind_11 : decode cX3_kind 11 = .ok (.iload_n 2, 1) := by decide +kernel
theorem dX3_kind_12 : decode cX3_kind 12 = .ok (.iconst 1, 1) := by decide +kernel
theorem dX3_kind_13 : decode cX3_kind 13 = .ok (.bipush 50, 2) := by decide +kernel
theorem dX3_kind_15 : decode cX3_kind 15 = .ok (.invokestatic 52, 3) := by decide +kernel
theorem dX3_kind_18 : decode cX3_kind 18 = .ok (.ifCond .eq 6, 3) := by decide +kernel
theorem dX3_kind_21 : decode cX3_kind 21 = .ok (.bipush (-2), 2) := by decide +kernel
theorem dX3_kind_23 : decode cX3_kind 23 = .ok (.ireturn, 1) := by decide +kernel
theorem dX3_kind_24 : decode cX3_kind 24 = .ok (.iload_n 3, 1) := by decide +kernel
theorem dX3_kind_25 : decode cX3_kind 25 = .ok (.iconst (-1), 1) := by decide +kernel
theorem dX3_kind_26 : decode cX3_kind 26 = .ok (.if_icmp .eq 16, 3) := by decide +kernel
theorem dX3_kind_29 : decode cX3_kind 29 = .ok (.aload_n 0, 1) := by decide +kernel
theorem dX3_kind_30 : decode cX3_kind 30 = .ok (.getfield 10, 3) := by decide +kernel
theorem dX3_kind_33 : decode cX3_kind 33 = .ok (.iload_n 3, 1) := by decide +kernel
theorem dX3_kind_34 : decode cX3_kind 34 = .ok (.invokevirtual 56, 3) := by decide +kernel
theorem dX3_kind_37 : decode cX3_kind 37 = .ok (.ifCond .ne 5, 3) := by decide +kernel
theorem dX3_kind_40 : decode cX3_kind 40 = .ok (.iconst (-1), 1) := by decide +kernel
theorem dX3_kind_41 : decode cX3_kind 41 = .ok (.ireturn, 1) := by decide +kernel
theorem dX3_kind_42 : decode cX3_kind 42 = .ok (.aload_n 0, 1) := by decide +kernel
theorem dX3_kind_43 : decode cX3_kind 43 = .ok (.getfield 10, 3) := by decide +kernel
theorem dX3_kind_46 : decode cX3_kind 46 = .ok (.getfield 60, 3) := by decide +kernel
theorem dX3_kind_49 : decode cX3_kind 49 = .ok (.bipush 8, 2) := by decide +kernel
theorem dX3_kind_51 : decode cX3_kind 51 = .ok (.if_icmp .lt 6, 3) := by decide +kernel
theorem dX3_kind_54 : decode cX3_kind 54 = .ok (.bipush (-4), 2) := by decide +kernel
theorem dX3_kind_56 : decode cX3_kind 56 = .ok (.ireturn, 1) := by decide +kernel
theorem dX3_kind_57 : decode cX3_kind 57 = .ok (.aload_n 0, 1) := by decide +kernel
theorem dX3_kind_58 : decode cX3_kind 58 = .ok (.getfield 10, 3) := by decide +kernel
theorem dX3_kind_61 : decode cX3_kind 61 = .ok (.getfield 60, 3) := by decide +kernel
theorem dX3_kind_64 : decode cX3_kind 64 = .ok (.istore 4, 2) := by decide +kernel
theorem dX3_kind_66 : decode cX3_kind 66 = .ok (.aload_n 0, 1) := by decide +kernel
theorem dX3_kind_67 : decode cX3_kind 67 = .ok (.getfield 10, 3) := by decide +kernel
theorem dX3_kind_70 : decode cX3_kind 70 = .ok (.getfield 63, 3) := by decide +kernel
theorem dX3_kind_73 : decode cX3_kind 73 = .ok (.iload 4, 2) := by decide +kernel
theorem dX3_kind_75 : decode cX3_kind 75 = .ok (.iload_n 1, 1) := by decide +kernel
theorem dX3_kind_76 : decode cX3_kind 76 = .ok (.iastore, 1) := by decide +kernel
theorem dX3_kind_77 : decode cX3_kind 77 = .ok (.aload_n 0, 1) := by decide +kernel
theorem dX3_kind_78 : decode cX3_kind 78 = .ok (.getfield 10, 3) := by decide +kernel
theorem dX3_kind_81 : decode cX3_kind 81 = .ok (.getfield 66, 3) := by decide +kernel
theorem dX3_kind_84 : decode cX3_kind 84 = .ok (.iload 4, 2) := by decide +kernel
theorem dX3_kind_86 : decode cX3_kind 86 = .ok (.iload_n 2, 1) := by decide +kernel
theorem dX3_kind_87 : decode cX3_kind 87 = .ok (.iastore, 1) := by decide +kernel
theorem dX3_kind_88 : decode cX3_kind 88 = .ok (.aload_n 0, 1) := by decide +kernel
theorem dX3_kind_89 : decode cX3_kind 89 = .ok (.getfield 10, 3) := by decide +kernel
theorem dX3_kind_92 : decode cX3_kind 92 = .ok (.getfield 69, 3) := by decide +kernel
theorem dX3_kind_95 : decode cX3_kind 95 = .ok (.iload 4, 2) := by decide +kernel
theorem dX3_kind_97 : decode cX3_kind 97 = .ok (.iload_n 3, 1) := by decide +kernel
theorem dX3_kind_98 : decode cX3_kind 98 = .ok (.iastore, 1) := by decide +kernel
theorem dX3_kind_99 : decode cX3_kind 99 = .ok (.aload_n 0, 1) := by decide +kernel
theorem dX3_kind_100 : decode cX3_kind 100 = .ok (.getfield 10, 3) := by decide +kernel
theorem dX3_kind_103 : decode cX3_kind 103 = .ok (.dup, 1) := by decide +kernel
theorem dX3_kind_104 : decode cX3_kind 104 = .ok (.getfield 60, 3) := by decide +kernel
theorem dX3_kind_107 : decode cX3_kind 107 = .ok (.iconst 1, 1) := by decide +kernel
theorem dX3_kind_108 : decode cX3_kind 108 = .ok (.iadd, 1) := by decide +kernel
theorem dX3_kind_109 : decode cX3_kind 109 = .ok (.putfield 60, 3) := by decide +kernel
theorem dX3_kind_112 : decode cX3_kind 112 = .ok (.aload_n 0, 1) := by decide +kernel
theorem dX3_kind_113 : decode cX3_kind 113 = .ok (.getfield 19, 3) := by decide +kernel
theorem dX3_kind_116 : decode cX3_kind 116 = .ok (.getfield 72, 3) := by decide +kernel
theorem dX3_kind_119 : decode cX3_kind 119 = .ok (.iconst 0, 1) := by decide +kernel
theorem dX3_kind_120 : decode cX3_kind 120 = .ok (.aaload, 1) := by decide +kernel
theorem dX3_kind_121 : decode cX3_kind 121 = .ok (.iload 4, 2) := by decide +kernel
theorem dX3_kind_123 : decode cX3_kind 123 = .ok (.bipush 10, 2) := by decide +kernel
theorem dX3_kind_125 : decode cX3_kind 125 = .ok (.iastore, 1) := by decide +kernel
theorem dX3_kind_126 : decode cX3_kind 126 = .ok (.iload 4, 2) := by decide +kernel
theorem dX3_kind_128 : decode cX3_kind 128 = .ok (.ireturn, 1) := by decide +kernel
set_option maxRecDepth 20000 in
theorem ggX3_shelf_X2_has : GoodIn wsX3_shelf wsX2_has := goodIn_r _ [9, 10, 24, 25, 26, 27] (by decide +kernel) (by decide +kernel)
set_option maxRecDepth 20000 in
theorem gX3_shelf_X2_has : GoodIn wsX3_shelf (wsV RX3 75 RX2 yX2_has wsX2_has) := goodIn_app (goodIn_of _ (by decide +kernel)) ggX3_shelf_X2_has
set_option maxRecDepth 20000 in
theorem ggX3_shelf_X3_isOutside : GoodIn wsX3_shelf wsX3_isOutside := goodIn_r _ [14] (by decide +kernel) (by decide +kernel)
set_option maxRecDepth 20000 in
theorem gX3_shelf_X3_isOutside : GoodIn wsX3_shelf (va_wsS RX3 52 yX3_isOutside wsX3_isOutside) := goodIn_app (goodIn_of _ (by decide +kernel)) ggX3_shelf_X3_isOutside
theorem dX3_shelf_0 : decode cX3_shelf 0 = .ok (.aload_n 0, 1) := by decide +kernel
theorem dX3_shelf_1 : decode cX3_shelf 1 = .ok (.getfield 19, 3) := by decide +kernel
theorem dX3_shelf_4 : decode cX3_shelf 4 = .ok (.iload_n 1, 1) := by decide +kernel
theorem dX3_shelf_5 : decode cX3_shelf 5 = .ok (.invokevirtual 75, 3) := by decide +kernel
theorem dX3_shelf_8 : decode cX3_shelf 8 = .ok (.ifCond .ne 5, 3) := by decide +kernel
theorem dX3_shelf_11 : decode cX3_shelf 11 = .ok (.iconst (-1), 1) := by decide +kernel
theorem dX3_shelf_12 : decode cX3_shelf 12 = .ok (.ireturn, 1) := by decide +kernel
theorem dX3_shelf_13 : decode cX3_shelf 13 = .ok (.iload_n 2, 1) := by decide +kernel
theorem dX3_shelf_14 : decode cX3_shelf 14 = .ok (.iconst 1, 1) := by decide +kernel
theorem dX3_shelf_15 : decode cX3_shelf 15 = .ok (.bipush 20, 2) := by decide +kernel
theorem dX3_shelf_17 : decode cX3_shelf 17 = .ok (.invokestatic 52, 3) := by decide +kernel
theorem dX3_shelf_20 : decode cX3_shelf 20 = .ok (.ifCond .eq 6, 3) := by decide +kernel
theorem dX3_shelf_23 : decode cX3_shelf 23 = .ok (.bipush (-2), 2) := by decide +kernel
theorem dX3_shelf_25 : decode cX3_shelf 25 = .ok (.ireturn, 1) := by decide +kernel
theorem dX3_shelf_26 : decode cX3_shelf 26 = .ok (.aload_n 0, 1) := by decide +kernel
theorem dX3_shelf_27 : decode cX3_shelf 27 = .ok (.getfield 19, 3) := by decide +kernel
theorem dX3_shelf_30 : decode cX3_shelf 30 = .ok (.getfield 76, 3) := by decide +kernel
theorem dX3_shelf_33 : decode cX3_shelf 33 = .ok (.bipush 8, 2) := by decide +kernel
theorem dX3_shelf_35 : decode cX3_shelf 35 = .ok (.if_icmp .lt 6, 3) := by decide +kernel
theorem dX3_shelf_38 : decode cX3_shelf 38 = .ok (.bipush (-4), 2) := by decide +kernel
theorem dX3_shelf_40 : decode cX3_shelf 40 = .ok (.ireturn, 1) := by decide +kernel
theorem dX3_shelf_41 : decode cX3_shelf 41 = .ok (.aload_n 0, 1) := by decide +kernel
theorem dX3_shelf_42 : decode cX3_shelf 42 = .ok (.getfield 19, 3) := by decide +kernel
theorem dX3_shelf_45 : decode cX3_shelf 45 = .ok (.getfield 76, 3) := by decide +kernel
theorem dX3_shelf_48 : decode cX3_shelf 48 = .ok (.istore_n 3, 1) := by decide +kernel
theorem dX3_shelf_49 : decode cX3_shelf 49 = .ok (.aload_n 0, 1) := by decide +kernel
theorem dX3_shelf_50 : decode cX3_shelf 50 = .ok (.getfield 19, 3) := by decide +kernel
theorem dX3_shelf_53 : decode cX3_shelf 53 = .ok (.getfield 77, 3) := by decide +kernel
theorem dX3_shelf_56 : decode cX3_shelf 56 = .ok (.iload_n 3, 1) := by decide +kernel
theorem dX3_shelf_57 : decode cX3_shelf 57 = .ok (.iload_n 1, 1) := by decide +kernel
theorem dX3_shelf_58 : decode cX3_shelf 58 = .ok (.iastore, 1) := by decide +kernel
theorem dX3_shelf_59 : decode cX3_shelf 59 = .ok (.aload_n 0, 1) := by decide +kernel
theorem dX3_shelf_60 : decode cX3_shelf 60 = .ok (.getfield 19, 3) := by decide +kernel
theorem dX3_shelf_63 : decode cX3_shelf 63 = .ok (.getfield 80, 3) := by decide +kernel
theorem dX3_shelf_66 : decode cX3_shelf 66 = .ok (.iload_n 3, 1) := by decide +kernel
theorem dX3_shelf_67 : decode cX3_shelf 67 = .ok (.iload_n 2, 1) := by decide +kernel
theorem dX3_shelf_68 : decode cX3_shelf 68 = .ok (.iastore, 1) := by decide +kernel
theorem dX3_shelf_69 : decode cX3_shelf 69 = .ok (.aload_n 0, 1) := by decide +kernel
theorem dX3_shelf_70 : decode cX3_shelf 70 = .ok (.getfield 19, 3) := by decide +kernel
theorem dX3_shelf_73 : decode cX3_shelf 73 = .ok (.dup, 1) := by decide +kernel
theorem dX3_shelf_74 : decode cX3_shelf 74 = .ok (.getfield 76, 3) := by decide +kernel
theorem dX3_shelf_77 : decode cX3_shelf 77 = .ok (.iconst 1, 1) := by decide +kernel
theorem dX3_shelf_78 : decode cX3_shelf 78 = .ok (.iadd, 1) := by decide +kernel
theorem dX3_shelf_79 : decode cX3_shelf 79 = .ok (.putfield 76, 3) := by decide +kernel
theorem dX3_shelf_82 : decode cX3_shelf 82 = .ok (.iload_n 3, 1) := by decide +kernel
theorem dX3_shelf_83 : decode cX3_shelf 83 = .ok (.ireturn, 1) := by decide +kernel
set_option maxRecDepth 20000 in
theorem ggX3_mend_X3_isNoPlace : GoodIn wsX3_mend wsX3_isNoPlace := goodIn_r _ [7, 1, 8, 9, 10, 11, 12, 13, 14, 15, 16, 17, 18, 19, 20, 40, 41, 42, 43, 44, 45, 46, 47, 48, 49, 50, 51, 52, 53, 54, 55, 56, 57, 58, 59, 60, 61] (by decide +kernel) (by decide +kernel)
set_option maxRecDepth 20000 in
theorem gX3_mend_X3_isNoPlace : GoodIn wsX3_mend (wsV RX3 83 RX3 yX3_isNoPlace wsX3_isNoPlace) := goodIn_app (goodIn_of _ (by decide +kernel)) ggX3_mend_X3_isNoPlace
set_option maxRecDepth 20000 in
theorem ggX3_mend_X3_isOutside : GoodIn wsX3_mend wsX3_isOutside := goodIn_r _ [23] (by decide +kernel) (by decide +kernel)
set_option maxRecDepth 20000 in
theorem gX3_mend_X3_isOutside : GoodIn wsX3_mend (va_wsS RX3 52 yX3_isOutside wsX3_isOutside) := goodIn_app (goodIn_of _ (by decide +kernel)) ggX3_mend_X3_isOutside
set_option maxRecDepth 20000 in
theorem ggX3_mend_X3_mendsThatWait : GoodIn wsX3_mend wsX3_mendsThatWait := goodIn_r _ [27, 28, 29, 30, 31, 32, 33, 34, 35, 36, 37, 38, 39, 40, 41, 42, 43, 44, 45, 46, 47, 48, 62, 63] (by decide +kernel) (by decide +kernel)
set_option maxRecDepth 20000 in
theorem gX3_mend_X3_mendsThatWait : GoodIn wsX3_mend (wsV RX3 87 RX3 yX3_mendsThatWait wsX3_mendsThatWait) := goodIn_app (goodIn_of _ (by decide +kernel)) ggX3_mend_X3_mendsThatWait
theorem dX3_mend_0 : decode cX3_mend 0 = .ok (.aload_n 0, 1) := by decide +kernel
theorem dX3_mend_1 : decode cX3_mend 1 = .ok (.iload_n 1, 1) := by decide +kernel
theorem dX3_mend_2 : decode cX3_mend 2 = .ok (.iload_n 2, 1) := by decide +kernel
theorem dX3_mend_3 : decode cX3_mend 3 = .ok (.invokevirtual 83, 3) := by decide +kernel
theorem dX3_mend_6 : decode cX3_mend 6 = .ok (.ifCond .eq 5, 3) := by decide +kernel
theorem dX3_mend_9 : decode cX3_mend 9 = .ok (.iconst (-1), 1) := by decide +kernel
theorem dX3_mend_10 : decode cX3_mend 10 = .ok (.ireturn, 1) := by decide +kernel
theorem dX3_mend_11 : decode cX3_mend 11 = .ok (.iload_n 3, 1) := by decide +kernel
theorem dX3_mend_12 : decode cX3_mend 12 = .ok (.iconst 0, 1) := by decide +kernel
theorem dX3_mend_13 : decode cX3_mend 13 = .ok (.bipush 30, 2) := by decide +kernel
theorem dX3_mend_15 : decode cX3_mend 15 = .ok (.invokestatic 52, 3) := by decide +kernel
theorem dX3_mend_18 : decode cX3_mend 18 = .ok (.ifCond .ne 11, 3) := by decide +kernel
theorem dX3_mend_21 : decode cX3_mend 21 = .ok (.iload_n 1, 1) := by decide +kernel
theorem dX3_mend_22 : decode cX3_mend 22 = .ok (.ifCond .ne 10, 3) := by decide +kernel
theorem dX3_mend_25 : decode cX3_mend 25 = .ok (.iload_n 3, 1) := by decide +kernel
theorem dX3_mend_26 : decode cX3_mend 26 = .ok (.ifCond .ne 6, 3) := by decide +kernel
theorem dX3_mend_29 : decode cX3_mend 29 = .ok (.bipush (-2), 2) := by decide +kernel
theorem dX3_mend_31 : decode cX3_mend 31 = .ok (.ireturn, 1) := by decide +kernel
theorem dX3_mend_32 : decode cX3_mend 32 = .ok (.iload_n 3, 1) := by decide +kernel
theorem dX3_mend_33 : decode cX3_mend 33 = .ok (.ifCond .ne 15, 3) := by decide +kernel
theorem dX3_mend_36 : decode cX3_mend 36 = .ok (.aload_n 0, 1) := by decide +kernel
theorem dX3_mend_37 : decode cX3_mend 37 = .ok (.iload_n 1, 1) := by decide +kernel
theorem dX3_mend_38 : decode cX3_mend 38 = .ok (.iload_n 2, 1) := by decide +kernel
theorem dX3_mend_39 : decode cX3_mend 39 = .ok (.invokevirtual 87, 3) := by decide +kernel
theorem dX3_mend_42 : decode cX3_mend 42 = .ok (.ifCond .le 6, 3) := by decide +kernel
theorem dX3_mend_45 : decode cX3_mend 45 = .ok (.bipush (-3), 2) := by decide +kernel
theorem dX3_mend_47 : decode cX3_mend 47 = .ok (.ireturn, 1) := by decide +kernel
theorem dX3_mend_48 : decode cX3_mend 48 = .ok (.aload_n 0, 1) := by decide +kernel
theorem dX3_mend_49 : decode cX3_mend 49 = .ok (.getfield 19, 3) := by decide +kernel
theorem dX3_mend_52 : decode cX3_mend 52 = .ok (.getfield 72, 3) := by decide +kernel
theorem dX3_mend_55 : decode cX3_mend 55 = .ok (.iload_n 1, 1) := by decide +kernel
theorem dX3_mend_56 : decode cX3_mend 56 = .ok (.aaload, 1) := by decide +kernel
theorem dX3_mend_57 : decode cX3_mend 57 = .ok (.iload_n 2, 1) := by decide +kernel
theorem dX3_mend_58 : decode cX3_mend 58 = .ok (.iaload, 1) := by decide +kernel
theorem dX3_mend_59 : decode cX3_mend 59 = .ok (.istore 4, 2) := by decide +kernel
theorem dX3_mend_61 : decode cX3_mend 61 = .ok (.aload_n 0, 1) := by decide +kernel
theorem dX3_mend_62 : decode cX3_mend 62 = .ok (.getfield 19, 3) := by decide +kernel
theorem dX3_mend_65 : decode cX3_mend 65 = .ok (.getfield 72, 3) := by decide +kernel
theorem dX3_mend_68 : decode cX3_mend 68 = .ok (.iload_n 1, 1) := by decide +kernel
theorem dX3_mend_69 : decode cX3_mend 69 = .ok (.aaload, 1) := by decide +kernel
theorem dX3_mend_70 : decode cX3_mend 70 = .ok (.iload_n 2, 1) := by decide +kernel
theorem dX3_mend_71 : decode cX3_mend 71 = .ok (.iload_n 3, 1) := by decide +kernel
theorem dX3_mend_72 : decode cX3_mend 72 = .ok (.iastore, 1) := by decide +kernel
theorem dX3_mend_73 : decode cX3_mend 73 = .ok (.iload 4, 2) := by decide +kernel
theorem dX3_mend_75 : decode cX3_mend 75 = .ok (.ireturn, 1) := by decide +kernel
set_option maxRecDepth 20000 in
theorem ggX3_stock_X3_isNoPlace : GoodIn wsX3_stock wsX3_isNoPlace := goodIn_r _ [8, 9, 1, 10, 11, 12, 13, 14, 15, 16, 17, 18, 19, 20, 21, 116, 117, 118, 119, 120, 121, 122, 123, 124, 134, 135, 136, 137, 125, 126, 127, 128, 129, 130, 131, 132, 133] (by decide +kernel) (by decide +kernel)
set_option maxRecDepth 20000 in
theorem gX3_stock_X3_isNoPlace : GoodIn wsX3_stock (wsV RX3 83 RX3 yX3_isNoPlace wsX3_isNoPlace) := goodIn_app (goodIn_of _ (by decide +kernel)) ggX3_stock_X3_isNoPlace
set_option maxRecDepth 20000 in
theorem ggX3_stock_X3_isOutside : GoodIn wsX3_stock wsX3_isOutside := goodIn_r _ [24] (by decide +kernel) (by decide +kernel)
set_option maxRecDepth 20000 in
theorem gX3_stock_X3_isOutside : GoodIn wsX3_stock (va_wsS RX3 52 yX3_isOutside wsX3_isOutside) := goodIn_app (goodIn_of _ (by decide +kernel)) ggX3_stock_X3_isOutside
set_option maxRecDepth 20000 in
theorem ggX3_stock_X3_lands : GoodIn wsX3_stock wsX3_lands := goodIn_r _ [28, 29, 3, 1, 30, 31, 32, 33, 34, 35, 36, 37, 38, 39, 40, 41, 42, 43, 44, 45, 46, 47, 48, 49, 50, 51, 52, 53, 54, 55, 56, 7, 57, 58, 59, 9, 60, 61, 62, 63, 64, 65, 66, 67, 68, 69, 70, 71, 72, 73, 74, 75, 76, 77, 78, 79, 80, 81, 82, 83, 84, 85, 86, 87, 88, 89, 13, 90, 91, 92, 93, 94, 95, 96, 97, 98, 99, 100, 101, 102, 103, 104, 105, 106, 107, 108, 109, 110, 111, 112, 113, 114, 115, 116, 117, 118, 119, 120, 121, 122, 123, 124, 125, 126, 127, 128, 129, 130, 131, 132, 133, 138, 139, 134, 135, 136, 137] (by decide +kernel) (by decide +kernel)
set_option maxRecDepth 20000 in
theorem gX3_stock_X3_lands : GoodIn wsX3_stock (wsV RX3 94 RX3 yX3_lands wsX3_lands) := goodIn_app (goodIn_of _ (by decide +kernel)) ggX3_stock_X3_lands
theorem dX3_stock_0 : decode cX3_stock 0 = .ok (.aload_n 0, 1) := by decide +kernel
theorem dX3_stock_1 : decode cX3_stock 1 = .ok (.iload_n 1, 1) := by decide +kernel
theorem dX3_stock_2 : decode cX3_stock 2 = .ok (.iload_n 2, 1) := by decide +kernel
theorem dX3_stock_3 : decode cX3_stock 3 = .ok (.invokevirtual 83, 3) := by decide +kernel
theorem dX3_stock_6 : decode cX3_stock 6 = .ok (.ifCond .eq 5, 3) := by decide +kernel
theorem dX3_stock_9 : decode cX3_stock 9 = .ok (.iconst (-1), 1) := by decide +kernel
theorem dX3_stock_10 : decode cX3_stock 10 = .ok (.ireturn, 1) := by decide +kernel
theorem dX3_stock_11 : decode cX3_stock 11 = .ok (.iload_n 3, 1) := by decide +kernel
theorem dX3_stock_12 : decode cX3_stock 12 = .ok (.iconst 1, 1) := by decide +kernel
theorem dX3_stock_13 : decode cX3_stock 13 = .ok (.bipush 9, 2) := by decide +kernel
theorem dX3_stock_15 : decode cX3_stock 15 = .ok (.invokestatic 52, 3) := by decide +kernel
theorem dX3_stock_18 : decode cX3_stock 18 = .ok (.ifCond .eq 6, 3) := by decide +kernel
theorem dX3_stock_21 : decode cX3_stock 21 = .ok (.bipush (-2), 2) := by decide +kernel
theorem dX3_stock_23 : decode cX3_stock 23 = .ok (.ireturn, 1) := by decide +kernel
theorem dX3_stock_24 : decode cX3_stock 24 = .ok (.aload_n 0, 1) := by decide +kernel
theorem dX3_stock_25 : decode cX3_stock 25 = .ok (.getfield 10, 3) := by decide +kernel
theorem dX3_stock_28 : decode cX3_stock 28 = .ok (.getfield 91, 3) := by decide +kernel
theorem dX3_stock_31 : decode cX3_stock 31 = .ok (.iload_n 2, 1) := by decide +kernel
theorem dX3_stock_32 : decode cX3_stock 32 = .ok (.iaload, 1) := by decide +kernel
theorem dX3_stock_33 : decode cX3_stock 33 = .ok (.iload_n 3, 1) := by decide +kernel
theorem dX3_stock_34 : decode cX3_stock 34 = .ok (.iadd, 1) := by decide +kernel
theorem dX3_stock_35 : decode cX3_stock 35 = .ok (.sipush 200, 3) := by decide +kernel
theorem dX3_stock_38 : decode cX3_stock 38 = .ok (.if_icmp .le 6, 3) := by decide +kernel
theorem dX3_stock_41 : decode cX3_stock 41 = .ok (.bipush (-4), 2) := by decide +kernel
theorem dX3_stock_43 : decode cX3_stock 43 = .ok (.ireturn, 1) := by decide +kernel
theorem dX3_stock_44 : decode cX3_stock 44 = .ok (.iconst 0, 1) := by decide +kernel
theorem dX3_stock_45 : decode cX3_stock 45 = .ok (.istore 4, 2) := by decide +kernel
theorem dX3_stock_47 : decode cX3_stock 47 = .ok (.iload 4, 2) := by decide +kernel
theorem dX3_stock_49 : decode cX3_stock 49 = .ok (.iload_n 3, 1) := by decide +kernel
theorem dX3_stock_50 : decode cX3_stock 50 = .ok (.if_icmp .ge 28, 3) := by decide +kernel
theorem dX3_stock_53 : decode cX3_stock 53 = .ok (.aload_n 0, 1) := by decide +kernel
theorem dX3_stock_54 : decode cX3_stock 54 = .ok (.getfield 10, 3) := by decide +kernel
theorem dX3_stock_57 : decode cX3_stock 57 = .ok (.getfield 91, 3) := by decide +kernel
theorem dX3_stock_60 : decode cX3_stock 60 = .ok (.iload_n 2, 1) := by decide +kernel
theorem dX3_stock_61 : decode cX3_stock 61 = .ok (.dup2, 1) := by decide +kernel
theorem dX3_stock_62 : decode cX3_stock 62 = .ok (.iaload, 1) := by decide +kernel
theorem dX3_stock_63 : decode cX3_stock 63 = .ok (.iconst 1, 1) := by decide +kernel
theorem dX3_stock_64 : decode cX3_stock 64 = .ok (.iadd, 1) := by decide +kernel
theorem dX3_stock_65 : decode cX3_stock 65 = .ok (.iastore, 1) := by decide +kernel
theorem dX3_stock_66 : decode cX3_stock 66 = .ok (.aload_n 0, 1) := by decide +kernel
theorem dX3_stock_67 : decode cX3_stock 67 = .ok (.iload_n 1, 1) := by decide +kernel
theorem dX3_stock_68 : decode cX3_stock 68 = .ok (.iload_n 2, 1) := by decide +kernel
theorem dX3_stock_69 : decode cX3_stock 69 = .ok (.invokevirtual 94, 3) := by decide +kernel
theorem dX3_stock_72 : decode cX3_stock 72 = .ok (.iinc 4 1, 3) := by decide +kernel
theorem dX3_stock_75 : decode cX3_stock 75 = .ok (.goto (-28), 3) := by decide +kernel
theorem dX3_stock_78 : decode cX3_stock 78 = .ok (.aload_n 0, 1) := by decide +kernel
theorem dX3_stock_79 : decode cX3_stock 79 = .ok (.getfield 25, 3) := by decide +kernel
theorem dX3_stock_82 : decode cX3_stock 82 = .ok (.iload_n 1, 1) := by decide +kernel
theorem dX3_stock_83 : decode cX3_stock 83 = .ok (.aaload, 1) := by decide +kernel
theorem dX3_stock_84 : decode cX3_stock 84 = .ok (.iload_n 2, 1) := by decide +kernel
theorem dX3_stock_85 : decode cX3_stock 85 = .ok (.iaload, 1) := by decide +kernel
theorem dX3_stock_86 : decode cX3_stock 86 = .ok (.ireturn, 1) := by decide +kernel
set_option maxRecDepth 20000 in
theorem ggX3_rate_X3_isNoPlace : GoodIn wsX3_rate wsX3_isNoPlace := goodIn_r _ [6, 7, 8, 9, 10, 11, 12, 13, 14, 15, 16, 17, 18, 19, 20, 24, 25, 26, 27, 28, 29, 30, 31, 32, 33, 34, 35, 36, 37, 38, 39, 40, 41, 42, 43, 44, 45] (by decide +kernel) (by decide +kernel)
set_option maxRecDepth 20000 in
theorem gX3_rate_X3_isNoPlace : GoodIn wsX3_rate (wsV RX3 83 RX3 yX3_isNoPlace wsX3_isNoPlace) := goodIn_app (goodIn_of _ (by decide +kernel)) ggX3_rate_X3_isNoPlace
set_option maxRecDepth 20000 in
theorem ggX3_rate_X3_isOutside : GoodIn wsX3_rate wsX3_isOutside := goodIn_r _ [23] (by decide +kernel) (by decide +kernel)
set_option maxRecDepth 20000 in
theorem gX3_rate_X3_isOutside : GoodIn wsX3_rate (va_wsS RX3 52 yX3_isOutside wsX3_isOutside) := goodIn_app (goodIn_of _ (by decide +kernel)) ggX3_rate_X3_isOutside
theorem dX3_rate_0 : decode cX3_rate 0 = .ok (.aload_n 0, 1) := by decide +kernel
theorem dX3_rate_1 : decode cX3_rate 1 = .ok (.iload_n 1, 1) := by decide +kernel
theorem dX3_rate_2 : decode cX3_rate 2 = .ok (.iload_n 2, 1) := by decide +kernel
theorem dX3_rate_3 : decode cX3_rate 3 = .ok (.invokevirtual 83, 3) := by decide +kernel
theorem dX3_rate_6 : decode cX3_rate 6 = .ok (.ifCond .eq 5, 3) := by decide +kernel
theorem dX3_rate_9 : decode cX3_rate 9 = .ok (.iconst (-1), 1) := by decide +kernel
theorem dX3_rate_10 : decode cX3_rate 10 = .ok (.ireturn, 1) := by decide +kernel
theorem dX3_rate_11 : decode cX3_rate 11 = .ok (.iload_n 3, 1) := by decide +kernel
theorem dX3_rate_12 : decode cX3_rate 12 = .ok (.iconst 0, 1) := by decide +kernel
theorem dX3_rate_13 : decode cX3_rate 13 = .ok (.sipush 10000, 3) := by decide +kernel
theorem dX3_rate_16 : decode cX3_rate 16 = .ok (.invokestatic 52, 3) := by decide +kernel
theorem dX3_rate_19 : decode cX3_rate 19 = .ok (.ifCond .eq 6, 3) := by decide +kernel
theorem dX3_rate_22 : decode cX3_rate 22 = .ok (.bipush (-2), 2) := by decide +kernel
theorem dX3_rate_24 : decode cX3_rate 24 = .ok (.ireturn, 1) := by decide +kernel
theorem dX3_rate_25 : decode cX3_rate 25 = .ok (.aload_n 0, 1) := by decide +kernel
theorem dX3_rate_26 : decode cX3_rate 26 = .ok (.getfield 28, 3) := by decide +kernel
theorem dX3_rate_29 : decode cX3_rate 29 = .ok (.iload_n 1, 1) := by decide +kernel
theorem dX3_rate_30 : decode cX3_rate 30 = .ok (.aaload, 1) := by decide +kernel
theorem dX3_rate_31 : decode cX3_rate 31 = .ok (.iload_n 2, 1) := by decide +kernel
theorem dX3_rate_32 : decode cX3_rate 32 = .ok (.iaload, 1) := by decide +kernel
theorem dX3_rate_33 : decode cX3_rate 33 = .ok (.istore 4, 2) := by decide +kernel
theorem dX3_rate_35 : decode cX3_rate 35 = .ok (.aload_n 0, 1) := by decide +kernel
theorem dX3_rate_36 : decode cX3_rate 36 = .ok (.getfield 28, 3) := by decide +kernel
theorem dX3_rate_39 : decode cX3_rate 39 = .ok (.iload_n 1, 1) := by decide +kernel
theorem dX3_rate_40 : decode cX3_rate 40 = .ok (.aaload, 1) := by decide +kernel
theorem dX3_rate_41 : decode cX3_rate 41 = .ok (.iload_n 2, 1) := by decide +kernel
theorem dX3_rate_42 : decode cX3_rate 42 = .ok (.iload_n 3, 1) := by decide +kernel
theorem dX3_rate_43 : decode cX3_rate 43 = .ok (.iastore, 1) := by decide +kernel
theorem dX3_rate_44 : decode cX3_rate 44 = .ok (.iload 4, 2) := by decide +kernel
theorem dX3_rate_46 : decode cX3_rate 46 = .ok (.ireturn, 1) := by decide +kernel
set_option maxRecDepth 20000 in
theorem ggX3_fails_X3_isNoPlace : GoodIn wsX3_fails wsX3_isNoPlace := goodIn_r _ [16, 11, 1, 17, 18, 19, 20, 21, 22, 23, 24, 25, 26, 27, 28, 107, 108, 109, 110, 111, 112, 113, 114, 115, 127, 128, 129, 130, 116, 117, 118, 119, 120, 121, 122, 123, 124] (by decide +kernel) (by decide +kernel)
set_option maxRecDepth 20000 in
theorem gX3_fails_X3_isNoPlace : GoodIn wsX3_fails (wsV RX3 83 RX3 yX3_isNoPlace wsX3_isNoPlace) := goodIn_app (goodIn_of _ (by decide +kernel)) ggX3_fails_X3_isNoPlace
set_option maxRecDepth 20000 in
theorem ggX3_fails_X3_isOutside : GoodIn wsX3_fails wsX3_isOutside := goodIn_r _ [31] (by decide +kernel) (by decide +kernel)
set_option maxRecDepth 20000 in
theorem gX3_fails_X3_isOutside : GoodIn wsX3_fails (va_wsS RX3 52 yX3_isOutside wsX3_isOutside) := goodIn_app (goodIn_of _ (by decide +kernel)) ggX3_fails_X3_isOutside
set_option maxRecDepth 20000 in
theorem ggX3_fails_X3_servesMachine : GoodIn wsX3_fails wsX3_servesMachine := goodIn_r _ [35, 1, 36, 3, 9, 37, 38, 39, 15, 40, 41, 42, 43, 44, 45, 46, 47, 48, 49, 50, 51, 52, 53, 54, 55, 56, 57, 58, 59, 60, 61, 62, 63, 64, 65, 66, 67, 107, 108, 109, 110, 111, 112, 113, 114, 115, 116, 117, 118, 119, 120, 121, 122, 123, 124, 125, 126] (by decide +kernel) (by decide +kernel)
set_option maxRecDepth 20000 in
theorem gX3_fails_X3_servesMachine : GoodIn wsX3_fails (wsV RX3 99 RX3 yX3_servesMachine wsX3_servesMachine) := goodIn_app (goodIn_of _ (by decide +kernel)) ggX3_fails_X3_servesMachine
set_option maxRecDepth 20000 in
theorem ggX3_fails_X3_asksGoUp : GoodIn wsX3_fails wsX3_asksGoUp := goodIn_r _ [71, 11, 72, 3, 9, 37, 38, 39, 15, 40, 41, 73, 74, 75, 76, 5, 77, 42, 43, 44, 45, 46, 47, 48, 49, 50, 51, 52, 53, 54, 55, 56, 57, 58, 59, 60, 61, 62, 63, 64, 65, 66, 67, 107, 108, 109, 110, 111, 112, 113, 114, 115, 127, 128, 129, 130, 125, 126] (by decide +kernel) (by decide +kernel)
set_option maxRecDepth 20000 in
theorem gX3_fails_X3_asksGoUp : GoodIn wsX3_fails (wsV RX3 108 RX3 yX3_asksGoUp wsX3_asksGoUp) := goodIn_app (goodIn_of _ (by decide +kernel)) ggX3_fails_X3_asksGoUp
set_option maxRecDepth 20000 in
theorem ggX3_fails_X1_add : GoodIn wsX3_fails wsX1_add := goodIn_r _ [46, 47, 48, 49, 50, 51, 52, 53, 54, 55, 56, 57, 58, 59, 60, 61, 62, 63, 64, 65, 66, 67, 125, 126] (by decide +kernel) (by decide +kernel)
set_option maxRecDepth 20000 in
theorem gX3_fails_X1_add : GoodIn wsX3_fails (wsV RX3 112 RX1 yX1_add wsX1_add) := goodIn_app (goodIn_of _ (by decide +kernel)) ggX3_fails_X1_add
set_option maxRecDepth 20000 in
theorem ggX3_fails_X3_goesBack : GoodIn wsX3_fails wsX3_goesBack := goodIn_r _ [81, 11, 1, 2, 3, 9, 82, 83, 84, 20, 85, 86, 87, 88, 89, 90, 15, 91, 5, 92, 93, 94, 95, 96, 42, 43, 44, 45, 46, 47, 48, 49, 50, 51, 52, 53, 54, 55, 56, 57, 58, 59, 60, 61, 62, 63, 64, 65, 66, 67, 97, 98, 99, 100, 101, 37, 38, 39, 40, 41, 102, 103, 104, 105, 106, 6, 68, 69, 70, 71, 72, 73, 74, 75, 76, 77, 107, 108, 109, 110, 111, 112, 113, 114, 115, 116, 117, 118, 119, 120, 121, 122, 123, 124, 127, 128, 129, 130, 125, 126] (by decide +kernel) (by decide +kernel)
set_option maxRecDepth 20000 in
theorem gX3_fails_X3_goesBack : GoodIn wsX3_fails (wsV RX3 116 RX3 yX3_goesBack wsX3_goesBack) := goodIn_app (goodIn_of _ (by decide +kernel)) ggX3_fails_X3_goesBack
set_option maxRecDepth 20000 in
theorem ggX3_fails_X2_firstThatMends : GoodIn wsX3_fails wsX2_firstThatMends := goodIn_r _ [85, 86, 87, 127, 128, 129, 130] (by decide +kernel) (by decide +kernel)
set_option maxRecDepth 20000 in
theorem gX3_fails_X2_firstThatMends : GoodIn wsX3_fails (wsV RX3 119 RX2 yX2_firstThatMends wsX2_firstThatMends) := goodIn_app (goodIn_of _ (by decide +kernel)) ggX3_fails_X2_firstThatMends
theorem dX3_fails_0 : decode cX3_fails 0 = .ok (.aload_n 0, 1) := by decide +kernel
theorem dX3_fails_1 : decode cX3_fails 1 = .ok (.iload_n 1, 1) := by decide +kernel
theorem dX3_fails_2 : decode cX3_fails 2 = .ok (.iload_n 2, 1) := by decide +kernel
theorem dX3_fails_3 : decode cX3_fails 3 = .ok (.invokevirtual 83, 3) := by decide +kernel
theorem dX3_fails_6 : decode cX3_fails 6 = .ok (.ifCond .eq 5, 3) := by decide +kernel
theorem dX3_fails_9 : decode cX3_fails 9 = .ok (.iconst (-1), 1) := by decide +kernel
theorem dX3_fails_10 : decode cX3_fails 10 = .ok (.ireturn, 1) := by decide +kernel
theorem dX3_fails_11 : decode cX3_fails 11 = .ok (.iload_n 3, 1) := by decide +kernel
theorem dX3_fails_12 : decode cX3_fails 12 = .ok (.iconst 0, 1) := by decide +kernel
theorem dX3_fails_13 : decode cX3_fails 13 = .ok (.iconst 2, 1) := by decide +kernel
theorem dX3_fails_14 : decode cX3_fails 14 = .ok (.invokestatic 52, 3) := by decide +kernel
theorem dX3_fails_17 : decode cX3_fails 17 = .ok (.ifCond .eq 6, 3) := by decide +kernel
theorem dX3_fails_20 : decode cX3_fails 20 = .ok (.bipush (-2), 2) := by decide +kernel
theorem dX3_fails_22 : decode cX3_fails 22 = .ok (.ireturn, 1) := by decide +kernel
theorem dX3_fails_23 : decode cX3_fails 23 = .ok (.iload_n 3, 1) := by decide +kernel
theorem dX3_fails_24 : decode cX3_fails 24 = .ok (.iconst 1, 1) := by decide +kernel
theorem dX3_fails_25 : decode cX3_fails 25 = .ok (.if_icmp .ne 19, 3) := by decide +kernel
theorem dX3_fails_28 : decode cX3_fails 28 = .ok (.aload_n 0, 1) := by decide +kernel
theorem dX3_fails_29 : decode cX3_fails 29 = .ok (.getfield 10, 3) := by decide +kernel
theorem dX3_fails_32 : decode cX3_fails 32 = .ok (.getfield 69, 3) := by decide +kernel
theorem dX3_fails_35 : decode cX3_fails 35 = .ok (.iload_n 2, 1) := by decide +kernel
theorem dX3_fails_36 : decode cX3_fails 36 = .ok (.iaload, 1) := by decide +kernel
theorem dX3_fails_37 : decode cX3_fails 37 = .ok (.iconst (-1), 1) := by decide +kernel
theorem dX3_fails_38 : decode cX3_fails 38 = .ok (.if_icmp .ne 6, 3) := by decide +kernel
theorem dX3_fails_41 : decode cX3_fails 41 = .ok (.bipush (-3), 2) := by decide +kernel
theorem dX3_fails_43 : decode cX3_fails 43 = .ok (.ireturn, 1) := by decide +kernel
theorem dX3_fails_44 : decode cX3_fails 44 = .ok (.aload_n 0, 1) := by decide +kernel
theorem dX3_fails_45 : decode cX3_fails 45 = .ok (.getfield 41, 3) := by decide +kernel
theorem dX3_fails_48 : decode cX3_fails 48 = .ok (.getfield 98, 3) := by decide +kernel
theorem dX3_fails_51 : decode cX3_fails 51 = .ok (.bipush 100, 2) := by decide +kernel
theorem dX3_fails_53 : decode cX3_fails 53 = .ok (.if_icmp .gt 15, 3) := by decide +kernel
theorem dX3_fails_56 : decode cX3_fails 56 = .ok (.aload_n 0, 1) := by decide +kernel
theorem dX3_fails_57 : decode cX3_fails 57 = .ok (.getfield 45, 3) := by decide +kernel
theorem dX3_fails_60 : decode cX3_fails 60 = .ok (.getfield 98, 3) := by decide +kernel
theorem dX3_fails_63 : decode cX3_fails 63 = .ok (.bipush 100, 2) := by decide +kernel
theorem dX3_fails_65 : decode cX3_fails 65 = .ok (.if_icmp .le 6, 3) := by decide +kernel
theorem dX3_fails_68 : decode cX3_fails 68 = .ok (.bipush (-4), 2) := by decide +kernel
theorem dX3_fails_70 : decode cX3_fails 70 = .ok (.ireturn, 1) := by decide +kernel
theorem dX3_fails_71 : decode cX3_fails 71 = .ok (.aload_n 0, 1) := by decide +kernel
theorem dX3_fails_72 : decode cX3_fails 72 = .ok (.iload_n 1, 1) := by decide +kernel
theorem dX3_fails_73 : decode cX3_fails 73 = .ok (.iload_n 2, 1) := by decide +kernel
theorem dX3_fails_74 : decode cX3_fails 74 = .ok (.invokevirtual 99, 3) := by decide +kernel
theorem dX3_fails_77 : decode cX3_fails 77 = .ok (.istore 4, 2) := by decide +kernel
theorem dX3_fails_79 : decode cX3_fails 79 = .ok (.aload_n 0, 1) := by decide +kernel
theorem dX3_fails_80 : decode cX3_fails 80 = .ok (.getfield 10, 3) := by decide +kernel
theorem dX3_fails_83 : decode cX3_fails 83 = .ok (.getfield 102, 3) := by decide +kernel
theorem dX3_fails_86 : decode cX3_fails 86 = .ok (.iload_n 2, 1) := by decide +kernel
theorem dX3_fails_87 : decode cX3_fails 87 = .ok (.dup2, 1) := by decide +kernel
theorem dX3_fails_88 : decode cX3_fails 88 = .ok (.iaload, 1) := by decide +kernel
theorem dX3_fails_89 : decode cX3_fails 89 = .ok (.iconst 1, 1) := by decide +kernel
theorem dX3_fails_90 : decode cX3_fails 90 = .ok (.iadd, 1) := by decide +kernel
theorem dX3_fails_91 : decode cX3_fails 91 = .ok (.iastore, 1) := by decide +kernel
theorem dX3_fails_92 : decode cX3_fails 92 = .ok (.iload_n 3, 1) := by decide +kernel
theorem dX3_fails_93 : decode cX3_fails 93 = .ok (.iconst 2, 1) := by decide +kernel
theorem dX3_fails_94 : decode cX3_fails 94 = .ok (.if_icmp .ne 64, 3) := by decide +kernel
theorem dX3_fails_97 : decode cX3_fails 97 = .ok (.aload_n 0, 1) := by decide +kernel
theorem dX3_fails_98 : decode cX3_fails 98 = .ok (.getfield 10, 3) := by decide +kernel
theorem dX3_fails_101 : decode cX3_fails 101 = .ok (.getfield 105, 3) := by decide +kernel
theorem dX3_fails_104 : decode cX3_fails 104 = .ok (.iload_n 2, 1) := by decide +kernel
theorem dX3_fails_105 : decode cX3_fails 105 = .ok (.dup2, 1) := by decide +kernel
theorem dX3_fails_106 : decode cX3_fails 106 = .ok (.iaload, 1) := by decide +kernel
theorem dX3_fails_107 : decode cX3_fails 107 = .ok (.iconst 1, 1) := by decide +kernel
theorem dX3_fails_108 : decode cX3_fails 108 = .ok (.iadd, 1) := by decide +kernel
theorem dX3_fails_109 : decode cX3_fails 109 = .ok (.iastore, 1) := by decide +kernel
theorem dX3_fails_110 : decode cX3_fails 110 = .ok (.aload_n 0, 1) := by decide +kernel
theorem dX3_fails_111 : decode cX3_fails 111 = .ok (.iload_n 1, 1) := by decide +kernel
theorem dX3_fails_112 : decode cX3_fails 112 = .ok (.iload_n 2, 1) := by decide +kernel
theorem dX3_fails_113 : decode cX3_fails 113 = .ok (.iconst 0, 1) := by decide +kernel
theorem dX3_fails_114 : decode cX3_fails 114 = .ok (.invokevirtual 108, 3) := by decide +kernel
theorem dX3_fails_117 : decode cX3_fails 117 = .ok (.aload_n 0, 1) := by decide +kernel
theorem dX3_fails_118 : decode cX3_fails 118 = .ok (.getfield 10, 3) := by decide +kernel
theorem dX3_fails_121 : decode cX3_fails 121 = .ok (.getfield 91, 3) := by decide +kernel
theorem dX3_fails_124 : decode cX3_fails 124 = .ok (.iload_n 2, 1) := by decide +kernel
theorem dX3_fails_125 : decode cX3_fails 125 = .ok (.dup2, 1) := by decide +kernel
theorem dX3_fails_126 : decode cX3_fails 126 = .ok (.iaload, 1) := by decide +kernel
theorem dX3_fails_127 : decode cX3_fails 127 = .ok (.iconst 1, 1) := by decide +kernel
theorem dX3_fails_128 : decode cX3_fails 128 = .ok (.iadd, 1) := by decide +kernel
theorem dX3_fails_129 : decode cX3_fails 129 = .ok (.iastore, 1) := by decide +kernel
theorem dX3_fails_130 : decode cX3_fails 130 = .ok (.aload_n 0, 1) := by decide +kernel
theorem dX3_fails_131 : decode cX3_fails 131 = .ok (.getfield 45, 3) := by decide +kernel
theorem dX3_fails_134 : decode cX3_fails 134 = .ok (.iconst 0, 1) := by decide +kernel
theorem dX3_fails_135 : decode cX3_fails 135 = .ok (.iload_n 2, 1) := by decide +kernel
theorem dX3_fails_136 : decode cX3_fails 136 = .ok (.iconst 3, 1) := by decide +kernel
theorem dX3_fails_137 : decode cX3_fails 137 = .ok (.aload_n 0, 1) := by decide +kernel
theorem dX3_fails_138 : decode cX3_fails 138 = .ok (.getfield 48, 3) := by decide +kernel
theorem dX3_fails_141 : decode cX3_fails 141 = .ok (.aload_n 0, 1) := by decide +kernel
theorem dX3_fails_142 : decode cX3_fails 142 = .ok (.getfield 10, 3) := by decide +kernel
theorem dX3_fails_145 : decode cX3_fails 145 = .ok (.getfield 66, 3) := by decide +kernel
theorem dX3_fails_148 : decode cX3_fails 148 = .ok (.iload_n 2, 1) := by decide +kernel
theorem dX3_fails_149 : decode cX3_fails 149 = .ok (.iaload, 1) := by decide +kernel
theorem dX3_fails_150 : decode cX3_fails 150 = .ok (.iadd, 1) := by decide +kernel
theorem dX3_fails_151 : decode cX3_fails 151 = .ok (.iconst (-1), 1) := by decide +kernel
theorem dX3_fails_152 : decode cX3_fails 152 = .ok (.invokevirtual 112, 3) := by decide +kernel
theorem dX3_fails_155 : decode cX3_fails 155 = .ok (.goto 25, 3) := by decide +kernel
theorem dX3_fails_158 : decode cX3_fails 158 = .ok (.aload_n 0, 1) := by decide +kernel
theorem dX3_fails_159 : decode cX3_fails 159 = .ok (.iload_n 1, 1) := by decide +kernel
theorem dX3_fails_160 : decode cX3_fails 160 = .ok (.iload_n 2, 1) := by decide +kernel
theorem dX3_fails_161 : decode cX3_fails 161 = .ok (.iload_n 3, 1) := by decide +kernel
theorem dX3_fails_162 : decode cX3_fails 162 = .ok (.invokevirtual 116, 3) := by decide +kernel
theorem dX3_fails_165 : decode cX3_fails 165 = .ok (.aload_n 0, 1) := by decide +kernel
theorem dX3_fails_166 : decode cX3_fails 166 = .ok (.iload_n 1, 1) := by decide +kernel
theorem dX3_fails_167 : decode cX3_fails 167 = .ok (.iload_n 2, 1) := by decide +kernel
theorem dX3_fails_168 : decode cX3_fails 168 = .ok (.aload_n 0, 1) := by decide +kernel
theorem dX3_fails_169 : decode cX3_fails 169 = .ok (.getfield 19, 3) := by decide +kernel
theorem dX3_fails_172 : decode cX3_fails 172 = .ok (.iload_n 1, 1) := by decide +kernel
theorem dX3_fails_173 : decode cX3_fails 173 = .ok (.iload_n 2, 1) := by decide +kernel
theorem dX3_fails_174 : decode cX3_fails 174 = .ok (.invokevirtual 119, 3) := by decide +kernel
theorem dX3_fails_177 : decode cX3_fails 177 = .ok (.invokevirtual 108, 3) := by decide +kernel
theorem dX3_fails_180 : decode cX3_fails 180 = .ok (.iload 4, 2) := by decide +kernel
theorem dX3_fails_182 : decode cX3_fails 182 = .ok (.ifCond .eq 7, 3) := by decide +kernel
theorem dX3_fails_185 : decode cX3_fails 185 = .ok (.iconst 1, 1) := by decide +kernel
theorem dX3_fails_186 : decode cX3_fails 186 = .ok (.goto 4, 3) := by decide +kernel
theorem dX3_fails_189 : decode cX3_fails 189 = .ok (.iconst 0, 1) := by decide +kernel
theorem dX3_fails_190 : decode cX3_fails 190 = .ok (.ireturn, 1) := by decide +kernel
set_option maxRecDepth 20000 in
theorem ggX3_days_X3_isOutside : GoodIn wsX3_days wsX3_isOutside := goodIn_r _ [5] (by decide +kernel) (by decide +kernel)
set_option maxRecDepth 20000 in
theorem gX3_days_X3_isOutside : GoodIn wsX3_days (va_wsS RX3 52 yX3_isOutside wsX3_isOutside) := goodIn_app (goodIn_of _ (by decide +kernel)) ggX3_days_X3_isOutside
set_option maxRecDepth 20000 in
theorem ggX3_days_X3_doWhatIsDue : GoodIn wsX3_days wsX3_doWhatIsDue := goodIn_r _ [9, 10, 11, 1, 12, 13, 14, 15, 16, 17, 18, 19, 20, 21, 22, 23, 24, 25, 26, 27, 28, 29, 4, 30, 31, 32, 33, 34, 35, 36, 37, 38, 39, 40, 41, 42, 43, 44, 45, 46, 47, 48, 49, 50, 51, 52, 53, 54, 55, 56, 57, 58, 59, 60, 61, 62, 63, 64, 65, 66, 67, 68, 69, 70, 71, 72, 73, 74, 75, 76, 77, 78, 79, 80, 81, 82, 83, 84, 85, 86, 87, 88, 89, 90, 91, 92, 93, 94, 95, 96, 97, 98, 99, 100, 101, 102, 103, 104, 105, 106, 107, 108, 109, 115, 116, 117, 118, 119, 120, 121, 122, 123, 124, 125, 126, 127, 128, 129, 130, 131, 132, 133, 134, 135, 136, 137, 138] (by decide +kernel) (by decide +kernel)
set_option maxRecDepth 20000 in
theorem gX3_days_X3_doWhatIsDue : GoodIn wsX3_days (wsV RX3 122 RX3 yX3_doWhatIsDue wsX3_doWhatIsDue) := goodIn_app (goodIn_of _ (by decide +kernel)) ggX3_days_X3_doWhatIsDue
set_option maxRecDepth 20000 in
theorem ggX3_days_X3_countStanding : GoodIn wsX3_days wsX3_countStanding := goodIn_r _ [113, 34, 11, 114, 12, 13, 14, 15, 16, 17, 18, 115, 116, 117, 118, 119, 120, 121, 122, 123, 124, 125] (by decide +kernel) (by decide +kernel)
set_option maxRecDepth 20000 in
theorem gX3_days_X3_countStanding : GoodIn wsX3_days (wsV RX3 125 RX3 yX3_countStanding wsX3_countStanding) := goodIn_app (goodIn_of _ (by decide +kernel)) ggX3_days_X3_countStanding
theorem dX3_days_0 : decode cX3_days 0 = .ok (.iload_n 1, 1) := by decide +kernel
theorem dX3_days_1 : decode cX3_days 1 = .ok (.iconst 1, 1) := by decide +kernel
theorem dX3_days_2 : decode cX3_days 2 = .ok (.bipush 60, 2) := by decide +kernel
theorem dX3_days_4 : decode cX3_days 4 = .ok (.invokestatic 52, 3) := by decide +kernel
theorem dX3_days_7 : decode cX3_days 7 = .ok (.ifCond .eq 6, 3) := by decide +kernel
theorem dX3_days_10 : decode cX3_days 10 = .ok (.bipush (-2), 2) := by decide +kernel
theorem dX3_days_12 : decode cX3_days 12 = .ok (.ireturn, 1) := by decide +kernel
theorem dX3_days_13 : decode cX3_days 13 = .ok (.aload_n 0, 1) := by decide +kernel
theorem dX3_days_14 : decode cX3_days 14 = .ok (.getfield 48, 3) := by decide +kernel
theorem dX3_days_17 : decode cX3_days 17 = .ok (.iload_n 1, 1) := by decide +kernel
theorem dX3_days_18 : decode cX3_days 18 = .ok (.iadd, 1) := by decide +kernel
theorem dX3_days_19 : decode cX3_days 19 = .ok (.sipush 5000, 3) := by decide +kernel
theorem dX3_days_22 : decode cX3_days 22 = .ok (.if_icmp .le 6, 3) := by decide +kernel
theorem dX3_days_25 : decode cX3_days 25 = .ok (.bipush (-4), 2) := by decide +kernel
theorem dX3_days_27 : decode cX3_days 27 = .ok (.ireturn, 1) := by decide +kernel
theorem dX3_days_28 : decode cX3_days 28 = .ok (.iconst 0, 1) := by decide +kernel
theorem dX3_days_29 : decode cX3_days 29 = .ok (.istore_n 2, 1) := by decide +kernel
theorem dX3_days_30 : decode cX3_days 30 = .ok (.iload_n 2, 1) := by decide +kernel
theorem dX3_days_31 : decode cX3_days 31 = .ok (.iload_n 1, 1) := by decide +kernel
theorem dX3_days_32 : decode cX3_days 32 = .ok (.if_icmp .ge 27, 3) := by decide +kernel
theorem dX3_days_35 : decode cX3_days 35 = .ok (.aload_n 0, 1) := by decide +kernel
end
section
theorem dX3_days_36 : decode cX3_days 36 = .ok (.dup, 1) := by decide +kernel
theorem dX3_days_37 : decode cX3_days 37 = .ok (.getfield 48, 3) := by decide +kernel
theorem dX3_days_40 : decode cX3_days 40 = .ok (.iconst 1, 1) := by decide +kernel
theorem dX3_days_41 : decode cX3_days 41 = .ok (.iadd, 1) := by decide +kernel
theorem dX3_days_42 : decode cX3_days 42 = .ok (.putfield 48, 3) := by decide +kernel
theorem dX3_days_45 : decode cX3_days 45 = .ok (.aload_n 0, 1) := by decide +kernel
theorem dX3_days_46 : decode cX3_days 46 = .ok (.invokevirtual 122, 3) := by decide +kernel
theorem dX3_days_49 : decode cX3_days 49 = .ok (.aload_n 0, 1) := by decide +kernel
theorem dX3_days_50 : decode cX3_days 50 = .ok (.invokevirtual 125, 3) := by decide +kernel
theorem dX3_days_53 : decode cX3_days 53 = .ok (.iinc 2 1, 3) := by decide +kernel
theorem dX3_days_56 : decode cX3_days 56 = .ok (.goto (-26), 3) := by decide +kernel
theorem dX3_days_59 : decode cX3_days 59 = .ok (.aload_n 0, 1) := by decide +kernel
theorem dX3_days_60 : decode cX3_days 60 = .ok (.getfield 48, 3) := by decide +kernel
theorem dX3_days_63 : decode cX3_days 63 = .ok (.ireturn, 1) := by decide +kernel
set_option maxRecDepth 20000 in
theorem ggX3_choose_X3_wantOf : GoodIn wsX3_choose wsX3_wantOf := goodIn_r _ [11, 12, 13, 14, 15, 16, 17, 18, 19, 10, 20, 1, 21, 22, 23, 24, 25, 26, 2, 27, 28, 29, 133, 134, 135, 136, 137, 138, 139, 140, 141, 142, 143, 144, 145] (by decide +kernel) (by decide +kernel)
set_option maxRecDepth 20000 in
theorem gX3_choose_X3_wantOf : GoodIn wsX3_choose (wsV RX3 128 RX3 yX3_wantOf wsX3_wantOf) := goodIn_app (goodIn_of _ (by decide +kernel)) ggX3_choose_X3_wantOf
set_option maxRecDepth 20000 in
theorem ggX3_choose_X3_isNoPlace : GoodIn wsX3_choose wsX3_isNoPlace := goodIn_r _ [33, 1, 3, 34, 35, 36, 37, 38, 39, 40, 41, 42, 43, 44, 45, 133, 134, 135, 136, 137, 138, 139, 140, 141, 142, 143, 144, 145, 146, 147, 148, 149, 150, 151, 152, 153, 154] (by decide +kernel) (by decide +kernel)
set_option maxRecDepth 20000 in
theorem gX3_choose_X3_isNoPlace : GoodIn wsX3_choose (wsV RX3 83 RX3 yX3_isNoPlace wsX3_isNoPlace) := goodIn_app (goodIn_of _ (by decide +kernel)) ggX3_choose_X3_isNoPlace
set_option maxRecDepth 20000 in
theorem ggX3_choose_X3_lands : GoodIn wsX3_choose wsX3_lands := goodIn_r _ [49, 50, 12, 3, 51, 52, 53, 54, 55, 56, 57, 58, 59, 60, 61, 62, 63, 64, 65, 66, 67, 68, 69, 70, 71, 72, 73, 74, 75, 76, 77, 10, 78, 79, 80, 1, 22, 81, 82, 83, 84, 85, 86, 87, 88, 89, 90, 91, 92, 93, 94, 95, 96, 97, 15, 98, 99, 100, 101, 102, 103, 104, 105, 106, 107, 108, 37, 109, 110, 111, 112, 113, 114, 115, 21, 116, 117, 118, 119, 120, 121, 122, 123, 124, 125, 126, 127, 128, 29, 129, 130, 131, 132, 133, 134, 135, 136, 137, 138, 139, 140, 141, 146, 147, 148, 149, 150, 151, 152, 153, 154, 155, 156, 142, 143, 144, 145] (by decide +kernel) (by decide +kernel)
set_option maxRecDepth 20000 in
theorem gX3_choose_X3_lands : GoodIn wsX3_choose (wsV RX3 94 RX3 yX3_lands wsX3_lands) := goodIn_app (goodIn_of _ (by decide +kernel)) ggX3_choose_X3_lands
theorem dX3_choose_0 : decode cX3_choose 0 = .ok (.iconst (-1), 1) := by decide +kernel
theorem dX3_choose_1 : decode cX3_choose 1 = .ok (.istore_n 1, 1) := by decide +kernel
theorem dX3_choose_2 : decode cX3_choose 2 = .ok (.iconst (-1), 1) := by decide +kernel
theorem dX3_choose_3 : decode cX3_choose 3 = .ok (.istore_n 2, 1) := by decide +kernel
theorem dX3_choose_4 : decode cX3_choose 4 = .ok (.lconst 0, 1) := by decide +kernel
theorem dX3_choose_5 : decode cX3_choose 5 = .ok (.lstore_n 3, 1) := by decide +kernel
theorem dX3_choose_6 : decode cX3_choose 6 = .ok (.lconst 1, 1) := by decide +kernel
theorem dX3_choose_7 : decode cX3_choose 7 = .ok (.lstore 5, 2) := by decide +kernel
theorem dX3_choose_9 : decode cX3_choose 9 = .ok (.iconst 0, 1) := by decide +kernel
theorem dX3_choose_10 : decode cX3_choose 10 = .ok (.istore 7, 2) := by decide +kernel
theorem dX3_choose_12 : decode cX3_choose 12 = .ok (.iload 7, 2) := by decide +kernel
theorem dX3_choose_14 : decode cX3_choose 14 = .ok (.aload_n 0, 1) := by decide +kernel
theorem dX3_choose_15 : decode cX3_choose 15 = .ok (.getfield 19, 3) := by decide +kernel
theorem dX3_choose_18 : decode cX3_choose 18 = .ok (.getfield 76, 3) := by decide +kernel
theorem dX3_choose_21 : decode cX3_choose 21 = .ok (.if_icmp .ge 80, 3) := by decide +kernel
theorem dX3_choose_24 : decode cX3_choose 24 = .ok (.iconst 0, 1) := by decide +kernel
theorem dX3_choose_25 : decode cX3_choose 25 = .ok (.istore 8, 2) := by decide +kernel
theorem dX3_choose_27 : decode cX3_choose 27 = .ok (.iload 8, 2) := by decide +kernel
theorem dX3_choose_29 : decode cX3_choose 29 = .ok (.aload_n 0, 1) := by decide +kernel
theorem dX3_choose_30 : decode cX3_choose 30 = .ok (.getfield 10, 3) := by decide +kernel
theorem dX3_choose_33 : decode cX3_choose 33 = .ok (.getfield 60, 3) := by decide +kernel
theorem dX3_choose_36 : decode cX3_choose 36 = .ok (.if_icmp .ge 59, 3) := by decide +kernel
theorem dX3_choose_39 : decode cX3_choose 39 = .ok (.aload_n 0, 1) := by decide +kernel
theorem dX3_choose_40 : decode cX3_choose 40 = .ok (.iload 7, 2) := by decide +kernel
theorem dX3_choose_42 : decode cX3_choose 42 = .ok (.iload 8, 2) := by decide +kernel
theorem dX3_choose_44 : decode cX3_choose 44 = .ok (.invokevirtual 128, 3) := by decide +kernel
theorem dX3_choose_47 : decode cX3_choose 47 = .ok (.i2l, 1) := by decide +kernel
theorem dX3_choose_48 : decode cX3_choose 48 = .ok (.lstore 9, 2) := by decide +kernel
theorem dX3_choose_50 : decode cX3_choose 50 = .ok (.aload_n 0, 1) := by decide +kernel
theorem dX3_choose_51 : decode cX3_choose 51 = .ok (.getfield 10, 3) := by decide +kernel
theorem dX3_choose_54 : decode cX3_choose 54 = .ok (.getfield 63, 3) := by decide +kernel
theorem dX3_choose_57 : decode cX3_choose 57 = .ok (.iload 8, 2) := by decide +kernel
theorem dX3_choose_59 : decode cX3_choose 59 = .ok (.iaload, 1) := by decide +kernel
theorem dX3_choose_60 : decode cX3_choose 60 = .ok (.i2l, 1) := by decide +kernel
theorem dX3_choose_61 : decode cX3_choose 61 = .ok (.lstore 11, 2) := by decide +kernel
theorem dX3_choose_63 : decode cX3_choose 63 = .ok (.lload 9, 2) := by decide +kernel
theorem dX3_choose_65 : decode cX3_choose 65 = .ok (.lload 5, 2) := by decide +kernel
theorem dX3_choose_67 : decode cX3_choose 67 = .ok (.lmul, 1) := by decide +kernel
theorem dX3_choose_68 : decode cX3_choose 68 = .ok (.lload_n 3, 1) := by decide +kernel
theorem dX3_choose_69 : decode cX3_choose 69 = .ok (.lload 11, 2) := by decide +kernel
theorem dX3_choose_71 : decode cX3_choose 71 = .ok (.lmul, 1) := by decide +kernel
theorem dX3_choose_72 : decode cX3_choose 72 = .ok (.lcmp, 1) := by decide +kernel
theorem dX3_choose_73 : decode cX3_choose 73 = .ok (.ifCond .le 16, 3) := by decide +kernel
theorem dX3_choose_76 : decode cX3_choose 76 = .ok (.iload 7, 2) := by decide +kernel
theorem dX3_choose_78 : decode cX3_choose 78 = .ok (.istore_n 1, 1) := by decide +kernel
theorem dX3_choose_79 : decode cX3_choose 79 = .ok (.iload 8, 2) := by decide +kernel
theorem dX3_choose_81 : decode cX3_choose 81 = .ok (.istore_n 2, 1) := by decide +kernel
theorem dX3_choose_82 : decode cX3_choose 82 = .ok (.lload 9, 2) := by decide +kernel
theorem dX3_choose_84 : decode cX3_choose 84 = .ok (.lstore_n 3, 1) := by decide +kernel
theorem dX3_choose_85 : decode cX3_choose 85 = .ok (.lload 11, 2) := by decide +kernel
theorem dX3_choose_87 : decode cX3_choose 87 = .ok (.lstore 5, 2) := by decide +kernel
theorem dX3_choose_89 : decode cX3_choose 89 = .ok (.iinc 8 1, 3) := by decide +kernel
theorem dX3_choose_92 : decode cX3_choose 92 = .ok (.goto (-65), 3) := by decide +kernel
theorem dX3_choose_95 : decode cX3_choose 95 = .ok (.iinc 7 1, 3) := by decide +kernel
theorem dX3_choose_98 : decode cX3_choose 98 = .ok (.goto (-86), 3) := by decide +kernel
theorem dX3_choose_101 : decode cX3_choose 101 = .ok (.aload_n 0, 1) := by decide +kernel
theorem dX3_choose_102 : decode cX3_choose 102 = .ok (.iload_n 1, 1) := by decide +kernel
theorem dX3_choose_103 : decode cX3_choose 103 = .ok (.iload_n 2, 1) := by decide +kernel
theorem dX3_choose_104 : decode cX3_choose 104 = .ok (.invokevirtual 83, 3) := by decide +kernel
theorem dX3_choose_107 : decode cX3_choose 107 = .ok (.ifCond .eq 5, 3) := by decide +kernel
theorem dX3_choose_110 : decode cX3_choose 110 = .ok (.iconst (-1), 1) := by decide +kernel
theorem dX3_choose_111 : decode cX3_choose 111 = .ok (.ireturn, 1) := by decide +kernel
theorem dX3_choose_112 : decode cX3_choose 112 = .ok (.aload_n 0, 1) := by decide +kernel
theorem dX3_choose_113 : decode cX3_choose 113 = .ok (.getfield 10, 3) := by decide +kernel
theorem dX3_choose_116 : decode cX3_choose 116 = .ok (.getfield 91, 3) := by decide +kernel
theorem dX3_choose_119 : decode cX3_choose 119 = .ok (.iload_n 2, 1) := by decide +kernel
theorem dX3_choose_120 : decode cX3_choose 120 = .ok (.iaload, 1) := by decide +kernel
theorem dX3_choose_121 : decode cX3_choose 121 = .ok (.sipush 200, 3) := by decide +kernel
theorem dX3_choose_124 : decode cX3_choose 124 = .ok (.if_icmp .lt 6, 3) := by decide +kernel
theorem dX3_choose_127 : decode cX3_choose 127 = .ok (.bipush (-4), 2) := by decide +kernel
theorem dX3_choose_129 : decode cX3_choose 129 = .ok (.ireturn, 1) := by decide +kernel
theorem dX3_choose_130 : decode cX3_choose 130 = .ok (.aload_n 0, 1) := by decide +kernel
theorem dX3_choose_131 : decode cX3_choose 131 = .ok (.getfield 10, 3) := by decide +kernel
theorem dX3_choose_134 : decode cX3_choose 134 = .ok (.getfield 91, 3) := by decide +kernel
theorem dX3_choose_137 : decode cX3_choose 137 = .ok (.iload_n 2, 1) := by decide +kernel
theorem dX3_choose_138 : decode cX3_choose 138 = .ok (.dup2, 1) := by decide +kernel
theorem dX3_choose_139 : decode cX3_choose 139 = .ok (.iaload, 1) := by decide +kernel
theorem dX3_choose_140 : decode cX3_choose 140 = .ok (.iconst 1, 1) := by decide +kernel
theorem dX3_choose_141 : decode cX3_choose 141 = .ok (.iadd, 1) := by decide +kernel
theorem dX3_choose_142 : decode cX3_choose 142 = .ok (.iastore, 1) := by decide +kernel
theorem dX3_choose_143 : decode cX3_choose 143 = .ok (.aload_n 0, 1) := by decide +kernel
theorem dX3_choose_144 : decode cX3_choose 144 = .ok (.iload_n 1, 1) := by decide +kernel
theorem dX3_choose_145 : decode cX3_choose 145 = .ok (.iload_n 2, 1) := by decide +kernel
theorem dX3_choose_146 : decode cX3_choose 146 = .ok (.invokevirtual 94, 3) := by decide +kernel
theorem dX3_choose_149 : decode cX3_choose 149 = .ok (.bipush 8, 2) := by decide +kernel
theorem dX3_choose_151 : decode cX3_choose 151 = .ok (.iload_n 1, 1) := by decide +kernel
theorem dX3_choose_152 : decode cX3_choose 152 = .ok (.imul, 1) := by decide +kernel
theorem dX3_choose_153 : decode cX3_choose 153 = .ok (.iload_n 2, 1) := by decide +kernel
theorem dX3_choose_154 : decode cX3_choose 154 = .ok (.iadd, 1) := by decide +kernel
theorem dX3_choose_155 : decode cX3_choose 155 = .ok (.ireturn, 1) := by decide +kernel
set_option maxRecDepth 20000 in
theorem ggX3_about_X3_isNoPlace : GoodIn wsX3_about wsX3_isNoPlace := goodIn_r _ [8, 9, 10, 11, 12, 13, 14, 15, 16, 17, 18, 19, 20, 21, 22, 38, 39, 40, 41, 42, 43, 44, 45, 46, 47, 48, 49, 50, 51, 52, 53, 54, 55, 56, 57, 58, 59] (by decide +kernel) (by decide +kernel)
set_option maxRecDepth 20000 in
theorem gX3_about_X3_isNoPlace : GoodIn wsX3_about (wsV RX3 83 RX3 yX3_isNoPlace wsX3_isNoPlace) := goodIn_app (goodIn_of _ (by decide +kernel)) ggX3_about_X3_isNoPlace
set_option maxRecDepth 20000 in
theorem ggX3_about_X1_tally : GoodIn wsX3_about wsX1_tally := goodIn_r _ [27, 28, 29, 30, 31, 26, 32, 33, 60, 61] (by decide +kernel) (by decide +kernel)
set_option maxRecDepth 20000 in
theorem gX3_about_X1_tally : GoodIn wsX3_about (wsV RX3 131 RX1 yX1_tally wsX1_tally) := goodIn_app (goodIn_of _ (by decide +kernel)) ggX3_about_X1_tally
set_option maxRecDepth 20000 in
theorem ggX3_about_X3_mendsThatWait : GoodIn wsX3_about wsX3_mendsThatWait := goodIn_r _ [37, 2, 23, 24, 25, 26, 27, 28, 29, 30, 31, 32, 33, 38, 39, 40, 41, 42, 43, 44, 45, 46, 60, 61] (by decide +kernel) (by decide +kernel)
set_option maxRecDepth 20000 in
theorem gX3_about_X3_mendsThatWait : GoodIn wsX3_about (wsV RX3 87 RX3 yX3_mendsThatWait wsX3_mendsThatWait) := goodIn_app (goodIn_of _ (by decide +kernel)) ggX3_about_X3_mendsThatWait
theorem dX3_about_0 : decode cX3_about 0 = .ok (.aload_n 0, 1) := by decide +kernel
theorem dX3_about_1 : decode cX3_about 1 = .ok (.iload_n 1, 1) := by decide +kernel
theorem dX3_about_2 : decode cX3_about 2 = .ok (.iload_n 2, 1) := by decide +kernel
theorem dX3_about_3 : decode cX3_about 3 = .ok (.invokevirtual 83, 3) := by decide +kernel
theorem dX3_about_6 : decode cX3_about 6 = .ok (.ifCond .eq 5, 3) := by decide +kernel
theorem dX3_about_9 : decode cX3_about 9 = .ok (.iconst (-1), 1) := by decide +kernel
theorem dX3_about_10 : decode cX3_about 10 = .ok (.ireturn, 1) := by decide +kernel
theorem dX3_about_11 : decode cX3_about 11 = .ok (.iload_n 3, 1) := by decide +kernel
theorem dX3_about_12 : decode cX3_about 12 = .ok (.tableswitch 136 0 7 #[48, 57, 69, 81, 93, 100, 112, 124], 48) := by decide +kernel
theorem dX3_about_60 : decode cX3_about 60 = .ok (.aload_n 0, 1) := by decide +kernel
theorem dX3_about_61 : decode cX3_about 61 = .ok (.getfield 25, 3) := by decide +kernel
theorem dX3_about_64 : decode cX3_about 64 = .ok (.iload_n 1, 1) := by decide +kernel
theorem dX3_about_65 : decode cX3_about 65 = .ok (.aaload, 1) := by decide +kernel
theorem dX3_about_66 : decode cX3_about 66 = .ok (.iload_n 2, 1) := by decide +kernel
theorem dX3_about_67 : decode cX3_about 67 = .ok (.iaload, 1) := by decide +kernel
theorem dX3_about_68 : decode cX3_about 68 = .ok (.ireturn, 1) := by decide +kernel
theorem dX3_about_69 : decode cX3_about 69 = .ok (.aload_n 0, 1) := by decide +kernel
theorem dX3_about_70 : decode cX3_about 70 = .ok (.getfield 41, 3) := by decide +kernel
theorem dX3_about_73 : decode cX3_about 73 = .ok (.iload_n 1, 1) := by decide +kernel
theorem dX3_about_74 : decode cX3_about 74 = .ok (.iload_n 2, 1) := by decide +kernel
theorem dX3_about_75 : decode cX3_about 75 = .ok (.iconst (-1), 1) := by decide +kernel
theorem dX3_about_76 : decode cX3_about 76 = .ok (.iconst (-1), 1) := by decide +kernel
theorem dX3_about_77 : decode cX3_about 77 = .ok (.invokevirtual 131, 3) := by decide +kernel
theorem dX3_about_80 : decode cX3_about 80 = .ok (.ireturn, 1) := by decide +kernel
theorem dX3_about_81 : decode cX3_about 81 = .ok (.aload_n 0, 1) := by decide +kernel
theorem dX3_about_82 : decode cX3_about 82 = .ok (.getfield 41, 3) := by decide +kernel
theorem dX3_about_85 : decode cX3_about 85 = .ok (.iload_n 1, 1) := by decide +kernel
theorem dX3_about_86 : decode cX3_about 86 = .ok (.iload_n 2, 1) := by decide +kernel
theorem dX3_about_87 : decode cX3_about 87 = .ok (.iconst 0, 1) := by decide +kernel
theorem dX3_about_88 : decode cX3_about 88 = .ok (.iconst (-1), 1) := by decide +kernel
theorem dX3_about_89 : decode cX3_about 89 = .ok (.invokevirtual 131, 3) := by decide +kernel
theorem dX3_about_92 : decode cX3_about 92 = .ok (.ireturn, 1) := by decide +kernel
theorem dX3_about_93 : decode cX3_about 93 = .ok (.aload_n 0, 1) := by decide +kernel
theorem dX3_about_94 : decode cX3_about 94 = .ok (.getfield 45, 3) := by decide +kernel
theorem dX3_about_97 : decode cX3_about 97 = .ok (.iload_n 1, 1) := by decide +kernel
theorem dX3_about_98 : decode cX3_about 98 = .ok (.iload_n 2, 1) := by decide +kernel
theorem dX3_about_99 : decode cX3_about 99 = .ok (.iconst 2, 1) := by decide +kernel
theorem dX3_about_100 : decode cX3_about 100 = .ok (.iconst (-1), 1) := by decide +kernel
theorem dX3_about_101 : decode cX3_about 101 = .ok (.invokevirtual 131, 3) := by decide +kernel
theorem dX3_about_104 : decode cX3_about 104 = .ok (.ireturn, 1) := by decide +kernel
theorem dX3_about_105 : decode cX3_about 105 = .ok (.aload_n 0, 1) := by decide +kernel
theorem dX3_about_106 : decode cX3_about 106 = .ok (.iload_n 1, 1) := by decide +kernel
theorem dX3_about_107 : decode cX3_about 107 = .ok (.iload_n 2, 1) := by decide +kernel
theorem dX3_about_108 : decode cX3_about 108 = .ok (.invokevirtual 87, 3) := by decide +kernel
theorem dX3_about_111 : decode cX3_about 111 = .ok (.ireturn, 1) := by decide +kernel
theorem dX3_about_112 : decode cX3_about 112 = .ok (.aload_n 0, 1) := by decide +kernel
theorem dX3_about_113 : decode cX3_about 113 = .ok (.getfield 45, 3) := by decide +kernel
theorem dX3_about_116 : decode cX3_about 116 = .ok (.iload_n 1, 1) := by decide +kernel
theorem dX3_about_117 : decode cX3_about 117 = .ok (.iload_n 2, 1) := by decide +kernel
theorem dX3_about_118 : decode cX3_about 118 = .ok (.iconst 0, 1) := by decide +kernel
theorem dX3_about_119 : decode cX3_about 119 = .ok (.iconst (-1), 1) := by decide +kernel
theorem dX3_about_120 : decode cX3_about 120 = .ok (.invokevirtual 131, 3) := by decide +kernel
theorem dX3_about_123 : decode cX3_about 123 = .ok (.ireturn, 1) := by decide +kernel
theorem dX3_about_124 : decode cX3_about 124 = .ok (.aload_n 0, 1) := by decide +kernel
theorem dX3_about_125 : decode cX3_about 125 = .ok (.getfield 45, 3) := by decide +kernel
theorem dX3_about_128 : decode cX3_about 128 = .ok (.iload_n 1, 1) := by decide +kernel
theorem dX3_about_129 : decode cX3_about 129 = .ok (.iload_n 2, 1) := by decide +kernel
theorem dX3_about_130 : decode cX3_about 130 = .ok (.iconst 1, 1) := by decide +kernel
theorem dX3_about_131 : decode cX3_about 131 = .ok (.iconst (-1), 1) := by decide +kernel
theorem dX3_about_132 : decode cX3_about 132 = .ok (.invokevirtual 131, 3) := by decide +kernel
theorem dX3_about_135 : decode cX3_about 135 = .ok (.ireturn, 1) := by decide +kernel
theorem dX3_about_136 : decode cX3_about 136 = .ok (.aload_n 0, 1) := by decide +kernel
theorem dX3_about_137 : decode cX3_about 137 = .ok (.getfield 45, 3) := by decide +kernel
theorem dX3_about_140 : decode cX3_about 140 = .ok (.iload_n 1, 1) := by decide +kernel
theorem dX3_about_141 : decode cX3_about 141 = .ok (.iload_n 2, 1) := by decide +kernel
theorem dX3_about_142 : decode cX3_about 142 = .ok (.iconst 3, 1) := by decide +kernel
theorem dX3_about_143 : decode cX3_about 143 = .ok (.iconst (-1), 1) := by decide +kernel
theorem dX3_about_144 : decode cX3_about 144 = .ok (.invokevirtual 131, 3) := by decide +kernel
theorem dX3_about_147 : decode cX3_about 147 = .ok (.ireturn, 1) := by decide +kernel
theorem dX3_about_148 : decode cX3_about 148 = .ok (.iconst (-1), 1) := by decide +kernel
theorem dX3_about_149 : decode cX3_about 149 = .ok (.ireturn, 1) := by decide +kernel
set_option maxRecDepth 20000 in
theorem ggX3_ask_X3_isNoPlace : GoodIn wsX3_ask wsX3_isNoPlace := goodIn_r _ [6, 7, 8, 9, 10, 11, 12, 13, 14, 15, 16, 17, 18, 19, 20, 36, 37, 38, 39, 40, 41, 42, 43, 44, 45, 46, 47, 48, 49, 50, 51, 52, 53, 54, 55, 56, 57] (by decide +kernel) (by decide +kernel)
set_option maxRecDepth 20000 in
theorem gX3_ask_X3_isNoPlace : GoodIn wsX3_ask (wsV RX3 83 RX3 yX3_isNoPlace wsX3_isNoPlace) := goodIn_app (goodIn_of _ (by decide +kernel)) ggX3_ask_X3_isNoPlace
set_option maxRecDepth 20000 in
theorem ggX3_ask_X1_find : GoodIn wsX3_ask wsX1_find := goodIn_r _ [25, 26, 27, 28, 29, 24, 30, 31, 58, 59] (by decide +kernel) (by decide +kernel)
set_option maxRecDepth 20000 in
theorem gX3_ask_X1_find : GoodIn wsX3_ask (wsV RX3 135 RX1 yX1_find wsX1_find) := goodIn_app (goodIn_of _ (by decide +kernel)) ggX3_ask_X1_find
set_option maxRecDepth 20000 in
theorem ggX3_ask_X1_read : GoodIn wsX3_ask wsX1_read := goodIn_r _ [35, 26, 31, 58, 59] (by decide +kernel) (by decide +kernel)
set_option maxRecDepth 20000 in
theorem gX3_ask_X1_read : GoodIn wsX3_ask (wsV RX3 138 RX1 yX1_read wsX1_read) := goodIn_app (goodIn_of _ (by decide +kernel)) ggX3_ask_X1_read
theorem dX3_ask_0 : decode cX3_ask 0 = .ok (.aload_n 0, 1) := by decide +kernel
theorem dX3_ask_1 : decode cX3_ask 1 = .ok (.iload_n 1, 1) := by decide +kernel
theorem dX3_ask_2 : decode cX3_ask 2 = .ok (.iload_n 2, 1) := by decide +kernel
theorem dX3_ask_3 : decode cX3_ask 3 = .ok (.invokevirtual 83, 3) := by decide +kernel
theorem dX3_ask_6 : decode cX3_ask 6 = .ok (.ifCond .eq 5, 3) := by decide +kernel
theorem dX3_ask_9 : decode cX3_ask 9 = .ok (.iconst (-1), 1) := by decide +kernel
theorem dX3_ask_10 : decode cX3_ask 10 = .ok (.ireturn, 1) := by decide +kernel
theorem dX3_ask_11 : decode cX3_ask 11 = .ok (.aload_n 0, 1) := by decide +kernel
theorem dX3_ask_12 : decode cX3_ask 12 = .ok (.getfield 41, 3) := by decide +kernel
theorem dX3_ask_15 : decode cX3_ask 15 = .ok (.iload_n 1, 1) := by decide +kernel
theorem dX3_ask_16 : decode cX3_ask 16 = .ok (.iload_n 2, 1) := by decide +kernel
theorem dX3_ask_17 : decode cX3_ask 17 = .ok (.iconst (-1), 1) := by decide +kernel
theorem dX3_ask_18 : decode cX3_ask 18 = .ok (.iload_n 3, 1) := by decide +kernel
theorem dX3_ask_19 : decode cX3_ask 19 = .ok (.invokevirtual 135, 3) := by decide +kernel
theorem dX3_ask_22 : decode cX3_ask 22 = .ok (.istore 5, 2) := by decide +kernel
theorem dX3_ask_24 : decode cX3_ask 24 = .ok (.iload 4, 2) := by decide +kernel
theorem dX3_ask_26 : decode cX3_ask 26 = .ok (.tableswitch 59 0 2 #[26, 37, 48], 26) := by decide +kernel
theorem dX3_ask_52 : decode cX3_ask 52 = .ok (.aload_n 0, 1) := by decide +kernel
theorem dX3_ask_53 : decode cX3_ask 53 = .ok (.getfield 41, 3) := by decide +kernel
theorem dX3_ask_56 : decode cX3_ask 56 = .ok (.iload 5, 2) := by decide +kernel
theorem dX3_ask_58 : decode cX3_ask 58 = .ok (.iconst 2, 1) := by decide +kernel
theorem dX3_ask_59 : decode cX3_ask 59 = .ok (.invokevirtual 138, 3) := by decide +kernel
theorem dX3_ask_62 : decode cX3_ask 62 = .ok (.ireturn, 1) := by decide +kernel
theorem dX3_ask_63 : decode cX3_ask 63 = .ok (.aload_n 0, 1) := by decide +kernel
theorem dX3_ask_64 : decode cX3_ask 64 = .ok (.getfield 41, 3) := by decide +kernel
theorem dX3_ask_67 : decode cX3_ask 67 = .ok (.iload 5, 2) := by decide +kernel
theorem dX3_ask_69 : decode cX3_ask 69 = .ok (.iconst 3, 1) := by decide +kernel
theorem dX3_ask_70 : decode cX3_ask 70 = .ok (.invokevirtual 138, 3) := by decide +kernel
theorem dX3_ask_73 : decode cX3_ask 73 = .ok (.ireturn, 1) := by decide +kernel
theorem dX3_ask_74 : decode cX3_ask 74 = .ok (.aload_n 0, 1) := by decide +kernel
theorem dX3_ask_75 : decode cX3_ask 75 = .ok (.getfield 41, 3) := by decide +kernel
theorem dX3_ask_78 : decode cX3_ask 78 = .ok (.iload 5, 2) := by decide +kernel
theorem dX3_ask_80 : decode cX3_ask 80 = .ok (.iconst 4, 1) := by decide +kernel
theorem dX3_ask_81 : decode cX3_ask 81 = .ok (.invokevirtual 138, 3) := by decide +kernel
theorem dX3_ask_84 : decode cX3_ask 84 = .ok (.ireturn, 1) := by decide +kernel
theorem dX3_ask_85 : decode cX3_ask 85 = .ok (.iconst (-1), 1) := by decide +kernel
theorem dX3_ask_86 : decode cX3_ask 86 = .ok (.ireturn, 1) := by decide +kernel
set_option maxRecDepth 20000 in
theorem ggX3_all_X0_has : GoodIn wsX3_all wsX0_has := goodIn_r _ [12, 13, 47, 48, 49, 50, 51, 52, 53, 54, 55] (by decide +kernel) (by decide +kernel)
set_option maxRecDepth 20000 in
theorem gX3_all_X0_has : GoodIn wsX3_all (wsV RX3 56 RX0 yX0_has wsX0_has) := goodIn_app (goodIn_of _ (by decide +kernel)) ggX3_all_X0_has
set_option maxRecDepth 20000 in
theorem ggX3_all_X3_goodOnShelves : GoodIn wsX3_all wsX3_goodOnShelves := goodIn_r _ [18, 19, 20, 21, 38, 39, 40, 41, 42, 43, 44, 45, 46, 56, 57, 58, 59] (by decide +kernel) (by decide +kernel)
set_option maxRecDepth 20000 in
theorem gX3_all_X3_goodOnShelves : GoodIn wsX3_all (wsV RX3 141 RX3 yX3_goodOnShelves wsX3_goodOnShelves) := goodIn_app (goodIn_of _ (by decide +kernel)) ggX3_all_X3_goodOnShelves
set_option maxRecDepth 20000 in
theorem ggX3_all_X1_tally : GoodIn wsX3_all wsX1_tally := goodIn_r _ [26, 27, 28, 29, 30, 25, 31, 32, 60, 61] (by decide +kernel) (by decide +kernel)
set_option maxRecDepth 20000 in
theorem gX3_all_X1_tally : GoodIn wsX3_all (wsV RX3 131 RX1 yX1_tally wsX1_tally) := goodIn_app (goodIn_of _ (by decide +kernel)) ggX3_all_X1_tally
set_option maxRecDepth 20000 in
theorem ggX3_all_X3_mendsThatWait : GoodIn wsX3_all wsX3_mendsThatWait := goodIn_r _ [36, 37, 22, 23, 24, 25, 26, 27, 28, 29, 30, 31, 32, 38, 39, 40, 41, 42, 43, 44, 45, 46, 60, 61] (by decide +kernel) (by decide +kernel)
set_option maxRecDepth 20000 in
theorem gX3_all_X3_mendsThatWait : GoodIn wsX3_all (wsV RX3 87 RX3 yX3_mendsThatWait wsX3_mendsThatWait) := goodIn_app (goodIn_of _ (by decide +kernel)) ggX3_all_X3_mendsThatWait
theorem dX3_all_0 : decode cX3_all 0 = .ok (.aload_n 0, 1) := by decide +kernel
theorem dX3_all_1 : decode cX3_all 1 = .ok (.getfield 10, 3) := by decide +kernel
theorem dX3_all_4 : decode cX3_all 4 = .ok (.iload_n 1, 1) := by decide +kernel
theorem dX3_all_5 : decode cX3_all 5 = .ok (.invokevirtual 56, 3) := by decide +kernel
theorem dX3_all_8 : decode cX3_all 8 = .ok (.ifCond .ne 5, 3) := by decide +kernel
theorem dX3_all_11 : decode cX3_all 11 = .ok (.iconst (-1), 1) := by decide +kernel
theorem dX3_all_12 : decode cX3_all 12 = .ok (.ireturn, 1) := by decide +kernel
theorem dX3_all_13 : decode cX3_all 13 = .ok (.iload_n 2, 1) := by decide +kernel
theorem dX3_all_14 : decode cX3_all 14 = .ok (.tableswitch 161 0 8 #[50, 60, 70, 76, 100, 119, 131, 141, 151], 50) := by decide +kernel
theorem dX3_all_64 : decode cX3_all 64 = .ok (.aload_n 0, 1) := by decide +kernel
theorem dX3_all_65 : decode cX3_all 65 = .ok (.getfield 10, 3) := by decide +kernel
theorem dX3_all_68 : decode cX3_all 68 = .ok (.getfield 91, 3) := by decide +kernel
theorem dX3_all_71 : decode cX3_all 71 = .ok (.iload_n 1, 1) := by decide +kernel
theorem dX3_all_72 : decode cX3_all 72 = .ok (.iaload, 1) := by decide +kernel
theorem dX3_all_73 : decode cX3_all 73 = .ok (.ireturn, 1) := by decide +kernel
theorem dX3_all_74 : decode cX3_all 74 = .ok (.aload_n 0, 1) := by decide +kernel
theorem dX3_all_75 : decode cX3_all 75 = .ok (.getfield 10, 3) := by decide +kernel
theorem dX3_all_78 : decode cX3_all 78 = .ok (.getfield 105, 3) := by decide +kernel
theorem dX3_all_81 : decode cX3_all 81 = .ok (.iload_n 1, 1) := by decide +kernel
theorem dX3_all_82 : decode cX3_all 82 = .ok (.iaload, 1) := by decide +kernel
theorem dX3_all_83 : decode cX3_all 83 = .ok (.ireturn, 1) := by decide +kernel
theorem dX3_all_84 : decode cX3_all 84 = .ok (.aload_n 0, 1) := by decide +kernel
theorem dX3_all_85 : decode cX3_all 85 = .ok (.iload_n 1, 1) := by decide +kernel
theorem dX3_all_86 : decode cX3_all 86 = .ok (.invokevirtual 141, 3) := by decide +kernel
theorem dX3_all_89 : decode cX3_all 89 = .ok (.ireturn, 1) := by decide +kernel
theorem dX3_all_90 : decode cX3_all 90 = .ok (.aload_n 0, 1) := by decide +kernel
theorem dX3_all_91 : decode cX3_all 91 = .ok (.getfield 45, 3) := by decide +kernel
theorem dX3_all_94 : decode cX3_all 94 = .ok (.iconst (-1), 1) := by decide +kernel
theorem dX3_all_95 : decode cX3_all 95 = .ok (.iload_n 1, 1) := by decide +kernel
theorem dX3_all_96 : decode cX3_all 96 = .ok (.iconst 0, 1) := by decide +kernel
theorem dX3_all_97 : decode cX3_all 97 = .ok (.iconst (-1), 1) := by decide +kernel
theorem dX3_all_98 : decode cX3_all 98 = .ok (.invokevirtual 131, 3) := by decide +kernel
theorem dX3_all_101 : decode cX3_all 101 = .ok (.aload_n 0, 1) := by decide +kernel
theorem dX3_all_102 : decode cX3_all 102 = .ok (.getfield 45, 3) := by decide +kernel
theorem dX3_all_105 : decode cX3_all 105 = .ok (.iconst (-1), 1) := by decide +kernel
theorem dX3_all_106 : decode cX3_all 106 = .ok (.iload_n 1, 1) := by decide +kernel
theorem dX3_all_107 : decode cX3_all 107 = .ok (.iconst 1, 1) := by decide +kernel
theorem dX3_all_108 : decode cX3_all 108 = .ok (.iconst (-1), 1) := by decide +kernel
theorem dX3_all_109 : decode cX3_all 109 = .ok (.invokevirtual 131, 3) := by decide +kernel
theorem dX3_all_112 : decode cX3_all 112 = .ok (.iadd, 1) := by decide +kernel
theorem dX3_all_113 : decode cX3_all 113 = .ok (.ireturn, 1) := by decide +kernel
theorem dX3_all_114 : decode cX3_all 114 = .ok (.aload_n 0, 1) := by decide +kernel
theorem dX3_all_115 : decode cX3_all 115 = .ok (.getfield 45, 3) := by decide +kernel
theorem dX3_all_118 : decode cX3_all 118 = .ok (.iconst (-1), 1) := by decide +kernel
theorem dX3_all_119 : decode cX3_all 119 = .ok (.iload_n 1, 1) := by decide +kernel
theorem dX3_all_120 : decode cX3_all 120 = .ok (.iconst 2, 1) := by decide +kernel
theorem dX3_all_121 : decode cX3_all 121 = .ok (.iconst (-1), 1) := by decide +kernel
theorem dX3_all_122 : decode cX3_all 122 = .ok (.invokevirtual 131, 3) := by decide +kernel
theorem dX3_all_125 : decode cX3_all 125 = .ok (.aload_n 0, 1) := by decide +kernel
theorem dX3_all_126 : decode cX3_all 126 = .ok (.iconst (-1), 1) := by decide +kernel
theorem dX3_all_127 : decode cX3_all 127 = .ok (.iload_n 1, 1) := by decide +kernel
theorem dX3_all_128 : decode cX3_all 128 = .ok (.invokevirtual 87, 3) := by decide +kernel
theorem dX3_all_131 : decode cX3_all 131 = .ok (.iadd, 1) := by decide +kernel
theorem dX3_all_132 : decode cX3_all 132 = .ok (.ireturn, 1) := by decide +kernel
theorem dX3_all_133 : decode cX3_all 133 = .ok (.aload_n 0, 1) := by decide +kernel
theorem dX3_all_134 : decode cX3_all 134 = .ok (.getfield 45, 3) := by decide +kernel
theorem dX3_all_137 : decode cX3_all 137 = .ok (.iconst (-1), 1) := by decide +kernel
theorem dX3_all_138 : decode cX3_all 138 = .ok (.iload_n 1, 1) := by decide +kernel
theorem dX3_all_139 : decode cX3_all 139 = .ok (.iconst 3, 1) := by decide +kernel
theorem dX3_all_140 : decode cX3_all 140 = .ok (.iconst (-1), 1) := by decide +kernel
theorem dX3_all_141 : decode cX3_all 141 = .ok (.invokevirtual 131, 3) := by decide +kernel
theorem dX3_all_144 : decode cX3_all 144 = .ok (.ireturn, 1) := by decide +kernel
theorem dX3_all_145 : decode cX3_all 145 = .ok (.aload_n 0, 1) := by decide +kernel
theorem dX3_all_146 : decode cX3_all 146 = .ok (.getfield 10, 3) := by decide +kernel
theorem dX3_all_149 : decode cX3_all 149 = .ok (.getfield 145, 3) := by decide +kernel
theorem dX3_all_152 : decode cX3_all 152 = .ok (.iload_n 1, 1) := by decide +kernel
theorem dX3_all_153 : decode cX3_all 153 = .ok (.iaload, 1) := by decide +kernel
theorem dX3_all_154 : decode cX3_all 154 = .ok (.ireturn, 1) := by decide +kernel
theorem dX3_all_155 : decode cX3_all 155 = .ok (.aload_n 0, 1) := by decide +kernel
theorem dX3_all_156 : decode cX3_all 156 = .ok (.getfield 10, 3) := by decide +kernel
theorem dX3_all_159 : decode cX3_all 159 = .ok (.getfield 148, 3) := by decide +kernel
theorem dX3_all_162 : decode cX3_all 162 = .ok (.iload_n 1, 1) := by decide +kernel
theorem dX3_all_163 : decode cX3_all 163 = .ok (.iaload, 1) := by decide +kernel
theorem dX3_all_164 : decode cX3_all 164 = .ok (.ireturn, 1) := by decide +kernel
theorem dX3_all_165 : decode cX3_all 165 = .ok (.aload_n 0, 1) := by decide +kernel
theorem dX3_all_166 : decode cX3_all 166 = .ok (.getfield 10, 3) := by decide +kernel
theorem dX3_all_169 : decode cX3_all 169 = .ok (.getfield 102, 3) := by decide +kernel
theorem dX3_all_172 : decode cX3_all 172 = .ok (.iload_n 1, 1) := by decide +kernel
theorem dX3_all_173 : decode cX3_all 173 = .ok (.iaload, 1) := by decide +kernel
theorem dX3_all_174 : decode cX3_all 174 = .ok (.ireturn, 1) := by decide +kernel
theorem dX3_all_175 : decode cX3_all 175 = .ok (.iconst (-1), 1) := by decide +kernel
theorem dX3_all_176 : decode cX3_all 176 = .ok (.ireturn, 1) := by decide +kernel
set_option maxRecDepth 20000 in
theorem ggX3_field_X2_has : GoodIn wsX3_field wsX2_has := goodIn_r _ [10, 11, 40, 41, 42, 43] (by decide +kernel) (by decide +kernel)
set_option maxRecDepth 20000 in
theorem gX3_field_X2_has : GoodIn wsX3_field (wsV RX3 75 RX2 yX2_has wsX2_has) := goodIn_app (goodIn_of _ (by decide +kernel)) ggX3_field_X2_has
set_option maxRecDepth 20000 in
theorem ggX3_field_X1_tally : GoodIn wsX3_field wsX1_tally := goodIn_r _ [16, 17, 18, 19, 20, 15, 21, 22, 44, 45] (by decide +kernel) (by decide +kernel)
set_option maxRecDepth 20000 in
theorem gX3_field_X1_tally : GoodIn wsX3_field (wsV RX3 131 RX1 yX1_tally wsX1_tally) := goodIn_app (goodIn_of _ (by decide +kernel)) ggX3_field_X1_tally
set_option maxRecDepth 20000 in
theorem ggX3_field_X1_find : GoodIn wsX3_field wsX1_find := goodIn_r _ [26, 17, 18, 19, 20, 15, 21, 22, 44, 45] (by decide +kernel) (by decide +kernel)
set_option maxRecDepth 20000 in
theorem gX3_field_X1_find : GoodIn wsX3_field (wsV RX3 135 RX1 yX1_find wsX1_find) := goodIn_app (goodIn_of _ (by decide +kernel)) ggX3_field_X1_find
set_option maxRecDepth 20000 in
theorem ggX3_field_X1_read : GoodIn wsX3_field wsX1_read := goodIn_r _ [30, 17, 22, 44, 45] (by decide +kernel) (by decide +kernel)
set_option maxRecDepth 20000 in
theorem gX3_field_X1_read : GoodIn wsX3_field (wsV RX3 138 RX1 yX1_read wsX1_read) := goodIn_app (goodIn_of _ (by decide +kernel)) ggX3_field_X1_read
theorem dX3_field_0 : decode cX3_field 0 = .ok (.aload_n 0, 1) := by decide +kernel
theorem dX3_field_1 : decode cX3_field 1 = .ok (.getfield 19, 3) := by decide +kernel
theorem dX3_field_4 : decode cX3_field 4 = .ok (.iload_n 1, 1) := by decide +kernel
theorem dX3_field_5 : decode cX3_field 5 = .ok (.invokevirtual 75, 3) := by decide +kernel
theorem dX3_field_8 : decode cX3_field 8 = .ok (.ifCond .ne 5, 3) := by decide +kernel
theorem dX3_field_11 : decode cX3_field 11 = .ok (.iconst (-1), 1) := by decide +kernel
theorem dX3_field_12 : decode cX3_field 12 = .ok (.ireturn, 1) := by decide +kernel
theorem dX3_field_13 : decode cX3_field 13 = .ok (.iload_n 2, 1) := by decide +kernel
theorem dX3_field_14 : decode cX3_field 14 = .ok (.tableswitch 93 0 4 #[34, 44, 54, 66, 73], 34) := by decide +kernel
theorem dX3_field_48 : decode cX3_field 48 = .ok (.aload_n 0, 1) := by decide +kernel
theorem dX3_field_49 : decode cX3_field 49 = .ok (.getfield 19, 3) := by decide +kernel
theorem dX3_field_52 : decode cX3_field 52 = .ok (.getfield 77, 3) := by decide +kernel
theorem dX3_field_55 : decode cX3_field 55 = .ok (.iload_n 1, 1) := by decide +kernel
theorem dX3_field_56 : decode cX3_field 56 = .ok (.iaload, 1) := by decide +kernel
theorem dX3_field_57 : decode cX3_field 57 = .ok (.ireturn, 1) := by decide +kernel
theorem dX3_field_58 : decode cX3_field 58 = .ok (.aload_n 0, 1) := by decide +kernel
theorem dX3_field_59 : decode cX3_field 59 = .ok (.getfield 19, 3) := by decide +kernel
theorem dX3_field_62 : decode cX3_field 62 = .ok (.getfield 80, 3) := by decide +kernel
theorem dX3_field_65 : decode cX3_field 65 = .ok (.iload_n 1, 1) := by decide +kernel
theorem dX3_field_66 : decode cX3_field 66 = .ok (.iaload, 1) := by decide +kernel
theorem dX3_field_67 : decode cX3_field 67 = .ok (.ireturn, 1) := by decide +kernel
theorem dX3_field_68 : decode cX3_field 68 = .ok (.aload_n 0, 1) := by decide +kernel
theorem dX3_field_69 : decode cX3_field 69 = .ok (.getfield 41, 3) := by decide +kernel
theorem dX3_field_72 : decode cX3_field 72 = .ok (.iload_n 1, 1) := by decide +kernel
theorem dX3_field_73 : decode cX3_field 73 = .ok (.iconst (-1), 1) := by decide +kernel
theorem dX3_field_74 : decode cX3_field 74 = .ok (.iconst 0, 1) := by decide +kernel
theorem dX3_field_75 : decode cX3_field 75 = .ok (.iconst (-1), 1) := by decide +kernel
theorem dX3_field_76 : decode cX3_field 76 = .ok (.invokevirtual 131, 3) := by decide +kernel
theorem dX3_field_79 : decode cX3_field 79 = .ok (.ireturn, 1) := by decide +kernel
theorem dX3_field_80 : decode cX3_field 80 = .ok (.aload_n 0, 1) := by decide +kernel
theorem dX3_field_81 : decode cX3_field 81 = .ok (.getfield 31, 3) := by decide +kernel
theorem dX3_field_84 : decode cX3_field 84 = .ok (.iload_n 1, 1) := by decide +kernel
theorem dX3_field_85 : decode cX3_field 85 = .ok (.iaload, 1) := by decide +kernel
theorem dX3_field_86 : decode cX3_field 86 = .ok (.ireturn, 1) := by decide +kernel
theorem dX3_field_87 : decode cX3_field 87 = .ok (.aload_n 0, 1) := by decide +kernel
theorem dX3_field_88 : decode cX3_field 88 = .ok (.getfield 41, 3) := by decide +kernel
theorem dX3_field_91 : decode cX3_field 91 = .ok (.aload_n 0, 1) := by decide +kernel
theorem dX3_field_92 : decode cX3_field 92 = .ok (.getfield 41, 3) := by decide +kernel
theorem dX3_field_95 : decode cX3_field 95 = .ok (.iload_n 1, 1) := by decide +kernel
theorem dX3_field_96 : decode cX3_field 96 = .ok (.iconst (-1), 1) := by decide +kernel
theorem dX3_field_97 : decode cX3_field 97 = .ok (.iconst 0, 1) := by decide +kernel
theorem dX3_field_98 : decode cX3_field 98 = .ok (.iconst 0, 1) := by decide +kernel
theorem dX3_field_99 : decode cX3_field 99 = .ok (.invokevirtual 135, 3) := by decide +kernel
theorem dX3_field_102 : decode cX3_field 102 = .ok (.iconst 3, 1) := by decide +kernel
theorem dX3_field_103 : decode cX3_field 103 = .ok (.invokevirtual 138, 3) := by decide +kernel
theorem dX3_field_106 : decode cX3_field 106 = .ok (.ireturn, 1) := by decide +kernel
theorem dX3_field_107 : decode cX3_field 107 = .ok (.iconst (-1), 1) := by decide +kernel
theorem dX3_field_108 : decode cX3_field 108 = .ok (.ireturn, 1) := by decide +kernel
set_option maxRecDepth 20000 in
theorem ggX3_mender_X3_isNoPlace : GoodIn wsX3_mender wsX3_isNoPlace := goodIn_r _ [6, 1, 7, 8, 9, 10, 11, 12, 13, 14, 15, 16, 17, 18, 19, 26, 27, 28, 29, 30, 31, 32, 33, 34, 35, 36, 37, 38, 39, 40, 41, 42, 43, 44, 45, 46, 47] (by decide +kernel) (by decide +kernel)
set_option maxRecDepth 20000 in
theorem gX3_mender_X3_isNoPlace : GoodIn wsX3_mender (wsV RX3 83 RX3 yX3_isNoPlace wsX3_isNoPlace) := goodIn_app (goodIn_of _ (by decide +kernel)) ggX3_mender_X3_isNoPlace
set_option maxRecDepth 20000 in
theorem ggX3_mender_X2_firstThatMends : GoodIn wsX3_mender wsX2_firstThatMends := goodIn_r _ [23, 24, 25, 35, 36, 37, 38] (by decide +kernel) (by decide +kernel)
set_option maxRecDepth 20000 in
theorem gX3_mender_X2_firstThatMends : GoodIn wsX3_mender (wsV RX3 119 RX2 yX2_firstThatMends wsX2_firstThatMends) := goodIn_app (goodIn_of _ (by decide +kernel)) ggX3_mender_X2_firstThatMends
theorem dX3_mender_0 : decode cX3_mender 0 = .ok (.aload_n 0, 1) := by decide +kernel
theorem dX3_mender_1 : decode cX3_mender 1 = .ok (.iload_n 1, 1) := by decide +kernel
theorem dX3_mender_2 : decode cX3_mender 2 = .ok (.iload_n 2, 1) := by decide +kernel
theorem dX3_mender_3 : decode cX3_mender 3 = .ok (.invokevirtual 83, 3) := by decide +kernel
theorem dX3_mender_6 : decode cX3_mender 6 = .ok (.ifCond .eq 5, 3) := by decide +kernel
theorem dX3_mender_9 : decode cX3_mender 9 = .ok (.iconst (-1), 1) := by decide +kernel
theorem dX3_mender_10 : decode cX3_mender 10 = .ok (.ireturn, 1) := by decide +kernel
theorem dX3_mender_11 : decode cX3_mender 11 = .ok (.aload_n 0, 1) := by decide +kernel
theorem dX3_mender_12 : decode cX3_mender 12 = .ok (.getfield 19, 3) := by decide +kernel
theorem dX3_mender_15 : decode cX3_mender 15 = .ok (.iload_n 1, 1) := by decide +kernel
theorem dX3_mender_16 : decode cX3_mender 16 = .ok (.iload_n 2, 1) := by decide +kernel
theorem dX3_mender_17 : decode cX3_mender 17 = .ok (.invokevirtual 119, 3) := by decide +kernel
theorem dX3_mender_20 : decode cX3_mender 20 = .ok (.ireturn, 1) := by decide +kernel
set_option maxRecDepth 20000 in
theorem ggX3_pipe_X3_isNoPlace : GoodIn wsX3_pipe wsX3_isNoPlace := goodIn_r _ [6, 7, 8, 9, 10, 11, 12, 13, 14, 15, 16, 17, 18, 19, 20, 43, 44, 45, 46, 47, 48, 49, 50, 51, 52, 53, 54, 55, 56, 57, 58, 59, 60, 61, 62, 63, 64] (by decide +kernel) (by decide +kernel)
set_option maxRecDepth 20000 in
theorem gX3_pipe_X3_isNoPlace : GoodIn wsX3_pipe (wsV RX3 83 RX3 yX3_isNoPlace wsX3_isNoPlace) := goodIn_app (goodIn_of _ (by decide +kernel)) ggX3_pipe_X3_isNoPlace
set_option maxRecDepth 20000 in
theorem ggX3_pipe_X3_flowOf : GoodIn wsX3_pipe wsX3_flowOf := goodIn_r _ [24, 7, 25, 26, 1, 27, 28, 43, 44, 45, 46, 47, 48, 49, 50, 51, 52, 53, 54, 55] (by decide +kernel) (by decide +kernel)
set_option maxRecDepth 20000 in
theorem gX3_pipe_X3_flowOf : GoodIn wsX3_pipe (wsV RX3 151 RX3 yX3_flowOf wsX3_flowOf) := goodIn_app (goodIn_of _ (by decide +kernel)) ggX3_pipe_X3_flowOf
set_option maxRecDepth 20000 in
theorem ggX3_pipe_X3_pipeOf : GoodIn wsX3_pipe wsX3_pipeOf := goodIn_r _ [32, 7, 27, 33, 21, 22, 23, 5, 24, 25, 26, 1, 28, 43, 44, 45, 46, 47, 48, 49, 50, 51, 52, 53, 54, 55] (by decide +kernel) (by decide +kernel)
set_option maxRecDepth 20000 in
theorem gX3_pipe_X3_pipeOf : GoodIn wsX3_pipe (wsV RX3 154 RX3 yX3_pipeOf wsX3_pipeOf) := goodIn_app (goodIn_of _ (by decide +kernel)) ggX3_pipe_X3_pipeOf
set_option maxRecDepth 20000 in
theorem ggX3_pipe_X3_wantOf : GoodIn wsX3_pipe wsX3_wantOf := goodIn_r _ [37, 38, 39, 40, 41, 42, 29, 30, 31, 5, 32, 7, 27, 33, 21, 22, 23, 24, 25, 26, 1, 28, 43, 44, 45, 46, 47, 48, 49, 50, 51, 52, 53, 54, 55] (by decide +kernel) (by decide +kernel)
set_option maxRecDepth 20000 in
theorem gX3_pipe_X3_wantOf : GoodIn wsX3_pipe (wsV RX3 128 RX3 yX3_wantOf wsX3_wantOf) := goodIn_app (goodIn_of _ (by decide +kernel)) ggX3_pipe_X3_wantOf
theorem dX3_pipe_0 : decode cX3_pipe 0 = .ok (.aload_n 0, 1) := by decide +kernel
theorem dX3_pipe_1 : decode cX3_pipe 1 = .ok (.iload_n 1, 1) := by decide +kernel
theorem dX3_pipe_2 : decode cX3_pipe 2 = .ok (.iload_n 2, 1) := by decide +kernel
theorem dX3_pipe_3 : decode cX3_pipe 3 = .ok (.invokevirtual 83, 3) := by decide +kernel
theorem dX3_pipe_6 : decode cX3_pipe 6 = .ok (.ifCond .eq 5, 3) := by decide +kernel
theorem dX3_pipe_9 : decode cX3_pipe 9 = .ok (.iconst (-1), 1) := by decide +kernel
theorem dX3_pipe_10 : decode cX3_pipe 10 = .ok (.ireturn, 1) := by decide +kernel
theorem dX3_pipe_11 : decode cX3_pipe 11 = .ok (.iload_n 3, 1) := by decide +kernel
theorem dX3_pipe_12 : decode cX3_pipe 12 = .ok (.tableswitch 62 0 3 #[32, 39, 46, 53], 32) := by decide +kernel
theorem dX3_pipe_44 : decode cX3_pipe 44 = .ok (.aload_n 0, 1) := by decide +kernel
theorem dX3_pipe_45 : decode cX3_pipe 45 = .ok (.iload_n 1, 1) := by decide +kernel
theorem dX3_pipe_46 : decode cX3_pipe 46 = .ok (.iload_n 2, 1) := by decide +kernel
theorem dX3_pipe_47 : decode cX3_pipe 47 = .ok (.invokevirtual 151, 3) := by decide +kernel
theorem dX3_pipe_50 : decode cX3_pipe 50 = .ok (.ireturn, 1) := by decide +kernel
theorem dX3_pipe_51 : decode cX3_pipe 51 = .ok (.aload_n 0, 1) := by decide +kernel
theorem dX3_pipe_52 : decode cX3_pipe 52 = .ok (.iload_n 1, 1) := by decide +kernel
theorem dX3_pipe_53 : decode cX3_pipe 53 = .ok (.iload_n 2, 1) := by decide +kernel
theorem dX3_pipe_54 : decode cX3_pipe 54 = .ok (.invokevirtual 154, 3) := by decide +kernel
theorem dX3_pipe_57 : decode cX3_pipe 57 = .ok (.ireturn, 1) := by decide +kernel
theorem dX3_pipe_58 : decode cX3_pipe 58 = .ok (.aload_n 0, 1) := by decide +kernel
theorem dX3_pipe_59 : decode cX3_pipe 59 = .ok (.iload_n 1, 1) := by decide +kernel
theorem dX3_pipe_60 : decode cX3_pipe 60 = .ok (.iload_n 2, 1) := by decide +kernel
theorem dX3_pipe_61 : decode cX3_pipe 61 = .ok (.invokevirtual 128, 3) := by decide +kernel
theorem dX3_pipe_64 : decode cX3_pipe 64 = .ok (.ireturn, 1) := by decide +kernel
theorem dX3_pipe_65 : decode cX3_pipe 65 = .ok (.aload_n 0, 1) := by decide +kernel
theorem dX3_pipe_66 : decode cX3_pipe 66 = .ok (.getfield 28, 3) := by decide +kernel
theorem dX3_pipe_69 : decode cX3_pipe 69 = .ok (.iload_n 1, 1) := by decide +kernel
theorem dX3_pipe_70 : decode cX3_pipe 70 = .ok (.aaload, 1) := by decide +kernel
theorem dX3_pipe_71 : decode cX3_pipe 71 = .ok (.iload_n 2, 1) := by decide +kernel
theorem dX3_pipe_72 : decode cX3_pipe 72 = .ok (.iaload, 1) := by decide +kernel
theorem dX3_pipe_73 : decode cX3_pipe 73 = .ok (.ireturn, 1) := by decide +kernel
theorem dX3_pipe_74 : decode cX3_pipe 74 = .ok (.iconst (-1), 1) := by decide +kernel
theorem dX3_pipe_75 : decode cX3_pipe 75 = .ok (.ireturn, 1) := by decide +kernel
theorem dX3_worth_0 : decode cX3_worth 0 = .ok (.iconst 0, 1) := by decide +kernel
theorem dX3_worth_1 : decode cX3_worth 1 = .ok (.istore_n 1, 1) := by decide +kernel
theorem dX3_worth_2 : decode cX3_worth 2 = .ok (.iconst 0, 1) := by decide +kernel
theorem dX3_worth_3 : decode cX3_worth 3 = .ok (.istore_n 2, 1) := by decide +kernel
theorem dX3_worth_4 : decode cX3_worth 4 = .ok (.iload_n 2, 1) := by decide +kernel
theorem dX3_worth_5 : decode cX3_worth 5 = .ok (.aload_n 0, 1) := by decide +kernel
theorem dX3_worth_6 : decode cX3_worth 6 = .ok (.getfield 10, 3) := by decide +kernel
theorem dX3_worth_9 : decode cX3_worth 9 = .ok (.getfield 60, 3) := by decide +kernel
theorem dX3_worth_12 : decode cX3_worth 12 = .ok (.if_icmp .ge 41, 3) := by decide +kernel
theorem dX3_worth_15 : decode cX3_worth 15 = .ok (.iload_n 1, 1) := by decide +kernel
theorem dX3_worth_16 : decode cX3_worth 16 = .ok (.aload_n 0, 1) := by decide +kernel
theorem dX3_worth_17 : decode cX3_worth 17 = .ok (.getfield 10, 3) := by decide +kernel
theorem dX3_worth_20 : decode cX3_worth 20 = .ok (.getfield 63, 3) := by decide +kernel
theorem dX3_worth_23 : decode cX3_worth 23 = .ok (.iload_n 2, 1) := by decide +kernel
theorem dX3_worth_24 : decode cX3_worth 24 = .ok (.iaload, 1) := by decide +kernel
theorem dX3_worth_25 : decode cX3_worth 25 = .ok (.aload_n 0, 1) := by decide +kernel
theorem dX3_worth_26 : decode cX3_worth 26 = .ok (.getfield 10, 3) := by decide +kernel
theorem dX3_worth_29 : decode cX3_worth 29 = .ok (.getfield 91, 3) := by decide +kernel
theorem dX3_worth_32 : decode cX3_worth 32 = .ok (.iload_n 2, 1) := by decide +kernel
theorem dX3_worth_33 : decode cX3_worth 33 = .ok (.iaload, 1) := by decide +kernel
theorem dX3_worth_34 : decode cX3_worth 34 = .ok (.aload_n 0, 1) := by decide +kernel
theorem dX3_worth_35 : decode cX3_worth 35 = .ok (.getfield 10, 3) := by decide +kernel
theorem dX3_worth_38 : decode cX3_worth 38 = .ok (.getfield 105, 3) := by decide +kernel
theorem dX3_worth_41 : decode cX3_worth 41 = .ok (.iload_n 2, 1) := by decide +kernel
theorem dX3_worth_42 : decode cX3_worth 42 = .ok (.iaload, 1) := by decide +kernel
theorem dX3_worth_43 : decode cX3_worth 43 = .ok (.isub, 1) := by decide +kernel
theorem dX3_worth_44 : decode cX3_worth 44 = .ok (.imul, 1) := by decide +kernel
theorem dX3_worth_45 : decode cX3_worth 45 = .ok (.iadd, 1) := by decide +kernel
theorem dX3_worth_46 : decode cX3_worth 46 = .ok (.istore_n 1, 1) := by decide +kernel
theorem dX3_worth_47 : decode cX3_worth 47 = .ok (.iinc 2 1, 3) := by decide +kernel
theorem dX3_worth_50 : decode cX3_worth 50 = .ok (.goto (-46), 3) := by decide +kernel
theorem dX3_worth_53 : decode cX3_worth 53 = .ok (.iload_n 1, 1) := by decide +kernel
theorem dX3_worth_54 : decode cX3_worth 54 = .ok (.ireturn, 1) := by decide +kernel
set_option maxRecDepth 20000 in
theorem ggX3_count_X1_tally : GoodIn wsX3_count wsX1_tally := goodIn_r _ [13, 14, 15, 16, 17, 12, 18, 19, 48, 49] (by decide +kernel) (by decide +kernel)
set_option maxRecDepth 20000 in
theorem gX3_count_X1_tally : GoodIn wsX3_count (wsV RX3 131 RX1 yX1_tally wsX1_tally) := goodIn_app (goodIn_of _ (by decide +kernel)) ggX3_count_X1_tally
set_option maxRecDepth 20000 in
theorem ggX3_count_X3_stoodOfAll : GoodIn wsX3_count wsX3_stoodOfAll := goodIn_r _ [24, 3, 4, 25, 26, 27, 28, 29, 30, 31, 32, 33, 34, 44, 45, 46, 47] (by decide +kernel) (by decide +kernel)
end
section
set_option maxRecDepth 20000 in
theorem gX3_count_X3_stoodOfAll : GoodIn wsX3_count (wsV RX3 157 RX3 yX3_stoodOfAll wsX3_stoodOfAll) := goodIn_app (goodIn_of _ (by decide +kernel)) ggX3_count_X3_stoodOfAll
theorem dX3_count_0 : decode cX3_count 0 = .ok (.iload_n 1, 1) := by decide +kernel
theorem dX3_count_1 : decode cX3_count 1 = .ok (.tableswitch 97 0 6 #[43, 51, 59, 64, 72, 80, 92], 43) := by decide +kernel
theorem dX3_count_44 : decode cX3_count 44 = .ok (.aload_n 0, 1) := by decide +kernel
theorem dX3_count_45 : decode cX3_count 45 = .ok (.getfield 10, 3) := by decide +kernel
theorem dX3_count_48 : decode cX3_count 48 = .ok (.getfield 60, 3) := by decide +kernel
theorem dX3_count_51 : decode cX3_count 51 = .ok (.ireturn, 1) := by decide +kernel
theorem dX3_count_52 : decode cX3_count 52 = .ok (.aload_n 0, 1) := by decide +kernel
theorem dX3_count_53 : decode cX3_count 53 = .ok (.getfield 19, 3) := by decide +kernel
theorem dX3_count_56 : decode cX3_count 56 = .ok (.getfield 76, 3) := by decide +kernel
theorem dX3_count_59 : decode cX3_count 59 = .ok (.ireturn, 1) := by decide +kernel
theorem dX3_count_60 : decode cX3_count 60 = .ok (.aload_n 0, 1) := by decide +kernel
theorem dX3_count_61 : decode cX3_count 61 = .ok (.getfield 48, 3) := by decide +kernel
theorem dX3_count_64 : decode cX3_count 64 = .ok (.ireturn, 1) := by decide +kernel
theorem dX3_count_65 : decode cX3_count 65 = .ok (.aload_n 0, 1) := by decide +kernel
theorem dX3_count_66 : decode cX3_count 66 = .ok (.getfield 41, 3) := by decide +kernel
theorem dX3_count_69 : decode cX3_count 69 = .ok (.getfield 98, 3) := by decide +kernel
theorem dX3_count_72 : decode cX3_count 72 = .ok (.ireturn, 1) := by decide +kernel
theorem dX3_count_73 : decode cX3_count 73 = .ok (.aload_n 0, 1) := by decide +kernel
theorem dX3_count_74 : decode cX3_count 74 = .ok (.getfield 45, 3) := by decide +kernel
theorem dX3_count_77 : decode cX3_count 77 = .ok (.getfield 98, 3) := by decide +kernel
theorem dX3_count_80 : decode cX3_count 80 = .ok (.ireturn, 1) := by decide +kernel
theorem dX3_count_81 : decode cX3_count 81 = .ok (.aload_n 0, 1) := by decide +kernel
theorem dX3_count_82 : decode cX3_count 82 = .ok (.getfield 41, 3) := by decide +kernel
theorem dX3_count_85 : decode cX3_count 85 = .ok (.iconst (-1), 1) := by decide +kernel
theorem dX3_count_86 : decode cX3_count 86 = .ok (.iconst (-1), 1) := by decide +kernel
theorem dX3_count_87 : decode cX3_count 87 = .ok (.iconst 0, 1) := by decide +kernel
theorem dX3_count_88 : decode cX3_count 88 = .ok (.iconst (-1), 1) := by decide +kernel
theorem dX3_count_89 : decode cX3_count 89 = .ok (.invokevirtual 131, 3) := by decide +kernel
theorem dX3_count_92 : decode cX3_count 92 = .ok (.ireturn, 1) := by decide +kernel
theorem dX3_count_93 : decode cX3_count 93 = .ok (.aload_n 0, 1) := by decide +kernel
theorem dX3_count_94 : decode cX3_count 94 = .ok (.invokevirtual 157, 3) := by decide +kernel
theorem dX3_count_97 : decode cX3_count 97 = .ok (.ireturn, 1) := by decide +kernel
theorem dX3_count_98 : decode cX3_count 98 = .ok (.iconst (-1), 1) := by decide +kernel
theorem dX3_count_99 : decode cX3_count 99 = .ok (.ireturn, 1) := by decide +kernel
theorem dX3_isOutside_0 : decode cX3_isOutside 0 = .ok (.iload_n 0, 1) := by decide +kernel
theorem dX3_isOutside_1 : decode cX3_isOutside 1 = .ok (.iload_n 1, 1) := by decide +kernel
theorem dX3_isOutside_2 : decode cX3_isOutside 2 = .ok (.if_icmp .lt 8, 3) := by decide +kernel
theorem dX3_isOutside_5 : decode cX3_isOutside 5 = .ok (.iload_n 0, 1) := by decide +kernel
theorem dX3_isOutside_6 : decode cX3_isOutside 6 = .ok (.iload_n 2, 1) := by decide +kernel
theorem dX3_isOutside_7 : decode cX3_isOutside 7 = .ok (.if_icmp .le 7, 3) := by decide +kernel
theorem dX3_isOutside_10 : decode cX3_isOutside 10 = .ok (.iconst 1, 1) := by decide +kernel
theorem dX3_isOutside_11 : decode cX3_isOutside 11 = .ok (.goto 4, 3) := by decide +kernel
theorem dX3_isOutside_14 : decode cX3_isOutside 14 = .ok (.iconst 0, 1) := by decide +kernel
theorem dX3_isOutside_15 : decode cX3_isOutside 15 = .ok (.ireturn, 1) := by decide +kernel
set_option maxRecDepth 20000 in
theorem ggX3_isNoPlace_X2_has : GoodIn wsX3_isNoPlace wsX2_has := goodIn_r _ [7, 8, 24, 25, 26, 27] (by decide +kernel) (by decide +kernel)
set_option maxRecDepth 20000 in
theorem gX3_isNoPlace_X2_has : GoodIn wsX3_isNoPlace (wsV RX3 75 RX2 yX2_has wsX2_has) := goodIn_app (goodIn_of _ (by decide +kernel)) ggX3_isNoPlace_X2_has
set_option maxRecDepth 20000 in
theorem ggX3_isNoPlace_X0_has : GoodIn wsX3_isNoPlace wsX0_has := goodIn_r _ [13, 14, 28, 29, 30, 31, 32, 33, 34, 35, 36] (by decide +kernel) (by decide +kernel)
set_option maxRecDepth 20000 in
theorem gX3_isNoPlace_X0_has : GoodIn wsX3_isNoPlace (wsV RX3 56 RX0 yX0_has wsX0_has) := goodIn_app (goodIn_of _ (by decide +kernel)) ggX3_isNoPlace_X0_has
theorem dX3_isNoPlace_0 : decode cX3_isNoPlace 0 = .ok (.aload_n 0, 1) := by decide +kernel
theorem dX3_isNoPlace_1 : decode cX3_isNoPlace 1 = .ok (.getfield 19, 3) := by decide +kernel
theorem dX3_isNoPlace_4 : decode cX3_isNoPlace 4 = .ok (.iload_n 1, 1) := by decide +kernel
theorem dX3_isNoPlace_5 : decode cX3_isNoPlace 5 = .ok (.invokevirtual 75, 3) := by decide +kernel
theorem dX3_isNoPlace_8 : decode cX3_isNoPlace 8 = .ok (.ifCond .eq 14, 3) := by decide +kernel
theorem dX3_isNoPlace_11 : decode cX3_isNoPlace 11 = .ok (.aload_n 0, 1) := by decide +kernel
theorem dX3_isNoPlace_12 : decode cX3_isNoPlace 12 = .ok (.getfield 10, 3) := by decide +kernel
theorem dX3_isNoPlace_15 : decode cX3_isNoPlace 15 = .ok (.iload_n 2, 1) := by decide +kernel
theorem dX3_isNoPlace_16 : decode cX3_isNoPlace 16 = .ok (.invokevirtual 56, 3) := by decide +kernel
theorem dX3_isNoPlace_19 : decode cX3_isNoPlace 19 = .ok (.ifCond .ne 7, 3) := by decide +kernel
theorem dX3_isNoPlace_22 : decode cX3_isNoPlace 22 = .ok (.iconst 1, 1) := by decide +kernel
theorem dX3_isNoPlace_23 : decode cX3_isNoPlace 23 = .ok (.goto 4, 3) := by decide +kernel
theorem dX3_isNoPlace_26 : decode cX3_isNoPlace 26 = .ok (.iconst 0, 1) := by decide +kernel
theorem dX3_isNoPlace_27 : decode cX3_isNoPlace 27 = .ok (.ireturn, 1) := by decide +kernel
set_option maxRecDepth 20000 in
theorem ggX3_mendsThatWait_X1_tally : GoodIn wsX3_mendsThatWait wsX1_tally := goodIn_r _ [6, 7, 8, 9, 10, 5, 11, 12, 22, 23] (by decide +kernel) (by decide +kernel)
set_option maxRecDepth 20000 in
theorem gX3_mendsThatWait_X1_tally : GoodIn wsX3_mendsThatWait (wsV RX3 131 RX1 yX1_tally wsX1_tally) := goodIn_app (goodIn_of _ (by decide +kernel)) ggX3_mendsThatWait_X1_tally
theorem dX3_mendsThatWait_0 : decode cX3_mendsThatWait 0 = .ok (.aload_n 0, 1) := by decide +kernel
theorem dX3_mendsThatWait_1 : decode cX3_mendsThatWait 1 = .ok (.getfield 41, 3) := by decide +kernel
theorem dX3_mendsThatWait_4 : decode cX3_mendsThatWait 4 = .ok (.iload_n 1, 1) := by decide +kernel
theorem dX3_mendsThatWait_5 : decode cX3_mendsThatWait 5 = .ok (.iconst (-1), 1) := by decide +kernel
theorem dX3_mendsThatWait_6 : decode cX3_mendsThatWait 6 = .ok (.iconst 2, 1) := by decide +kernel
theorem dX3_mendsThatWait_7 : decode cX3_mendsThatWait 7 = .ok (.iload_n 2, 1) := by decide +kernel
theorem dX3_mendsThatWait_8 : decode cX3_mendsThatWait 8 = .ok (.invokevirtual 131, 3) := by decide +kernel
theorem dX3_mendsThatWait_11 : decode cX3_mendsThatWait 11 = .ok (.ireturn, 1) := by decide +kernel
theorem dX3_takesGood_0 : decode cX3_takesGood 0 = .ok (.aload_n 0, 1) := by decide +kernel
theorem dX3_takesGood_1 : decode cX3_takesGood 1 = .ok (.getfield 25, 3) := by decide +kernel
theorem dX3_takesGood_4 : decode cX3_takesGood 4 = .ok (.iload_n 1, 1) := by decide +kernel
theorem dX3_takesGood_5 : decode cX3_takesGood 5 = .ok (.aaload, 1) := by decide +kernel
theorem dX3_takesGood_6 : decode cX3_takesGood 6 = .ok (.iload_n 2, 1) := by decide +kernel
theorem dX3_takesGood_7 : decode cX3_takesGood 7 = .ok (.iaload, 1) := by decide +kernel
theorem dX3_takesGood_8 : decode cX3_takesGood 8 = .ok (.ifCond .ne 5, 3) := by decide +kernel
theorem dX3_takesGood_11 : decode cX3_takesGood 11 = .ok (.iconst 0, 1) := by decide +kernel
theorem dX3_takesGood_12 : decode cX3_takesGood 12 = .ok (.ireturn, 1) := by decide +kernel
theorem dX3_takesGood_13 : decode cX3_takesGood 13 = .ok (.aload_n 0, 1) := by decide +kernel
theorem dX3_takesGood_14 : decode cX3_takesGood 14 = .ok (.getfield 25, 3) := by decide +kernel
theorem dX3_takesGood_17 : decode cX3_takesGood 17 = .ok (.iload_n 1, 1) := by decide +kernel
theorem dX3_takesGood_18 : decode cX3_takesGood 18 = .ok (.aaload, 1) := by decide +kernel
theorem dX3_takesGood_19 : decode cX3_takesGood 19 = .ok (.iload_n 2, 1) := by decide +kernel
theorem dX3_takesGood_20 : decode cX3_takesGood 20 = .ok (.dup2, 1) := by decide +kernel
theorem dX3_takesGood_21 : decode cX3_takesGood 21 = .ok (.iaload, 1) := by decide +kernel
theorem dX3_takesGood_22 : decode cX3_takesGood 22 = .ok (.iconst 1, 1) := by decide +kernel
theorem dX3_takesGood_23 : decode cX3_takesGood 23 = .ok (.isub, 1) := by decide +kernel
theorem dX3_takesGood_24 : decode cX3_takesGood 24 = .ok (.iastore, 1) := by decide +kernel
theorem dX3_takesGood_25 : decode cX3_takesGood 25 = .ok (.iconst 1, 1) := by decide +kernel
theorem dX3_takesGood_26 : decode cX3_takesGood 26 = .ok (.ireturn, 1) := by decide +kernel
set_option maxRecDepth 20000 in
theorem ggX3_servesMachine_X3_takesGood : GoodIn wsX3_servesMachine wsX3_takesGood := goodIn_r _ [9, 10, 37, 38, 39, 40, 41, 42, 43, 44, 45] (by decide +kernel) (by decide +kernel)
set_option maxRecDepth 20000 in
theorem gX3_servesMachine_X3_takesGood : GoodIn wsX3_servesMachine (wsV RX3 161 RX3 yX3_takesGood wsX3_takesGood) := goodIn_app (goodIn_of _ (by decide +kernel)) ggX3_servesMachine_X3_takesGood
set_option maxRecDepth 20000 in
theorem ggX3_servesMachine_X1_add : GoodIn wsX3_servesMachine wsX1_add := goodIn_r _ [15, 16, 17, 18, 19, 20, 21, 22, 23, 24, 25, 26, 27, 28, 29, 30, 31, 32, 33, 34, 35, 36, 55, 56] (by decide +kernel) (by decide +kernel)
set_option maxRecDepth 20000 in
theorem gX3_servesMachine_X1_add : GoodIn wsX3_servesMachine (wsV RX3 112 RX1 yX1_add wsX1_add) := goodIn_app (goodIn_of _ (by decide +kernel)) ggX3_servesMachine_X1_add
theorem dX3_servesMachine_0 : decode cX3_servesMachine 0 = .ok (.aload_n 0, 1) := by decide +kernel
theorem dX3_servesMachine_1 : decode cX3_servesMachine 1 = .ok (.iload_n 1, 1) := by decide +kernel
theorem dX3_servesMachine_2 : decode cX3_servesMachine 2 = .ok (.iload_n 2, 1) := by decide +kernel
theorem dX3_servesMachine_3 : decode cX3_servesMachine 3 = .ok (.invokevirtual 161, 3) := by decide +kernel
theorem dX3_servesMachine_6 : decode cX3_servesMachine 6 = .ok (.ifCond .eq 18, 3) := by decide +kernel
theorem dX3_servesMachine_9 : decode cX3_servesMachine 9 = .ok (.aload_n 0, 1) := by decide +kernel
theorem dX3_servesMachine_10 : decode cX3_servesMachine 10 = .ok (.getfield 10, 3) := by decide +kernel
theorem dX3_servesMachine_13 : decode cX3_servesMachine 13 = .ok (.getfield 145, 3) := by decide +kernel
theorem dX3_servesMachine_16 : decode cX3_servesMachine 16 = .ok (.iload_n 2, 1) := by decide +kernel
theorem dX3_servesMachine_17 : decode cX3_servesMachine 17 = .ok (.dup2, 1) := by decide +kernel
theorem dX3_servesMachine_18 : decode cX3_servesMachine 18 = .ok (.iaload, 1) := by decide +kernel
theorem dX3_servesMachine_19 : decode cX3_servesMachine 19 = .ok (.iconst 1, 1) := by decide +kernel
theorem dX3_servesMachine_20 : decode cX3_servesMachine 20 = .ok (.iadd, 1) := by decide +kernel
theorem dX3_servesMachine_21 : decode cX3_servesMachine 21 = .ok (.iastore, 1) := by decide +kernel
theorem dX3_servesMachine_22 : decode cX3_servesMachine 22 = .ok (.iconst 1, 1) := by decide +kernel
theorem dX3_servesMachine_23 : decode cX3_servesMachine 23 = .ok (.ireturn, 1) := by decide +kernel
theorem dX3_servesMachine_24 : decode cX3_servesMachine 24 = .ok (.aload_n 0, 1) := by decide +kernel
theorem dX3_servesMachine_25 : decode cX3_servesMachine 25 = .ok (.getfield 41, 3) := by decide +kernel
theorem dX3_servesMachine_28 : decode cX3_servesMachine 28 = .ok (.iload_n 1, 1) := by decide +kernel
theorem dX3_servesMachine_29 : decode cX3_servesMachine 29 = .ok (.iload_n 2, 1) := by decide +kernel
theorem dX3_servesMachine_30 : decode cX3_servesMachine 30 = .ok (.iconst 0, 1) := by decide +kernel
theorem dX3_servesMachine_31 : decode cX3_servesMachine 31 = .ok (.aload_n 0, 1) := by decide +kernel
theorem dX3_servesMachine_32 : decode cX3_servesMachine 32 = .ok (.getfield 48, 3) := by decide +kernel
theorem dX3_servesMachine_35 : decode cX3_servesMachine 35 = .ok (.iconst (-1), 1) := by decide +kernel
theorem dX3_servesMachine_36 : decode cX3_servesMachine 36 = .ok (.invokevirtual 112, 3) := by decide +kernel
theorem dX3_servesMachine_39 : decode cX3_servesMachine 39 = .ok (.iconst 0, 1) := by decide +kernel
theorem dX3_servesMachine_40 : decode cX3_servesMachine 40 = .ok (.ireturn, 1) := by decide +kernel
set_option maxRecDepth 20000 in
theorem ggX3_lands_X1_find : GoodIn wsX3_lands wsX1_find := goodIn_r _ [9, 10, 11, 12, 13, 8, 14, 15, 111, 112] (by decide +kernel) (by decide +kernel)
set_option maxRecDepth 20000 in
theorem gX3_lands_X1_find : GoodIn wsX3_lands (wsV RX3 135 RX1 yX1_find wsX1_find) := goodIn_app (goodIn_of _ (by decide +kernel)) ggX3_lands_X1_find
set_option maxRecDepth 20000 in
theorem ggX3_lands_X1_read : GoodIn wsX3_lands wsX1_read := goodIn_r _ [19, 10, 15, 111, 112] (by decide +kernel) (by decide +kernel)
set_option maxRecDepth 20000 in
theorem gX3_lands_X1_read : GoodIn wsX3_lands (wsV RX3 138 RX1 yX1_read wsX1_read) := goodIn_app (goodIn_of _ (by decide +kernel)) ggX3_lands_X1_read
set_option maxRecDepth 20000 in
theorem ggX3_lands_X1_drop : GoodIn wsX3_lands wsX1_drop := goodIn_r _ [23, 10, 15, 24, 25, 26, 27, 111, 112] (by decide +kernel) (by decide +kernel)
set_option maxRecDepth 20000 in
theorem gX3_lands_X1_drop : GoodIn wsX3_lands (wsV RX3 164 RX1 yX1_drop wsX1_drop) := goodIn_app (goodIn_of _ (by decide +kernel)) ggX3_lands_X1_drop
set_option maxRecDepth 20000 in
theorem ggX3_lands_X3_goesDown : GoodIn wsX3_lands wsX3_goesDown := goodIn_r _ [32, 33, 34, 35, 36, 37, 38, 39, 8, 40, 10, 15, 41, 42, 43, 44, 45, 46, 47, 48, 49, 50, 51, 52, 53, 54, 55, 56, 25, 26, 27, 93, 94, 95, 96, 97, 98, 99, 100, 101, 113, 114, 115, 116, 111, 112] (by decide +kernel) (by decide +kernel)
set_option maxRecDepth 20000 in
theorem gX3_lands_X3_goesDown : GoodIn wsX3_lands (wsV RX3 168 RX3 yX3_goesDown wsX3_goesDown) := goodIn_app (goodIn_of _ (by decide +kernel)) ggX3_lands_X3_goesDown
set_option maxRecDepth 20000 in
theorem ggX3_lands_X3_mendGetsCore : GoodIn wsX3_lands wsX3_mendGetsCore := goodIn_r _ [60, 3, 61, 62, 35, 63, 64, 65, 66, 67, 68, 69, 70, 71, 72, 31, 73, 33, 34, 74, 37, 38, 39, 8, 40, 10, 15, 41, 42, 43, 44, 45, 46, 47, 48, 49, 50, 51, 52, 53, 54, 55, 56, 25, 26, 27, 75, 76, 77, 78, 79, 80, 81, 82, 83, 84, 85, 86, 87, 88, 1, 89, 90, 91, 92, 2, 28, 29, 30, 32, 36, 93, 94, 95, 96, 97, 98, 99, 100, 101, 102, 103, 104, 105, 106, 107, 108, 109, 110, 113, 114, 115, 116, 111, 112] (by decide +kernel) (by decide +kernel)
set_option maxRecDepth 20000 in
theorem gX3_lands_X3_mendGetsCore : GoodIn wsX3_lands (wsV RX3 171 RX3 yX3_mendGetsCore wsX3_mendGetsCore) := goodIn_app (goodIn_of _ (by decide +kernel)) ggX3_lands_X3_mendGetsCore
theorem dX3_lands_0 : decode cX3_lands 0 = .ok (.aload_n 0, 1) := by decide +kernel
theorem dX3_lands_1 : decode cX3_lands 1 = .ok (.getfield 41, 3) := by decide +kernel
theorem dX3_lands_4 : decode cX3_lands 4 = .ok (.iload_n 1, 1) := by decide +kernel
theorem dX3_lands_5 : decode cX3_lands 5 = .ok (.iload_n 2, 1) := by decide +kernel
theorem dX3_lands_6 : decode cX3_lands 6 = .ok (.iconst (-1), 1) := by decide +kernel
theorem dX3_lands_7 : decode cX3_lands 7 = .ok (.iconst 0, 1) := by decide +kernel
theorem dX3_lands_8 : decode cX3_lands 8 = .ok (.invokevirtual 135, 3) := by decide +kernel
theorem dX3_lands_11 : decode cX3_lands 11 = .ok (.istore_n 3, 1) := by decide +kernel
theorem dX3_lands_12 : decode cX3_lands 12 = .ok (.iload_n 3, 1) := by decide +kernel
theorem dX3_lands_13 : decode cX3_lands 13 = .ok (.iconst (-1), 1) := by decide +kernel
theorem dX3_lands_14 : decode cX3_lands 14 = .ok (.if_icmp .ne 16, 3) := by decide +kernel
theorem dX3_lands_17 : decode cX3_lands 17 = .ok (.aload_n 0, 1) := by decide +kernel
theorem dX3_lands_18 : decode cX3_lands 18 = .ok (.getfield 25, 3) := by decide +kernel
theorem dX3_lands_21 : decode cX3_lands 21 = .ok (.iload_n 1, 1) := by decide +kernel
theorem dX3_lands_22 : decode cX3_lands 22 = .ok (.aaload, 1) := by decide +kernel
theorem dX3_lands_23 : decode cX3_lands 23 = .ok (.iload_n 2, 1) := by decide +kernel
theorem dX3_lands_24 : decode cX3_lands 24 = .ok (.dup2, 1) := by decide +kernel
theorem dX3_lands_25 : decode cX3_lands 25 = .ok (.iaload, 1) := by decide +kernel
theorem dX3_lands_26 : decode cX3_lands 26 = .ok (.iconst 1, 1) := by decide +kernel
theorem dX3_lands_27 : decode cX3_lands 27 = .ok (.iadd, 1) := by decide +kernel
theorem dX3_lands_28 : decode cX3_lands 28 = .ok (.iastore, 1) := by decide +kernel
theorem dX3_lands_29 : decode cX3_lands 29 = .ok (.return_, 1) := by decide +kernel
theorem dX3_lands_30 : decode cX3_lands 30 = .ok (.aload_n 0, 1) := by decide +kernel
theorem dX3_lands_31 : decode cX3_lands 31 = .ok (.getfield 41, 3) := by decide +kernel
theorem dX3_lands_34 : decode cX3_lands 34 = .ok (.iload_n 3, 1) := by decide +kernel
theorem dX3_lands_35 : decode cX3_lands 35 = .ok (.iconst 2, 1) := by decide +kernel
theorem dX3_lands_36 : decode cX3_lands 36 = .ok (.invokevirtual 138, 3) := by decide +kernel
theorem dX3_lands_39 : decode cX3_lands 39 = .ok (.istore 4, 2) := by decide +kernel
theorem dX3_lands_41 : decode cX3_lands 41 = .ok (.aload_n 0, 1) := by decide +kernel
theorem dX3_lands_42 : decode cX3_lands 42 = .ok (.getfield 41, 3) := by decide +kernel
theorem dX3_lands_45 : decode cX3_lands 45 = .ok (.iload_n 3, 1) := by decide +kernel
theorem dX3_lands_46 : decode cX3_lands 46 = .ok (.iconst 4, 1) := by decide +kernel
theorem dX3_lands_47 : decode cX3_lands 47 = .ok (.invokevirtual 138, 3) := by decide +kernel
theorem dX3_lands_50 : decode cX3_lands 50 = .ok (.istore 5, 2) := by decide +kernel
theorem dX3_lands_52 : decode cX3_lands 52 = .ok (.aload_n 0, 1) := by decide +kernel
theorem dX3_lands_53 : decode cX3_lands 53 = .ok (.getfield 41, 3) := by decide +kernel
theorem dX3_lands_56 : decode cX3_lands 56 = .ok (.iload_n 3, 1) := by decide +kernel
theorem dX3_lands_57 : decode cX3_lands 57 = .ok (.invokevirtual 164, 3) := by decide +kernel
theorem dX3_lands_60 : decode cX3_lands 60 = .ok (.iload 4, 2) := by decide +kernel
theorem dX3_lands_62 : decode cX3_lands 62 = .ok (.ifCond .ne 19, 3) := by decide +kernel
theorem dX3_lands_65 : decode cX3_lands 65 = .ok (.aload_n 0, 1) := by decide +kernel
theorem dX3_lands_66 : decode cX3_lands 66 = .ok (.getfield 10, 3) := by decide +kernel
theorem dX3_lands_69 : decode cX3_lands 69 = .ok (.getfield 145, 3) := by decide +kernel
theorem dX3_lands_72 : decode cX3_lands 72 = .ok (.iload_n 2, 1) := by decide +kernel
theorem dX3_lands_73 : decode cX3_lands 73 = .ok (.dup2, 1) := by decide +kernel
theorem dX3_lands_74 : decode cX3_lands 74 = .ok (.iaload, 1) := by decide +kernel
theorem dX3_lands_75 : decode cX3_lands 75 = .ok (.iconst 1, 1) := by decide +kernel
theorem dX3_lands_76 : decode cX3_lands 76 = .ok (.iadd, 1) := by decide +kernel
theorem dX3_lands_77 : decode cX3_lands 77 = .ok (.iastore, 1) := by decide +kernel
theorem dX3_lands_78 : decode cX3_lands 78 = .ok (.goto 27, 3) := by decide +kernel
theorem dX3_lands_81 : decode cX3_lands 81 = .ok (.iload 4, 2) := by decide +kernel
theorem dX3_lands_83 : decode cX3_lands 83 = .ok (.iconst 1, 1) := by decide +kernel
theorem dX3_lands_84 : decode cX3_lands 84 = .ok (.if_icmp .ne 13, 3) := by decide +kernel
theorem dX3_lands_87 : decode cX3_lands 87 = .ok (.aload_n 0, 1) := by decide +kernel
theorem dX3_lands_88 : decode cX3_lands 88 = .ok (.iload 5, 2) := by decide +kernel
theorem dX3_lands_90 : decode cX3_lands 90 = .ok (.iload_n 2, 1) := by decide +kernel
theorem dX3_lands_91 : decode cX3_lands 91 = .ok (.invokevirtual 168, 3) := by decide +kernel
theorem dX3_lands_94 : decode cX3_lands 94 = .ok (.goto 11, 3) := by decide +kernel
theorem dX3_lands_97 : decode cX3_lands 97 = .ok (.aload_n 0, 1) := by decide +kernel
theorem dX3_lands_98 : decode cX3_lands 98 = .ok (.iload_n 1, 1) := by decide +kernel
theorem dX3_lands_99 : decode cX3_lands 99 = .ok (.iload_n 2, 1) := by decide +kernel
theorem dX3_lands_100 : decode cX3_lands 100 = .ok (.iload 5, 2) := by decide +kernel
theorem dX3_lands_102 : decode cX3_lands 102 = .ok (.invokevirtual 171, 3) := by decide +kernel
theorem dX3_lands_105 : decode cX3_lands 105 = .ok (.return_, 1) := by decide +kernel
set_option maxRecDepth 20000 in
theorem ggX3_goesDown_X1_add : GoodIn wsX3_goesDown wsX1_add := goodIn_r _ [9, 10, 11, 12, 13, 14, 15, 16, 17, 18, 19, 20, 21, 22, 23, 24, 25, 26, 27, 28, 29, 30, 44, 45] (by decide +kernel) (by decide +kernel)
set_option maxRecDepth 20000 in
theorem gX3_goesDown_X1_add : GoodIn wsX3_goesDown (wsV RX3 112 RX1 yX1_add wsX1_add) := goodIn_app (goodIn_of _ (by decide +kernel)) ggX3_goesDown_X1_add
theorem dX3_goesDown_0 : decode cX3_goesDown 0 = .ok (.aload_n 0, 1) := by decide +kernel
theorem dX3_goesDown_1 : decode cX3_goesDown 1 = .ok (.getfield 45, 3) := by decide +kernel
theorem dX3_goesDown_4 : decode cX3_goesDown 4 = .ok (.iload_n 1, 1) := by decide +kernel
theorem dX3_goesDown_5 : decode cX3_goesDown 5 = .ok (.iload_n 2, 1) := by decide +kernel
theorem dX3_goesDown_6 : decode cX3_goesDown 6 = .ok (.iconst 0, 1) := by decide +kernel
theorem dX3_goesDown_7 : decode cX3_goesDown 7 = .ok (.aload_n 0, 1) := by decide +kernel
theorem dX3_goesDown_8 : decode cX3_goesDown 8 = .ok (.getfield 48, 3) := by decide +kernel
theorem dX3_goesDown_11 : decode cX3_goesDown 11 = .ok (.aload_n 0, 1) := by decide +kernel
theorem dX3_goesDown_12 : decode cX3_goesDown 12 = .ok (.getfield 19, 3) := by decide +kernel
theorem dX3_goesDown_15 : decode cX3_goesDown 15 = .ok (.getfield 80, 3) := by decide +kernel
theorem dX3_goesDown_18 : decode cX3_goesDown 18 = .ok (.iload_n 1, 1) := by decide +kernel
theorem dX3_goesDown_19 : decode cX3_goesDown 19 = .ok (.iaload, 1) := by decide +kernel
theorem dX3_goesDown_20 : decode cX3_goesDown 20 = .ok (.iadd, 1) := by decide +kernel
theorem dX3_goesDown_21 : decode cX3_goesDown 21 = .ok (.iconst (-1), 1) := by decide +kernel
theorem dX3_goesDown_22 : decode cX3_goesDown 22 = .ok (.invokevirtual 112, 3) := by decide +kernel
theorem dX3_goesDown_25 : decode cX3_goesDown 25 = .ok (.return_, 1) := by decide +kernel
set_option maxRecDepth 20000 in
theorem ggX3_goesBack_X2_firstThatMends : GoodIn wsX3_goesBack wsX2_firstThatMends := goodIn_r _ [10, 11, 12, 94, 95, 96, 97] (by decide +kernel) (by decide +kernel)
set_option maxRecDepth 20000 in
theorem gX3_goesBack_X2_firstThatMends : GoodIn wsX3_goesBack (wsV RX3 119 RX2 yX2_firstThatMends wsX2_firstThatMends) := goodIn_app (goodIn_of _ (by decide +kernel)) ggX3_goesBack_X2_firstThatMends
set_option maxRecDepth 20000 in
theorem ggX3_goesBack_X3_setsOut : GoodIn wsX3_goesBack wsX3_setsOut := goodIn_r _ [17, 18, 5, 1, 19, 20, 21, 9, 22, 23, 12, 24, 25, 26, 27, 28, 29, 30, 31, 32, 33, 34, 35, 36, 37, 38, 39, 40, 41, 42, 43, 44, 45, 46, 47, 48, 49, 76, 77, 78, 79, 80, 81, 82, 83, 84, 94, 95, 96, 97, 98, 99] (by decide +kernel) (by decide +kernel)
set_option maxRecDepth 20000 in
theorem gX3_goesBack_X3_setsOut : GoodIn wsX3_goesBack (wsV RX3 174 RX3 yX3_setsOut wsX3_setsOut) := goodIn_app (goodIn_of _ (by decide +kernel)) ggX3_goesBack_X3_setsOut
set_option maxRecDepth 20000 in
theorem ggX3_goesBack_X3_mendBegins : GoodIn wsX3_goesBack wsX3_mendBegins := goodIn_r _ [53, 18, 5, 1, 54, 24, 25, 26, 27, 28, 29, 30, 31, 32, 33, 34, 35, 36, 37, 38, 39, 40, 41, 42, 43, 44, 45, 46, 47, 48, 49, 76, 77, 78, 79, 80, 81, 82, 83, 84, 94, 95, 96, 97, 98, 99] (by decide +kernel) (by decide +kernel)
set_option maxRecDepth 20000 in
theorem gX3_goesBack_X3_mendBegins : GoodIn wsX3_goesBack (wsV RX3 178 RX3 yX3_mendBegins wsX3_mendBegins) := goodIn_app (goodIn_of _ (by decide +kernel)) ggX3_goesBack_X3_mendBegins
set_option maxRecDepth 20000 in
theorem ggX3_goesBack_X3_takesGood : GoodIn wsX3_goesBack wsX3_takesGood := goodIn_r _ [58, 59, 76, 77, 78, 79, 80, 81, 82, 83, 84] (by decide +kernel) (by decide +kernel)
set_option maxRecDepth 20000 in
theorem gX3_goesBack_X3_takesGood : GoodIn wsX3_goesBack (wsV RX3 161 RX3 yX3_takesGood wsX3_takesGood) := goodIn_app (goodIn_of _ (by decide +kernel)) ggX3_goesBack_X3_takesGood
set_option maxRecDepth 20000 in
theorem ggX3_goesBack_X3_mendGetsCore : GoodIn wsX3_goesBack wsX3_mendGetsCore := goodIn_r _ [63, 2, 64, 65, 1, 6, 7, 8, 9, 10, 11, 12, 50, 51, 52, 16, 53, 18, 5, 54, 24, 25, 26, 27, 28, 29, 30, 31, 32, 33, 34, 35, 36, 37, 38, 39, 40, 41, 42, 43, 44, 45, 46, 47, 48, 49, 13, 14, 15, 17, 19, 20, 21, 22, 23, 66, 67, 68, 69, 70, 4, 55, 56, 57, 58, 59, 71, 72, 73, 74, 75, 76, 77, 78, 79, 80, 81, 82, 83, 84, 85, 86, 87, 88, 89, 90, 91, 92, 93, 94, 95, 96, 97, 98, 99] (by decide +kernel) (by decide +kernel)
set_option maxRecDepth 20000 in
theorem gX3_goesBack_X3_mendGetsCore : GoodIn wsX3_goesBack (wsV RX3 171 RX3 yX3_mendGetsCore wsX3_mendGetsCore) := goodIn_app (goodIn_of _ (by decide +kernel)) ggX3_goesBack_X3_mendGetsCore
set_option maxRecDepth 20000 in
theorem ggX3_goesBack_X1_add : GoodIn wsX3_goesBack wsX1_add := goodIn_r _ [28, 29, 30, 31, 32, 33, 34, 35, 36, 37, 38, 39, 40, 41, 42, 43, 44, 45, 46, 47, 48, 49, 98, 99] (by decide +kernel) (by decide +kernel)
set_option maxRecDepth 20000 in
theorem gX3_goesBack_X1_add : GoodIn wsX3_goesBack (wsV RX3 112 RX1 yX1_add wsX1_add) := goodIn_app (goodIn_of _ (by decide +kernel)) ggX3_goesBack_X1_add
theorem dX3_goesBack_0 : decode cX3_goesBack 0 = .ok (.aload_n 0, 1) := by decide +kernel
theorem dX3_goesBack_1 : decode cX3_goesBack 1 = .ok (.getfield 19, 3) := by decide +kernel
theorem dX3_goesBack_4 : decode cX3_goesBack 4 = .ok (.iload_n 1, 1) := by decide +kernel
theorem dX3_goesBack_5 : decode cX3_goesBack 5 = .ok (.iload_n 2, 1) := by decide +kernel
theorem dX3_goesBack_6 : decode cX3_goesBack 6 = .ok (.invokevirtual 119, 3) := by decide +kernel
theorem dX3_goesBack_9 : decode cX3_goesBack 9 = .ok (.istore 4, 2) := by decide +kernel
theorem dX3_goesBack_11 : decode cX3_goesBack 11 = .ok (.aload_n 0, 1) := by decide +kernel
theorem dX3_goesBack_12 : decode cX3_goesBack 12 = .ok (.getfield 10, 3) := by decide +kernel
theorem dX3_goesBack_15 : decode cX3_goesBack 15 = .ok (.getfield 69, 3) := by decide +kernel
theorem dX3_goesBack_18 : decode cX3_goesBack 18 = .ok (.iload_n 2, 1) := by decide +kernel
theorem dX3_goesBack_19 : decode cX3_goesBack 19 = .ok (.iaload, 1) := by decide +kernel
theorem dX3_goesBack_20 : decode cX3_goesBack 20 = .ok (.istore 5, 2) := by decide +kernel
theorem dX3_goesBack_22 : decode cX3_goesBack 22 = .ok (.iload 4, 2) := by decide +kernel
theorem dX3_goesBack_24 : decode cX3_goesBack 24 = .ok (.iload_n 1, 1) := by decide +kernel
theorem dX3_goesBack_25 : decode cX3_goesBack 25 = .ok (.if_icmp .eq 15, 3) := by decide +kernel
theorem dX3_goesBack_28 : decode cX3_goesBack 28 = .ok (.aload_n 0, 1) := by decide +kernel
theorem dX3_goesBack_29 : decode cX3_goesBack 29 = .ok (.iload_n 1, 1) := by decide +kernel
theorem dX3_goesBack_30 : decode cX3_goesBack 30 = .ok (.iload_n 2, 1) := by decide +kernel
theorem dX3_goesBack_31 : decode cX3_goesBack 31 = .ok (.iload 4, 2) := by decide +kernel
theorem dX3_goesBack_33 : decode cX3_goesBack 33 = .ok (.iload_n 3, 1) := by decide +kernel
theorem dX3_goesBack_34 : decode cX3_goesBack 34 = .ok (.invokevirtual 174, 3) := by decide +kernel
theorem dX3_goesBack_37 : decode cX3_goesBack 37 = .ok (.goto 60, 3) := by decide +kernel
theorem dX3_goesBack_40 : decode cX3_goesBack 40 = .ok (.iload_n 3, 1) := by decide +kernel
theorem dX3_goesBack_41 : decode cX3_goesBack 41 = .ok (.iconst 1, 1) := by decide +kernel
theorem dX3_goesBack_42 : decode cX3_goesBack 42 = .ok (.if_icmp .ne 9, 3) := by decide +kernel
theorem dX3_goesBack_45 : decode cX3_goesBack 45 = .ok (.iload 5, 2) := by decide +kernel
theorem dX3_goesBack_47 : decode cX3_goesBack 47 = .ok (.iconst (-1), 1) := by decide +kernel
theorem dX3_goesBack_48 : decode cX3_goesBack 48 = .ok (.if_icmp .ne 12, 3) := by decide +kernel
theorem dX3_goesBack_51 : decode cX3_goesBack 51 = .ok (.aload_n 0, 1) := by decide +kernel
theorem dX3_goesBack_52 : decode cX3_goesBack 52 = .ok (.iload_n 1, 1) := by decide +kernel
theorem dX3_goesBack_53 : decode cX3_goesBack 53 = .ok (.iload_n 2, 1) := by decide +kernel
theorem dX3_goesBack_54 : decode cX3_goesBack 54 = .ok (.invokevirtual 178, 3) := by decide +kernel
theorem dX3_goesBack_57 : decode cX3_goesBack 57 = .ok (.goto 40, 3) := by decide +kernel
theorem dX3_goesBack_60 : decode cX3_goesBack 60 = .ok (.aload_n 0, 1) := by decide +kernel
theorem dX3_goesBack_61 : decode cX3_goesBack 61 = .ok (.iload_n 1, 1) := by decide +kernel
theorem dX3_goesBack_62 : decode cX3_goesBack 62 = .ok (.iload 5, 2) := by decide +kernel
theorem dX3_goesBack_64 : decode cX3_goesBack 64 = .ok (.invokevirtual 161, 3) := by decide +kernel
theorem dX3_goesBack_67 : decode cX3_goesBack 67 = .ok (.ifCond .eq 14, 3) := by decide +kernel
theorem dX3_goesBack_70 : decode cX3_goesBack 70 = .ok (.aload_n 0, 1) := by decide +kernel
theorem dX3_goesBack_71 : decode cX3_goesBack 71 = .ok (.iload_n 1, 1) := by decide +kernel
theorem dX3_goesBack_72 : decode cX3_goesBack 72 = .ok (.iload 5, 2) := by decide +kernel
theorem dX3_goesBack_74 : decode cX3_goesBack 74 = .ok (.iload_n 2, 1) := by decide +kernel
theorem dX3_goesBack_75 : decode cX3_goesBack 75 = .ok (.invokevirtual 171, 3) := by decide +kernel
theorem dX3_goesBack_78 : decode cX3_goesBack 78 = .ok (.goto 19, 3) := by decide +kernel
theorem dX3_goesBack_81 : decode cX3_goesBack 81 = .ok (.aload_n 0, 1) := by decide +kernel
theorem dX3_goesBack_82 : decode cX3_goesBack 82 = .ok (.getfield 41, 3) := by decide +kernel
theorem dX3_goesBack_85 : decode cX3_goesBack 85 = .ok (.iload_n 1, 1) := by decide +kernel
theorem dX3_goesBack_86 : decode cX3_goesBack 86 = .ok (.iload 5, 2) := by decide +kernel
theorem dX3_goesBack_88 : decode cX3_goesBack 88 = .ok (.iconst 2, 1) := by decide +kernel
theorem dX3_goesBack_89 : decode cX3_goesBack 89 = .ok (.aload_n 0, 1) := by decide +kernel
theorem dX3_goesBack_90 : decode cX3_goesBack 90 = .ok (.getfield 48, 3) := by decide +kernel
theorem dX3_goesBack_93 : decode cX3_goesBack 93 = .ok (.iload_n 2, 1) := by decide +kernel
theorem dX3_goesBack_94 : decode cX3_goesBack 94 = .ok (.invokevirtual 112, 3) := by decide +kernel
theorem dX3_goesBack_97 : decode cX3_goesBack 97 = .ok (.return_, 1) := by decide +kernel
set_option maxRecDepth 20000 in
theorem ggX3_setsOut_X2_waysUp : GoodIn wsX3_setsOut wsX2_waysUp := goodIn_r _ [8, 9, 10, 46, 47, 48, 49] (by decide +kernel) (by decide +kernel)
set_option maxRecDepth 20000 in
theorem gX3_setsOut_X2_waysUp : GoodIn wsX3_setsOut (wsV RX3 181 RX2 yX2_waysUp wsX2_waysUp) := goodIn_app (goodIn_of _ (by decide +kernel)) ggX3_setsOut_X2_waysUp
set_option maxRecDepth 20000 in
theorem ggX3_setsOut_X1_add : GoodIn wsX3_setsOut wsX1_add := goodIn_r _ [15, 16, 17, 18, 19, 20, 21, 22, 23, 24, 25, 26, 27, 28, 29, 30, 31, 32, 33, 34, 35, 36, 50, 51] (by decide +kernel) (by decide +kernel)
set_option maxRecDepth 20000 in
theorem gX3_setsOut_X1_add : GoodIn wsX3_setsOut (wsV RX3 112 RX1 yX1_add wsX1_add) := goodIn_app (goodIn_of _ (by decide +kernel)) ggX3_setsOut_X1_add
theorem dX3_setsOut_0 : decode cX3_setsOut 0 = .ok (.aload_n 0, 1) := by decide +kernel
theorem dX3_setsOut_1 : decode cX3_setsOut 1 = .ok (.getfield 45, 3) := by decide +kernel
theorem dX3_setsOut_4 : decode cX3_setsOut 4 = .ok (.iload_n 3, 1) := by decide +kernel
theorem dX3_setsOut_5 : decode cX3_setsOut 5 = .ok (.iload_n 2, 1) := by decide +kernel
theorem dX3_setsOut_6 : decode cX3_setsOut 6 = .ok (.iconst 1, 1) := by decide +kernel
theorem dX3_setsOut_7 : decode cX3_setsOut 7 = .ok (.aload_n 0, 1) := by decide +kernel
theorem dX3_setsOut_8 : decode cX3_setsOut 8 = .ok (.getfield 48, 3) := by decide +kernel
theorem dX3_setsOut_11 : decode cX3_setsOut 11 = .ok (.aload_n 0, 1) := by decide +kernel
theorem dX3_setsOut_12 : decode cX3_setsOut 12 = .ok (.getfield 19, 3) := by decide +kernel
theorem dX3_setsOut_15 : decode cX3_setsOut 15 = .ok (.iload_n 1, 1) := by decide +kernel
theorem dX3_setsOut_16 : decode cX3_setsOut 16 = .ok (.iload_n 3, 1) := by decide +kernel
theorem dX3_setsOut_17 : decode cX3_setsOut 17 = .ok (.invokevirtual 181, 3) := by decide +kernel
theorem dX3_setsOut_20 : decode cX3_setsOut 20 = .ok (.iadd, 1) := by decide +kernel
theorem dX3_setsOut_21 : decode cX3_setsOut 21 = .ok (.iload 4, 2) := by decide +kernel
theorem dX3_setsOut_23 : decode cX3_setsOut 23 = .ok (.invokevirtual 112, 3) := by decide +kernel
theorem dX3_setsOut_26 : decode cX3_setsOut 26 = .ok (.return_, 1) := by decide +kernel
set_option maxRecDepth 20000 in
theorem ggX3_mendBegins_X1_add : GoodIn wsX3_mendBegins wsX1_add := goodIn_r _ [9, 10, 11, 12, 13, 14, 15, 16, 17, 18, 19, 20, 21, 22, 23, 24, 25, 26, 27, 28, 29, 30, 44, 45] (by decide +kernel) (by decide +kernel)
set_option maxRecDepth 20000 in
theorem gX3_mendBegins_X1_add : GoodIn wsX3_mendBegins (wsV RX3 112 RX1 yX1_add wsX1_add) := goodIn_app (goodIn_of _ (by decide +kernel)) ggX3_mendBegins_X1_add
theorem dX3_mendBegins_0 : decode cX3_mendBegins 0 = .ok (.aload_n 0, 1) := by decide +kernel
theorem dX3_mendBegins_1 : decode cX3_mendBegins 1 = .ok (.getfield 45, 3) := by decide +kernel
theorem dX3_mendBegins_4 : decode cX3_mendBegins 4 = .ok (.iload_n 1, 1) := by decide +kernel
theorem dX3_mendBegins_5 : decode cX3_mendBegins 5 = .ok (.iload_n 2, 1) := by decide +kernel
theorem dX3_mendBegins_6 : decode cX3_mendBegins 6 = .ok (.iconst 2, 1) := by decide +kernel
theorem dX3_mendBegins_7 : decode cX3_mendBegins 7 = .ok (.aload_n 0, 1) := by decide +kernel
theorem dX3_mendBegins_8 : decode cX3_mendBegins 8 = .ok (.getfield 48, 3) := by decide +kernel
theorem dX3_mendBegins_11 : decode cX3_mendBegins 11 = .ok (.aload_n 0, 1) := by decide +kernel
theorem dX3_mendBegins_12 : decode cX3_mendBegins 12 = .ok (.getfield 19, 3) := by decide +kernel
theorem dX3_mendBegins_15 : decode cX3_mendBegins 15 = .ok (.getfield 72, 3) := by decide +kernel
theorem dX3_mendBegins_18 : decode cX3_mendBegins 18 = .ok (.iload_n 1, 1) := by decide +kernel
theorem dX3_mendBegins_19 : decode cX3_mendBegins 19 = .ok (.aaload, 1) := by decide +kernel
theorem dX3_mendBegins_20 : decode cX3_mendBegins 20 = .ok (.iload_n 2, 1) := by decide +kernel
theorem dX3_mendBegins_21 : decode cX3_mendBegins 21 = .ok (.iaload, 1) := by decide +kernel
theorem dX3_mendBegins_22 : decode cX3_mendBegins 22 = .ok (.iadd, 1) := by decide +kernel
theorem dX3_mendBegins_23 : decode cX3_mendBegins 23 = .ok (.iconst (-1), 1) := by decide +kernel
theorem dX3_mendBegins_24 : decode cX3_mendBegins 24 = .ok (.invokevirtual 112, 3) := by decide +kernel
theorem dX3_mendBegins_27 : decode cX3_mendBegins 27 = .ok (.return_, 1) := by decide +kernel
set_option maxRecDepth 20000 in
theorem ggX3_mendGetsCore_X2_firstThatMends : GoodIn wsX3_mendGetsCore wsX2_firstThatMends := goodIn_r _ [9, 10, 11, 89, 90, 91, 92] (by decide +kernel) (by decide +kernel)
set_option maxRecDepth 20000 in
theorem gX3_mendGetsCore_X2_firstThatMends : GoodIn wsX3_mendGetsCore (wsV RX3 119 RX2 yX2_firstThatMends wsX2_firstThatMends) := goodIn_app (goodIn_of _ (by decide +kernel)) ggX3_mendGetsCore_X2_firstThatMends
set_option maxRecDepth 20000 in
theorem ggX3_mendGetsCore_X3_mendBegins : GoodIn wsX3_mendGetsCore wsX3_mendBegins := goodIn_r _ [16, 17, 18, 4, 19, 20, 21, 22, 23, 24, 25, 26, 27, 28, 29, 30, 31, 32, 33, 34, 35, 36, 37, 38, 39, 40, 41, 42, 43, 44, 45, 71, 72, 73, 74, 75, 76, 77, 78, 79, 89, 90, 91, 92, 93, 94] (by decide +kernel) (by decide +kernel)
set_option maxRecDepth 20000 in
theorem gX3_mendGetsCore_X3_mendBegins : GoodIn wsX3_mendGetsCore (wsV RX3 178 RX3 yX3_mendBegins wsX3_mendBegins) := goodIn_app (goodIn_of _ (by decide +kernel)) ggX3_mendGetsCore_X3_mendBegins
set_option maxRecDepth 20000 in
theorem ggX3_mendGetsCore_X3_setsOut : GoodIn wsX3_mendGetsCore wsX3_setsOut := goodIn_r _ [49, 17, 18, 4, 50, 51, 52, 8, 53, 54, 11, 20, 21, 22, 23, 24, 25, 26, 27, 28, 29, 30, 31, 32, 33, 34, 35, 36, 37, 38, 39, 40, 41, 42, 43, 44, 45, 71, 72, 73, 74, 75, 76, 77, 78, 79, 89, 90, 91, 92, 93, 94] (by decide +kernel) (by decide +kernel)
set_option maxRecDepth 20000 in
theorem gX3_mendGetsCore_X3_setsOut : GoodIn wsX3_mendGetsCore (wsV RX3 174 RX3 yX3_setsOut wsX3_setsOut) := goodIn_app (goodIn_of _ (by decide +kernel)) ggX3_mendGetsCore_X3_setsOut
set_option maxRecDepth 20000 in
theorem ggX3_mendGetsCore_X3_asksGoUp : GoodIn wsX3_mendGetsCore wsX3_asksGoUp := goodIn_r _ [58, 4, 59, 60, 18, 61, 62, 63, 15, 64, 65, 66, 67, 68, 69, 17, 70, 20, 21, 22, 23, 24, 25, 26, 27, 28, 29, 30, 31, 32, 33, 34, 35, 36, 37, 38, 39, 40, 41, 42, 43, 44, 45, 71, 72, 73, 74, 75, 76, 77, 78, 79, 89, 90, 91, 92, 93, 94] (by decide +kernel) (by decide +kernel)
set_option maxRecDepth 20000 in
theorem gX3_mendGetsCore_X3_asksGoUp : GoodIn wsX3_mendGetsCore (wsV RX3 108 RX3 yX3_asksGoUp wsX3_asksGoUp) := goodIn_app (goodIn_of _ (by decide +kernel)) ggX3_mendGetsCore_X3_asksGoUp
theorem dX3_mendGetsCore_0 : decode cX3_mendGetsCore 0 = .ok (.aload_n 0, 1) := by decide +kernel
theorem dX3_mendGetsCore_1 : decode cX3_mendGetsCore 1 = .ok (.getfield 10, 3) := by decide +kernel
theorem dX3_mendGetsCore_4 : decode cX3_mendGetsCore 4 = .ok (.getfield 148, 3) := by decide +kernel
theorem dX3_mendGetsCore_7 : decode cX3_mendGetsCore 7 = .ok (.iload_n 2, 1) := by decide +kernel
theorem dX3_mendGetsCore_8 : decode cX3_mendGetsCore 8 = .ok (.dup2, 1) := by decide +kernel
theorem dX3_mendGetsCore_9 : decode cX3_mendGetsCore 9 = .ok (.iaload, 1) := by decide +kernel
theorem dX3_mendGetsCore_10 : decode cX3_mendGetsCore 10 = .ok (.iconst 1, 1) := by decide +kernel
theorem dX3_mendGetsCore_11 : decode cX3_mendGetsCore 11 = .ok (.iadd, 1) := by decide +kernel
theorem dX3_mendGetsCore_12 : decode cX3_mendGetsCore 12 = .ok (.iastore, 1) := by decide +kernel
theorem dX3_mendGetsCore_13 : decode cX3_mendGetsCore 13 = .ok (.aload_n 0, 1) := by decide +kernel
theorem dX3_mendGetsCore_14 : decode cX3_mendGetsCore 14 = .ok (.getfield 10, 3) := by decide +kernel
theorem dX3_mendGetsCore_17 : decode cX3_mendGetsCore 17 = .ok (.getfield 102, 3) := by decide +kernel
theorem dX3_mendGetsCore_20 : decode cX3_mendGetsCore 20 = .ok (.iload_n 2, 1) := by decide +kernel
theorem dX3_mendGetsCore_21 : decode cX3_mendGetsCore 21 = .ok (.dup2, 1) := by decide +kernel
theorem dX3_mendGetsCore_22 : decode cX3_mendGetsCore 22 = .ok (.iaload, 1) := by decide +kernel
theorem dX3_mendGetsCore_23 : decode cX3_mendGetsCore 23 = .ok (.iconst 1, 1) := by decide +kernel
theorem dX3_mendGetsCore_24 : decode cX3_mendGetsCore 24 = .ok (.iadd, 1) := by decide +kernel
theorem dX3_mendGetsCore_25 : decode cX3_mendGetsCore 25 = .ok (.iastore, 1) := by decide +kernel
theorem dX3_mendGetsCore_26 : decode cX3_mendGetsCore 26 = .ok (.aload_n 0, 1) := by decide +kernel
theorem dX3_mendGetsCore_27 : decode cX3_mendGetsCore 27 = .ok (.getfield 19, 3) := by decide +kernel
theorem dX3_mendGetsCore_30 : decode cX3_mendGetsCore 30 = .ok (.iload_n 1, 1) := by decide +kernel
theorem dX3_mendGetsCore_31 : decode cX3_mendGetsCore 31 = .ok (.iload_n 2, 1) := by decide +kernel
theorem dX3_mendGetsCore_32 : decode cX3_mendGetsCore 32 = .ok (.invokevirtual 119, 3) := by decide +kernel
theorem dX3_mendGetsCore_35 : decode cX3_mendGetsCore 35 = .ok (.istore 4, 2) := by decide +kernel
theorem dX3_mendGetsCore_37 : decode cX3_mendGetsCore 37 = .ok (.iload 4, 2) := by decide +kernel
theorem dX3_mendGetsCore_39 : decode cX3_mendGetsCore 39 = .ok (.iload_n 1, 1) := by decide +kernel
theorem dX3_mendGetsCore_40 : decode cX3_mendGetsCore 40 = .ok (.if_icmp .ne 12, 3) := by decide +kernel
theorem dX3_mendGetsCore_43 : decode cX3_mendGetsCore 43 = .ok (.aload_n 0, 1) := by decide +kernel
theorem dX3_mendGetsCore_44 : decode cX3_mendGetsCore 44 = .ok (.iload_n 1, 1) := by decide +kernel
theorem dX3_mendGetsCore_45 : decode cX3_mendGetsCore 45 = .ok (.iload_n 2, 1) := by decide +kernel
theorem dX3_mendGetsCore_46 : decode cX3_mendGetsCore 46 = .ok (.invokevirtual 178, 3) := by decide +kernel
theorem dX3_mendGetsCore_49 : decode cX3_mendGetsCore 49 = .ok (.goto 12, 3) := by decide +kernel
theorem dX3_mendGetsCore_52 : decode cX3_mendGetsCore 52 = .ok (.aload_n 0, 1) := by decide +kernel
theorem dX3_mendGetsCore_53 : decode cX3_mendGetsCore 53 = .ok (.iload_n 1, 1) := by decide +kernel
theorem dX3_mendGetsCore_54 : decode cX3_mendGetsCore 54 = .ok (.iload_n 2, 1) := by decide +kernel
theorem dX3_mendGetsCore_55 : decode cX3_mendGetsCore 55 = .ok (.iload 4, 2) := by decide +kernel
theorem dX3_mendGetsCore_57 : decode cX3_mendGetsCore 57 = .ok (.iconst 0, 1) := by decide +kernel
theorem dX3_mendGetsCore_58 : decode cX3_mendGetsCore 58 = .ok (.invokevirtual 174, 3) := by decide +kernel
theorem dX3_mendGetsCore_61 : decode cX3_mendGetsCore 61 = .ok (.aload_n 0, 1) := by decide +kernel
theorem dX3_mendGetsCore_62 : decode cX3_mendGetsCore 62 = .ok (.iload_n 1, 1) := by decide +kernel
theorem dX3_mendGetsCore_63 : decode cX3_mendGetsCore 63 = .ok (.iload_n 2, 1) := by decide +kernel
theorem dX3_mendGetsCore_64 : decode cX3_mendGetsCore 64 = .ok (.iload 4, 2) := by decide +kernel
theorem dX3_mendGetsCore_66 : decode cX3_mendGetsCore 66 = .ok (.invokevirtual 108, 3) := by decide +kernel
theorem dX3_mendGetsCore_69 : decode cX3_mendGetsCore 69 = .ok (.aload_n 0, 1) := by decide +kernel
theorem dX3_mendGetsCore_70 : decode cX3_mendGetsCore 70 = .ok (.iload_n 1, 1) := by decide +kernel
theorem dX3_mendGetsCore_71 : decode cX3_mendGetsCore 71 = .ok (.iload_n 3, 1) := by decide +kernel
theorem dX3_mendGetsCore_72 : decode cX3_mendGetsCore 72 = .ok (.invokevirtual 178, 3) := by decide +kernel
theorem dX3_mendGetsCore_75 : decode cX3_mendGetsCore 75 = .ok (.return_, 1) := by decide +kernel
set_option maxRecDepth 20000 in
theorem ggX3_asksGoUp_X3_takesGood : GoodIn wsX3_asksGoUp wsX3_takesGood := goodIn_r _ [9, 10, 43, 44, 45, 46, 47, 48, 49, 50, 51] (by decide +kernel) (by decide +kernel)
set_option maxRecDepth 20000 in
theorem gX3_asksGoUp_X3_takesGood : GoodIn wsX3_asksGoUp (wsV RX3 161 RX3 yX3_takesGood wsX3_takesGood) := goodIn_app (goodIn_of _ (by decide +kernel)) ggX3_asksGoUp_X3_takesGood
set_option maxRecDepth 20000 in
theorem ggX3_asksGoUp_X3_goesDown : GoodIn wsX3_asksGoUp wsX3_goesDown := goodIn_r _ [14, 15, 4, 1, 16, 17, 18, 19, 20, 21, 22, 23, 24, 25, 26, 27, 28, 29, 30, 31, 32, 33, 34, 35, 36, 37, 38, 39, 40, 41, 42, 43, 44, 45, 46, 47, 48, 49, 50, 51, 52, 53, 54, 55, 56, 57] (by decide +kernel) (by decide +kernel)
set_option maxRecDepth 20000 in
theorem gX3_asksGoUp_X3_goesDown : GoodIn wsX3_asksGoUp (wsV RX3 168 RX3 yX3_goesDown wsX3_goesDown) := goodIn_app (goodIn_of _ (by decide +kernel)) ggX3_asksGoUp_X3_goesDown
set_option maxRecDepth 20000 in
theorem ggX3_asksGoUp_X1_add : GoodIn wsX3_asksGoUp wsX1_add := goodIn_r _ [21, 22, 23, 24, 25, 26, 27, 28, 29, 30, 31, 32, 33, 34, 35, 36, 37, 38, 39, 40, 41, 42, 56, 57] (by decide +kernel) (by decide +kernel)
set_option maxRecDepth 20000 in
theorem gX3_asksGoUp_X1_add : GoodIn wsX3_asksGoUp (wsV RX3 112 RX1 yX1_add wsX1_add) := goodIn_app (goodIn_of _ (by decide +kernel)) ggX3_asksGoUp_X1_add
theorem dX3_asksGoUp_0 : decode cX3_asksGoUp 0 = .ok (.iload_n 1, 1) := by decide +kernel
theorem dX3_asksGoUp_1 : decode cX3_asksGoUp 1 = .ok (.istore 4, 2) := by decide +kernel
theorem dX3_asksGoUp_3 : decode cX3_asksGoUp 3 = .ok (.iconst 0, 1) := by decide +kernel
theorem dX3_asksGoUp_4 : decode cX3_asksGoUp 4 = .ok (.istore 5, 2) := by decide +kernel
theorem dX3_asksGoUp_6 : decode cX3_asksGoUp 6 = .ok (.iload 5, 2) := by decide +kernel
theorem dX3_asksGoUp_8 : decode cX3_asksGoUp 8 = .ok (.bipush 8, 2) := by decide +kernel
theorem dX3_asksGoUp_10 : decode cX3_asksGoUp 10 = .ok (.if_icmp .ge 68, 3) := by decide +kernel
theorem dX3_asksGoUp_13 : decode cX3_asksGoUp 13 = .ok (.iload 4, 2) := by decide +kernel
theorem dX3_asksGoUp_15 : decode cX3_asksGoUp 15 = .ok (.iload_n 3, 1) := by decide +kernel
theorem dX3_asksGoUp_16 : decode cX3_asksGoUp 16 = .ok (.if_icmp .le 62, 3) := by decide +kernel
theorem dX3_asksGoUp_19 : decode cX3_asksGoUp 19 = .ok (.aload_n 0, 1) := by decide +kernel
theorem dX3_asksGoUp_20 : decode cX3_asksGoUp 20 = .ok (.getfield 19, 3) := by decide +kernel
theorem dX3_asksGoUp_23 : decode cX3_asksGoUp 23 = .ok (.getfield 77, 3) := by decide +kernel
theorem dX3_asksGoUp_26 : decode cX3_asksGoUp 26 = .ok (.iload 4, 2) := by decide +kernel
theorem dX3_asksGoUp_28 : decode cX3_asksGoUp 28 = .ok (.iaload, 1) := by decide +kernel
theorem dX3_asksGoUp_29 : decode cX3_asksGoUp 29 = .ok (.istore 6, 2) := by decide +kernel
theorem dX3_asksGoUp_31 : decode cX3_asksGoUp 31 = .ok (.aload_n 0, 1) := by decide +kernel
theorem dX3_asksGoUp_32 : decode cX3_asksGoUp 32 = .ok (.iload 6, 2) := by decide +kernel
theorem dX3_asksGoUp_34 : decode cX3_asksGoUp 34 = .ok (.iload_n 2, 1) := by decide +kernel
theorem dX3_asksGoUp_35 : decode cX3_asksGoUp 35 = .ok (.invokevirtual 161, 3) := by decide +kernel
theorem dX3_asksGoUp_38 : decode cX3_asksGoUp 38 = .ok (.ifCond .eq 13, 3) := by decide +kernel
theorem dX3_asksGoUp_41 : decode cX3_asksGoUp 41 = .ok (.aload_n 0, 1) := by decide +kernel
theorem dX3_asksGoUp_42 : decode cX3_asksGoUp 42 = .ok (.iload 4, 2) := by decide +kernel
theorem dX3_asksGoUp_44 : decode cX3_asksGoUp 44 = .ok (.iload_n 2, 1) := by decide +kernel
theorem dX3_asksGoUp_45 : decode cX3_asksGoUp 45 = .ok (.invokevirtual 168, 3) := by decide +kernel
theorem dX3_asksGoUp_48 : decode cX3_asksGoUp 48 = .ok (.goto 20, 3) := by decide +kernel
theorem dX3_asksGoUp_51 : decode cX3_asksGoUp 51 = .ok (.aload_n 0, 1) := by decide +kernel
theorem dX3_asksGoUp_52 : decode cX3_asksGoUp 52 = .ok (.getfield 41, 3) := by decide +kernel
theorem dX3_asksGoUp_55 : decode cX3_asksGoUp 55 = .ok (.iload 6, 2) := by decide +kernel
theorem dX3_asksGoUp_57 : decode cX3_asksGoUp 57 = .ok (.iload_n 2, 1) := by decide +kernel
theorem dX3_asksGoUp_58 : decode cX3_asksGoUp 58 = .ok (.iconst 1, 1) := by decide +kernel
theorem dX3_asksGoUp_59 : decode cX3_asksGoUp 59 = .ok (.aload_n 0, 1) := by decide +kernel
theorem dX3_asksGoUp_60 : decode cX3_asksGoUp 60 = .ok (.getfield 48, 3) := by decide +kernel
theorem dX3_asksGoUp_63 : decode cX3_asksGoUp 63 = .ok (.iload 4, 2) := by decide +kernel
theorem dX3_asksGoUp_65 : decode cX3_asksGoUp 65 = .ok (.invokevirtual 112, 3) := by decide +kernel
theorem dX3_asksGoUp_68 : decode cX3_asksGoUp 68 = .ok (.iload 6, 2) := by decide +kernel
theorem dX3_asksGoUp_70 : decode cX3_asksGoUp 70 = .ok (.istore 4, 2) := by decide +kernel
theorem dX3_asksGoUp_72 : decode cX3_asksGoUp 72 = .ok (.iinc 5 1, 3) := by decide +kernel
theorem dX3_asksGoUp_75 : decode cX3_asksGoUp 75 = .ok (.goto (-69), 3) := by decide +kernel
theorem dX3_asksGoUp_78 : decode cX3_asksGoUp 78 = .ok (.return_, 1) := by decide +kernel
set_option maxRecDepth 20000 in
theorem ggX3_doWhatIsDue_X1_read : GoodIn wsX3_doWhatIsDue wsX1_read := goodIn_r _ [8, 9, 10, 112, 113] (by decide +kernel) (by decide +kernel)
set_option maxRecDepth 20000 in
theorem gX3_doWhatIsDue_X1_read : GoodIn wsX3_doWhatIsDue (wsV RX3 138 RX1 yX1_read wsX1_read) := goodIn_app (goodIn_of _ (by decide +kernel)) ggX3_doWhatIsDue_X1_read
set_option maxRecDepth 20000 in
theorem ggX3_doWhatIsDue_X1_drop : GoodIn wsX3_doWhatIsDue wsX1_drop := goodIn_r _ [14, 9, 10, 15, 16, 17, 18, 112, 113] (by decide +kernel) (by decide +kernel)
set_option maxRecDepth 20000 in
theorem gX3_doWhatIsDue_X1_drop : GoodIn wsX3_doWhatIsDue (wsV RX3 164 RX1 yX1_drop wsX1_drop) := goodIn_app (goodIn_of _ (by decide +kernel)) ggX3_doWhatIsDue_X1_drop
set_option maxRecDepth 20000 in
theorem ggX3_doWhatIsDue_X3_goesBack : GoodIn wsX3_doWhatIsDue wsX3_goesBack := goodIn_r _ [23, 24, 25, 26, 27, 3, 28, 29, 30, 31, 32, 33, 34, 35, 36, 37, 22, 38, 1, 39, 40, 41, 42, 43, 44, 45, 46, 7, 47, 9, 10, 48, 49, 50, 51, 52, 53, 54, 55, 56, 57, 58, 59, 60, 61, 62, 63, 16, 17, 18, 64, 65, 66, 67, 68, 69, 70, 71, 72, 73, 74, 75, 76, 77, 78, 79, 80, 81, 82, 83, 84, 85, 86, 87, 88, 89, 103, 104, 105, 106, 107, 108, 109, 110, 111, 114, 115, 116, 117, 118, 119, 120, 121, 122, 123, 124, 125, 126, 112, 113] (by decide +kernel) (by decide +kernel)
set_option maxRecDepth 20000 in
theorem gX3_doWhatIsDue_X3_goesBack : GoodIn wsX3_doWhatIsDue (wsV RX3 116 RX3 yX3_goesBack wsX3_goesBack) := goodIn_app (goodIn_of _ (by decide +kernel)) ggX3_doWhatIsDue_X3_goesBack
set_option maxRecDepth 20000 in
theorem ggX3_doWhatIsDue_X3_lands : GoodIn wsX3_doWhatIsDue wsX3_lands := goodIn_r _ [93, 27, 73, 25, 94, 95, 96, 97, 7, 98, 9, 99, 100, 101, 102, 10, 4, 5, 6, 8, 11, 12, 13, 14, 15, 16, 17, 18, 85, 86, 87, 22, 88, 1, 3, 24, 89, 44, 45, 46, 47, 48, 49, 50, 51, 52, 53, 54, 55, 56, 57, 58, 59, 60, 61, 62, 63, 74, 75, 76, 77, 78, 79, 28, 29, 30, 31, 32, 33, 34, 64, 65, 66, 67, 68, 35, 36, 37, 38, 39, 40, 41, 42, 43, 80, 81, 82, 83, 84, 69, 70, 71, 72, 103, 104, 105, 106, 107, 108, 109, 110, 111, 114, 115, 116, 117, 118, 119, 120, 121, 122, 112, 113, 123, 124, 125, 126] (by decide +kernel) (by decide +kernel)
set_option maxRecDepth 20000 in
theorem gX3_doWhatIsDue_X3_lands : GoodIn wsX3_doWhatIsDue (wsV RX3 94 RX3 yX3_lands wsX3_lands) := goodIn_app (goodIn_of _ (by decide +kernel)) ggX3_doWhatIsDue_X3_lands
theorem dX3_doWhatIsDue_0 : decode cX3_doWhatIsDue 0 = .ok (.aload_n 0, 1) := by decide +kernel
theorem dX3_doWhatIsDue_1 : decode cX3_doWhatIsDue 1 = .ok (.getfield 45, 3) := by decide +kernel
theorem dX3_doWhatIsDue_4 : decode cX3_doWhatIsDue 4 = .ok (.getfield 98, 3) := by decide +kernel
theorem dX3_doWhatIsDue_7 : decode cX3_doWhatIsDue 7 = .ok (.istore_n 1, 1) := by decide +kernel
theorem dX3_doWhatIsDue_8 : decode cX3_doWhatIsDue 8 = .ok (.iconst 0, 1) := by decide +kernel
theorem dX3_doWhatIsDue_9 : decode cX3_doWhatIsDue 9 = .ok (.istore_n 2, 1) := by decide +kernel
theorem dX3_doWhatIsDue_10 : decode cX3_doWhatIsDue 10 = .ok (.iconst 0, 1) := by decide +kernel
theorem dX3_doWhatIsDue_11 : decode cX3_doWhatIsDue 11 = .ok (.istore_n 3, 1) := by decide +kernel
theorem dX3_doWhatIsDue_12 : decode cX3_doWhatIsDue 12 = .ok (.iload_n 3, 1) := by decide +kernel
theorem dX3_doWhatIsDue_13 : decode cX3_doWhatIsDue 13 = .ok (.iload_n 1, 1) := by decide +kernel
theorem dX3_doWhatIsDue_14 : decode cX3_doWhatIsDue 14 = .ok (.if_icmp .ge 110, 3) := by decide +kernel
theorem dX3_doWhatIsDue_17 : decode cX3_doWhatIsDue 17 = .ok (.aload_n 0, 1) := by decide +kernel
theorem dX3_doWhatIsDue_18 : decode cX3_doWhatIsDue 18 = .ok (.getfield 45, 3) := by decide +kernel
theorem dX3_doWhatIsDue_21 : decode cX3_doWhatIsDue 21 = .ok (.iload_n 2, 1) := by decide +kernel
theorem dX3_doWhatIsDue_22 : decode cX3_doWhatIsDue 22 = .ok (.iconst 3, 1) := by decide +kernel
theorem dX3_doWhatIsDue_23 : decode cX3_doWhatIsDue 23 = .ok (.invokevirtual 138, 3) := by decide +kernel
theorem dX3_doWhatIsDue_26 : decode cX3_doWhatIsDue 26 = .ok (.aload_n 0, 1) := by decide +kernel
theorem dX3_doWhatIsDue_27 : decode cX3_doWhatIsDue 27 = .ok (.getfield 48, 3) := by decide +kernel
theorem dX3_doWhatIsDue_30 : decode cX3_doWhatIsDue 30 = .ok (.if_icmp .eq 9, 3) := by decide +kernel
theorem dX3_doWhatIsDue_33 : decode cX3_doWhatIsDue 33 = .ok (.iinc 2 1, 3) := by decide +kernel
theorem dX3_doWhatIsDue_36 : decode cX3_doWhatIsDue 36 = .ok (.goto 82, 3) := by decide +kernel
theorem dX3_doWhatIsDue_39 : decode cX3_doWhatIsDue 39 = .ok (.aload_n 0, 1) := by decide +kernel
theorem dX3_doWhatIsDue_40 : decode cX3_doWhatIsDue 40 = .ok (.getfield 45, 3) := by decide +kernel
theorem dX3_doWhatIsDue_43 : decode cX3_doWhatIsDue 43 = .ok (.iload_n 2, 1) := by decide +kernel
end
section
theorem dX3_doWhatIsDue_44 : decode cX3_doWhatIsDue 44 = .ok (.iconst 0, 1) := by decide +kernel
theorem dX3_doWhatIsDue_45 : decode cX3_doWhatIsDue 45 = .ok (.invokevirtual 138, 3) := by decide +kernel
theorem dX3_doWhatIsDue_48 : decode cX3_doWhatIsDue 48 = .ok (.istore 4, 2) := by decide +kernel
theorem dX3_doWhatIsDue_50 : decode cX3_doWhatIsDue 50 = .ok (.aload_n 0, 1) := by decide +kernel
theorem dX3_doWhatIsDue_51 : decode cX3_doWhatIsDue 51 = .ok (.getfield 45, 3) := by decide +kernel
theorem dX3_doWhatIsDue_54 : decode cX3_doWhatIsDue 54 = .ok (.iload_n 2, 1) := by decide +kernel
theorem dX3_doWhatIsDue_55 : decode cX3_doWhatIsDue 55 = .ok (.iconst 1, 1) := by decide +kernel
theorem dX3_doWhatIsDue_56 : decode cX3_doWhatIsDue 56 = .ok (.invokevirtual 138, 3) := by decide +kernel
theorem dX3_doWhatIsDue_59 : decode cX3_doWhatIsDue 59 = .ok (.istore 5, 2) := by decide +kernel
theorem dX3_doWhatIsDue_61 : decode cX3_doWhatIsDue 61 = .ok (.aload_n 0, 1) := by decide +kernel
theorem dX3_doWhatIsDue_62 : decode cX3_doWhatIsDue 62 = .ok (.getfield 45, 3) := by decide +kernel
theorem dX3_doWhatIsDue_65 : decode cX3_doWhatIsDue 65 = .ok (.iload_n 2, 1) := by decide +kernel
theorem dX3_doWhatIsDue_66 : decode cX3_doWhatIsDue 66 = .ok (.iconst 2, 1) := by decide +kernel
theorem dX3_doWhatIsDue_67 : decode cX3_doWhatIsDue 67 = .ok (.invokevirtual 138, 3) := by decide +kernel
theorem dX3_doWhatIsDue_70 : decode cX3_doWhatIsDue 70 = .ok (.istore 6, 2) := by decide +kernel
theorem dX3_doWhatIsDue_72 : decode cX3_doWhatIsDue 72 = .ok (.aload_n 0, 1) := by decide +kernel
theorem dX3_doWhatIsDue_73 : decode cX3_doWhatIsDue 73 = .ok (.getfield 45, 3) := by decide +kernel
theorem dX3_doWhatIsDue_76 : decode cX3_doWhatIsDue 76 = .ok (.iload_n 2, 1) := by decide +kernel
theorem dX3_doWhatIsDue_77 : decode cX3_doWhatIsDue 77 = .ok (.iconst 4, 1) := by decide +kernel
theorem dX3_doWhatIsDue_78 : decode cX3_doWhatIsDue 78 = .ok (.invokevirtual 138, 3) := by decide +kernel
theorem dX3_doWhatIsDue_81 : decode cX3_doWhatIsDue 81 = .ok (.istore 7, 2) := by decide +kernel
theorem dX3_doWhatIsDue_83 : decode cX3_doWhatIsDue 83 = .ok (.aload_n 0, 1) := by decide +kernel
theorem dX3_doWhatIsDue_84 : decode cX3_doWhatIsDue 84 = .ok (.getfield 45, 3) := by decide +kernel
theorem dX3_doWhatIsDue_87 : decode cX3_doWhatIsDue 87 = .ok (.iload_n 2, 1) := by decide +kernel
theorem dX3_doWhatIsDue_88 : decode cX3_doWhatIsDue 88 = .ok (.invokevirtual 164, 3) := by decide +kernel
theorem dX3_doWhatIsDue_91 : decode cX3_doWhatIsDue 91 = .ok (.iload 6, 2) := by decide +kernel
theorem dX3_doWhatIsDue_93 : decode cX3_doWhatIsDue 93 = .ok (.iconst 1, 1) := by decide +kernel
theorem dX3_doWhatIsDue_94 : decode cX3_doWhatIsDue 94 = .ok (.if_icmp .ne 16, 3) := by decide +kernel
theorem dX3_doWhatIsDue_97 : decode cX3_doWhatIsDue 97 = .ok (.aload_n 0, 1) := by decide +kernel
theorem dX3_doWhatIsDue_98 : decode cX3_doWhatIsDue 98 = .ok (.iload 4, 2) := by decide +kernel
theorem dX3_doWhatIsDue_100 : decode cX3_doWhatIsDue 100 = .ok (.iload 5, 2) := by decide +kernel
theorem dX3_doWhatIsDue_102 : decode cX3_doWhatIsDue 102 = .ok (.iload 7, 2) := by decide +kernel
theorem dX3_doWhatIsDue_104 : decode cX3_doWhatIsDue 104 = .ok (.invokevirtual 116, 3) := by decide +kernel
theorem dX3_doWhatIsDue_107 : decode cX3_doWhatIsDue 107 = .ok (.goto 11, 3) := by decide +kernel
theorem dX3_doWhatIsDue_110 : decode cX3_doWhatIsDue 110 = .ok (.aload_n 0, 1) := by decide +kernel
theorem dX3_doWhatIsDue_111 : decode cX3_doWhatIsDue 111 = .ok (.iload 4, 2) := by decide +kernel
theorem dX3_doWhatIsDue_113 : decode cX3_doWhatIsDue 113 = .ok (.iload 5, 2) := by decide +kernel
theorem dX3_doWhatIsDue_115 : decode cX3_doWhatIsDue 115 = .ok (.invokevirtual 94, 3) := by decide +kernel
theorem dX3_doWhatIsDue_118 : decode cX3_doWhatIsDue 118 = .ok (.iinc 3 1, 3) := by decide +kernel
theorem dX3_doWhatIsDue_121 : decode cX3_doWhatIsDue 121 = .ok (.goto (-109), 3) := by decide +kernel
theorem dX3_doWhatIsDue_124 : decode cX3_doWhatIsDue 124 = .ok (.return_, 1) := by decide +kernel
set_option maxRecDepth 20000 in
theorem ggX3_countStanding_X1_read : GoodIn wsX3_countStanding wsX1_read := goodIn_r _ [8, 9, 10, 20, 21] (by decide +kernel) (by decide +kernel)
set_option maxRecDepth 20000 in
theorem gX3_countStanding_X1_read : GoodIn wsX3_countStanding (wsV RX3 138 RX1 yX1_read wsX1_read) := goodIn_app (goodIn_of _ (by decide +kernel)) ggX3_countStanding_X1_read
theorem dX3_countStanding_0 : decode cX3_countStanding 0 = .ok (.iconst 0, 1) := by decide +kernel
theorem dX3_countStanding_1 : decode cX3_countStanding 1 = .ok (.istore_n 1, 1) := by decide +kernel
theorem dX3_countStanding_2 : decode cX3_countStanding 2 = .ok (.iload_n 1, 1) := by decide +kernel
theorem dX3_countStanding_3 : decode cX3_countStanding 3 = .ok (.aload_n 0, 1) := by decide +kernel
theorem dX3_countStanding_4 : decode cX3_countStanding 4 = .ok (.getfield 41, 3) := by decide +kernel
theorem dX3_countStanding_7 : decode cX3_countStanding 7 = .ok (.getfield 98, 3) := by decide +kernel
theorem dX3_countStanding_10 : decode cX3_countStanding 10 = .ok (.if_icmp .ge 39, 3) := by decide +kernel
theorem dX3_countStanding_13 : decode cX3_countStanding 13 = .ok (.aload_n 0, 1) := by decide +kernel
theorem dX3_countStanding_14 : decode cX3_countStanding 14 = .ok (.getfield 41, 3) := by decide +kernel
theorem dX3_countStanding_17 : decode cX3_countStanding 17 = .ok (.iload_n 1, 1) := by decide +kernel
theorem dX3_countStanding_18 : decode cX3_countStanding 18 = .ok (.iconst 2, 1) := by decide +kernel
theorem dX3_countStanding_19 : decode cX3_countStanding 19 = .ok (.invokevirtual 138, 3) := by decide +kernel
theorem dX3_countStanding_22 : decode cX3_countStanding 22 = .ok (.ifCond .ne 21, 3) := by decide +kernel
theorem dX3_countStanding_25 : decode cX3_countStanding 25 = .ok (.aload_n 0, 1) := by decide +kernel
theorem dX3_countStanding_26 : decode cX3_countStanding 26 = .ok (.getfield 31, 3) := by decide +kernel
theorem dX3_countStanding_29 : decode cX3_countStanding 29 = .ok (.aload_n 0, 1) := by decide +kernel
theorem dX3_countStanding_30 : decode cX3_countStanding 30 = .ok (.getfield 41, 3) := by decide +kernel
theorem dX3_countStanding_33 : decode cX3_countStanding 33 = .ok (.iload_n 1, 1) := by decide +kernel
theorem dX3_countStanding_34 : decode cX3_countStanding 34 = .ok (.iconst 0, 1) := by decide +kernel
theorem dX3_countStanding_35 : decode cX3_countStanding 35 = .ok (.invokevirtual 138, 3) := by decide +kernel
theorem dX3_countStanding_38 : decode cX3_countStanding 38 = .ok (.dup2, 1) := by decide +kernel
theorem dX3_countStanding_39 : decode cX3_countStanding 39 = .ok (.iaload, 1) := by decide +kernel
theorem dX3_countStanding_40 : decode cX3_countStanding 40 = .ok (.iconst 1, 1) := by decide +kernel
theorem dX3_countStanding_41 : decode cX3_countStanding 41 = .ok (.iadd, 1) := by decide +kernel
theorem dX3_countStanding_42 : decode cX3_countStanding 42 = .ok (.iastore, 1) := by decide +kernel
theorem dX3_countStanding_43 : decode cX3_countStanding 43 = .ok (.iinc 1 1, 3) := by decide +kernel
theorem dX3_countStanding_46 : decode cX3_countStanding 46 = .ok (.goto (-44), 3) := by decide +kernel
theorem dX3_countStanding_49 : decode cX3_countStanding 49 = .ok (.return_, 1) := by decide +kernel
theorem dX3_stoodOfAll_0 : decode cX3_stoodOfAll 0 = .ok (.iconst 0, 1) := by decide +kernel
theorem dX3_stoodOfAll_1 : decode cX3_stoodOfAll 1 = .ok (.istore_n 1, 1) := by decide +kernel
theorem dX3_stoodOfAll_2 : decode cX3_stoodOfAll 2 = .ok (.iconst 0, 1) := by decide +kernel
theorem dX3_stoodOfAll_3 : decode cX3_stoodOfAll 3 = .ok (.istore_n 2, 1) := by decide +kernel
theorem dX3_stoodOfAll_4 : decode cX3_stoodOfAll 4 = .ok (.iload_n 2, 1) := by decide +kernel
theorem dX3_stoodOfAll_5 : decode cX3_stoodOfAll 5 = .ok (.aload_n 0, 1) := by decide +kernel
theorem dX3_stoodOfAll_6 : decode cX3_stoodOfAll 6 = .ok (.getfield 19, 3) := by decide +kernel
theorem dX3_stoodOfAll_9 : decode cX3_stoodOfAll 9 = .ok (.getfield 76, 3) := by decide +kernel
theorem dX3_stoodOfAll_12 : decode cX3_stoodOfAll 12 = .ok (.if_icmp .ge 18, 3) := by decide +kernel
theorem dX3_stoodOfAll_15 : decode cX3_stoodOfAll 15 = .ok (.iload_n 1, 1) := by decide +kernel
theorem dX3_stoodOfAll_16 : decode cX3_stoodOfAll 16 = .ok (.aload_n 0, 1) := by decide +kernel
theorem dX3_stoodOfAll_17 : decode cX3_stoodOfAll 17 = .ok (.getfield 31, 3) := by decide +kernel
theorem dX3_stoodOfAll_20 : decode cX3_stoodOfAll 20 = .ok (.iload_n 2, 1) := by decide +kernel
theorem dX3_stoodOfAll_21 : decode cX3_stoodOfAll 21 = .ok (.iaload, 1) := by decide +kernel
theorem dX3_stoodOfAll_22 : decode cX3_stoodOfAll 22 = .ok (.iadd, 1) := by decide +kernel
theorem dX3_stoodOfAll_23 : decode cX3_stoodOfAll 23 = .ok (.istore_n 1, 1) := by decide +kernel
theorem dX3_stoodOfAll_24 : decode cX3_stoodOfAll 24 = .ok (.iinc 2 1, 3) := by decide +kernel
theorem dX3_stoodOfAll_27 : decode cX3_stoodOfAll 27 = .ok (.goto (-23), 3) := by decide +kernel
theorem dX3_stoodOfAll_30 : decode cX3_stoodOfAll 30 = .ok (.iload_n 1, 1) := by decide +kernel
theorem dX3_stoodOfAll_31 : decode cX3_stoodOfAll 31 = .ok (.ireturn, 1) := by decide +kernel
theorem dX3_goodOnShelves_0 : decode cX3_goodOnShelves 0 = .ok (.iconst 0, 1) := by decide +kernel
theorem dX3_goodOnShelves_1 : decode cX3_goodOnShelves 1 = .ok (.istore_n 2, 1) := by decide +kernel
theorem dX3_goodOnShelves_2 : decode cX3_goodOnShelves 2 = .ok (.iconst 0, 1) := by decide +kernel
theorem dX3_goodOnShelves_3 : decode cX3_goodOnShelves 3 = .ok (.istore_n 3, 1) := by decide +kernel
theorem dX3_goodOnShelves_4 : decode cX3_goodOnShelves 4 = .ok (.iload_n 3, 1) := by decide +kernel
theorem dX3_goodOnShelves_5 : decode cX3_goodOnShelves 5 = .ok (.aload_n 0, 1) := by decide +kernel
theorem dX3_goodOnShelves_6 : decode cX3_goodOnShelves 6 = .ok (.getfield 19, 3) := by decide +kernel
theorem dX3_goodOnShelves_9 : decode cX3_goodOnShelves 9 = .ok (.getfield 76, 3) := by decide +kernel
theorem dX3_goodOnShelves_12 : decode cX3_goodOnShelves 12 = .ok (.if_icmp .ge 20, 3) := by decide +kernel
theorem dX3_goodOnShelves_15 : decode cX3_goodOnShelves 15 = .ok (.iload_n 2, 1) := by decide +kernel
theorem dX3_goodOnShelves_16 : decode cX3_goodOnShelves 16 = .ok (.aload_n 0, 1) := by decide +kernel
theorem dX3_goodOnShelves_17 : decode cX3_goodOnShelves 17 = .ok (.getfield 25, 3) := by decide +kernel
theorem dX3_goodOnShelves_20 : decode cX3_goodOnShelves 20 = .ok (.iload_n 3, 1) := by decide +kernel
theorem dX3_goodOnShelves_21 : decode cX3_goodOnShelves 21 = .ok (.aaload, 1) := by decide +kernel
theorem dX3_goodOnShelves_22 : decode cX3_goodOnShelves 22 = .ok (.iload_n 1, 1) := by decide +kernel
theorem dX3_goodOnShelves_23 : decode cX3_goodOnShelves 23 = .ok (.iaload, 1) := by decide +kernel
theorem dX3_goodOnShelves_24 : decode cX3_goodOnShelves 24 = .ok (.iadd, 1) := by decide +kernel
theorem dX3_goodOnShelves_25 : decode cX3_goodOnShelves 25 = .ok (.istore_n 2, 1) := by decide +kernel
theorem dX3_goodOnShelves_26 : decode cX3_goodOnShelves 26 = .ok (.iinc 3 1, 3) := by decide +kernel
theorem dX3_goodOnShelves_29 : decode cX3_goodOnShelves 29 = .ok (.goto (-25), 3) := by decide +kernel
theorem dX3_goodOnShelves_32 : decode cX3_goodOnShelves 32 = .ok (.iload_n 2, 1) := by decide +kernel
theorem dX3_goodOnShelves_33 : decode cX3_goodOnShelves 33 = .ok (.ireturn, 1) := by decide +kernel
theorem dX3_flowOf_0 : decode cX3_flowOf 0 = .ok (.iconst 0, 1) := by decide +kernel
theorem dX3_flowOf_1 : decode cX3_flowOf 1 = .ok (.istore_n 3, 1) := by decide +kernel
theorem dX3_flowOf_2 : decode cX3_flowOf 2 = .ok (.iload_n 3, 1) := by decide +kernel
theorem dX3_flowOf_3 : decode cX3_flowOf 3 = .ok (.aload_n 0, 1) := by decide +kernel
theorem dX3_flowOf_4 : decode cX3_flowOf 4 = .ok (.getfield 19, 3) := by decide +kernel
theorem dX3_flowOf_7 : decode cX3_flowOf 7 = .ok (.getfield 76, 3) := by decide +kernel
theorem dX3_flowOf_10 : decode cX3_flowOf 10 = .ok (.if_icmp .ge 23, 3) := by decide +kernel
theorem dX3_flowOf_13 : decode cX3_flowOf 13 = .ok (.aload_n 0, 1) := by decide +kernel
theorem dX3_flowOf_14 : decode cX3_flowOf 14 = .ok (.getfield 35, 3) := by decide +kernel
theorem dX3_flowOf_17 : decode cX3_flowOf 17 = .ok (.iload_n 3, 1) := by decide +kernel
theorem dX3_flowOf_18 : decode cX3_flowOf 18 = .ok (.aload_n 0, 1) := by decide +kernel
theorem dX3_flowOf_19 : decode cX3_flowOf 19 = .ok (.getfield 28, 3) := by decide +kernel
theorem dX3_flowOf_22 : decode cX3_flowOf 22 = .ok (.iload_n 3, 1) := by decide +kernel
theorem dX3_flowOf_23 : decode cX3_flowOf 23 = .ok (.aaload, 1) := by decide +kernel
theorem dX3_flowOf_24 : decode cX3_flowOf 24 = .ok (.iload_n 2, 1) := by decide +kernel
theorem dX3_flowOf_25 : decode cX3_flowOf 25 = .ok (.iaload, 1) := by decide +kernel
theorem dX3_flowOf_26 : decode cX3_flowOf 26 = .ok (.iastore, 1) := by decide +kernel
theorem dX3_flowOf_27 : decode cX3_flowOf 27 = .ok (.iinc 3 1, 3) := by decide +kernel
theorem dX3_flowOf_30 : decode cX3_flowOf 30 = .ok (.goto (-28), 3) := by decide +kernel
theorem dX3_flowOf_33 : decode cX3_flowOf 33 = .ok (.aload_n 0, 1) := by decide +kernel
theorem dX3_flowOf_34 : decode cX3_flowOf 34 = .ok (.getfield 19, 3) := by decide +kernel
theorem dX3_flowOf_37 : decode cX3_flowOf 37 = .ok (.getfield 76, 3) := by decide +kernel
theorem dX3_flowOf_40 : decode cX3_flowOf 40 = .ok (.iconst 1, 1) := by decide +kernel
theorem dX3_flowOf_41 : decode cX3_flowOf 41 = .ok (.isub, 1) := by decide +kernel
theorem dX3_flowOf_42 : decode cX3_flowOf 42 = .ok (.istore_n 3, 1) := by decide +kernel
theorem dX3_flowOf_43 : decode cX3_flowOf 43 = .ok (.iload_n 3, 1) := by decide +kernel
theorem dX3_flowOf_44 : decode cX3_flowOf 44 = .ok (.iload_n 1, 1) := by decide +kernel
theorem dX3_flowOf_45 : decode cX3_flowOf 45 = .ok (.if_icmp .le 46, 3) := by decide +kernel
theorem dX3_flowOf_48 : decode cX3_flowOf 48 = .ok (.aload_n 0, 1) := by decide +kernel
theorem dX3_flowOf_49 : decode cX3_flowOf 49 = .ok (.getfield 19, 3) := by decide +kernel
theorem dX3_flowOf_52 : decode cX3_flowOf 52 = .ok (.getfield 72, 3) := by decide +kernel
theorem dX3_flowOf_55 : decode cX3_flowOf 55 = .ok (.iload_n 3, 1) := by decide +kernel
theorem dX3_flowOf_56 : decode cX3_flowOf 56 = .ok (.aaload, 1) := by decide +kernel
theorem dX3_flowOf_57 : decode cX3_flowOf 57 = .ok (.iload_n 2, 1) := by decide +kernel
theorem dX3_flowOf_58 : decode cX3_flowOf 58 = .ok (.iaload, 1) := by decide +kernel
theorem dX3_flowOf_59 : decode cX3_flowOf 59 = .ok (.ifCond .ne 26, 3) := by decide +kernel
theorem dX3_flowOf_62 : decode cX3_flowOf 62 = .ok (.aload_n 0, 1) := by decide +kernel
theorem dX3_flowOf_63 : decode cX3_flowOf 63 = .ok (.getfield 35, 3) := by decide +kernel
theorem dX3_flowOf_66 : decode cX3_flowOf 66 = .ok (.aload_n 0, 1) := by decide +kernel
theorem dX3_flowOf_67 : decode cX3_flowOf 67 = .ok (.getfield 19, 3) := by decide +kernel
theorem dX3_flowOf_70 : decode cX3_flowOf 70 = .ok (.getfield 77, 3) := by decide +kernel
theorem dX3_flowOf_73 : decode cX3_flowOf 73 = .ok (.iload_n 3, 1) := by decide +kernel
theorem dX3_flowOf_74 : decode cX3_flowOf 74 = .ok (.iaload, 1) := by decide +kernel
theorem dX3_flowOf_75 : decode cX3_flowOf 75 = .ok (.dup2, 1) := by decide +kernel
theorem dX3_flowOf_76 : decode cX3_flowOf 76 = .ok (.iaload, 1) := by decide +kernel
theorem dX3_flowOf_77 : decode cX3_flowOf 77 = .ok (.aload_n 0, 1) := by decide +kernel
theorem dX3_flowOf_78 : decode cX3_flowOf 78 = .ok (.getfield 35, 3) := by decide +kernel
theorem dX3_flowOf_81 : decode cX3_flowOf 81 = .ok (.iload_n 3, 1) := by decide +kernel
theorem dX3_flowOf_82 : decode cX3_flowOf 82 = .ok (.iaload, 1) := by decide +kernel
theorem dX3_flowOf_83 : decode cX3_flowOf 83 = .ok (.iadd, 1) := by decide +kernel
theorem dX3_flowOf_84 : decode cX3_flowOf 84 = .ok (.iastore, 1) := by decide +kernel
theorem dX3_flowOf_85 : decode cX3_flowOf 85 = .ok (.iinc 3 (-1), 3) := by decide +kernel
theorem dX3_flowOf_88 : decode cX3_flowOf 88 = .ok (.goto (-45), 3) := by decide +kernel
theorem dX3_flowOf_91 : decode cX3_flowOf 91 = .ok (.aload_n 0, 1) := by decide +kernel
theorem dX3_flowOf_92 : decode cX3_flowOf 92 = .ok (.getfield 35, 3) := by decide +kernel
theorem dX3_flowOf_95 : decode cX3_flowOf 95 = .ok (.iload_n 1, 1) := by decide +kernel
theorem dX3_flowOf_96 : decode cX3_flowOf 96 = .ok (.iaload, 1) := by decide +kernel
theorem dX3_flowOf_97 : decode cX3_flowOf 97 = .ok (.ireturn, 1) := by decide +kernel
set_option maxRecDepth 20000 in
theorem ggX3_pipeOf_X3_flowOf : GoodIn wsX3_pipeOf wsX3_flowOf := goodIn_r _ [8, 1, 9, 10, 11, 2, 12, 13, 14, 15, 16, 17, 18, 19, 20, 21, 22, 23, 24, 25] (by decide +kernel) (by decide +kernel)
set_option maxRecDepth 20000 in
theorem gX3_pipeOf_X3_flowOf : GoodIn wsX3_pipeOf (wsV RX3 151 RX3 yX3_flowOf wsX3_flowOf) := goodIn_app (goodIn_of _ (by decide +kernel)) ggX3_pipeOf_X3_flowOf
theorem dX3_pipeOf_0 : decode cX3_pipeOf 0 = .ok (.aload_n 0, 1) := by decide +kernel
theorem dX3_pipeOf_1 : decode cX3_pipeOf 1 = .ok (.getfield 19, 3) := by decide +kernel
theorem dX3_pipeOf_4 : decode cX3_pipeOf 4 = .ok (.getfield 72, 3) := by decide +kernel
theorem dX3_pipeOf_7 : decode cX3_pipeOf 7 = .ok (.iload_n 1, 1) := by decide +kernel
theorem dX3_pipeOf_8 : decode cX3_pipeOf 8 = .ok (.aaload, 1) := by decide +kernel
theorem dX3_pipeOf_9 : decode cX3_pipeOf 9 = .ok (.iload_n 2, 1) := by decide +kernel
theorem dX3_pipeOf_10 : decode cX3_pipeOf 10 = .ok (.iaload, 1) := by decide +kernel
theorem dX3_pipeOf_11 : decode cX3_pipeOf 11 = .ok (.istore_n 3, 1) := by decide +kernel
theorem dX3_pipeOf_12 : decode cX3_pipeOf 12 = .ok (.aload_n 0, 1) := by decide +kernel
theorem dX3_pipeOf_13 : decode cX3_pipeOf 13 = .ok (.iload_n 1, 1) := by decide +kernel
theorem dX3_pipeOf_14 : decode cX3_pipeOf 14 = .ok (.iload_n 2, 1) := by decide +kernel
theorem dX3_pipeOf_15 : decode cX3_pipeOf 15 = .ok (.invokevirtual 151, 3) := by decide +kernel
theorem dX3_pipeOf_18 : decode cX3_pipeOf 18 = .ok (.iload_n 3, 1) := by decide +kernel
theorem dX3_pipeOf_19 : decode cX3_pipeOf 19 = .ok (.ifCond .le 7, 3) := by decide +kernel
theorem dX3_pipeOf_22 : decode cX3_pipeOf 22 = .ok (.iload_n 3, 1) := by decide +kernel
theorem dX3_pipeOf_23 : decode cX3_pipeOf 23 = .ok (.goto 12, 3) := by decide +kernel
theorem dX3_pipeOf_26 : decode cX3_pipeOf 26 = .ok (.aload_n 0, 1) := by decide +kernel
theorem dX3_pipeOf_27 : decode cX3_pipeOf 27 = .ok (.getfield 19, 3) := by decide +kernel
theorem dX3_pipeOf_30 : decode cX3_pipeOf 30 = .ok (.getfield 80, 3) := by decide +kernel
theorem dX3_pipeOf_33 : decode cX3_pipeOf 33 = .ok (.iload_n 1, 1) := by decide +kernel
theorem dX3_pipeOf_34 : decode cX3_pipeOf 34 = .ok (.iaload, 1) := by decide +kernel
theorem dX3_pipeOf_35 : decode cX3_pipeOf 35 = .ok (.imul, 1) := by decide +kernel
theorem dX3_pipeOf_36 : decode cX3_pipeOf 36 = .ok (.ireturn, 1) := by decide +kernel
set_option maxRecDepth 20000 in
theorem ggX3_wantOf_X3_pipeOf : GoodIn wsX3_wantOf wsX3_pipeOf := goodIn_r _ [10, 11, 12, 13, 14, 15, 16, 9, 17, 18, 19, 20, 21, 22, 23, 24, 25, 26, 27, 28, 29, 30, 31, 32, 33, 34] (by decide +kernel) (by decide +kernel)
set_option maxRecDepth 20000 in
theorem gX3_wantOf_X3_pipeOf : GoodIn wsX3_wantOf (wsV RX3 154 RX3 yX3_pipeOf wsX3_pipeOf) := goodIn_app (goodIn_of _ (by decide +kernel)) ggX3_wantOf_X3_pipeOf
theorem dX3_wantOf_0 : decode cX3_wantOf 0 = .ok (.iconst 0, 1) := by decide +kernel
theorem dX3_wantOf_1 : decode cX3_wantOf 1 = .ok (.aload_n 0, 1) := by decide +kernel
theorem dX3_wantOf_2 : decode cX3_wantOf 2 = .ok (.iload_n 1, 1) := by decide +kernel
theorem dX3_wantOf_3 : decode cX3_wantOf 3 = .ok (.iload_n 2, 1) := by decide +kernel
theorem dX3_wantOf_4 : decode cX3_wantOf 4 = .ok (.invokevirtual 154, 3) := by decide +kernel
theorem dX3_wantOf_7 : decode cX3_wantOf 7 = .ok (.sipush 1000, 3) := by decide +kernel
theorem dX3_wantOf_10 : decode cX3_wantOf 10 = .ok (.aload_n 0, 1) := by decide +kernel
theorem dX3_wantOf_11 : decode cX3_wantOf 11 = .ok (.getfield 25, 3) := by decide +kernel
theorem dX3_wantOf_14 : decode cX3_wantOf 14 = .ok (.iload_n 1, 1) := by decide +kernel
theorem dX3_wantOf_15 : decode cX3_wantOf 15 = .ok (.aaload, 1) := by decide +kernel
theorem dX3_wantOf_16 : decode cX3_wantOf 16 = .ok (.iload_n 2, 1) := by decide +kernel
theorem dX3_wantOf_17 : decode cX3_wantOf 17 = .ok (.iaload, 1) := by decide +kernel
theorem dX3_wantOf_18 : decode cX3_wantOf 18 = .ok (.imul, 1) := by decide +kernel
theorem dX3_wantOf_19 : decode cX3_wantOf 19 = .ok (.isub, 1) := by decide +kernel
theorem dX3_wantOf_20 : decode cX3_wantOf 20 = .ok (.invokestatic 184, 3) := by decide +kernel
theorem dX3_wantOf_23 : decode cX3_wantOf 23 = .ok (.ireturn, 1) := by decide +kernel
end
section
/-! the judgement GG: the machine's W with heap, locals' array and written places quantified inside; a rule an instruction -/
abbrev GX : Type := Program × Launch × Env × Room × State × MethodId × Array Value × List Frame × Method × Code × (Nat → Prop) × va_G × (State → Prop) × Prop
def gL (C : GX) : Launch := C.2.1
def gD (C : GX) : va_G := C.2.2.2.2.2.2.2.2.2.2.2.1
def gRo (C : GX) : Prop := C.2.2.2.2.2.2.2.2.2.2.2.2.2
abbrev gT (cI cO : ClassId) : List (ClassId × FieldType) := [(cI, .int), (cO, .array .int)]
def GG (C : GX) (nL : Nat) (ws : va_W) (k n pc : Nat) (lv : List (Nat × Value)) (st : List Value) : Prop := match C with
  | (p, l, e, R, s, m, args, below, meth, c, A, D, Q, ro) => ∀ (H : Heap) (locs : List Loc) (ls : Array Slot), va_P D vwCl ws H → va_D A ws → va_S A s.heap H locs → (ro → H = s.heap ∧ locs = []) → lv_has ls nL lv → W p l e R s m args below meth c H locs k n Q (F0 m pc ls st)
def OKx (C : GX) (cc : ByteArray) (nL : Nat) (Ts : List Cond) (own : String) (RM : Room) (cI cO : ClassId) : Prop := match C with
  | (p, l, e, R, s, m, args, below, meth, c, A, D, Q, ro) => p.tables.exec = Jvm.exec ∧ c.code = cc ∧ c.maxLocals = nL ∧ s.vm.findClass own = some m.cls ∧ (∀ w ∈ Ts, w.before args s = true) ∧ va_K D vwCl (gT cI cO) s ∧ (∀ q, s.heap.size ≤ q → A q) ∧ R = RM
def lvi (x : Nat × Value) : List (Nat × Value) → List (Nat × Value)
  | [] => [x]
  | y :: r => if x.1 < y.1 then x :: y :: r else y :: lvi x r
theorem lvi_mem {x q : Nat × Value} : ∀ {l : List (Nat × Value)}, q ∈ lvi x l → q = x ∨ q ∈ l
  | [], h => by
    rw [lvi] at h
    exact Or.inl (List.mem_singleton.mp h)
  | y :: r, h => by
    rw [lvi] at h
    split at h
    · rcases List.mem_cons.mp h with h | h
      · exact Or.inl h
      · exact Or.inr h
    · rcases List.mem_cons.mp h with h | h
      · exact Or.inr (by rw [h]; exact List.mem_cons_self)
      · rcases lvi_mem h with h | h
        · exact Or.inl h
        · exact Or.inr (List.mem_cons_of_mem _ h)
def lvs (i : Nat) (v : Value) (lv : List (Nat × Value)) : List (Nat × Value) := lvi (i, v) (lv.filter (fun q => !(q.1 == i) && !(q.1 + 1 == i && q.2.category == 2)))
def lvl (i : Nat) (v : Value) (lv : List (Nat × Value)) : List (Nat × Value) := lvi (i, v) (lv.filter (fun q => !(q.1 == i) && (!(q.1 == i + 1) && !(q.1 + 1 == i && q.2.category == 2))))
theorem lvi_has {ls : Array Slot} {nL : Nat} {x : Nat × Value} {l : List (Nat × Value)} (h : lv_has ls nL (x :: l)) : lv_has ls nL (lvi x l) :=
  ⟨h.1, h.2.1, fun q hq => h.2.2 q (by
    rcases lvi_mem hq with h9 | h9
    · rw [h9]; exact List.mem_cons_self
    · exact List.mem_cons_of_mem _ h9)⟩
section GGR
variable {C : GX} {nL : Nat} {ws ws' : va_W} {k n pc : Nat} {lv lv' : List (Nat × Value)} {st : List Value} {cc : ByteArray} {Ts : List Cond} {own : String} {RM : Room} {cI cO : ClassId}
theorem g_eq (e : ws = ws') (kk : GG C nL ws' k n pc lv st) : GG C nL ws k n pc lv st := e ▸ kk
theorem g_lv (e : lv = lv') (kk : GG C nL ws k n pc lv' st) : GG C nL ws k n pc lv st := e ▸ kk
theorem g_topi {x y : Int32} (e : x = y) (kk : GG C nL ws k n pc lv (.int y :: st)) : GG C nL ws k n pc lv (.int x :: st) := e ▸ kk
theorem g_topl {x y : Int64} (e : x = y) (kk : GG C nL ws k n pc lv (.long y :: st)) : GG C nL ws k n pc lv (.long x :: st) := e ▸ kk
theorem g_wid {k' n' : Nat} (h1 : k ≤ k') (h2 : n ≤ n') (kk : GG C nL ws k' n' pc lv st) : GG C nL ws k n pc lv st := by
  obtain ⟨p, l, e, R, s, m, args, below, meth, c, A, D, Q, ro⟩ := C
  intro H locs ls hP hD hS hro hl
  exact W.widen h1 h2 (kk H locs ls hP hD hS hro hl)
theorem g_sub (is : List Nat) (hn : va_nd is = true) (hs : is.map (fun i => ws[i]?) = ws'.map some) (kk : GG C nL ws' k n pc lv st) : GG C nL ws k n pc lv st := by
  obtain ⟨p, l, e, R, s, m, args, below, meth, c, A, D, Q, ro⟩ := C
  intro H locs ls hP hD hS hro hl
  refine kk H locs ls (fun j q hj => ?_) (hD.sub is hn hs) hS hro hl
  have h1 : (is.map (fun i => ws[i]?))[j]? = some (some q) := by rw [hs, List.getElem?_map, hj]; rfl
  rw [List.getElem?_map] at h1
  cases hi : is[j]? with
  | none => rw [hi] at h1; cases h1
  | some i => rw [hi] at h1; exact hP i q (Option.some.inj h1)
theorem g_iload_n (h : OKx C cc nL Ts own RM cI cO) {i : Fin 4} {x : Int32} (hdg : decode cc pc = .ok (.iload_n i, 1)) (j : Nat) (hj : lv[j]? = some ((i : Nat), .int x)) (kk : GG C nL ws k n (pc + 1) lv (.int x :: st)) : GG C nL ws k n pc lv st := by
  obtain ⟨p, l, e, R, s, m, args, below, meth, c, A, D, Q, ro⟩ := C
  obtain ⟨hx, hb, hml, hown, hts, hK, hA, rfl⟩ := h
  intro H locs ls hP hD hS hro hl
  exact lv_iload_n hx hb hdg rfl (lv_at hl j hj) (kk H locs ls hP hD hS hro hl)
theorem g_iload (h : OKx C cc nL Ts own RM cI cO) {i : Nat} {x : Int32} (hdg : decode cc pc = .ok (.iload i, 2)) (j : Nat) (hj : lv[j]? = some (i, .int x)) (kk : GG C nL ws k n (pc + 2) lv (.int x :: st)) : GG C nL ws k n pc lv st := by
  obtain ⟨p, l, e, R, s, m, args, below, meth, c, A, D, Q, ro⟩ := C
  obtain ⟨hx, hb, hml, hown, hts, hK, hA, rfl⟩ := h
  intro H locs ls hP hD hS hro hl
  exact lv_iload hx hb hdg (lv_at hl j hj) (kk H locs ls hP hD hS hro hl)
theorem g_lload_n (h : OKx C cc nL Ts own RM cI cO) {i : Fin 4} {x : Int64} (hdg : decode cc pc = .ok (.lload_n i, 1)) (j : Nat) (hj : lv[j]? = some ((i : Nat), .long x)) (kk : GG C nL ws k n (pc + 1) lv (.long x :: st)) : GG C nL ws k n pc lv st := by
  obtain ⟨p, l, e, R, s, m, args, below, meth, c, A, D, Q, ro⟩ := C
  obtain ⟨hx, hb, hml, hown, hts, hK, hA, rfl⟩ := h
  intro H locs ls hP hD hS hro hl
  exact lv_lload_n hx hb hdg rfl (lv_at hl j hj) (kk H locs ls hP hD hS hro hl)
theorem g_lload (h : OKx C cc nL Ts own RM cI cO) {i : Nat} {x : Int64} (hdg : decode cc pc = .ok (.lload i, 2)) (j : Nat) (hj : lv[j]? = some (i, .long x)) (kk : GG C nL ws k n (pc + 2) lv (.long x :: st)) : GG C nL ws k n pc lv st := by
  obtain ⟨p, l, e, R, s, m, args, below, meth, c, A, D, Q, ro⟩ := C
  obtain ⟨hx, hb, hml, hown, hts, hK, hA, rfl⟩ := h
  intro H locs ls hP hD hS hro hl
  exact lv_lload hx hb hdg (lv_at hl j hj) (kk H locs ls hP hD hS hro hl)
theorem g_aload_n (h : OKx C cc nL Ts own RM cI cO) {i : Fin 4} {x : Nat} (hdg : decode cc pc = .ok (.aload_n i, 1)) (j : Nat) (hj : lv[j]? = some ((i : Nat), .ref x)) (kk : GG C nL ws k n (pc + 1) lv (.ref x :: st)) : GG C nL ws k n pc lv st := by
  obtain ⟨p, l, e, R, s, m, args, below, meth, c, A, D, Q, ro⟩ := C
  obtain ⟨hx, hb, hml, hown, hts, hK, hA, rfl⟩ := h
  intro H locs ls hP hD hS hro hl
  exact lv_aload_n hx hb hdg rfl (lv_at hl j hj) (kk H locs ls hP hD hS hro hl)
theorem g_aload (h : OKx C cc nL Ts own RM cI cO) {i : Nat} {x : Nat} (hdg : decode cc pc = .ok (.aload i, 2)) (j : Nat) (hj : lv[j]? = some (i, .ref x)) (kk : GG C nL ws k n (pc + 2) lv (.ref x :: st)) : GG C nL ws k n pc lv st := by
  obtain ⟨p, l, e, R, s, m, args, below, meth, c, A, D, Q, ro⟩ := C
  obtain ⟨hx, hb, hml, hown, hts, hK, hA, rfl⟩ := h
  intro H locs ls hP hD hS hro hl
  exact lv_aload hx hb hdg (lv_at hl j hj) (kk H locs ls hP hD hS hro hl)
theorem g_istore_n (h : OKx C cc nL Ts own RM cI cO) {i : Fin 4} {x : Int32} (hdg : decode cc pc = .ok (.istore_n i, 1)) (hn : (i : Nat) < nL) (hl9 : lvs i (.int x) lv = lv') (kk : GG C nL ws k n (pc + 1) lv' st) : GG C nL ws k n pc lv (.int x :: st) := by
  obtain ⟨p, l, e, R, s, m, args, below, meth, c, A, D, Q, ro⟩ := C
  obtain ⟨hx, hb, hml, hown, hts, hK, hA, rfl⟩ := h
  intro H locs ls hP hD hS hro hl
  subst hl9
  exact lv_istore_n hx hb hdg rfl hl hn rfl (fun ls9 h9 => kk H locs ls9 hP hD hS hro (lvi_has h9))
theorem g_istore (h : OKx C cc nL Ts own RM cI cO) {i : Nat} {x : Int32} (hdg : decode cc pc = .ok (.istore i, 2)) (hn : i < nL) (hl9 : lvs i (.int x) lv = lv') (kk : GG C nL ws k n (pc + 2) lv' st) : GG C nL ws k n pc lv (.int x :: st) := by
  obtain ⟨p, l, e, R, s, m, args, below, meth, c, A, D, Q, ro⟩ := C
  obtain ⟨hx, hb, hml, hown, hts, hK, hA, rfl⟩ := h
  intro H locs ls hP hD hS hro hl
  subst hl9
  exact lv_istore hx hb hdg hl hn rfl (fun ls9 h9 => kk H locs ls9 hP hD hS hro (lvi_has h9))
theorem g_lstore_n (h : OKx C cc nL Ts own RM cI cO) {i : Fin 4} {x : Int64} (hdg : decode cc pc = .ok (.lstore_n i, 1)) (hn : (i : Nat) + 1 < nL) (hl9 : lvl i (.long x) lv = lv') (kk : GG C nL ws k n (pc + 1) lv' st) : GG C nL ws k n pc lv (.long x :: st) := by
  obtain ⟨p, l, e, R, s, m, args, below, meth, c, A, D, Q, ro⟩ := C
  obtain ⟨hx, hb, hml, hown, hts, hK, hA, rfl⟩ := h
  intro H locs ls hP hD hS hro hl
  subst hl9
  exact lv_lstore_n hx hb hdg rfl hl hn rfl (fun ls9 h9 => kk H locs ls9 hP hD hS hro (lvi_has h9))
theorem g_lstore (h : OKx C cc nL Ts own RM cI cO) {i : Nat} {x : Int64} (hdg : decode cc pc = .ok (.lstore i, 2)) (hn : i + 1 < nL) (hl9 : lvl i (.long x) lv = lv') (kk : GG C nL ws k n (pc + 2) lv' st) : GG C nL ws k n pc lv (.long x :: st) := by
  obtain ⟨p, l, e, R, s, m, args, below, meth, c, A, D, Q, ro⟩ := C
  obtain ⟨hx, hb, hml, hown, hts, hK, hA, rfl⟩ := h
  intro H locs ls hP hD hS hro hl
  subst hl9
  exact lv_lstore hx hb hdg hl hn rfl (fun ls9 h9 => kk H locs ls9 hP hD hS hro (lvi_has h9))
theorem g_astore_n (h : OKx C cc nL Ts own RM cI cO) {i : Fin 4} {x : Nat} (hdg : decode cc pc = .ok (.astore_n i, 1)) (hn : (i : Nat) < nL) (hl9 : lvs i (.ref x) lv = lv') (kk : GG C nL ws k n (pc + 1) lv' st) : GG C nL ws k n pc lv (.ref x :: st) := by
  obtain ⟨p, l, e, R, s, m, args, below, meth, c, A, D, Q, ro⟩ := C
  obtain ⟨hx, hb, hml, hown, hts, hK, hA, rfl⟩ := h
  intro H locs ls hP hD hS hro hl
  subst hl9
  exact lv_astore_n hx hb hdg rfl hl hn rfl (fun ls9 h9 => kk H locs ls9 hP hD hS hro (lvi_has h9))
theorem g_iinc (h : OKx C cc nL Ts own RM cI cO) {i : Nat} {d : Int} {x v : Int32} (hdg : decode cc pc = .ok (.iinc i d, 3)) (j : Nat) (hj : lv[j]? = some (i, .int x)) (hv : x + Int32.ofInt d = v) (hn : i < nL) (hl9 : lvs i (.int v) lv = lv') (kk : GG C nL ws k n (pc + 3) lv' st) : GG C nL ws k n pc lv st := by
  obtain ⟨p, l, e, R, s, m, args, below, meth, c, A, D, Q, ro⟩ := C
  obtain ⟨hx, hb, hml, hown, hts, hK, hA, rfl⟩ := h
  intro H locs ls hP hD hS hro hl
  subst hl9
  exact lv_iinc hx hb hdg hl hj hv hn rfl (fun ls9 h9 => kk H locs ls9 hP hD hS hro (lvi_has h9))
theorem g_iconst (h : OKx C cc nL Ts own RM cI cO) {z : Int} {v : Int32} (hdg : decode cc pc = .ok (.iconst z, 1)) (hv : Int32.ofInt z = v) (kk : GG C nL ws k n (pc + 1) lv (.int v :: st)) : GG C nL ws k n pc lv st := by
  obtain ⟨p, l, e, R, s, m, args, below, meth, c, A, D, Q, ro⟩ := C
  obtain ⟨hx, hb, hml, hown, hts, hK, hA, rfl⟩ := h
  intro H locs ls hP hD hS hro hl
  exact lv_iconst hx hb hdg hv (kk H locs ls hP hD hS hro hl)
theorem g_bipush (h : OKx C cc nL Ts own RM cI cO) {z : Int} {v : Int32} (hdg : decode cc pc = .ok (.bipush z, 2)) (hv : (Int8.ofInt z).toInt32 = v) (kk : GG C nL ws k n (pc + 2) lv (.int v :: st)) : GG C nL ws k n pc lv st := by
  obtain ⟨p, l, e, R, s, m, args, below, meth, c, A, D, Q, ro⟩ := C
  obtain ⟨hx, hb, hml, hown, hts, hK, hA, rfl⟩ := h
  intro H locs ls hP hD hS hro hl
  exact lv_bipush hx hb hdg hv (kk H locs ls hP hD hS hro hl)
theorem g_sipush (h : OKx C cc nL Ts own RM cI cO) {z : Int} {v : Int32} (hdg : decode cc pc = .ok (.sipush z, 3)) (hv : (Int16.ofInt z).toInt32 = v) (kk : GG C nL ws k n (pc + 3) lv (.int v :: st)) : GG C nL ws k n pc lv st := by
  obtain ⟨p, l, e, R, s, m, args, below, meth, c, A, D, Q, ro⟩ := C
  obtain ⟨hx, hb, hml, hown, hts, hK, hA, rfl⟩ := h
  intro H locs ls hP hD hS hro hl
  exact lv_sipush hx hb hdg hv (kk H locs ls hP hD hS hro hl)
theorem g_lconst (h : OKx C cc nL Ts own RM cI cO) {z : Fin 2} {v : Int64} (hdg : decode cc pc = .ok (.lconst z, 1)) (hv : Int64.ofNat (z : Nat) = v) (kk : GG C nL ws k n (pc + 1) lv (.long v :: st)) : GG C nL ws k n pc lv st := by
  obtain ⟨p, l, e, R, s, m, args, below, meth, c, A, D, Q, ro⟩ := C
  obtain ⟨hx, hb, hml, hown, hts, hK, hA, rfl⟩ := h
  intro H locs ls hP hD hS hro hl
  exact lv_lconst hx hb hdg hv (kk H locs ls hP hD hS hro hl)
theorem g_iadd (h : OKx C cc nL Ts own RM cI cO) {x y : Int32} (hdg : decode cc pc = .ok (.iadd, 1))  (kk : GG C nL ws k n (pc + 1) lv (.int (x + y) :: st)) : GG C nL ws k n pc lv (.int y :: .int x :: st) := by
  obtain ⟨p, l, e, R, s, m, args, below, meth, c, A, D, Q, ro⟩ := C
  obtain ⟨hx, hb, hml, hown, hts, hK, hA, rfl⟩ := h
  intro H locs ls hP hD hS hro hl
  exact lv_iadd hx hb hdg (kk H locs ls hP hD hS hro hl)
theorem g_isub (h : OKx C cc nL Ts own RM cI cO) {x y : Int32} (hdg : decode cc pc = .ok (.isub, 1))  (kk : GG C nL ws k n (pc + 1) lv (.int (x - y) :: st)) : GG C nL ws k n pc lv (.int y :: .int x :: st) := by
  obtain ⟨p, l, e, R, s, m, args, below, meth, c, A, D, Q, ro⟩ := C
  obtain ⟨hx, hb, hml, hown, hts, hK, hA, rfl⟩ := h
  intro H locs ls hP hD hS hro hl
  exact lv_isub hx hb hdg (kk H locs ls hP hD hS hro hl)
theorem g_imul (h : OKx C cc nL Ts own RM cI cO) {x y : Int32} (hdg : decode cc pc = .ok (.imul, 1))  (kk : GG C nL ws k n (pc + 1) lv (.int (x * y) :: st)) : GG C nL ws k n pc lv (.int y :: .int x :: st) := by
  obtain ⟨p, l, e, R, s, m, args, below, meth, c, A, D, Q, ro⟩ := C
  obtain ⟨hx, hb, hml, hown, hts, hK, hA, rfl⟩ := h
  intro H locs ls hP hD hS hro hl
  exact lv_imul hx hb hdg (kk H locs ls hP hD hS hro hl)
theorem g_iand (h : OKx C cc nL Ts own RM cI cO) {x y : Int32} (hdg : decode cc pc = .ok (.iand, 1))  (kk : GG C nL ws k n (pc + 1) lv (.int (x &&& y) :: st)) : GG C nL ws k n pc lv (.int y :: .int x :: st) := by
  obtain ⟨p, l, e, R, s, m, args, below, meth, c, A, D, Q, ro⟩ := C
  obtain ⟨hx, hb, hml, hown, hts, hK, hA, rfl⟩ := h
  intro H locs ls hP hD hS hro hl
  exact lv_iand hx hb hdg (kk H locs ls hP hD hS hro hl)
theorem g_idiv (h : OKx C cc nL Ts own RM cI cO) {x y : Int32} (hdg : decode cc pc = .ok (.idiv, 1)) (hne : ¬ y = 0) (kk : GG C nL ws k n (pc + 1) lv (.int (x / y) :: st)) : GG C nL ws k n pc lv (.int y :: .int x :: st) := by
  obtain ⟨p, l, e, R, s, m, args, below, meth, c, A, D, Q, ro⟩ := C
  obtain ⟨hx, hb, hml, hown, hts, hK, hA, rfl⟩ := h
  intro H locs ls hP hD hS hro hl
  exact lv_idiv hx hb hdg hne (kk H locs ls hP hD hS hro hl)
theorem g_irem (h : OKx C cc nL Ts own RM cI cO) {x y : Int32} (hdg : decode cc pc = .ok (.irem, 1)) (hne : ¬ y = 0) (kk : GG C nL ws k n (pc + 1) lv (.int (x - x / y * y) :: st)) : GG C nL ws k n pc lv (.int y :: .int x :: st) := by
  obtain ⟨p, l, e, R, s, m, args, below, meth, c, A, D, Q, ro⟩ := C
  obtain ⟨hx, hb, hml, hown, hts, hK, hA, rfl⟩ := h
  intro H locs ls hP hD hS hro hl
  exact lv_irem hx hb hdg hne (kk H locs ls hP hD hS hro hl)
theorem g_lmul (h : OKx C cc nL Ts own RM cI cO) {x y : Int64} (hdg : decode cc pc = .ok (.lmul, 1))  (kk : GG C nL ws k n (pc + 1) lv (.long (x * y) :: st)) : GG C nL ws k n pc lv (.long y :: .long x :: st) := by
  obtain ⟨p, l, e, R, s, m, args, below, meth, c, A, D, Q, ro⟩ := C
  obtain ⟨hx, hb, hml, hown, hts, hK, hA, rfl⟩ := h
  intro H locs ls hP hD hS hro hl
  exact lv_lmul hx hb hdg (kk H locs ls hP hD hS hro hl)
theorem g_lcmp (h : OKx C cc nL Ts own RM cI cO) {x y : Int64} (hdg : decode cc pc = .ok (.lcmp, 1))  (kk : GG C nL ws k n (pc + 1) lv (.int (lg_cmp x y) :: st)) : GG C nL ws k n pc lv (.long y :: .long x :: st) := by
  obtain ⟨p, l, e, R, s, m, args, below, meth, c, A, D, Q, ro⟩ := C
  obtain ⟨hx, hb, hml, hown, hts, hK, hA, rfl⟩ := h
  intro H locs ls hP hD hS hro hl
  exact W.lcmp hx hb hdg (kk H locs ls hP hD hS hro hl)
theorem g_i2l (h : OKx C cc nL Ts own RM cI cO) {x : Int32} (hdg : decode cc pc = .ok (.i2l, 1))  (kk : GG C nL ws k n (pc + 1) lv (.long x.toInt64 :: st)) : GG C nL ws k n pc lv (.int x :: st) := by
  obtain ⟨p, l, e, R, s, m, args, below, meth, c, A, D, Q, ro⟩ := C
  obtain ⟨hx, hb, hml, hown, hts, hK, hA, rfl⟩ := h
  intro H locs ls hP hD hS hro hl
  exact lv_i2l hx hb hdg rfl (kk H locs ls hP hD hS hro hl)
theorem g_dup (h : OKx C cc nL Ts own RM cI cO) {x : Value} (hdg : decode cc pc = .ok (.dup, 1)) (hx9 : x.category = 1) (kk : GG C nL ws k n (pc + 1) lv (x :: x :: st)) : GG C nL ws k n pc lv (x :: st) := by
  obtain ⟨p, l, e, R, s, m, args, below, meth, c, A, D, Q, ro⟩ := C
  obtain ⟨hx, hb, hml, hown, hts, hK, hA, rfl⟩ := h
  intro H locs ls hP hD hS hro hl
  exact lv_dup hx hb hdg hx9 (kk H locs ls hP hD hS hro hl)
theorem g_dup2 (h : OKx C cc nL Ts own RM cI cO) {x y : Value} (hdg : decode cc pc = .ok (.dup2, 1)) (hx9 : x.category = 1) (hy9 : y.category = 1) (kk : GG C nL ws k n (pc + 1) lv (x :: y :: x :: y :: st)) : GG C nL ws k n pc lv (x :: y :: st) := by
  obtain ⟨p, l, e, R, s, m, args, below, meth, c, A, D, Q, ro⟩ := C
  obtain ⟨hx, hb, hml, hown, hts, hK, hA, rfl⟩ := h
  intro H locs ls hP hD hS hro hl
  exact lv_dup2_11 hx hb hdg hx9 hy9 (kk H locs ls hP hD hS hro hl)
theorem g_if_eq (h : OKx C cc nL Ts own RM cI cO) {x : Int32} {off : Int} {tgt : Nat} (hdg : decode cc pc = .ok (.ifCond .eq off, 3)) (ht : (pc : Int) + off = (tgt : Int)) (kt : x = 0 → GG C nL ws k n tgt lv st) (kf : ¬ x = 0 → GG C nL ws k n (pc + 3) lv st) : GG C nL ws k n pc lv (.int x :: st) := by
  obtain ⟨p, l, e, R, s, m, args, below, meth, c, A, D, Q, ro⟩ := C
  obtain ⟨hx, hb, hml, hown, hts, hK, hA, rfl⟩ := h
  intro H locs ls hP hD hS hro hl
  exact lv_if_eq hx hb hdg ht (fun c9 => kt c9 H locs ls hP hD hS hro hl) (fun c9 => kf c9 H locs ls hP hD hS hro hl)
theorem g_icmp_eq (h : OKx C cc nL Ts own RM cI cO) {x y : Int32} {off : Int} {tgt : Nat} (hdg : decode cc pc = .ok (.if_icmp .eq off, 3)) (ht : (pc : Int) + off = (tgt : Int)) (kt : x = y → GG C nL ws k n tgt lv st) (kf : ¬ x = y → GG C nL ws k n (pc + 3) lv st) : GG C nL ws k n pc lv (.int y :: .int x :: st) := by
  obtain ⟨p, l, e, R, s, m, args, below, meth, c, A, D, Q, ro⟩ := C
  obtain ⟨hx, hb, hml, hown, hts, hK, hA, rfl⟩ := h
  intro H locs ls hP hD hS hro hl
  exact lv_icmp_eq hx hb hdg ht (fun c9 => kt c9 H locs ls hP hD hS hro hl) (fun c9 => kf c9 H locs ls hP hD hS hro hl)
theorem g_if_ne (h : OKx C cc nL Ts own RM cI cO) {x : Int32} {off : Int} {tgt : Nat} (hdg : decode cc pc = .ok (.ifCond .ne off, 3)) (ht : (pc : Int) + off = (tgt : Int)) (kt : ¬ x = 0 → GG C nL ws k n tgt lv st) (kf : x = 0 → GG C nL ws k n (pc + 3) lv st) : GG C nL ws k n pc lv (.int x :: st) := by
  obtain ⟨p, l, e, R, s, m, args, below, meth, c, A, D, Q, ro⟩ := C
  obtain ⟨hx, hb, hml, hown, hts, hK, hA, rfl⟩ := h
  intro H locs ls hP hD hS hro hl
  exact lv_if_ne hx hb hdg ht (fun c9 => kt c9 H locs ls hP hD hS hro hl) (fun c9 => kf c9 H locs ls hP hD hS hro hl)
theorem g_icmp_ne (h : OKx C cc nL Ts own RM cI cO) {x y : Int32} {off : Int} {tgt : Nat} (hdg : decode cc pc = .ok (.if_icmp .ne off, 3)) (ht : (pc : Int) + off = (tgt : Int)) (kt : ¬ x = y → GG C nL ws k n tgt lv st) (kf : x = y → GG C nL ws k n (pc + 3) lv st) : GG C nL ws k n pc lv (.int y :: .int x :: st) := by
  obtain ⟨p, l, e, R, s, m, args, below, meth, c, A, D, Q, ro⟩ := C
  obtain ⟨hx, hb, hml, hown, hts, hK, hA, rfl⟩ := h
  intro H locs ls hP hD hS hro hl
  exact lv_icmp_ne hx hb hdg ht (fun c9 => kt c9 H locs ls hP hD hS hro hl) (fun c9 => kf c9 H locs ls hP hD hS hro hl)
theorem g_if_lt (h : OKx C cc nL Ts own RM cI cO) {x : Int32} {off : Int} {tgt : Nat} (hdg : decode cc pc = .ok (.ifCond .lt off, 3)) (ht : (pc : Int) + off = (tgt : Int)) (kt : x < 0 → GG C nL ws k n tgt lv st) (kf : ¬ x < 0 → GG C nL ws k n (pc + 3) lv st) : GG C nL ws k n pc lv (.int x :: st) := by
  obtain ⟨p, l, e, R, s, m, args, below, meth, c, A, D, Q, ro⟩ := C
  obtain ⟨hx, hb, hml, hown, hts, hK, hA, rfl⟩ := h
  intro H locs ls hP hD hS hro hl
  exact lv_if_lt hx hb hdg ht (fun c9 => kt c9 H locs ls hP hD hS hro hl) (fun c9 => kf c9 H locs ls hP hD hS hro hl)
theorem g_icmp_lt (h : OKx C cc nL Ts own RM cI cO) {x y : Int32} {off : Int} {tgt : Nat} (hdg : decode cc pc = .ok (.if_icmp .lt off, 3)) (ht : (pc : Int) + off = (tgt : Int)) (kt : x < y → GG C nL ws k n tgt lv st) (kf : ¬ x < y → GG C nL ws k n (pc + 3) lv st) : GG C nL ws k n pc lv (.int y :: .int x :: st) := by
  obtain ⟨p, l, e, R, s, m, args, below, meth, c, A, D, Q, ro⟩ := C
  obtain ⟨hx, hb, hml, hown, hts, hK, hA, rfl⟩ := h
  intro H locs ls hP hD hS hro hl
  exact lv_icmp_lt hx hb hdg ht (fun c9 => kt c9 H locs ls hP hD hS hro hl) (fun c9 => kf c9 H locs ls hP hD hS hro hl)
theorem g_if_ge (h : OKx C cc nL Ts own RM cI cO) {x : Int32} {off : Int} {tgt : Nat} (hdg : decode cc pc = .ok (.ifCond .ge off, 3)) (ht : (pc : Int) + off = (tgt : Int)) (kt : 0 ≤ x → GG C nL ws k n tgt lv st) (kf : ¬ 0 ≤ x → GG C nL ws k n (pc + 3) lv st) : GG C nL ws k n pc lv (.int x :: st) := by
  obtain ⟨p, l, e, R, s, m, args, below, meth, c, A, D, Q, ro⟩ := C
  obtain ⟨hx, hb, hml, hown, hts, hK, hA, rfl⟩ := h
  intro H locs ls hP hD hS hro hl
  exact lv_if_ge hx hb hdg ht (fun c9 => kt c9 H locs ls hP hD hS hro hl) (fun c9 => kf c9 H locs ls hP hD hS hro hl)
theorem g_icmp_ge (h : OKx C cc nL Ts own RM cI cO) {x y : Int32} {off : Int} {tgt : Nat} (hdg : decode cc pc = .ok (.if_icmp .ge off, 3)) (ht : (pc : Int) + off = (tgt : Int)) (kt : y ≤ x → GG C nL ws k n tgt lv st) (kf : ¬ y ≤ x → GG C nL ws k n (pc + 3) lv st) : GG C nL ws k n pc lv (.int y :: .int x :: st) := by
  obtain ⟨p, l, e, R, s, m, args, below, meth, c, A, D, Q, ro⟩ := C
  obtain ⟨hx, hb, hml, hown, hts, hK, hA, rfl⟩ := h
  intro H locs ls hP hD hS hro hl
  exact lv_icmp_ge hx hb hdg ht (fun c9 => kt c9 H locs ls hP hD hS hro hl) (fun c9 => kf c9 H locs ls hP hD hS hro hl)
theorem g_if_gt (h : OKx C cc nL Ts own RM cI cO) {x : Int32} {off : Int} {tgt : Nat} (hdg : decode cc pc = .ok (.ifCond .gt off, 3)) (ht : (pc : Int) + off = (tgt : Int)) (kt : 0 < x → GG C nL ws k n tgt lv st) (kf : ¬ 0 < x → GG C nL ws k n (pc + 3) lv st) : GG C nL ws k n pc lv (.int x :: st) := by
  obtain ⟨p, l, e, R, s, m, args, below, meth, c, A, D, Q, ro⟩ := C
  obtain ⟨hx, hb, hml, hown, hts, hK, hA, rfl⟩ := h
  intro H locs ls hP hD hS hro hl
  exact lv_if_gt hx hb hdg ht (fun c9 => kt c9 H locs ls hP hD hS hro hl) (fun c9 => kf c9 H locs ls hP hD hS hro hl)
theorem g_icmp_gt (h : OKx C cc nL Ts own RM cI cO) {x y : Int32} {off : Int} {tgt : Nat} (hdg : decode cc pc = .ok (.if_icmp .gt off, 3)) (ht : (pc : Int) + off = (tgt : Int)) (kt : y < x → GG C nL ws k n tgt lv st) (kf : ¬ y < x → GG C nL ws k n (pc + 3) lv st) : GG C nL ws k n pc lv (.int y :: .int x :: st) := by
  obtain ⟨p, l, e, R, s, m, args, below, meth, c, A, D, Q, ro⟩ := C
  obtain ⟨hx, hb, hml, hown, hts, hK, hA, rfl⟩ := h
  intro H locs ls hP hD hS hro hl
  exact lv_icmp_gt hx hb hdg ht (fun c9 => kt c9 H locs ls hP hD hS hro hl) (fun c9 => kf c9 H locs ls hP hD hS hro hl)
theorem g_if_le (h : OKx C cc nL Ts own RM cI cO) {x : Int32} {off : Int} {tgt : Nat} (hdg : decode cc pc = .ok (.ifCond .le off, 3)) (ht : (pc : Int) + off = (tgt : Int)) (kt : x ≤ 0 → GG C nL ws k n tgt lv st) (kf : ¬ x ≤ 0 → GG C nL ws k n (pc + 3) lv st) : GG C nL ws k n pc lv (.int x :: st) := by
  obtain ⟨p, l, e, R, s, m, args, below, meth, c, A, D, Q, ro⟩ := C
  obtain ⟨hx, hb, hml, hown, hts, hK, hA, rfl⟩ := h
  intro H locs ls hP hD hS hro hl
  exact lv_if_le hx hb hdg ht (fun c9 => kt c9 H locs ls hP hD hS hro hl) (fun c9 => kf c9 H locs ls hP hD hS hro hl)
theorem g_icmp_le (h : OKx C cc nL Ts own RM cI cO) {x y : Int32} {off : Int} {tgt : Nat} (hdg : decode cc pc = .ok (.if_icmp .le off, 3)) (ht : (pc : Int) + off = (tgt : Int)) (kt : x ≤ y → GG C nL ws k n tgt lv st) (kf : ¬ x ≤ y → GG C nL ws k n (pc + 3) lv st) : GG C nL ws k n pc lv (.int y :: .int x :: st) := by
  obtain ⟨p, l, e, R, s, m, args, below, meth, c, A, D, Q, ro⟩ := C
  obtain ⟨hx, hb, hml, hown, hts, hK, hA, rfl⟩ := h
  intro H locs ls hP hD hS hro hl
  exact lv_icmp_le hx hb hdg ht (fun c9 => kt c9 H locs ls hP hD hS hro hl) (fun c9 => kf c9 H locs ls hP hD hS hro hl)
theorem g_if_eq_t (h : OKx C cc nL Ts own RM cI cO) {x : Int32} {off : Int} {tgt : Nat} (hdg : decode cc pc = .ok (.ifCond .eq off, 3)) (ht : (pc : Int) + off = (tgt : Int)) (hc : x = 0) (kk : GG C nL ws k n tgt lv st) : GG C nL ws k n pc lv (.int x :: st) := g_if_eq h hdg ht (fun _ => kk) (fun c9 => absurd hc c9)
theorem g_if_eq_f (h : OKx C cc nL Ts own RM cI cO) {x : Int32} {off : Int} {tgt : Nat} (hdg : decode cc pc = .ok (.ifCond .eq off, 3)) (ht : (pc : Int) + off = (tgt : Int)) (hc : ¬ x = 0) (kk : GG C nL ws k n (pc + 3) lv st) : GG C nL ws k n pc lv (.int x :: st) := g_if_eq h hdg ht (fun c9 => absurd c9 hc) (fun _ => kk)
theorem g_icmp_eq_t (h : OKx C cc nL Ts own RM cI cO) {x y : Int32} {off : Int} {tgt : Nat} (hdg : decode cc pc = .ok (.if_icmp .eq off, 3)) (ht : (pc : Int) + off = (tgt : Int)) (hc : x = y) (kk : GG C nL ws k n tgt lv st) : GG C nL ws k n pc lv (.int y :: .int x :: st) := g_icmp_eq h hdg ht (fun _ => kk) (fun c9 => absurd hc c9)
theorem g_icmp_eq_f (h : OKx C cc nL Ts own RM cI cO) {x y : Int32} {off : Int} {tgt : Nat} (hdg : decode cc pc = .ok (.if_icmp .eq off, 3)) (ht : (pc : Int) + off = (tgt : Int)) (hc : ¬ x = y) (kk : GG C nL ws k n (pc + 3) lv st) : GG C nL ws k n pc lv (.int y :: .int x :: st) := g_icmp_eq h hdg ht (fun c9 => absurd c9 hc) (fun _ => kk)
theorem g_if_ne_t (h : OKx C cc nL Ts own RM cI cO) {x : Int32} {off : Int} {tgt : Nat} (hdg : decode cc pc = .ok (.ifCond .ne off, 3)) (ht : (pc : Int) + off = (tgt : Int)) (hc : ¬ x = 0) (kk : GG C nL ws k n tgt lv st) : GG C nL ws k n pc lv (.int x :: st) := g_if_ne h hdg ht (fun _ => kk) (fun c9 => absurd c9 hc)
theorem g_if_ne_f (h : OKx C cc nL Ts own RM cI cO) {x : Int32} {off : Int} {tgt : Nat} (hdg : decode cc pc = .ok (.ifCond .ne off, 3)) (ht : (pc : Int) + off = (tgt : Int)) (hc : x = 0) (kk : GG C nL ws k n (pc + 3) lv st) : GG C nL ws k n pc lv (.int x :: st) := g_if_ne h hdg ht (fun c9 => absurd hc c9) (fun _ => kk)
theorem g_icmp_ne_t (h : OKx C cc nL Ts own RM cI cO) {x y : Int32} {off : Int} {tgt : Nat} (hdg : decode cc pc = .ok (.if_icmp .ne off, 3)) (ht : (pc : Int) + off = (tgt : Int)) (hc : ¬ x = y) (kk : GG C nL ws k n tgt lv st) : GG C nL ws k n pc lv (.int y :: .int x :: st) := g_icmp_ne h hdg ht (fun _ => kk) (fun c9 => absurd c9 hc)
theorem g_icmp_ne_f (h : OKx C cc nL Ts own RM cI cO) {x y : Int32} {off : Int} {tgt : Nat} (hdg : decode cc pc = .ok (.if_icmp .ne off, 3)) (ht : (pc : Int) + off = (tgt : Int)) (hc : x = y) (kk : GG C nL ws k n (pc + 3) lv st) : GG C nL ws k n pc lv (.int y :: .int x :: st) := g_icmp_ne h hdg ht (fun c9 => absurd hc c9) (fun _ => kk)
theorem g_if_lt_t (h : OKx C cc nL Ts own RM cI cO) {x : Int32} {off : Int} {tgt : Nat} (hdg : decode cc pc = .ok (.ifCond .lt off, 3)) (ht : (pc : Int) + off = (tgt : Int)) (hc : x < 0) (kk : GG C nL ws k n tgt lv st) : GG C nL ws k n pc lv (.int x :: st) := g_if_lt h hdg ht (fun _ => kk) (fun c9 => absurd hc c9)
theorem g_if_lt_f (h : OKx C cc nL Ts own RM cI cO) {x : Int32} {off : Int} {tgt : Nat} (hdg : decode cc pc = .ok (.ifCond .lt off, 3)) (ht : (pc : Int) + off = (tgt : Int)) (hc : ¬ x < 0) (kk : GG C nL ws k n (pc + 3) lv st) : GG C nL ws k n pc lv (.int x :: st) := g_if_lt h hdg ht (fun c9 => absurd c9 hc) (fun _ => kk)
theorem g_icmp_lt_t (h : OKx C cc nL Ts own RM cI cO) {x y : Int32} {off : Int} {tgt : Nat} (hdg : decode cc pc = .ok (.if_icmp .lt off, 3)) (ht : (pc : Int) + off = (tgt : Int)) (hc : x < y) (kk : GG C nL ws k n tgt lv st) : GG C nL ws k n pc lv (.int y :: .int x :: st) := g_icmp_lt h hdg ht (fun _ => kk) (fun c9 => absurd hc c9)
theorem g_icmp_lt_f (h : OKx C cc nL Ts own RM cI cO) {x y : Int32} {off : Int} {tgt : Nat} (hdg : decode cc pc = .ok (.if_icmp .lt off, 3)) (ht : (pc : Int) + off = (tgt : Int)) (hc : ¬ x < y) (kk : GG C nL ws k n (pc + 3) lv st) : GG C nL ws k n pc lv (.int y :: .int x :: st) := g_icmp_lt h hdg ht (fun c9 => absurd c9 hc) (fun _ => kk)
theorem g_if_ge_t (h : OKx C cc nL Ts own RM cI cO) {x : Int32} {off : Int} {tgt : Nat} (hdg : decode cc pc = .ok (.ifCond .ge off, 3)) (ht : (pc : Int) + off = (tgt : Int)) (hc : 0 ≤ x) (kk : GG C nL ws k n tgt lv st) : GG C nL ws k n pc lv (.int x :: st) := g_if_ge h hdg ht (fun _ => kk) (fun c9 => absurd hc c9)
theorem g_if_ge_f (h : OKx C cc nL Ts own RM cI cO) {x : Int32} {off : Int} {tgt : Nat} (hdg : decode cc pc = .ok (.ifCond .ge off, 3)) (ht : (pc : Int) + off = (tgt : Int)) (hc : ¬ 0 ≤ x) (kk : GG C nL ws k n (pc + 3) lv st) : GG C nL ws k n pc lv (.int x :: st) := g_if_ge h hdg ht (fun c9 => absurd c9 hc) (fun _ => kk)
theorem g_icmp_ge_t (h : OKx C cc nL Ts own RM cI cO) {x y : Int32} {off : Int} {tgt : Nat} (hdg : decode cc pc = .ok (.if_icmp .ge off, 3)) (ht : (pc : Int) + off = (tgt : Int)) (hc : y ≤ x) (kk : GG C nL ws k n tgt lv st) : GG C nL ws k n pc lv (.int y :: .int x :: st) := g_icmp_ge h hdg ht (fun _ => kk) (fun c9 => absurd hc c9)
theorem g_icmp_ge_f (h : OKx C cc nL Ts own RM cI cO) {x y : Int32} {off : Int} {tgt : Nat} (hdg : decode cc pc = .ok (.if_icmp .ge off, 3)) (ht : (pc : Int) + off = (tgt : Int)) (hc : ¬ y ≤ x) (kk : GG C nL ws k n (pc + 3) lv st) : GG C nL ws k n pc lv (.int y :: .int x :: st) := g_icmp_ge h hdg ht (fun c9 => absurd c9 hc) (fun _ => kk)
theorem g_if_gt_t (h : OKx C cc nL Ts own RM cI cO) {x : Int32} {off : Int} {tgt : Nat} (hdg : decode cc pc = .ok (.ifCond .gt off, 3)) (ht : (pc : Int) + off = (tgt : Int)) (hc : 0 < x) (kk : GG C nL ws k n tgt lv st) : GG C nL ws k n pc lv (.int x :: st) := g_if_gt h hdg ht (fun _ => kk) (fun c9 => absurd hc c9)
theorem g_if_gt_f (h : OKx C cc nL Ts own RM cI cO) {x : Int32} {off : Int} {tgt : Nat} (hdg : decode cc pc = .ok (.ifCond .gt off, 3)) (ht : (pc : Int) + off = (tgt : Int)) (hc : ¬ 0 < x) (kk : GG C nL ws k n (pc + 3) lv st) : GG C nL ws k n pc lv (.int x :: st) := g_if_gt h hdg ht (fun c9 => absurd c9 hc) (fun _ => kk)
theorem g_icmp_gt_t (h : OKx C cc nL Ts own RM cI cO) {x y : Int32} {off : Int} {tgt : Nat} (hdg : decode cc pc = .ok (.if_icmp .gt off, 3)) (ht : (pc : Int) + off = (tgt : Int)) (hc : y < x) (kk : GG C nL ws k n tgt lv st) : GG C nL ws k n pc lv (.int y :: .int x :: st) := g_icmp_gt h hdg ht (fun _ => kk) (fun c9 => absurd hc c9)
theorem g_icmp_gt_f (h : OKx C cc nL Ts own RM cI cO) {x y : Int32} {off : Int} {tgt : Nat} (hdg : decode cc pc = .ok (.if_icmp .gt off, 3)) (ht : (pc : Int) + off = (tgt : Int)) (hc : ¬ y < x) (kk : GG C nL ws k n (pc + 3) lv st) : GG C nL ws k n pc lv (.int y :: .int x :: st) := g_icmp_gt h hdg ht (fun c9 => absurd c9 hc) (fun _ => kk)
theorem g_if_le_t (h : OKx C cc nL Ts own RM cI cO) {x : Int32} {off : Int} {tgt : Nat} (hdg : decode cc pc = .ok (.ifCond .le off, 3)) (ht : (pc : Int) + off = (tgt : Int)) (hc : x ≤ 0) (kk : GG C nL ws k n tgt lv st) : GG C nL ws k n pc lv (.int x :: st) := g_if_le h hdg ht (fun _ => kk) (fun c9 => absurd hc c9)
theorem g_if_le_f (h : OKx C cc nL Ts own RM cI cO) {x : Int32} {off : Int} {tgt : Nat} (hdg : decode cc pc = .ok (.ifCond .le off, 3)) (ht : (pc : Int) + off = (tgt : Int)) (hc : ¬ x ≤ 0) (kk : GG C nL ws k n (pc + 3) lv st) : GG C nL ws k n pc lv (.int x :: st) := g_if_le h hdg ht (fun c9 => absurd c9 hc) (fun _ => kk)
theorem g_icmp_le_t (h : OKx C cc nL Ts own RM cI cO) {x y : Int32} {off : Int} {tgt : Nat} (hdg : decode cc pc = .ok (.if_icmp .le off, 3)) (ht : (pc : Int) + off = (tgt : Int)) (hc : x ≤ y) (kk : GG C nL ws k n tgt lv st) : GG C nL ws k n pc lv (.int y :: .int x :: st) := g_icmp_le h hdg ht (fun _ => kk) (fun c9 => absurd hc c9)
theorem g_icmp_le_f (h : OKx C cc nL Ts own RM cI cO) {x y : Int32} {off : Int} {tgt : Nat} (hdg : decode cc pc = .ok (.if_icmp .le off, 3)) (ht : (pc : Int) + off = (tgt : Int)) (hc : ¬ x ≤ y) (kk : GG C nL ws k n (pc + 3) lv st) : GG C nL ws k n pc lv (.int y :: .int x :: st) := g_icmp_le h hdg ht (fun c9 => absurd c9 hc) (fun _ => kk)
theorem g_goto (h : OKx C cc nL Ts own RM cI cO) {off : Int} {tgt : Nat} (hdg : decode cc pc = .ok (.goto off, 3)) (ht : (pc : Int) + off = (tgt : Int)) (kk : GG C nL ws k n tgt lv st) : GG C nL ws k n pc lv st := by
  obtain ⟨p, l, e, R, s, m, args, below, meth, c, A, D, Q, ro⟩ := C
  obtain ⟨hx, hb, hml, hown, hts, hK, hA, rfl⟩ := h
  intro H locs ls hP hD hS hro hl
  exact lv_goto hx hb hdg ht (kk H locs ls hP hD hS hro hl)
theorem g_tblIn (h : OKx C cc nL Ts own RM cI cO) {dflt lo hi : Int} {offs : Array Int} {len : Nat} {x : Int32} {off : Int} {tgt : Nat} (hdg : decode cc pc = .ok (.tableswitch dflt lo hi offs, len)) (h1 : ¬ x.toInt < lo) (h2 : ¬ hi < x.toInt) (ho : offs[(x.toInt - lo).toNat]? = some off) (ht : (pc : Int) + off = (tgt : Int)) (kk : GG C nL ws k n tgt lv st) : GG C nL ws k n pc lv (.int x :: st) := by
  obtain ⟨p, l, e, R, s, m, args, below, meth, c, A, D, Q, ro⟩ := C
  obtain ⟨hx, hb, hml, hown, hts, hK, hA, rfl⟩ := h
  intro H locs ls hP hD hS hro hl
  exact lv_tableIn hx hb hdg h1 h2 ho ht (kk H locs ls hP hD hS hro hl)
theorem g_tblOut (h : OKx C cc nL Ts own RM cI cO) {dflt lo hi : Int} {offs : Array Int} {len : Nat} {x : Int32} {tgt : Nat} (hdg : decode cc pc = .ok (.tableswitch dflt lo hi offs, len)) (h1 : x.toInt < lo ∨ hi < x.toInt) (ht : (pc : Int) + dflt = (tgt : Int)) (kk : GG C nL ws k n tgt lv st) : GG C nL ws k n pc lv (.int x :: st) := by
  obtain ⟨p, l, e, R, s, m, args, below, meth, c, A, D, Q, ro⟩ := C
  obtain ⟨hx, hb, hml, hown, hts, hK, hA, rfl⟩ := h
  intro H locs ls hP hD hS hro hl
  exact lv_tableOut hx hb hdg h1 ht (kk H locs ls hP hD hS hro hl)
theorem g_get (h : OKx C cc nL Ts own RM cI cO) {Cn : String} {T : u_T} {N ci idx a : Nat} {fs : List Value} {v : Value} (hdg : decode cc pc = .ok (.getfield idx, 3)) (hin : ∀ w ∈ u_ws Cn T N, w ∈ Ts) (q0 : Nat) (he : ws[q0]? = some (a, .inr (ci, fs))) (hc : vwCl[ci]? = some (Cn, T, N)) (kf : Nat) (hk : kf < N) (hlink : Cond.fieldLink own idx (T kf).1 (T kf).2.1 (T kf).2.2.1 ∈ Ts) (hv : fs[kf]? = some v) (kk : GG C nL ws k n (pc + 3) lv (v :: st)) : GG C nL ws k n pc lv (.ref a :: st) := by
  obtain ⟨p, l, e, R, s, m, args, below, meth, c, A, D, Q, ro⟩ := C
  obtain ⟨hx, hb, hml, hown, hts, hK, hA, rfl⟩ := h
  intro H locs ls hP hD hS hro hl
  exact va_get hx hb hts hin hown hK hP q0 he hc kf hk (hts _ hlink) (fun _ h9 => h9) hv hdg (kk H locs ls hP hD hS hro hl)
theorem g_put (h : OKx C cc nL Ts own RM cI cO) (hw : ¬ gRo C) {Cn : String} {T : u_T} {N ci idx a : Nat} {fs : List Value} {v : Value} {ty : FieldType} (hdg : decode cc pc = .ok (.putfield idx, 3)) (hin : ∀ w ∈ u_ws Cn T N, w ∈ Ts) (ty0 : Nat → FieldType) (hty : ∀ k, k < N → parseFieldDescriptor (T k).2.2.1 = some (ty0 k)) (hnm : ∀ a, a < N → ∀ b, b < N → a ≠ b → (T a).2.1 ≠ (T b).2.1) (q0 : Nat) (he : ws[q0]? = some (a, .inr (ci, fs))) (hc : vwCl[ci]? = some (Cn, T, N)) (kf : Nat) (hk : kf < N) (hlink : Cond.fieldLink own idx (T kf).1 (T kf).2.1 (T kf).2.2.1 ∈ Ts) (hfin : (T kf).2.2.2 = false) (hd : parseFieldDescriptor (T kf).2.2.1 = some ty) (hn : narrow ty v = v) (hfit : fits ty v = true) (hl9 : kf < fs.length) (hws : ws.set q0 (a, .inr (ci, fs.set kf v)) = ws') (kk : GG C nL ws' k n (pc + 3) lv st) : GG C nL ws k n pc lv (v :: .ref a :: st) := by
  obtain ⟨p, l, e, R, s, m, args, below, meth, c, A, D, Q, ro⟩ := C
  obtain ⟨hx, hb, hml, hown, hts, hK, hA, rfl⟩ := h
  intro H locs ls hP hD hS hro hl
  subst hws
  exact va_put hx hb hts hin ty0 hty hnm hown hK hP hD hS q0 he hc kf hk (hts _ hlink) (fun _ h9 => h9) hfin hd hn hfit hl9 hdg (fun H1 locs1 hP1 hD1 hS1 => kk H1 locs1 ls hP1 hD1 hS1 (fun r9 => absurd r9 hw) hl)
theorem g_iald (h : OKx C cc nL Ts own RM cI cO) {a N : Nat} {f : Nat → Int32} {i v : Int32} (hdg : decode cc pc = .ok (.iaload, 1)) (q0 : Nat) (ha : ws[q0]? = some (a, .inl (cI, N, .inl f))) (hin : vp_in i N) (hv : f i.toNatClampNeg = v) (kk : GG C nL ws k n (pc + 1) lv (.int v :: st)) : GG C nL ws k n pc lv (.int i :: .ref a :: st) := by
  obtain ⟨p, l, e, R, s, m, args, below, meth, c, A, D, Q, ro⟩ := C
  obtain ⟨hx, hb, hml, hown, hts, hK, hA, rfl⟩ := h
  intro H locs ls hP hD hS hro hl
  subst hv
  exact va_iald hx hb hK hP q0 0 ha rfl hin hdg (kk H locs ls hP hD hS hro hl)
theorem g_iast (h : OKx C cc nL Ts own RM cI cO) (hw : ¬ gRo C) {a N : Nat} {f : Nat → Int32} {i x : Int32} (hdg : decode cc pc = .ok (.iastore, 1)) (q0 : Nat) (ha : ws[q0]? = some (a, .inl (cI, N, .inl f))) (hin : vp_in i N) (hws : ws.set q0 (a, .inl (cI, N, .inl (upd f i.toNatClampNeg x))) = ws') (kk : GG C nL ws' k n (pc + 1) lv st) : GG C nL ws k n pc lv (.int x :: .int i :: .ref a :: st) := by
  obtain ⟨p, l, e, R, s, m, args, below, meth, c, A, D, Q, ro⟩ := C
  obtain ⟨hx, hb, hml, hown, hts, hK, hA, rfl⟩ := h
  intro H locs ls hP hD hS hro hl
  subst hws
  exact va_iast hx hb hK hP hD hS q0 0 ha rfl hin hdg (fun H1 locs1 hP1 hD1 hS1 => kk H1 locs1 ls hP1 hD1 hS1 (fun r9 => absurd r9 hw) hl)
theorem g_aald (h : OKx C cc nL Ts own RM cI cO) {a N v : Nat} {r : Nat → Option Nat} {i : Int32} (hdg : decode cc pc = .ok (.aaload, 1)) (q0 : Nat) (ha : ws[q0]? = some (a, .inl (cO, N, .inr (.inr (.inr (.inr r)))))) (hin : vp_in i N) (hv : r i.toNatClampNeg = some v) (kk : GG C nL ws k n (pc + 1) lv (.ref v :: st)) : GG C nL ws k n pc lv (.int i :: .ref a :: st) := by
  obtain ⟨p, l, e, R, s, m, args, below, meth, c, A, D, Q, ro⟩ := C
  obtain ⟨hx, hb, hml, hown, hts, hK, hA, rfl⟩ := h
  intro H locs ls hP hD hS hro hl
  have hlt : i.toNatClampNeg < N := Nat.not_le.mp fun q => hin (Or.inr q)
  refine W.aald (v := va_rf (r i.toNatClampNeg)) (ty := .array .int) hx hb (hP q0 _ ha) ((hK.2 1 _ rfl).1 N (fun j => va_rf (r j))) rfl (fun q => by cases q) (by show ¬ (i < 0 ∨ (arrV _ _ _).slots.size ≤ _); rw [arrV_size]; exact hin) (by show (arrV _ _ _).slots[_]? = _; rw [arrV_read _ _ hlt]) rfl rfl hdg ?_
  rw [hv]
  exact (kk H locs ls hP hD hS hro hl)
theorem g_alen (h : OKx C cc nL Ts own RM cI cO) {a N : Nat} {f : Nat → Int32} (hdg : decode cc pc = .ok (.arraylength, 1)) (q0 : Nat) (ha : ws[q0]? = some (a, .inl (cI, N, .inl f))) (kk : GG C nL ws k n (pc + 1) lv (.int (nI N) :: st)) : GG C nL ws k n pc lv (.ref a :: st) := by
  obtain ⟨p, l, e, R, s, m, args, below, meth, c, A, D, Q, ro⟩ := C
  obtain ⟨hx, hb, hml, hown, hts, hK, hA, rfl⟩ := h
  intro H locs ls hP hD hS hro hl
  exact va_alen hx hb hK hP q0 0 ha rfl rfl hdg (kk H locs ls hP hD hS hro hl)
theorem g_max (h : OKx C cc nL Ts own RM cI cO) {idx : Nat} {x y : Int32} (hdg : decode cc pc = .ok (.invokestatic idx, 3)) (h1 : Cond.methodLink own idx Lib.Math.max.name ∈ Ts) (h2 : Cond.static Lib.Math.max.name ∈ Ts) (h3 : Cond.initialized "java/lang/Math" ∈ Ts) (h4 : Cond.code Lib.Math.max.name Lib.Math.max.code 2 (some .int) ∈ Ts) (h5 : 1 ≤ RM.frames) (h6 : (st.map fun v => v.category).sum + 13 ≤ RM.locals) (h7 : k ≤ RM.cells) (h8 : n ≤ RM.slots) (kk : GG C nL ws k n (pc + 3) lv (.int (if x < y then y else x) :: st)) : GG C nL ws k n pc lv (.int y :: .int x :: st) := by
  obtain ⟨p, l, e, R, s, m, args, below, meth, c, A, D, Q, ro⟩ := C
  obtain ⟨hx, hb, hml, hown, hts, hK, hA, rfl⟩ := h
  intro H locs ls hP hD hS hro hl
  exact va_mmax hx hb (hml.trans hl.1.symm) hown (hts _ h1) (hts _ h2) (hts _ h3) (hts _ h4) h5 h6 h7 h8 hdg (kk H locs ls hP hD hS hro hl)
theorem g_min (h : OKx C cc nL Ts own RM cI cO) {idx : Nat} {x y : Int32} (hdg : decode cc pc = .ok (.invokestatic idx, 3)) (h1 : Cond.methodLink own idx Lib.Math.min.name ∈ Ts) (h2 : Cond.static Lib.Math.min.name ∈ Ts) (h3 : Cond.initialized "java/lang/Math" ∈ Ts) (h4 : Cond.code Lib.Math.min.name Lib.Math.min.code 2 (some .int) ∈ Ts) (h5 : 1 ≤ RM.frames) (h6 : (st.map fun v => v.category).sum + 13 ≤ RM.locals) (h7 : k ≤ RM.cells) (h8 : n ≤ RM.slots) (kk : GG C nL ws k n (pc + 3) lv (.int (if y < x then y else x) :: st)) : GG C nL ws k n pc lv (.int y :: .int x :: st) := by
  obtain ⟨p, l, e, R, s, m, args, below, meth, c, A, D, Q, ro⟩ := C
  obtain ⟨hx, hb, hml, hown, hts, hK, hA, rfl⟩ := h
  intro H locs ls hP hD hS hro hl
  exact va_mmin hx hb (hml.trans hl.1.symm) hown (hts _ h1) (hts _ h2) (hts _ h3) (hts _ h4) h5 h6 h7 h8 hdg (kk H locs ls hP hD hS hro hl)
theorem g_copy (h : OKx C cc nL Ts own RM cI cO) (hw : ¬ gRo C) {idx a a0 N0 N1 : Nat} {f g : Nat → Int32} {sp dp z : Int32} (hdg : decode cc pc = .ok (.invokestatic idx, 3)) (h1 : Cond.methodLink own idx arraycopyName ∈ Ts) (h2 : Cond.native arraycopyName ∈ Ts) (h3 : Cond.static arraycopyName ∈ Ts) (h4 : Cond.initialized "java/lang/System" ∈ Ts) (q0 q1 : Nat) (ha0 : ws[q0]? = some (a0, .inl (cI, N0, .inl f))) (ha1 : ws[q1]? = some (a, .inl (cI, N1, .inl g))) (p1 : ¬ sp < 0) (p2 : ¬ dp < 0) (p3 : ¬ z < 0) (p4 : sp.toNatClampNeg + z.toNatClampNeg ≤ N0) (p5 : dp.toNatClampNeg + z.toNatClampNeg ≤ N1) (h5 : 1 ≤ RM.frames) (h6 : (st.map fun v => v.category).sum + (nativeFrameWords "java/lang/System" "arraycopy" 5 + 11) ≤ RM.locals) (hws : ws.set q1 (a, .inl (cI, N1, .inl (va_cpy f g sp.toNatClampNeg dp.toNatClampNeg z.toNatClampNeg))) = ws') (kk : GG C nL ws' k n (pc + 3) lv st) : GG C nL ws k n pc lv (.int z :: .int dp :: .ref a :: .int sp :: .ref a0 :: st) := by
  obtain ⟨p, l, e, R, s, m, args, below, meth, c, A, D, Q, ro⟩ := C
  obtain ⟨hx, hb, hml, hown, hts, hK, hA, rfl⟩ := h
  intro H locs ls hP hD hS hro hl
  subst hws
  exact va_copyi hx hb (hml.trans hl.1.symm) hown (hts _ h1) (hts _ h2) (hts _ h3) (hts _ h4) hK hP hD hS q0 q1 0 0 ha0 ha1 rfl rfl rfl p1 p2 p3 p4 p5 (fun i _ => rfl) h5 h6 hdg (fun H1 locs1 hP1 hD1 hS1 => kk H1 locs1 ls hP1 hD1 hS1 (fun r9 => absurd r9 hw) hl)
end GGR
/-! contracts: CR (reads only), CI (writes, answers an int), CV (writes, void) -/
def PcW (D : va_G) (cI cO : ClassId) (av : List Value) (w : va_W) (sz : Nat) : Array Value → State → Prop := va_Pc av (fun U => U.heap.size = sz ∧ va_P D vwCl w U.heap ∧ va_K D vwCl (gT cI cO) U ∧ va_D (fun _ => True) w)
theorem PcW_blind {D : va_G} {cI cO : ClassId} {av : List Value} {w : va_W} {sz : Nat} : FrameBlind (PcW D cI cO av w sz) := fun a U g mk q => by
  obtain ⟨q0, q1, qP, qK, qD⟩ := q
  exact ⟨q0, q1, qP, va_K.moved (u := U) (U := U.calling g mk a) (Vm.Alike.refl U.vm) qK, qD⟩
def Qro (post : Int32 → Prop) : Array Value → State → Outcome → State → Prop := fun _ st oc t => ∃ r : Int32, oc = .returned (some (.int r)) ∧ post r ∧ t.heap = st.heap
abbrev BwW (D : va_G) (cI cO : ClassId) {S : Type} (w2 : S → va_W) (A : Nat → Prop) : S → State → Prop := fun u t => va_P D vwCl (w2 u) t.heap ∧ va_K D vwCl (gT cI cO) t ∧ va_D A (w2 u)
def CR (l : Launch) (y : MethodName) (wds : List Cond) (fr lo : Nat) (D : va_G) (cI cO : ClassId) (av : List Value) (w : va_W) (post : Int32 → Prop) : Prop := ∀ sz : Nat, Met l y wds { frames := fr, cells := 0, slots := 0, locals := lo } (PcW D cI cO av w sz) (Qro post) 0 0 (fun _ => False)
def CI (l : Launch) (y : MethodName) (wds : List Cond) (fr lo mc ms : Nat) (D : va_G) (cI cO : ClassId) (av : List Value) (w : va_W) {S : Type} (post : Int32 → S → Prop) (w2 : S → va_W) : Prop := ∀ sz : Nat, Met l y wds { frames := fr, cells := mc, slots := ms, locals := lo } (PcW D cI cO av w sz) (va_Qi post (BwW D cI cO w2 (va_A w sz)) (va_A w sz)) mc ms (va_A w sz)
def CV (l : Launch) (y : MethodName) (wds : List Cond) (fr lo mc ms : Nat) (D : va_G) (cI cO : ClassId) (av : List Value) (w : va_W) {S : Type} (post : S → Prop) (w2 : S → va_W) : Prop := ∀ sz : Nat, Met l y wds { frames := fr, cells := mc, slots := ms, locals := lo } (PcW D cI cO av w sz) (va_Qv post (BwW D cI cO w2 (va_A w sz)) (va_A w sz)) mc ms (va_A w sz)

theorem CR.of {l : Launch} {y : MethodName} {wds wds9 : List Cond} {fr lo : Nat} {D : va_G} {cI cO : ClassId} {av : List Value} {w : va_W} {post : Int32 → Prop} {cc : ByteArray} {maxL : Nat} {rt : FieldType} (hy : plainName y.cls = true) (hwd : wds = Cond.code y cc maxL (some rt) :: wds9) (hlen : (lg_sl av).length ≤ maxL)
    (body : ∀ C : GX, gL C = l → gD C = D → OKx C cc maxL wds y.cls { frames := fr, cells := 0, slots := 0, locals := lo } cI cO → (∀ {pc : Nat} {lv : List (Nat × Value)} (v : Int32), decode cc pc = .ok (.ireturn, 1) → narrow rt (.int v) = .int v → post v → GG C maxL w 0 0 pc lv [.int v]) → GG C maxL w 0 0 0 (lv_args 0 av) []) : CR l y wds fr lo D cI cO av w post := by
  intro sz
  refine Met.ofW (cc := cc) (maxL := maxL) (ret := some rt) hy hwd ?_
  intro p e s m args below meth c s₁ B hml hv
  obtain ⟨rfl, rfl, hP, hK, hD0⟩ := hv
  have hD := hD0.self (sz := s.heap.size)
  have hl := lv_entry av (n := maxL) hlen
  rw [lg_entry_eq]
  have hlocks := B.notSynchronized
  have hr := B.returns
  have hx := B.exec
  have hb := B.bytes
  refine body (p, l, e, _, s, m, _, below, meth, c, va_A w s.heap.size, D, MQ below (Qro post) _ s 0 0 (fun _ => False), True) rfl rfl ⟨B.exec, B.bytes, hml, findClass_of_methodNamed B.named, atoms_spec (ws := wds) B.pre, hK, fun q h9 => Or.inr h9, rfl⟩ ?_ s.heap [] _ hP hD va_S.rf (fun _ => ⟨rfl, rfl⟩) hl
  intro pc lv v hdg hn hp H locs ls hP9 hD9 hS9 hro hl9
  obtain ⟨rfl, rfl⟩ := hro trivial
  exact W.zret hx hb hr hn (fun t ht hW => ⟨v, rfl, hp, ht⟩) (fun q hq => by cases hq) hdg
theorem CI.of {l : Launch} {y : MethodName} {wds wds9 : List Cond} {fr lo mc ms : Nat} {D : va_G} {cI cO : ClassId} {av : List Value} {w : va_W} {S : Type} {post : Int32 → S → Prop} {w2 : S → va_W} {cc : ByteArray} {maxL : Nat} {rt : FieldType} (hy : plainName y.cls = true) (hwd : wds = Cond.code y cc maxL (some rt) :: wds9) (hlen : (lg_sl av).length ≤ maxL)
    (body : ∀ C : GX, gL C = l → gD C = D → ¬ gRo C → OKx C cc maxL wds y.cls { frames := fr, cells := mc, slots := ms, locals := lo } cI cO → (∀ {pc k n : Nat} {ws : va_W} {lv : List (Nat × Value)} (v : Int32) (u : S), decode cc pc = .ok (.ireturn, 1) → narrow rt (.int v) = .int v → post v u → ws = w2 u → k ≤ mc → n ≤ ms → GG C maxL ws k n pc lv [.int v]) → GG C maxL w 0 0 0 (lv_args 0 av) []) : CI l y wds fr lo mc ms D cI cO av w post w2 := by
  intro sz
  refine Met.ofW (cc := cc) (maxL := maxL) (ret := some rt) hy hwd ?_
  intro p e s m args below meth c s₁ B hml hv
  obtain ⟨rfl, rfl, hP, hK, hD0⟩ := hv
  have hD := hD0.self (sz := s.heap.size)
  have hl := lv_entry av (n := maxL) hlen
  rw [lg_entry_eq]
  have hlocks := B.notSynchronized
  have hr := B.returns
  have hx := B.exec
  have hb := B.bytes
  refine body (p, l, e, _, s, m, _, below, meth, c, va_A w s.heap.size, D, MQ below (va_Qi post (BwW D cI cO w2 (va_A w s.heap.size)) (va_A w s.heap.size)) _ s mc ms (va_A w s.heap.size), False) rfl rfl (fun h9 => h9) ⟨B.exec, B.bytes, hml, findClass_of_methodNamed B.named, atoms_spec (ws := wds) B.pre, hK, fun q h9 => Or.inr h9, rfl⟩ ?_ s.heap [] _ hP hD va_S.rf (fun h9 => absurd h9 (fun h8 => h8)) hl
  intro pc k n ws lv v u hdg hn hp hws h1 h2 H locs ls hP9 hD9 hS9 hro hl9
  subst hws
  exact W.widen h1 h2 (W.zret hx hb hr hn (fun t ht hW => ⟨⟨v, u, rfl, hp, by rw [ht]; exact hP9, va_K.moved hW.alike hK, hD9⟩, hS9.F ht⟩) hS9.2.2 hdg)
theorem CV.of {l : Launch} {y : MethodName} {wds wds9 : List Cond} {fr lo mc ms : Nat} {D : va_G} {cI cO : ClassId} {av : List Value} {w : va_W} {S : Type} {post : S → Prop} {w2 : S → va_W} {cc : ByteArray} {maxL : Nat} (hy : plainName y.cls = true) (hwd : wds = Cond.code y cc maxL none :: wds9) (hlen : (lg_sl av).length ≤ maxL)
    (body : ∀ C : GX, gL C = l → gD C = D → ¬ gRo C → OKx C cc maxL wds y.cls { frames := fr, cells := mc, slots := ms, locals := lo } cI cO → (∀ {pc k n : Nat} {ws : va_W} {lv : List (Nat × Value)} (u : S), decode cc pc = .ok (.return_, 1) → post u → ws = w2 u → k ≤ mc → n ≤ ms → GG C maxL ws k n pc lv []) → GG C maxL w 0 0 0 (lv_args 0 av) []) : CV l y wds fr lo mc ms D cI cO av w post w2 := by
  intro sz
  refine Met.ofW (cc := cc) (maxL := maxL) (ret := none) hy hwd ?_
  intro p e s m args below meth c s₁ B hml hv
  obtain ⟨rfl, rfl, hP, hK, hD0⟩ := hv
  have hD := hD0.self (sz := s.heap.size)
  have hl := lv_entry av (n := maxL) hlen
  rw [lg_entry_eq]
  have hlocks := B.notSynchronized
  have hr := B.returns
  have hx := B.exec
  have hb := B.bytes
  refine body (p, l, e, _, s, m, _, below, meth, c, va_A w s.heap.size, D, MQ below (va_Qv post (BwW D cI cO w2 (va_A w s.heap.size)) (va_A w s.heap.size)) _ s mc ms (va_A w s.heap.size), False) rfl rfl (fun h9 => h9) ⟨B.exec, B.bytes, hml, findClass_of_methodNamed B.named, atoms_spec (ws := wds) B.pre, hK, fun q h9 => Or.inr h9, rfl⟩ ?_ s.heap [] _ hP hD va_S.rf (fun h9 => absurd h9 (fun h8 => h8)) hl
  intro pc k n ws lv u hdg hp hws h1 h2 H locs ls hP9 hD9 hS9 hro hl9
  subst hws
  exact W.widen h1 h2 (W.vret hx hb hr (fun t ht hW => ⟨⟨u, rfl, hp, by rw [ht]; exact hP9, va_K.moved hW.alike hK, hD9⟩, hS9.F ht⟩) hS9.2.2 hdg)

section GGC
variable {C : GX} {nL : Nat} {ws ws' wc : va_W} {k n pc : Nat} {lv lv' : List (Nat × Value)} {st st0 As : List Value} {cc bytes : ByteArray} {Ts wds wds9 : List Cond} {own Cn : String} {RM : Room} {cI cO : ClassId} {y : MethodName} {fr lo mc ms idx maxL b ci : Nat} {ret : Option FieldType} {fs : List Value} {T : u_T} {N : Nat}
theorem gp_sub {D : va_G} {H : Heap} (hP : va_P D vwCl ws H) (is : List Nat) (his : is.map (fun i => ws[i]?) = wc.map some) : va_P D vwCl wc H := by
  intro j q hj
  have h1 : (is.map (fun i => ws[i]?))[j]? = some (some q) := by rw [his, List.getElem?_map, hj]; rfl
  rw [List.getElem?_map] at h1
  cases hi : is[j]? with
  | none => rw [hi] at h1; cases h1
  | some i => rw [hi] at h1; exact hP i q (Option.some.inj h1)
/-- a method's name has a plain class and so many parameters -/
def nPar (y : MethodName) (Cn : String) (j : Nat) : Bool := decide (y.cls = Cn) && decide (y.cls ≠ "java/lang/invoke/MethodHandle") && decide (y.cls ≠ "java/lang/invoke/VarHandle") && decide ((parseMethodDescriptor y.desc).map (fun d => d.parameters.length) = some j)
theorem nPar_ok {y : MethodName} {Cn : String} {j : Nat} (h : nPar y Cn j = true) : y.cls = Cn ∧ y.cls ≠ "java/lang/invoke/MethodHandle" ∧ y.cls ≠ "java/lang/invoke/VarHandle" ∧ (parseMethodDescriptor y.desc).map (fun d => d.parameters.length) = some j := by
  simp only [nPar, Bool.and_eq_true, decide_eq_true_eq] at h
  exact ⟨h.1.1.1, h.1.1.2, h.1.2, h.2⟩

theorem g_callR (h : OKx C cc nL Ts own RM cI cO) {post : Int32 → Prop} (hdg : decode cc pc = .ok (.invokevirtual idx, 3)) (hM : CR (gL C) y wds fr lo (gD C) cI cO (.ref b :: As) wc post) (is : List Nat) (his : is.map (fun i => ws[i]?) = wc.map some) (hnd : va_nd is = true) (hg : GoodIn Ts (wsV own idx Cn y wds)) (hwd : wds = Cond.code y bytes maxL ret :: wds9) {q0 : Nat} (hq : wc[q0]? = some (b, .inr (ci, fs))) (hc : vwCl[ci]? = some (Cn, T, N)) (hd : nPar y Cn As.length = true) (hR : fr + 1 ≤ RM.frames ∧ 8 + (maxL + 11) + lo ≤ RM.locals) (hst : st0 = As.reverse ++ .ref b :: st) (hcat : (st.map fun v => v.category).sum ≤ 8) (hkn : k + 0 ≤ RM.cells ∧ n + 0 ≤ RM.slots) (kk : ∀ r, post r → GG C nL ws k n (pc + 3) lv (.int r :: st)) : GG C nL ws k n pc lv st0 := by
  obtain ⟨p, l, e, R, s, m, args, below, meth, c, A, D, Q, ro⟩ := C
  obtain ⟨hx, hb, hml, hown, hts, hK, hA, rfl⟩ := h
  intro H locs ls hP hD hS hro hl
  subst hst
  replace hM : CR l y wds fr lo D cI cO (.ref b :: As) wc post := hM
  have hPc : va_P D vwCl wc H := gp_sub hP is his
  have hDc := hD.sub is hnd his
  have run : va_Run p l e R s m args below meth c H locs k n 0 0 (F0 m pc ls (As.reverse ++ .ref b :: st)) st (Qro post (Value.ref b :: As).toArray) (fun _ => False) := va_runV (As := As) (rest := st) ⟨hx, hb, hml, hown, hts⟩ (hM H.size) (cwV _ hts hg hwd rfl rfl (nPar_ok hd) hR) ⟨PcW_blind, va_recv hK hPc hc hq, fun U hU hW => ⟨rfl, by rw [hU], by rw [hU]; exact hPc, va_K.moved hW.alike hK, hDc.weaken (fun _ _ _ _ => trivial)⟩⟩ rfl rfl hl.1 rfl (lv_room hcat) hdg hkn
  intro T9 hT9 X9
  obtain ⟨v, st₀, t, T', L, h0, X', hL, e1, e2, ⟨r, hv, hp, hh⟩, stp⟩ := run T9 hT9 X9
  cases hv
  have hLn : L = [] := by
    cases L with
    | nil => rfl
    | cons q L => exact absurd (hL q List.mem_cons_self) (fun h9 => h9)
  subst hLn
  rw [List.append_nil] at X'
  have hH1 : T'.heap = H := by rw [e1, hh, h0]
  obtain ⟨t2, a1, b1⟩ := kk r hp H locs ls hP hD hS hro hl T' hH1 X'
  exact ⟨t2, stp t2 a1, b1⟩
theorem g_scallR (h : OKx C cc nL Ts own RM cI cO) {post : Int32 → Prop} (hdg : decode cc pc = .ok (.invokestatic idx, 3)) (hM : CR (gL C) y wds fr lo (gD C) cI cO As wc post) (is : List Nat) (his : is.map (fun i => ws[i]?) = wc.map some) (hnd : va_nd is = true) (hg : GoodIn Ts (wsS own idx y wds)) (hwd : wds = Cond.code y bytes maxL ret :: wds9) (hd : nPar y own As.length = true) (hR : fr + 1 ≤ RM.frames ∧ 8 + (maxL + 11) + lo ≤ RM.locals) (hst : st0 = As.reverse ++ st) (hcat : (st.map fun v => v.category).sum ≤ 8) (hkn : k + 0 ≤ RM.cells ∧ n + 0 ≤ RM.slots) (kk : ∀ r, post r → GG C nL ws k n (pc + 3) lv (.int r :: st)) : GG C nL ws k n pc lv st0 := by
  obtain ⟨p, l, e, R, s, m, args, below, meth, c, A, D, Q, ro⟩ := C
  obtain ⟨hx, hb, hml, hown, hts, hK, hA, rfl⟩ := h
  intro H locs ls hP hD hS hro hl
  subst hst
  replace hM : CR l y wds fr lo D cI cO As wc post := hM
  have hPc : va_P D vwCl wc H := gp_sub hP is his
  have hDc := hD.sub is hnd his
  have run : va_Run p l e R s m args below meth c H locs k n 0 0 (F0 m pc ls (As.reverse ++ st)) st (Qro post (As).toArray) (fun _ => False) := va_runS (As := As) (rest := st) ⟨hx, hb, hml, hown, hts⟩ (hM H.size) (cwS _ hts hg hwd rfl rfl (nPar_ok hd) hR) ⟨PcW_blind, fun U hU hW => ⟨rfl, by rw [hU], by rw [hU]; exact hPc, va_K.moved hW.alike hK, hDc.weaken (fun _ _ _ _ => trivial)⟩⟩ rfl rfl hl.1 rfl (lv_room hcat) hdg hkn
  intro T9 hT9 X9
  obtain ⟨v, st₀, t, T', L, h0, X', hL, e1, e2, ⟨r, hv, hp, hh⟩, stp⟩ := run T9 hT9 X9
  cases hv
  have hLn : L = [] := by
    cases L with
    | nil => rfl
    | cons q L => exact absurd (hL q List.mem_cons_self) (fun h9 => h9)
  subst hLn
  rw [List.append_nil] at X'
  have hH1 : T'.heap = H := by rw [e1, hh, h0]
  obtain ⟨t2, a1, b1⟩ := kk r hp H locs ls hP hD hS hro hl T' hH1 X'
  exact ⟨t2, stp t2 a1, b1⟩
theorem g_callI (h : OKx C cc nL Ts own RM cI cO) {S : Type} {post : Int32 → S → Prop} {w2 : S → va_W} (hdg : decode cc pc = .ok (.invokevirtual idx, 3)) (hM : CI (gL C) y wds fr lo mc ms (gD C) cI cO (.ref b :: As) ws post w2) (hw : ¬ gRo C) (hg : GoodIn Ts (wsV own idx Cn y wds)) (hwd : wds = Cond.code y bytes maxL ret :: wds9) {q0 : Nat} (hq : ws[q0]? = some (b, .inr (ci, fs))) (hc : vwCl[ci]? = some (Cn, T, N)) (hd : nPar y Cn As.length = true) (hR : fr + 1 ≤ RM.frames ∧ 8 + (maxL + 11) + lo ≤ RM.locals) (hst : st0 = As.reverse ++ .ref b :: st) (hcat : (st.map fun v => v.category).sum ≤ 8) (hkn : k + mc ≤ RM.cells ∧ n + ms ≤ RM.slots) (kk : ∀ r u, post r u → GG C nL (w2 u) (k + mc) (n + ms) (pc + 3) lv (.int r :: st)) : GG C nL ws k n pc lv st0 := by
  obtain ⟨p, l, e, R, s, m, args, below, meth, c, A, D, Q, ro⟩ := C
  obtain ⟨hx, hb, hml, hown, hts, hK, hA, rfl⟩ := h
  intro H locs ls hP hD hS hro hl
  subst hst
  replace hM : CI l y wds fr lo mc ms D cI cO (.ref b :: As) ws post w2 := hM
  have hPc := hP
  have hDc := hD
  have hF : ∀ q, va_A ws H.size q → A q := fun q h9 => by
    rcases h9 with ⟨k9, e9, h9⟩ | h9
    · exact hD.2 k9 (q, e9) h9
    · exact hA q (Nat.le_trans hS.1 h9)
  refine va_calli (va_runV (As := As) (rest := st) ⟨hx, hb, hml, hown, hts⟩ (hM H.size) (cwV _ hts hg hwd rfl rfl (nPar_ok hd) hR) ⟨PcW_blind, va_recv hK hPc hc hq, fun U hU hW => ⟨rfl, by rw [hU], by rw [hU]; exact hPc, va_K.moved hW.alike hK, hDc.weaken (fun _ _ _ _ => trivial)⟩⟩ rfl rfl hl.1 rfl (lv_room hcat) hdg hkn) hS (fun q _ h9 => hF q h9) hF (fun r u t H1 locs1 ht hvm hw9 hB hz1 hk1 hS1 => ?_)
  obtain ⟨hP1, hK1, hD1⟩ := hB
  rw [ht] at hP1
  exact kk r u hw9 H1 locs1 ls hP1 (hD1.weaken (fun _ q9 _ h9 => hF q9.1 h9)) hS1 (fun r9 => absurd r9 hw) hl
theorem g_callV (h : OKx C cc nL Ts own RM cI cO) {S : Type} {post : S → Prop} {w2 : S → va_W} (hdg : decode cc pc = .ok (.invokevirtual idx, 3)) (hM : CV (gL C) y wds fr lo mc ms (gD C) cI cO (.ref b :: As) ws post w2) (hw : ¬ gRo C) (hg : GoodIn Ts (wsV own idx Cn y wds)) (hwd : wds = Cond.code y bytes maxL ret :: wds9) {q0 : Nat} (hq : ws[q0]? = some (b, .inr (ci, fs))) (hc : vwCl[ci]? = some (Cn, T, N)) (hd : nPar y Cn As.length = true) (hR : fr + 1 ≤ RM.frames ∧ 8 + (maxL + 11) + lo ≤ RM.locals) (hst : st0 = As.reverse ++ .ref b :: st) (hcat : (st.map fun v => v.category).sum ≤ 8) (hkn : k + mc ≤ RM.cells ∧ n + ms ≤ RM.slots) (kk : ∀ u, post u → GG C nL (w2 u) (k + mc) (n + ms) (pc + 3) lv st) : GG C nL ws k n pc lv st0 := by
  obtain ⟨p, l, e, R, s, m, args, below, meth, c, A, D, Q, ro⟩ := C
  obtain ⟨hx, hb, hml, hown, hts, hK, hA, rfl⟩ := h
  intro H locs ls hP hD hS hro hl
  subst hst
  replace hM : CV l y wds fr lo mc ms D cI cO (.ref b :: As) ws post w2 := hM
  have hPc := hP
  have hDc := hD
  have hF : ∀ q, va_A ws H.size q → A q := fun q h9 => by
    rcases h9 with ⟨k9, e9, h9⟩ | h9
    · exact hD.2 k9 (q, e9) h9
    · exact hA q (Nat.le_trans hS.1 h9)
  refine va_callv (va_runV (As := As) (rest := st) ⟨hx, hb, hml, hown, hts⟩ (hM H.size) (cwV _ hts hg hwd rfl rfl (nPar_ok hd) hR) ⟨PcW_blind, va_recv hK hPc hc hq, fun U hU hW => ⟨rfl, by rw [hU], by rw [hU]; exact hPc, va_K.moved hW.alike hK, hDc.weaken (fun _ _ _ _ => trivial)⟩⟩ rfl rfl hl.1 rfl (lv_room hcat) hdg hkn) hS (fun q _ h9 => hF q h9) hF (fun u t H1 locs1 ht hvm hw9 hB hz1 hk1 hS1 => ?_)
  obtain ⟨hP1, hK1, hD1⟩ := hB
  rw [ht] at hP1
  exact kk u hw9 H1 locs1 ls hP1 (hD1.weaken (fun _ q9 _ h9 => hF q9.1 h9)) hS1 (fun r9 => absurd r9 hw) hl
/-- a call on a part of the world (the places is), the rest (the places isR) stays; perm lays the new world -/
theorem g_callVp (h : OKx C cc nL Ts own RM cI cO) {S : Type} {post : S → Prop} {w2 wz : S → va_W} {wr : va_W} (hdg : decode cc pc = .ok (.invokevirtual idx, 3)) (hM : CV (gL C) y wds fr lo mc ms (gD C) cI cO (.ref b :: As) wc post w2) (hw : ¬ gRo C) (is isR perm : List Nat) (his : is.map (fun i => ws[i]?) = wc.map some) (hnd : va_nd is = true) (hisR : isR.map (fun i => ws[i]?) = wr.map some) (hndR : va_nd isR = true) (hdis : ∀ i ∈ isR, i ∉ is) (hnp : va_nd perm = true) (hperm : ∀ u, perm.map (fun i => (wr ++ w2 u)[i]?) = (wz u).map some) (hg : GoodIn Ts (wsV own idx Cn y wds)) (hwd : wds = Cond.code y bytes maxL ret :: wds9) {q0 : Nat} (hq : wc[q0]? = some (b, .inr (ci, fs))) (hc : vwCl[ci]? = some (Cn, T, N)) (hd : nPar y Cn As.length = true) (hR : fr + 1 ≤ RM.frames ∧ 8 + (maxL + 11) + lo ≤ RM.locals) (hst : st0 = As.reverse ++ .ref b :: st) (hcat : (st.map fun v => v.category).sum ≤ 8) (hkn : k + mc ≤ RM.cells ∧ n + ms ≤ RM.slots) (kk : ∀ u, post u → GG C nL (wz u) (k + mc) (n + ms) (pc + 3) lv st) : GG C nL ws k n pc lv st0 := by
  obtain ⟨p, l, e, R, s, m, args, below, meth, c, A, D, Q, ro⟩ := C
  obtain ⟨hx, hb, hml, hown, hts, hK, hA, rfl⟩ := h
  intro H locs ls hP hD hS hro hl
  subst hst
  replace hM : CV l y wds fr lo mc ms D cI cO (.ref b :: As) wc post w2 := hM
  have hPc : va_P D vwCl wc H := gp_sub hP is his
  have hDc := hD.sub is hnd his
  have hFc := va_free (wc := wc) hD hS hA is his
  refine va_callv (va_runV (As := As) (rest := st) ⟨hx, hb, hml, hown, hts⟩ (hM H.size) (cwV _ hts hg hwd rfl rfl (nPar_ok hd) hR) ⟨PcW_blind, va_recv hK hPc hc hq, fun U hU hW => ⟨rfl, by rw [hU], by rw [hU]; exact hPc, va_K.moved hW.alike hK, hDc.weaken (fun _ _ _ _ => trivial)⟩⟩ rfl rfl hl.1 rfl (lv_room hcat) hdg hkn) hS (fun q _ h9 => hFc q h9) hFc (fun u t H1 locs1 ht hvm hw9 hB hz1 hk1 hS1 => ?_)
  obtain ⟨hP1, hK1, hD1⟩ := hB
  rw [ht] at hP1
  obtain ⟨hP2, hD2⟩ := va_join (wr := wr) (w1 := w2 u) hP hD is isR his hisR hndR hdis hk1 hFc hP1 hD1
  exact kk u hw9 H1 locs1 ls (gp_sub hP2 perm (hperm u)) (hD2.sub perm hnp (hperm u)) hS1 (fun r9 => absurd r9 hw) hl
end GGC
end
section
/-! new int arrays; a contract that answers a new array -/
section GGN
variable {C : GX} {nL : Nat} {ws ws' wc : va_W} {k n pc : Nat} {lv lv' : List (Nat × Value)} {st st0 As : List Value} {cc bytes : ByteArray} {Ts wds wds9 : List Cond} {own Cn : String} {RM : Room} {cI cO : ClassId} {y : MethodName} {fr lo mc ms idx maxL b ci : Nat} {ret : Option FieldType} {fs : List Value} {T : u_T} {N : Nat}
theorem g_newa (h : OKx C cc nL Ts own RM cI cO) (hw : ¬ gRo C) {z : Int32} {N : Nat} (hdg : decode cc pc = .ok (.newarray .int, 2)) (harr : Cond.arrayClass .int ∈ Ts) (hz : z = nI N) (hN : N ≤ 100000000) (hk9 : k + 1 ≤ RM.cells) (hn9 : n + N ≤ RM.slots) (kk : ∀ q : Nat, GG C nL (ws ++ [(q, .inl (cI, N, .inl (fun _ => 0)))]) (k + 1) (n + N) (pc + 2) lv (.ref q :: st)) : GG C nL ws k n pc lv (.int z :: st) := by
  obtain ⟨p, l, e, R, s, m, args, below, meth, c, A, D, Q, ro⟩ := C
  obtain ⟨hx, hb, hml, hown, hts, hK, hA, rfl⟩ := h
  intro H locs ls hP hD hS hro hl
  subst hz
  refine va_newa (ty := .int) (N' := N) (a0 := (N, .inl (fun _ => 0))) hx hb (atype := .int) (hts _ harr) rfl hK hP hD hS hA (fun cA => rfl) (nI_pos (by omega)) (nI_clamp (by omega)) (by show N * 4 ≤ _; omega) hk9 hn9 hdg (fun q cA H1 hK1 hP1 hD1 hS1 => ?_)
  have e1 : s.vm.findClass ("[" ++ FieldType.int.toString) = some cA := (hK1.2 2 _ rfl).2
  have e2 : s.vm.findClass ("[" ++ FieldType.int.toString) = some cI := (hK.2 0 _ rfl).2
  have e3 : cA = cI := Option.some.inj (e1.symm.trans e2)
  subst e3
  exact kk q H1 locs ls hP1 hD1 hS1 (fun r9 => absurd r9 hw) hl
theorem g_lvp (ks : List Nat) (e9 : lv_pick lv ks = lv') (kk : GG C nL ws k n pc lv' st) : GG C nL ws k n pc lv st := by
  obtain ⟨p, l, e, R, s, m, args, below, meth, c, A, D, Q, ro⟩ := C
  intro H locs ls hP hD hS hro hl
  exact kk H locs ls hP hD hS hro (lv_sub hl ks e9)
/-- a static method that answers a cell: the new world w2 u q -/
def CA (l : Launch) (y : MethodName) (wds : List Cond) (fr lo mc ms : Nat) (D : va_G) (cI cO : ClassId) (av : List Value) (w : va_W) {S : Type} (post : S → Prop) (w2 : S → Nat → va_W) : Prop := ∀ sz : Nat, Met l y wds { frames := fr, cells := mc, slots := ms, locals := lo } (PcW D cI cO av w sz) (va_Qr post (fun u q t => va_P D vwCl (w2 u q) t.heap ∧ va_K D vwCl (gT cI cO) t ∧ va_D (va_A w sz) (w2 u q)) (va_A w sz)) mc ms (va_A w sz)
theorem CA.of {l : Launch} {y : MethodName} {wds wds9 : List Cond} {fr lo mc ms : Nat} {D : va_G} {cI cO : ClassId} {av : List Value} {w : va_W} {S : Type} {post : S → Prop} {w2 : S → Nat → va_W} {cc : ByteArray} {maxL : Nat} (hy : plainName y.cls = true) (hwd : wds = Cond.code y cc maxL (some (.array .int)) :: wds9) (hlen : (lg_sl av).length ≤ maxL)
    (body : ∀ C : GX, gL C = l → gD C = D → ¬ gRo C → OKx C cc maxL wds y.cls { frames := fr, cells := mc, slots := ms, locals := lo } cI cO → (∀ {pc k n : Nat} {ws : va_W} {lv : List (Nat × Value)} (u : S) (q : Nat), decode cc pc = .ok (.areturn, 1) → post u → ws = w2 u q → k ≤ mc → n ≤ ms → GG C maxL ws k n pc lv [.ref q]) → GG C maxL w 0 0 0 (lv_args 0 av) []) : CA l y wds fr lo mc ms D cI cO av w post w2 := by
  intro sz
  refine Met.ofW (cc := cc) (maxL := maxL) (ret := some (.array .int)) hy hwd ?_
  intro p e s m args below meth c s₁ B hml hv
  obtain ⟨rfl, rfl, hP, hK, hD0⟩ := hv
  have hD := hD0.self (sz := s.heap.size)
  have hl := lv_entry av (n := maxL) hlen
  rw [lg_entry_eq]
  have hlocks := B.notSynchronized
  have hr := B.returns
  have hx := B.exec
  have hb := B.bytes
  refine body (p, l, e, _, s, m, _, below, meth, c, va_A w s.heap.size, D, MQ below (va_Qr post (fun u q t => va_P D vwCl (w2 u q) t.heap ∧ va_K D vwCl (gT cI cO) t ∧ va_D (va_A w s.heap.size) (w2 u q)) (va_A w s.heap.size)) _ s mc ms (va_A w s.heap.size), False) rfl rfl (fun h9 => h9) ⟨B.exec, B.bytes, hml, findClass_of_methodNamed B.named, atoms_spec (ws := wds) B.pre, hK, fun q h9 => Or.inr h9, rfl⟩ ?_ s.heap [] _ hP hD va_S.rf (fun h9 => absurd h9 (fun h8 => h8)) hl
  intro pc k n ws lv u q hdg hp hws h1 h2 H locs ls hP9 hD9 hS9 hro hl9
  subst hws
  exact W.widen h1 h2 (W.aret hx hb hr (Or.inr ⟨_, rfl⟩) (Or.inr ⟨q, rfl⟩) (fun t ht hW => ⟨⟨u, q, rfl, hp, by rw [ht]; exact hP9, va_K.moved hW.alike hK, hD9⟩, hS9.F ht⟩) hS9.2.2 hdg)
theorem g_scallA (h : OKx C cc nL Ts own RM cI cO) {S : Type} {post : S → Prop} {w2 : S → Nat → va_W} {wz : S → Nat → va_W} {wr : va_W} (hdg : decode cc pc = .ok (.invokestatic idx, 3)) (hM : CA (gL C) y wds fr lo mc ms (gD C) cI cO As wc post w2) (hw : ¬ gRo C) (is isR perm : List Nat) (his : is.map (fun i => ws[i]?) = wc.map some) (hnd : va_nd is = true) (hisR : isR.map (fun i => ws[i]?) = wr.map some) (hndR : va_nd isR = true) (hdis : ∀ i ∈ isR, i ∉ is) (hnp : va_nd perm = true) (hperm : ∀ u q, perm.map (fun i => (wr ++ w2 u q)[i]?) = (wz u q).map some) (hg : GoodIn Ts wds) (h1 : Cond.methodLink own idx y ∈ Ts) (h2 : Cond.static y ∈ Ts) (h3 : Cond.initialized y.cls ∈ Ts) (hwd : wds = Cond.code y bytes maxL ret :: wds9) (hd : nPar y y.cls As.length = true) (hR : fr + 1 ≤ RM.frames ∧ 8 + (maxL + 11) + lo ≤ RM.locals) (hst : st0 = As.reverse ++ st) (hcat : (st.map fun v => v.category).sum ≤ 8) (hkn : k + mc ≤ RM.cells ∧ n + ms ≤ RM.slots) (kk : ∀ u q, post u → GG C nL (wz u q) (k + mc) (n + ms) (pc + 3) lv (.ref q :: st)) : GG C nL ws k n pc lv st0 := by
  obtain ⟨p, l, e, R, s, m, args, below, meth, c, A, D, Q, ro⟩ := C
  obtain ⟨hx, hb, hml, hown, hts, hK, hA, rfl⟩ := h
  intro H locs ls hP hD hS hro hl
  subst hst
  replace hM : CA l y wds fr lo mc ms D cI cO As wc post w2 := hM
  have hPc : va_P D vwCl wc H := gp_sub hP is his
  have hDc := hD.sub is hnd his
  have hFc := va_free (wc := wc) hD hS hA is his
  refine va_callr (va_runS (As := As) (rest := st) ⟨hx, hb, hml, hown, hts⟩ (hM H.size) ⟨callB_of As.length hts hg hwd rfl rfl (hts _ h3) (hts _ h1) (nPar_ok hd).2 hR, hts _ h2⟩ ⟨PcW_blind, fun U hU hW => ⟨rfl, by rw [hU], by rw [hU]; exact hPc, va_K.moved hW.alike hK, hDc.weaken (fun _ _ _ _ => trivial)⟩⟩ rfl rfl hl.1 rfl (lv_room hcat) hdg hkn) hS (fun q _ h9 => hFc q h9) hFc ?_
  intro u q t H1 locs1 ht hvm hw9 hB hz1 hk1 hS1
  obtain ⟨hP1, hK1, hD1⟩ := hB
  rw [ht] at hP1
  obtain ⟨hP2, hD2⟩ := va_join (wr := wr) (w1 := w2 u q) hP hD is isR his hisR hndR hdis hk1 hFc hP1 hD1
  exact kk u q hw9 H1 locs1 ls (gp_sub hP2 perm (hperm u q)) (hD2.sub perm hnp (hperm u q)) hS1 (fun r9 => absurd r9 hw) hl
end GGN
end
section
/-! entries, lines, and the class Line's reading methods -/
abbrev E5 : Type := Int32 × Int32 × Int32 × Int32 × Int32
def col (j : Nat) (e : E5) : Int32 := match j with
  | 0 => e.1
  | 1 => e.2.1
  | 2 => e.2.2.1
  | 3 => e.2.2.2.1
  | _ => e.2.2.2.2
/-- the row f of cap ints holds the entries of L, five ints each -/
def Ln (L : List E5) (cap : Nat) (f : Nat → Int32) : Prop := 5 * L.length ≤ cap ∧ cap < 1048576 ∧ ∀ (i : Nat) (e : E5), L[i]? = some e → ∀ j, j < 5 → f (5 * i + j) = col j e
theorem Ln.lt {L : List E5} {cap : Nat} {f : Nat → Int32} (h : Ln L cap f) {i : Nat} {e : E5} (hi : L[i]? = some e) {j : Nat} (hj : j < 5) : 5 * i + j < cap := by
  have h1 := (List.getElem?_eq_some_iff.mp hi).1
  have h2 := h.1
  omega
theorem Ln.ix {L : List E5} {cap : Nat} {f : Nat → Int32} (h : Ln L cap f) {i : Nat} {e : E5} (hi : L[i]? = some e) {j : Nat} (hj : j < 5) : vp_in (nI (5 * i + j)) cap := vp_in_nI (h.lt hi hj) (by have := h.2.1; omega)
theorem Ln.rd {L : List E5} {cap : Nat} {f : Nat → Int32} (h : Ln L cap f) {i : Nat} {e : E5} (hi : L[i]? = some e) {j : Nat} (hj : j < 5) : f (nI (5 * i + j)).toNatClampNeg = col j e := by
  have h1 := h.lt hi hj
  have h2 := h.2.1
  rw [nI_clamp (by omega)]
  exact h.2.2 i e hi j hj
theorem nI_m5 (i : Nat) : nI i * 5 = nI (5 * i) := by
  rw [show (5 : Int32) = nI 5 from rfl, pk_mul, Nat.mul_comm]
theorem nI_a (i j : Nat) {v : Int32} (hv : v = nI j) : nI i + v = nI (i + j) := by rw [hv, nI_add]
def fitB (s k so mo : Int32) (e : E5) : Bool := decide ((s = -1 ∨ col 0 e = s) ∧ (k = -1 ∨ col 1 e = k) ∧ (so = -1 ∨ col 2 e = so) ∧ (mo = -1 ∨ col 4 e = mo))
theorem fitB_t {s k so mo : Int32} {e : E5} (h0 : s = -1 ∨ col 0 e = s) (h1 : k = -1 ∨ col 1 e = k) (h2 : so = -1 ∨ col 2 e = so) (h3 : mo = -1 ∨ col 4 e = mo) : fitB s k so mo e = true := decide_eq_true ⟨h0, h1, h2, h3⟩
theorem fitB_0 {s k so mo : Int32} {e : E5} (h0 : ¬ s = -1) (h1 : ¬ col 0 e = s) : fitB s k so mo e = false := decide_eq_false (fun h => h.1.elim h0 h1)
theorem fitB_1 {s k so mo : Int32} {e : E5} (h0 : ¬ k = -1) (h1 : ¬ col 1 e = k) : fitB s k so mo e = false := decide_eq_false (fun h => h.2.1.elim h0 h1)
theorem fitB_2 {s k so mo : Int32} {e : E5} (h0 : ¬ so = -1) (h1 : ¬ col 2 e = so) : fitB s k so mo e = false := decide_eq_false (fun h => h.2.2.1.elim h0 h1)
theorem fitB_3 {s k so mo : Int32} {e : E5} (h0 : ¬ mo = -1) (h1 : ¬ col 4 e = mo) : fitB s k so mo e = false := decide_eq_false (fun h => h.2.2.2.elim h0 h1)
/-- the two cells of a line -/
abbrev lnw (cI : ClassId) (b : Nat → Nat) (n : Int32) (cap : Nat) (f : Nat → Int32) : va_W := [(b 0, .inr (1, [.ref (b 1), .int n])), (b 1, .inl (cI, cap, .inl f))]

theorem iX1_fits_1 : ∀ w ∈ wsX10, w ∈ wsX1_fits := by decide +kernel
theorem fX1_fits_11 : Cond.fieldLink RX1 11 "SpareShelves$Line" "cells" "[I" ∈ wsX1_fits := by decide +kernel
set_option maxHeartbeats 4000000 in
set_option maxRecDepth 100000 in
theorem c_fits (l : Launch) (D : va_G) (cI cO : ClassId) (b : Nat → Nat) (n : Int32) (cap : Nat) (f : Nat → Int32) (L : List E5) (hL : Ln L cap f) (i : Nat) (e : E5) (hi : L[i]? = some e) (s k so mo : Int32) : CR l yX1_fits wsX1_fits 0 0 D cI cO [.ref (b 0), .int (nI i), .int s, .int k, .int so, .int mo] (lnw cI b n cap f) (fun r => r = if fitB s k so mo e then 1 else 0) := by
  refine CR.of (cc := cX1_fits) (maxL := 7) (rt := .boolean) (by decide) rfl (Nat.le_of_ble_eq_true rfl) ?_
  intro C hgL hgD h hret
  have z : fitB s k so mo e = false → GG C 7 (lnw cI b n cap f) 0 0 85 [(0, .ref (b 0)), (1, .int (nI i)), (2, .int s), (3, .int k), (4, .int so), (5, .int mo), (6, .int (nI (5 * i)))] [] := by
    intro hz
    refine g_iconst h (pc := 85) (v := 0) dX1_fits_85 (by decide) ?_
    exact hret 0 dX1_fits_86 (by decide) (by rw [hz]; rfl)
  have s5 : fitB s k so mo e = true → GG C 7 (lnw cI b n cap f) 0 0 81 [(0, .ref (b 0)), (1, .int (nI i)), (2, .int s), (3, .int k), (4, .int so), (5, .int mo), (6, .int (nI (5 * i)))] [] := by
    intro hz
    refine g_iconst h (pc := 81) (v := 1) dX1_fits_81 (by decide) ?_
    refine g_goto h (pc := 82) (tgt := 86) dX1_fits_82 (by decide) ?_
    exact hret 1 dX1_fits_86 (by decide) (by rw [hz]; rfl)
  have s3 : s = -1 ∨ col 0 e = s → k = -1 ∨ col 1 e = k → so = -1 ∨ col 2 e = so → GG C 7 (lnw cI b n cap f) 0 0 61 [(0, .ref (b 0)), (1, .int (nI i)), (2, .int s), (3, .int k), (4, .int so), (5, .int mo), (6, .int (nI (5 * i)))] [] := by
    intro h0 h1 h2
    refine g_iload h (pc := 61) dX1_fits_61 5 rfl ?_
    refine g_iconst h (pc := 63) (v := (-1)) dX1_fits_63 (by decide) ?_
    refine g_icmp_eq h (pc := 64) (tgt := 81) dX1_fits_64 (by decide) (fun c1 => ?_) (fun c1 => ?_)
    · exact s5 (fitB_t h0 h1 h2 (Or.inl c1))
    · refine g_aload_n h (pc := 67) dX1_fits_67 0 rfl ?_
      refine g_get h (pc := 68) dX1_fits_68 iX1_fits_1 0 rfl rfl 0 (by decide) fX1_fits_11 rfl ?_
      refine g_iload h (pc := 71) dX1_fits_71 6 rfl ?_
      refine g_iconst h (pc := 73) (v := 4) dX1_fits_73 (by decide) ?_
      refine g_iadd h (pc := 74) dX1_fits_74  ?_
      refine g_topi (nI_a (5 * i) 4 rfl) ?_
      refine g_iald h (pc := 75) (v := col 4 e) dX1_fits_75 1 rfl (hL.ix hi (by decide)) (hL.rd hi (by decide)) ?_
      refine g_iload h (pc := 76) dX1_fits_76 5 rfl ?_
      refine g_icmp_ne h (pc := 78) (tgt := 85) dX1_fits_78 (by decide) (fun c2 => ?_) (fun c2 => ?_)
      · exact z (fitB_3 c1 c2)
      · exact s5 (fitB_t h0 h1 h2 (Or.inr c2))
  have s2 : s = -1 ∨ col 0 e = s → k = -1 ∨ col 1 e = k → GG C 7 (lnw cI b n cap f) 0 0 41 [(0, .ref (b 0)), (1, .int (nI i)), (2, .int s), (3, .int k), (4, .int so), (5, .int mo), (6, .int (nI (5 * i)))] [] := by
    intro h0 h1
    refine g_iload h (pc := 41) dX1_fits_41 4 rfl ?_
    refine g_iconst h (pc := 43) (v := (-1)) dX1_fits_43 (by decide) ?_
    refine g_icmp_eq h (pc := 44) (tgt := 61) dX1_fits_44 (by decide) (fun c1 => ?_) (fun c1 => ?_)
    · exact s3 h0 h1 (Or.inl c1)
    · refine g_aload_n h (pc := 47) dX1_fits_47 0 rfl ?_
      refine g_get h (pc := 48) dX1_fits_48 iX1_fits_1 0 rfl rfl 0 (by decide) fX1_fits_11 rfl ?_
      refine g_iload h (pc := 51) dX1_fits_51 6 rfl ?_
      refine g_iconst h (pc := 53) (v := 2) dX1_fits_53 (by decide) ?_
      refine g_iadd h (pc := 54) dX1_fits_54  ?_
      refine g_topi (nI_a (5 * i) 2 rfl) ?_
      refine g_iald h (pc := 55) (v := col 2 e) dX1_fits_55 1 rfl (hL.ix hi (by decide)) (hL.rd hi (by decide)) ?_
      refine g_iload h (pc := 56) dX1_fits_56 4 rfl ?_
      refine g_icmp_ne h (pc := 58) (tgt := 85) dX1_fits_58 (by decide) (fun c2 => ?_) (fun c2 => ?_)
      · exact z (fitB_2 c1 c2)
      · exact s3 h0 h1 (Or.inr c2)
  have s1 : s = -1 ∨ col 0 e = s → GG C 7 (lnw cI b n cap f) 0 0 23 [(0, .ref (b 0)), (1, .int (nI i)), (2, .int s), (3, .int k), (4, .int so), (5, .int mo), (6, .int (nI (5 * i)))] [] := by
    intro h0
    refine g_iload_n h (pc := 23) dX1_fits_23 3 rfl ?_
    refine g_iconst h (pc := 24) (v := (-1)) dX1_fits_24 (by decide) ?_
    refine g_icmp_eq h (pc := 25) (tgt := 41) dX1_fits_25 (by decide) (fun c1 => ?_) (fun c1 => ?_)
    · exact s2 h0 (Or.inl c1)
    · refine g_aload_n h (pc := 28) dX1_fits_28 0 rfl ?_
      refine g_get h (pc := 29) dX1_fits_29 iX1_fits_1 0 rfl rfl 0 (by decide) fX1_fits_11 rfl ?_
      refine g_iload h (pc := 32) dX1_fits_32 6 rfl ?_
      refine g_iconst h (pc := 34) (v := 1) dX1_fits_34 (by decide) ?_
      refine g_iadd h (pc := 35) dX1_fits_35  ?_
      refine g_topi (nI_a (5 * i) 1 rfl) ?_
      refine g_iald h (pc := 36) (v := col 1 e) dX1_fits_36 1 rfl (hL.ix hi (by decide)) (hL.rd hi (by decide)) ?_
      refine g_iload_n h (pc := 37) dX1_fits_37 3 rfl ?_
      refine g_icmp_ne h (pc := 38) (tgt := 85) dX1_fits_38 (by decide) (fun c2 => ?_) (fun c2 => ?_)
      · exact z (fitB_1 c1 c2)
      · exact s2 h0 (Or.inr c2)
  have s0 : GG C 7 (lnw cI b n cap f) 0 0 5 [(0, .ref (b 0)), (1, .int (nI i)), (2, .int s), (3, .int k), (4, .int so), (5, .int mo), (6, .int (nI (5 * i)))] [] := by
    refine g_iload_n h (pc := 5) dX1_fits_5 2 rfl ?_
    refine g_iconst h (pc := 6) (v := (-1)) dX1_fits_6 (by decide) ?_
    refine g_icmp_eq h (pc := 7) (tgt := 23) dX1_fits_7 (by decide) (fun c1 => ?_) (fun c1 => ?_)
    · exact s1  (Or.inl c1)
    · refine g_aload_n h (pc := 10) dX1_fits_10 0 rfl ?_
      refine g_get h (pc := 11) dX1_fits_11 iX1_fits_1 0 rfl rfl 0 (by decide) fX1_fits_11 rfl ?_
      refine g_iload h (pc := 14) dX1_fits_14 6 rfl ?_
      refine g_iconst h (pc := 16) (v := 0) dX1_fits_16 (by decide) ?_
      refine g_iadd h (pc := 17) dX1_fits_17  ?_
      refine g_topi (nI_a (5 * i) 0 rfl) ?_
      refine g_iald h (pc := 18) (v := col 0 e) dX1_fits_18 1 rfl (hL.ix hi (by decide)) (hL.rd hi (by decide)) ?_
      refine g_iload_n h (pc := 19) dX1_fits_19 2 rfl ?_
      refine g_icmp_ne h (pc := 20) (tgt := 85) dX1_fits_20 (by decide) (fun c2 => ?_) (fun c2 => ?_)
      · exact z (fitB_0 c1 c2)
      · exact s1  (Or.inr c2)
  refine g_iload_n h (pc := 0) dX1_fits_0 1 rfl ?_
  refine g_iconst h (pc := 1) (v := 5) dX1_fits_1 (by decide) ?_
  refine g_imul h (pc := 2) dX1_fits_2  ?_
  refine g_topi (nI_m5 i) ?_
  refine g_istore h (pc := 3) dX1_fits_3 (by decide) rfl ?_
  exact s0

theorem iX1_tally_1 : ∀ w ∈ wsX10, w ∈ wsX1_tally := by decide +kernel
theorem fX1_tally_15 : Cond.fieldLink RX1 15 "SpareShelves$Line" "size" "I" ∈ wsX1_tally := by decide +kernel
set_option maxHeartbeats 4000000 in
set_option maxRecDepth 100000 in
theorem c_tally (l : Launch) (D : va_G) (cI cO : ClassId) (b : Nat → Nat) (cap : Nat) (f : Nat → Int32) (L : List E5) (hL : Ln L cap f) (s k so mo : Int32) : CR l yX1_tally wsX1_tally 1 26 D cI cO [.ref (b 0), .int s, .int k, .int so, .int mo] (lnw cI b (nI L.length) cap f) (fun r => r = nI (L.countP (fitB s k so mo))) := by
  refine CR.of (cc := cX1_tally) (maxL := 7) (rt := .int) (by decide) rfl (Nat.le_of_ble_eq_true rfl) ?_
  intro C hgL hgD h hret
  have hsz : L.length < 2 ^ 31 := by have h1 := hL.1; have h2 := hL.2.1; omega
  refine g_iconst h (pc := 0) (v := 0) dX1_tally_0 (by decide) ?_
  refine g_istore h (pc := 1) dX1_tally_1 (by decide) rfl ?_
  refine g_iconst h (pc := 3) (v := 0) dX1_tally_3 (by decide) ?_
  refine g_istore h (pc := 4) dX1_tally_4 (by decide) rfl ?_
  suffices loop : ∀ j i : Nat, i + j = L.length → GG C 7 (lnw cI b (nI L.length) cap f) 0 0 6 [(0, .ref (b 0)), (1, .int s), (2, .int k), (3, .int so), (4, .int mo), (5, .int (nI ((L.take i).countP (fitB s k so mo)))), (6, .int (nI i))] [] from loop L.length 0 (by omega)
  intro j
  induction j with
  | zero =>
    intro i hi0
    refine g_iload h (pc := 6) dX1_tally_6 6 rfl ?_
    refine g_aload_n h (pc := 8) dX1_tally_8 0 rfl ?_
    refine g_get h (pc := 9) dX1_tally_9 iX1_tally_1 0 rfl rfl 1 (by decide) fX1_tally_15 rfl ?_
    refine g_icmp_ge_t h (pc := 12) (tgt := 38) dX1_tally_12 (by decide) (nI_le (by omega) (by omega)) ?_
    refine g_iload h (pc := 38) dX1_tally_38 5 rfl ?_
    exact hret _ dX1_tally_40 rfl (by rw [List.take_of_length_le (by omega)])
  | succ j ih =>
    intro i hi0
    obtain ⟨e, hi⟩ : ∃ e, L[i]? = some e := ⟨_, List.getElem?_eq_getElem (show i < L.length by omega)⟩
    refine g_iload h (pc := 6) dX1_tally_6 6 rfl ?_
    refine g_aload_n h (pc := 8) dX1_tally_8 0 rfl ?_
    refine g_get h (pc := 9) dX1_tally_9 iX1_tally_1 0 rfl rfl 1 (by decide) fX1_tally_15 rfl ?_
    refine g_icmp_ge_f h (pc := 12) (tgt := 38) dX1_tally_12 (by decide) (nI_ge (by omega) hsz) ?_
    refine g_aload_n h (pc := 15) dX1_tally_15 0 rfl ?_
    refine g_iload h (pc := 16) dX1_tally_16 6 rfl ?_
    refine g_iload_n h (pc := 18) dX1_tally_18 1 rfl ?_
    refine g_iload_n h (pc := 19) dX1_tally_19 2 rfl ?_
    refine g_iload_n h (pc := 20) dX1_tally_20 3 rfl ?_
    refine g_iload h (pc := 21) dX1_tally_21 4 rfl ?_
    refine g_callR h (pc := 23) (As := [.int (nI i), .int s, .int k, .int so, .int mo]) (st := []) dX1_tally_23 (c_fits (gL C) (gD C) cI cO b (nI L.length) cap f L hL i e hi s k so mo) [0, 1] rfl (by decide) gX1_tally_X1_fits rfl (q0 := 0) rfl rfl (show nPar yX1_fits RX1 5 = true by decide +kernel) (by decide) rfl (by decide) (by decide) (fun r hr => ?_)
    subst hr
    have ht : (L.take (i + 1)).countP (fitB s k so mo) = (L.take i).countP (fitB s k so mo) + (if fitB s k so mo e then 1 else 0) := by
      rw [List.take_add_one, hi, List.countP_append]
      simp [List.countP_cons]
    cases hf : fitB s k so mo e with
    | false =>
      rw [hf] at ht
      refine g_topi (y := 0) rfl ?_
      refine g_if_eq_t h (pc := 26) (tgt := 32) dX1_tally_26 (by decide) rfl ?_
      refine g_iinc h (pc := 32) dX1_tally_32 6 rfl (nI_1 i) (by decide) rfl ?_
      refine g_goto h (pc := 35) (tgt := 6) dX1_tally_35 (by decide) ?_
      have h9 := ih (i + 1) (by omega)
      rw [ht] at h9
      exact h9
    | true =>
      rw [hf] at ht
      refine g_topi (y := 1) rfl ?_
      refine g_if_eq_f h (pc := 26) (tgt := 32) dX1_tally_26 (by decide) (by decide) ?_
      refine g_iinc h (pc := 29) dX1_tally_29 5 rfl (nI_1 _) (by decide) rfl ?_
      refine g_iinc h (pc := 32) dX1_tally_32 6 rfl (nI_1 i) (by decide) rfl ?_
      refine g_goto h (pc := 35) (tgt := 6) dX1_tally_35 (by decide) ?_
      have h9 := ih (i + 1) (by omega)
      rw [ht] at h9
      exact h9
end
section
/-- the place of the entry that is number left of those that fit, the first one at i; -1 if there is none -/
def fnd (p : E5 → Bool) : List E5 → Int32 → Nat → Int32
  | [], _, _ => -1
  | e :: r, left, i => if p e then (if left = 0 then nI i else fnd p r (left + (-1)) (i + 1)) else fnd p r left (i + 1)
theorem fnd_drop {p : E5 → Bool} {L : List E5} {i : Nat} {e : E5} (hi : L[i]? = some e) (left : Int32) : fnd p (L.drop i) left i = if p e then (if left = 0 then nI i else fnd p (L.drop (i + 1)) (left + (-1)) (i + 1)) else fnd p (L.drop (i + 1)) left (i + 1) := by
  have h1 := (List.getElem?_eq_some_iff.mp hi)
  obtain ⟨h2, h3⟩ := h1
  rw [List.drop_eq_getElem_cons h2, h3, fnd]

theorem iX1_find_1 : ∀ w ∈ wsX10, w ∈ wsX1_find := by decide +kernel
theorem fX1_find_15 : Cond.fieldLink RX1 15 "SpareShelves$Line" "size" "I" ∈ wsX1_find := by decide +kernel
set_option maxHeartbeats 4000000 in
set_option maxRecDepth 100000 in
theorem c_find (l : Launch) (D : va_G) (cI cO : ClassId) (b : Nat → Nat) (cap : Nat) (f : Nat → Int32) (L : List E5) (hL : Ln L cap f) (s k so nth : Int32) : CR l yX1_find wsX1_find 1 26 D cI cO [.ref (b 0), .int s, .int k, .int so, .int nth] (lnw cI b (nI L.length) cap f) (fun r => r = fnd (fitB s k so (-1)) L nth 0) := by
  refine CR.of (cc := cX1_find) (maxL := 7) (rt := .int) (by decide) rfl (Nat.le_of_ble_eq_true rfl) ?_
  intro C hgL hgD h hret
  have hsz : L.length < 2 ^ 31 := by have h1 := hL.1; have h2 := hL.2.1; omega
  refine g_iload h (pc := 0) dX1_find_0 4 rfl ?_
  refine g_istore h (pc := 2) dX1_find_2 (by decide) rfl ?_
  refine g_iconst h (pc := 4) (v := 0) dX1_find_4 (by decide) ?_
  refine g_istore h (pc := 5) dX1_find_5 (by decide) rfl ?_
  suffices loop : ∀ (j i : Nat) (left : Int32), i + j = L.length → fnd (fitB s k so (-1)) (L.drop i) left i = fnd (fitB s k so (-1)) L nth 0 → GG C 7 (lnw cI b (nI L.length) cap f) 0 0 7 [(0, .ref (b 0)), (1, .int s), (2, .int k), (3, .int so), (4, .int nth), (5, .int left), (6, .int (nI i))] [] from loop L.length 0 nth (by omega) rfl
  intro j
  induction j with
  | zero =>
    intro i left hi0 hr
    refine g_iload h (pc := 7) dX1_find_7 6 rfl ?_
    refine g_aload_n h (pc := 9) dX1_find_9 0 rfl ?_
    refine g_get h (pc := 10) dX1_find_10 iX1_find_1 0 rfl rfl 1 (by decide) fX1_find_15 rfl ?_
    refine g_icmp_ge_t h (pc := 13) (tgt := 46) dX1_find_13 (by decide) (nI_le (by omega) (by omega)) ?_
    refine g_iconst h (pc := 46) (v := (-1)) dX1_find_46 (by decide) ?_
    exact hret _ dX1_find_47 rfl (by rw [← hr, List.drop_of_length_le (by omega)]; rfl)
  | succ j ih =>
    intro i left hi0 hr
    obtain ⟨e, hi⟩ : ∃ e, L[i]? = some e := ⟨_, List.getElem?_eq_getElem (show i < L.length by omega)⟩
    rw [fnd_drop hi] at hr
    refine g_iload h (pc := 7) dX1_find_7 6 rfl ?_
    refine g_aload_n h (pc := 9) dX1_find_9 0 rfl ?_
    refine g_get h (pc := 10) dX1_find_10 iX1_find_1 0 rfl rfl 1 (by decide) fX1_find_15 rfl ?_
    refine g_icmp_ge_f h (pc := 13) (tgt := 46) dX1_find_13 (by decide) (nI_ge (by omega) hsz) ?_
    refine g_aload_n h (pc := 16) dX1_find_16 0 rfl ?_
    refine g_iload h (pc := 17) dX1_find_17 6 rfl ?_
    refine g_iload_n h (pc := 19) dX1_find_19 1 rfl ?_
    refine g_iload_n h (pc := 20) dX1_find_20 2 rfl ?_
    refine g_iload_n h (pc := 21) dX1_find_21 3 rfl ?_
    refine g_iconst h (pc := 22) (v := (-1)) dX1_find_22 (by decide) ?_
    refine g_callR h (pc := 23) (As := [.int (nI i), .int s, .int k, .int so, .int (-1)]) (st := []) dX1_find_23 (c_fits (gL C) (gD C) cI cO b (nI L.length) cap f L hL i e hi s k so (-1)) [0, 1] rfl (by decide) gX1_find_X1_fits rfl (q0 := 0) rfl rfl (show nPar yX1_fits RX1 5 = true by decide +kernel) (by decide) rfl (by decide) (by decide) (fun r hr9 => ?_)
    subst hr9
    cases hf : fitB s k so (-1) e with
    | false =>
      rw [hf] at hr
      refine g_topi (y := 0) rfl ?_
      refine g_if_eq_t h (pc := 26) (tgt := 40) dX1_find_26 (by decide) rfl ?_
      refine g_iinc h (pc := 40) dX1_find_40 6 rfl (nI_1 i) (by decide) rfl ?_
      refine g_goto h (pc := 43) (tgt := 7) dX1_find_43 (by decide) ?_
      exact ih (i + 1) left (by omega) hr
    | true =>
      rw [hf] at hr
      refine g_topi (y := 1) rfl ?_
      refine g_if_eq_f h (pc := 26) (tgt := 40) dX1_find_26 (by decide) (by decide) ?_
      refine g_iload h (pc := 29) dX1_find_29 5 rfl ?_
      refine g_if_ne h (pc := 31) (tgt := 37) dX1_find_31 (by decide) (fun c1 => ?_) (fun c1 => ?_)
      · rw [if_pos rfl, if_neg c1] at hr
        refine g_iinc h (pc := 37) dX1_find_37 5 rfl (show left + Int32.ofInt (-1) = left + (-1) from congrArg (left + ·) (by decide)) (by decide) rfl ?_
        refine g_iinc h (pc := 40) dX1_find_40 6 rfl (nI_1 i) (by decide) rfl ?_
        refine g_goto h (pc := 43) (tgt := 7) dX1_find_43 (by decide) ?_
        exact ih (i + 1) _ (by omega) hr
      · rw [if_pos rfl, if_pos c1] at hr
        refine g_iload h (pc := 34) dX1_find_34 6 rfl ?_
        exact hret _ dX1_find_36 rfl hr

theorem iX1_read_1 : ∀ w ∈ wsX10, w ∈ wsX1_read := by decide +kernel
theorem fX1_read_15 : Cond.fieldLink RX1 15 "SpareShelves$Line" "size" "I" ∈ wsX1_read := by decide +kernel
theorem fX1_read_11 : Cond.fieldLink RX1 11 "SpareShelves$Line" "cells" "[I" ∈ wsX1_read := by decide +kernel
set_option maxHeartbeats 4000000 in
set_option maxRecDepth 100000 in
theorem c_read (l : Launch) (D : va_G) (cI cO : ClassId) (b : Nat → Nat) (cap : Nat) (f : Nat → Int32) (L : List E5) (hL : Ln L cap f) (i : Nat) (e : E5) (hi : L[i]? = some e) (j : Nat) (hj : j < 5) (x c : Int32) (hx : x = nI i) (hc : c = nI j) : CR l yX1_read wsX1_read 0 0 D cI cO [.ref (b 0), .int x, .int c] (lnw cI b (nI L.length) cap f) (fun r => r = col j e) := by
  refine CR.of (cc := cX1_read) (maxL := 3) (rt := .int) (by decide) rfl (Nat.le_of_ble_eq_true rfl) ?_
  intro C hgL hgD h hret
  subst hx; subst hc
  have hsz : L.length < 2 ^ 31 := by have h1 := hL.1; have h2 := hL.2.1; omega
  have hlt : i < L.length := (List.getElem?_eq_some_iff.mp hi).1
  refine g_iload_n h (pc := 0) dX1_read_0 1 rfl ?_
  refine g_if_lt_f h (pc := 1) (tgt := 12) dX1_read_1 (by decide) (nI_pos (by omega)) ?_
  refine g_iload_n h (pc := 4) dX1_read_4 1 rfl ?_
  refine g_aload_n h (pc := 5) dX1_read_5 0 rfl ?_
  refine g_get h (pc := 6) dX1_read_6 iX1_read_1 0 rfl rfl 1 (by decide) fX1_read_15 rfl ?_
  refine g_icmp_lt_t h (pc := 9) (tgt := 16) dX1_read_9 (by decide) (nI_lt hlt hsz) ?_
  refine g_aload_n h (pc := 16) dX1_read_16 0 rfl ?_
  refine g_get h (pc := 17) dX1_read_17 iX1_read_1 0 rfl rfl 0 (by decide) fX1_read_11 rfl ?_
  refine g_iload_n h (pc := 20) dX1_read_20 1 rfl ?_
  refine g_iconst h (pc := 21) (v := 5) dX1_read_21 (by decide) ?_
  refine g_imul h (pc := 22) dX1_read_22  ?_
  refine g_topi (nI_m5 i) ?_
  refine g_iload_n h (pc := 23) dX1_read_23 2 rfl ?_
  refine g_iadd h (pc := 24) dX1_read_24  ?_
  refine g_topi (nI_a (5 * i) j rfl) ?_
  refine g_iald h (pc := 25) (v := col j e) dX1_read_25 1 rfl (hL.ix hi hj) (hL.rd hi hj) ?_
  exact hret _ dX1_read_26 rfl rfl
set_option maxHeartbeats 4000000 in
set_option maxRecDepth 100000 in
theorem c_readN (l : Launch) (D : va_G) (cI cO : ClassId) (b : Nat → Nat) (cap : Nat) (f : Nat → Int32) (n c : Int32) : CR l yX1_read wsX1_read 0 0 D cI cO [.ref (b 0), .int (-1), .int c] (lnw cI b n cap f) (fun r => r = -1) := by
  refine CR.of (cc := cX1_read) (maxL := 3) (rt := .int) (by decide) rfl (Nat.le_of_ble_eq_true rfl) ?_
  intro C hgL hgD h hret
  refine g_iload_n h (pc := 0) dX1_read_0 1 rfl ?_
  refine g_if_lt_t h (pc := 1) (tgt := 12) dX1_read_1 (by decide) (by decide) ?_
  refine g_iconst h (pc := 12) (v := (-1)) dX1_read_12 (by decide) ?_
  refine g_goto h (pc := 13) (tgt := 26) dX1_read_13 (by decide) ?_
  exact hret _ dX1_read_26 rfl rfl

theorem iX1_drop_1 : ∀ w ∈ wsX10, w ∈ wsX1_drop := by decide +kernel
theorem fX1_drop_15 : Cond.fieldLink RX1 15 "SpareShelves$Line" "size" "I" ∈ wsX1_drop := by decide +kernel
theorem fX1_drop_11 : Cond.fieldLink RX1 11 "SpareShelves$Line" "cells" "[I" ∈ wsX1_drop := by decide +kernel
theorem mX1_drop_1 : Cond.methodLink RX1 25 arraycopyName ∈ wsX1_drop := by decide +kernel
theorem mX1_drop_2 : Cond.native arraycopyName ∈ wsX1_drop := by decide +kernel
theorem mX1_drop_3 : Cond.static arraycopyName ∈ wsX1_drop := by decide +kernel
theorem mX1_drop_4 : Cond.initialized "java/lang/System" ∈ wsX1_drop := by decide +kernel
theorem Ln.drop {L : List E5} {cap : Nat} {f : Nat → Int32} (h : Ln L cap f) {i : Nat} (hi : i < L.length) : Ln (L.eraseIdx i) cap (va_cpy f f (5 * i + 5) (5 * i) (5 * L.length - (5 * i + 5))) := by
  have h1 := h.1
  refine ⟨by rw [List.length_eraseIdx_of_lt hi]; omega, h.2.1, fun i2 e he j hj => ?_⟩
  rw [List.getElem?_eraseIdx] at he
  split at he
  · rw [pk_cpy_out (Or.inl (by omega))]
    exact h.2.2 i2 e he j hj
  · have h2 := (List.getElem?_eq_some_iff.mp he).1
    rw [pk_cpy_in (by omega) (by omega)]
    have h3 := h.2.2 (i2 + 1) e he j hj
    rw [← h3]
    congr 1
    omega
set_option maxHeartbeats 4000000 in
set_option maxRecDepth 100000 in
theorem c_drop (l : Launch) (D : va_G) (cI cO : ClassId) (b : Nat → Nat) (cap : Nat) (f : Nat → Int32) (L : List E5) (hL : Ln L cap f) (i : Nat) (hi : i < L.length) (x : Int32) (hx : x = nI i) : CV l yX1_drop wsX1_drop 1 60 0 0 D cI cO [.ref (b 0), .int x] (lnw cI b (nI L.length) cap f) (fun f2 : Nat → Int32 => Ln (L.eraseIdx i) cap f2) (fun f2 => lnw cI b (nI (L.eraseIdx i).length) cap f2) := by
  refine CV.of (cc := cX1_drop) (maxL := 4) (by decide) rfl (Nat.le_of_ble_eq_true rfl) ?_
  intro C hgL hgD hw h hret
  subst hx
  have h1 := hL.1
  have h2 := hL.2.1
  have hsz : L.length < 2 ^ 31 := by omega
  have e5 : nI (5 * i) + 5 = nI (5 * i + 5) := nI_a (5 * i) 5 rfl
  have es : nI (5 * L.length) - nI (5 * i + 5) = nI (5 * L.length - (5 * i + 5)) := pk_sub (by omega)
  refine g_iload_n h (pc := 0) dX1_drop_0 1 rfl ?_
  refine g_if_lt_f h (pc := 1) (tgt := 12) dX1_drop_1 (by decide) (nI_pos (by omega)) ?_
  refine g_iload_n h (pc := 4) dX1_drop_4 1 rfl ?_
  refine g_aload_n h (pc := 5) dX1_drop_5 0 rfl ?_
  refine g_get h (pc := 6) dX1_drop_6 iX1_drop_1 0 rfl rfl 1 (by decide) fX1_drop_15 rfl ?_
  refine g_icmp_lt_t h (pc := 9) (tgt := 13) dX1_drop_9 (by decide) (nI_lt hi hsz) ?_
  refine g_iload_n h (pc := 13) dX1_drop_13 1 rfl ?_
  refine g_iconst h (pc := 14) (v := 5) dX1_drop_14 (by decide) ?_
  refine g_imul h (pc := 15) dX1_drop_15  ?_
  refine g_topi (nI_m5 i) ?_
  refine g_istore_n h (pc := 16) dX1_drop_16 (by decide) rfl ?_
  refine g_iload_n h (pc := 17) dX1_drop_17 2 rfl ?_
  refine g_iconst h (pc := 18) (v := 5) dX1_drop_18 (by decide) ?_
  refine g_iadd h (pc := 19) dX1_drop_19  ?_
  refine g_topi e5 ?_
  refine g_istore_n h (pc := 20) dX1_drop_20 (by decide) rfl ?_
  refine g_aload_n h (pc := 21) dX1_drop_21 0 rfl ?_
  refine g_get h (pc := 22) dX1_drop_22 iX1_drop_1 0 rfl rfl 0 (by decide) fX1_drop_11 rfl ?_
  refine g_iload_n h (pc := 25) dX1_drop_25 3 rfl ?_
  refine g_aload_n h (pc := 26) dX1_drop_26 0 rfl ?_
  refine g_get h (pc := 27) dX1_drop_27 iX1_drop_1 0 rfl rfl 0 (by decide) fX1_drop_11 rfl ?_
  refine g_iload_n h (pc := 30) dX1_drop_30 2 rfl ?_
  refine g_aload_n h (pc := 31) dX1_drop_31 0 rfl ?_
  refine g_get h (pc := 32) dX1_drop_32 iX1_drop_1 0 rfl rfl 1 (by decide) fX1_drop_15 rfl ?_
  refine g_iconst h (pc := 35) (v := 5) dX1_drop_35 (by decide) ?_
  refine g_imul h (pc := 36) dX1_drop_36  ?_
  refine g_topi (nI_m5 _) ?_
  refine g_iload_n h (pc := 37) dX1_drop_37 3 rfl ?_
  refine g_isub h (pc := 38) dX1_drop_38  ?_
  refine g_topi es ?_
  refine g_copy h hw (pc := 39) (ws' := lnw cI b (nI L.length) cap (va_cpy f f (5 * i + 5) (5 * i) (5 * L.length - (5 * i + 5)))) dX1_drop_39 mX1_drop_1 mX1_drop_2 mX1_drop_3 mX1_drop_4 1 1 rfl rfl (nI_pos (by omega)) (nI_pos (by omega)) (nI_pos (by omega)) (by rw [nI_clamp (by omega), nI_clamp (by omega)]; omega) (by rw [nI_clamp (by omega), nI_clamp (by omega)]; omega) (by decide) (by decide) (by rw [nI_clamp (by omega), nI_clamp (by omega), nI_clamp (by omega)]; rfl) ?_
  refine g_aload_n h (pc := 42) dX1_drop_42 0 rfl ?_
  refine g_dup h (pc := 43) dX1_drop_43 rfl ?_
  refine g_get h (pc := 44) dX1_drop_44 iX1_drop_1 0 rfl rfl 1 (by decide) fX1_drop_15 rfl ?_
  refine g_iconst h (pc := 47) (v := 1) dX1_drop_47 (by decide) ?_
  refine g_isub h (pc := 48) dX1_drop_48  ?_
  refine g_topi (y := nI (L.eraseIdx i).length) (by rw [List.length_eraseIdx_of_lt hi, show (1 : Int32) = nI 1 from rfl, pk_sub (by omega)]) ?_
  refine g_put h hw (pc := 49)  (ty := .int) dX1_drop_49 iX1_drop_1 tyX1 tyX1_ok nmX1 0 rfl rfl 1 (by decide) fX1_drop_15 rfl (by decide +kernel) rfl rfl (Nat.le_of_ble_eq_true rfl) rfl ?_
  exact hret _ dX1_drop_52 (hL.drop hi) rfl (by omega) (by omega)

theorem mJ7_1 : Cond.methodLink RJ7 304 Lib.Math.min.name ∈ wsJ7_copyOf_59c91 := by decide +kernel
theorem mJ7_2 : Cond.static Lib.Math.min.name ∈ wsJ7_copyOf_59c91 := by decide +kernel
theorem mJ7_3 : Cond.initialized "java/lang/Math" ∈ wsJ7_copyOf_59c91 := by decide +kernel
theorem mJ7_4 : Cond.code Lib.Math.min.name Lib.Math.min.code 2 (some .int) ∈ wsJ7_copyOf_59c91 := by decide +kernel
theorem mJ7_5 : Cond.methodLink RJ7 150 arraycopyName ∈ wsJ7_copyOf_59c91 := by decide +kernel
theorem mJ7_6 : Cond.native arraycopyName ∈ wsJ7_copyOf_59c91 := by decide +kernel
theorem mJ7_7 : Cond.static arraycopyName ∈ wsJ7_copyOf_59c91 := by decide +kernel
theorem mJ7_8 : Cond.initialized "java/lang/System" ∈ wsJ7_copyOf_59c91 := by decide +kernel
theorem mJ7_9 : Cond.arrayClass .int ∈ wsJ7_copyOf_59c91 := by decide +kernel
set_option maxHeartbeats 4000000 in
set_option maxRecDepth 100000 in
theorem c_copyOf (l : Launch) (D : va_G) (cI cO : ClassId) (a N m : Nat) (f : Nat → Int32) (hm : N < m) (hm2 : m < 10000000) (x : Int32) (hx : x = nI m) : CA l yJ7_copyOf_59c91 wsJ7_copyOf_59c91 1 80 1 m D cI cO [.ref a, .int x] [(a, .inl (cI, N, .inl f))] (fun f2 : Nat → Int32 => ∀ j, j < N → f2 j = f j) (fun f2 q => [(a, .inl (cI, N, .inl f)), (q, .inl (cI, m, .inl f2))]) := by
  refine CA.of (cc := cJ7_copyOf_59c91) (maxL := 3) (by decide) rfl (Nat.le_of_ble_eq_true rfl) ?_
  intro C hgL hgD hw h hret
  subst hx
  refine g_iload_n h (pc := 0) dJ7_copyOf_59c91_0 1 rfl ?_
  refine g_aload_n h (pc := 1) dJ7_copyOf_59c91_1 0 rfl ?_
  refine g_alen h (pc := 2) dJ7_copyOf_59c91_2 0 rfl ?_
  refine g_icmp_ne_t h (pc := 3) (tgt := 14) dJ7_copyOf_59c91_3 (by decide) (fun h9 => absurd ((nI_eq (by omega) (by omega)).mp h9) (by omega)) ?_
  refine g_iload_n h (pc := 14) dJ7_copyOf_59c91_14 1 rfl ?_
  refine g_newa h hw (pc := 15) (N := m) dJ7_copyOf_59c91_15 mJ7_9 rfl (by omega) (Nat.le_refl _) (by show 0 + m ≤ m; omega) (fun q => ?_)
  refine g_eq (ws' := [(a, .inl (cI, N, .inl f)), (q, .inl (cI, m, .inl (fun _ => 0)))]) rfl ?_
  refine g_astore_n h (pc := 17) dJ7_copyOf_59c91_17 (by decide) rfl ?_
  refine g_aload_n h (pc := 18) dJ7_copyOf_59c91_18 0 rfl ?_
  refine g_iconst h (pc := 19) (v := 0) dJ7_copyOf_59c91_19 (by decide) ?_
  refine g_aload_n h (pc := 20) dJ7_copyOf_59c91_20 2 rfl ?_
  refine g_iconst h (pc := 21) (v := 0) dJ7_copyOf_59c91_21 (by decide) ?_
  refine g_aload_n h (pc := 22) dJ7_copyOf_59c91_22 0 rfl ?_
  refine g_alen h (pc := 23) dJ7_copyOf_59c91_23 0 rfl ?_
  refine g_iload_n h (pc := 24) dJ7_copyOf_59c91_24 1 rfl ?_
  refine g_min h (pc := 25) dJ7_copyOf_59c91_25 mJ7_1 mJ7_2 mJ7_3 mJ7_4 (Nat.le_of_ble_eq_true rfl) (Nat.le_of_ble_eq_true rfl) (Nat.le_refl _) (by show 0 + m ≤ m; omega) ?_
  refine g_topi (y := nI N) (if_neg (nI_nlt (by omega) (by omega))) ?_
  refine g_copy h hw (pc := 28) (ws' := [(a, .inl (cI, N, .inl f)), (q, .inl (cI, m, .inl (va_cpy f (fun _ => 0) 0 0 N)))]) dJ7_copyOf_59c91_28 mJ7_5 mJ7_6 mJ7_7 mJ7_8 0 1 rfl rfl (by decide) (by decide) (nI_pos (by omega)) (by rw [nI_clamp (by omega)]; show 0 + N ≤ N; omega) (by rw [nI_clamp (by omega)]; show 0 + N ≤ m; omega) (Nat.le_of_ble_eq_true rfl) (show 0 + (nativeFrameWords "java/lang/System" "arraycopy" 5 + 11) ≤ 80 by decide) (by rw [nI_clamp (by omega)]; rfl) ?_
  refine g_aload_n h (pc := 31) dJ7_copyOf_59c91_31 2 rfl ?_
  exact hret _ q dJ7_copyOf_59c91_32 (fun j hj => by rw [pk_cpy_in (by omega) (by omega)]; congr 1; omega) rfl (by omega) (by omega)

theorem iX1_add_1 : ∀ w ∈ wsX10, w ∈ wsX1_add := by decide +kernel
theorem fX1_add_11 : Cond.fieldLink RX1 11 "SpareShelves$Line" "cells" "[I" ∈ wsX1_add := by decide +kernel
theorem fX1_add_15 : Cond.fieldLink RX1 15 "SpareShelves$Line" "size" "I" ∈ wsX1_add := by decide +kernel
theorem mX1_add_1 : Cond.methodLink RX1 19 yJ7_copyOf_59c91 ∈ wsX1_add := by decide +kernel
theorem mX1_add_2 : Cond.static yJ7_copyOf_59c91 ∈ wsX1_add := by decide +kernel
theorem mX1_add_3 : Cond.initialized RJ7 ∈ wsX1_add := by decide +kernel
theorem Ln.push {L : List E5} {cap : Nat} {f : Nat → Int32} (h : Ln L cap f) (hc : 5 * L.length + 5 ≤ cap) (e0 e1 e2 e3 e4 : Int32) : Ln (L ++ [(e0, e1, e2, e3, e4)]) cap (upd (upd (upd (upd (upd f (5 * L.length + 0) e0) (5 * L.length + 1) e1) (5 * L.length + 2) e2) (5 * L.length + 3) e3) (5 * L.length + 4) e4) := by
  refine ⟨by rw [List.length_append]; simp; omega, h.2.1, fun i e he j hj => ?_⟩
  by_cases hi : i < L.length
  · rw [List.getElem?_append_left hi] at he
    have h1 := h.2.2 i e he j hj
    rw [pk_un (by omega), pk_un (by omega), pk_un (by omega), pk_un (by omega), pk_un (by omega)]
    exact h1
  · rw [List.getElem?_append_right (by omega)] at he
    have h0 : i - L.length < 1 := (List.getElem?_eq_some_iff.mp he).1
    have hi0 : i = L.length := by omega
    subst hi0
    rw [Nat.sub_self] at he
    cases he
    match j, hj with
    | 0, _ => rw [pk_un (by omega), pk_un (by omega), pk_un (by omega), pk_un (by omega), pk_us]; rfl
    | 1, _ => rw [pk_un (by omega), pk_un (by omega), pk_un (by omega), pk_us]; rfl
    | 2, _ => rw [pk_un (by omega), pk_un (by omega), pk_us]; rfl
    | 3, _ => rw [pk_un (by omega), pk_us]; rfl
    | 4, _ => rw [pk_us]; rfl
theorem Ln.grow {L : List E5} {cap c2 : Nat} {f f2 : Nat → Int32} (h : Ln L cap f) (h2 : cap ≤ c2) (h3 : c2 < 1048576) (hf : ∀ j, j < cap → f2 j = f j) : Ln L c2 f2 := by
  refine ⟨Nat.le_trans h.1 h2, h3, fun i e he j hj => ?_⟩
  rw [hf _ (h.lt he hj)]
  exact h.2.2 i e he j hj
/-- a line's room behind one entry more -/
def capN (n cap : Nat) : Nat := if cap < 5 * n + 5 then 2 * cap else cap
abbrev lnq (cI : ClassId) (h q : Nat) (n : Int32) (cap : Nat) (f : Nat → Int32) : va_W := [(h, .inr (1, [.ref q, .int n])), (q, .inl (cI, cap, .inl f))]
set_option maxHeartbeats 4000000 in
set_option maxRecDepth 100000 in
theorem c_add (l : Launch) (D : va_G) (cI cO : ClassId) (b : Nat → Nat) (cap : Nat) (f : Nat → Int32) (L : List E5) (hL : Ln L cap f) (hb : L.length < 100000) (hc0 : 640 ≤ cap) (e0 e1 e2 e3 e4 : Int32) : CV l yX1_add wsX1_add 2 110 (capN L.length cap - cap) (2 * (capN L.length cap - cap)) D cI cO [.ref (b 0), .int e0, .int e1, .int e2, .int e3, .int e4] (lnw cI b (nI L.length) cap f) (fun u : Nat × (Nat → Int32) => Ln (L ++ [(e0, e1, e2, e3, e4)]) (capN L.length cap) u.2) (fun u => lnq cI (b 0) u.1 (nI (L ++ [(e0, e1, e2, e3, e4)]).length) (capN L.length cap) u.2) := by
  refine CV.of (cc := cX1_add) (maxL := 7) (by decide) rfl (Nat.le_of_ble_eq_true rfl) ?_
  intro C hgL hgD hw h hret
  have h1 := hL.1
  have h2 := hL.2.1
  have tail : ∀ (q k n : Nat) (f2 : Nat → Int32), Ln L (capN L.length cap) f2 → 5 * L.length + 5 ≤ capN L.length cap → k ≤ capN L.length cap - cap → n ≤ 2 * (capN L.length cap - cap) → GG C 7 (lnq cI (b 0) q (nI L.length) (capN L.length cap) f2) k n 38 [(0, .ref (b 0)), (1, .int e0), (2, .int e1), (3, .int e2), (4, .int e3), (5, .int e4), (6, .int (nI (5 * L.length)))] [] := by
    intro q k n f2 hL2 hc2 hk hn
    have h3 := hL2.2.1
    refine g_aload_n h (pc := 38) dX1_add_38 0 rfl ?_
    refine g_get h (pc := 39) dX1_add_39 iX1_add_1 0 rfl rfl 0 (by decide) fX1_add_11 rfl ?_
    refine g_iload h (pc := 42) dX1_add_42 6 rfl ?_
    refine g_iconst h (pc := 44) (v := 0) dX1_add_44 (by decide) ?_
    refine g_iadd h (pc := 45) dX1_add_45  ?_
    refine g_topi (nI_a (5 * L.length) 0 rfl) ?_
    refine g_iload_n h (pc := 46) dX1_add_46 1 rfl ?_
    refine g_iast h hw (pc := 47) (ws' := lnq cI (b 0) q (nI L.length) (capN L.length cap) (upd f2 (5 * L.length + 0) e0)) dX1_add_47 1 rfl (vp_in_nI (by omega) (by omega)) (by rw [nI_clamp (by omega)]; rfl) ?_
    refine g_aload_n h (pc := 48) dX1_add_48 0 rfl ?_
    refine g_get h (pc := 49) dX1_add_49 iX1_add_1 0 rfl rfl 0 (by decide) fX1_add_11 rfl ?_
    refine g_iload h (pc := 52) dX1_add_52 6 rfl ?_
    refine g_iconst h (pc := 54) (v := 1) dX1_add_54 (by decide) ?_
    refine g_iadd h (pc := 55) dX1_add_55  ?_
    refine g_topi (nI_a (5 * L.length) 1 rfl) ?_
    refine g_iload_n h (pc := 56) dX1_add_56 2 rfl ?_
    refine g_iast h hw (pc := 57) (ws' := lnq cI (b 0) q (nI L.length) (capN L.length cap) (upd (upd f2 (5 * L.length + 0) e0) (5 * L.length + 1) e1)) dX1_add_57 1 rfl (vp_in_nI (by omega) (by omega)) (by rw [nI_clamp (by omega)]; rfl) ?_
    refine g_aload_n h (pc := 58) dX1_add_58 0 rfl ?_
    refine g_get h (pc := 59) dX1_add_59 iX1_add_1 0 rfl rfl 0 (by decide) fX1_add_11 rfl ?_
    refine g_iload h (pc := 62) dX1_add_62 6 rfl ?_
    refine g_iconst h (pc := 64) (v := 2) dX1_add_64 (by decide) ?_
    refine g_iadd h (pc := 65) dX1_add_65  ?_
    refine g_topi (nI_a (5 * L.length) 2 rfl) ?_
    refine g_iload_n h (pc := 66) dX1_add_66 3 rfl ?_
    refine g_iast h hw (pc := 67) (ws' := lnq cI (b 0) q (nI L.length) (capN L.length cap) (upd (upd (upd f2 (5 * L.length + 0) e0) (5 * L.length + 1) e1) (5 * L.length + 2) e2)) dX1_add_67 1 rfl (vp_in_nI (by omega) (by omega)) (by rw [nI_clamp (by omega)]; rfl) ?_
    refine g_aload_n h (pc := 68) dX1_add_68 0 rfl ?_
    refine g_get h (pc := 69) dX1_add_69 iX1_add_1 0 rfl rfl 0 (by decide) fX1_add_11 rfl ?_
    refine g_iload h (pc := 72) dX1_add_72 6 rfl ?_
    refine g_iconst h (pc := 74) (v := 3) dX1_add_74 (by decide) ?_
    refine g_iadd h (pc := 75) dX1_add_75  ?_
    refine g_topi (nI_a (5 * L.length) 3 rfl) ?_
    refine g_iload h (pc := 76) dX1_add_76 4 rfl ?_
    refine g_iast h hw (pc := 78) (ws' := lnq cI (b 0) q (nI L.length) (capN L.length cap) (upd (upd (upd (upd f2 (5 * L.length + 0) e0) (5 * L.length + 1) e1) (5 * L.length + 2) e2) (5 * L.length + 3) e3)) dX1_add_78 1 rfl (vp_in_nI (by omega) (by omega)) (by rw [nI_clamp (by omega)]; rfl) ?_
    refine g_aload_n h (pc := 79) dX1_add_79 0 rfl ?_
    refine g_get h (pc := 80) dX1_add_80 iX1_add_1 0 rfl rfl 0 (by decide) fX1_add_11 rfl ?_
    refine g_iload h (pc := 83) dX1_add_83 6 rfl ?_
    refine g_iconst h (pc := 85) (v := 4) dX1_add_85 (by decide) ?_
    refine g_iadd h (pc := 86) dX1_add_86  ?_
    refine g_topi (nI_a (5 * L.length) 4 rfl) ?_
    refine g_iload h (pc := 87) dX1_add_87 5 rfl ?_
    refine g_iast h hw (pc := 89) (ws' := lnq cI (b 0) q (nI L.length) (capN L.length cap) (upd (upd (upd (upd (upd f2 (5 * L.length + 0) e0) (5 * L.length + 1) e1) (5 * L.length + 2) e2) (5 * L.length + 3) e3) (5 * L.length + 4) e4)) dX1_add_89 1 rfl (vp_in_nI (by omega) (by omega)) (by rw [nI_clamp (by omega)]; rfl) ?_
    refine g_aload_n h (pc := 90) dX1_add_90 0 rfl ?_
    refine g_dup h (pc := 91) dX1_add_91 rfl ?_
    refine g_get h (pc := 92) dX1_add_92 iX1_add_1 0 rfl rfl 1 (by decide) fX1_add_15 rfl ?_
    refine g_iconst h (pc := 95) (v := 1) dX1_add_95 (by decide) ?_
    refine g_iadd h (pc := 96) dX1_add_96  ?_
    refine g_topi (y := nI (L ++ [(e0, e1, e2, e3, e4)]).length) (by rw [List.length_append]; exact nI_1 _) ?_
    refine g_put h hw (pc := 97)  (ty := .int) dX1_add_97 iX1_add_1 tyX1 tyX1_ok nmX1 0 rfl rfl 1 (by decide) fX1_add_15 rfl (by decide +kernel) rfl rfl (Nat.le_of_ble_eq_true rfl) rfl ?_
    exact hret (q, _) dX1_add_100 (hL2.push hc2 e0 e1 e2 e3 e4) rfl hk hn
  refine g_aload_n h (pc := 0) dX1_add_0 0 rfl ?_
  refine g_get h (pc := 1) dX1_add_1 iX1_add_1 0 rfl rfl 1 (by decide) fX1_add_15 rfl ?_
  refine g_iconst h (pc := 4) (v := 5) dX1_add_4 (by decide) ?_
  refine g_imul h (pc := 5) dX1_add_5  ?_
  refine g_topi (nI_m5 _) ?_
  refine g_istore h (pc := 6) dX1_add_6 (by decide) rfl ?_
  refine g_iload h (pc := 8) dX1_add_8 6 rfl ?_
  refine g_iconst h (pc := 10) (v := 5) dX1_add_10 (by decide) ?_
  refine g_iadd h (pc := 11) dX1_add_11  ?_
  refine g_topi (nI_a (5 * L.length) 5 rfl) ?_
  refine g_aload_n h (pc := 12) dX1_add_12 0 rfl ?_
  refine g_get h (pc := 13) dX1_add_13 iX1_add_1 0 rfl rfl 0 (by decide) fX1_add_11 rfl ?_
  refine g_alen h (pc := 16) dX1_add_16 1 rfl ?_
  by_cases hcc : cap < 5 * L.length + 5
  · have e9 : capN L.length cap = 2 * cap := if_pos hcc
    refine g_icmp_le_f h (pc := 17) (tgt := 38) dX1_add_17 (by decide) (nI_ge hcc (by omega)) ?_
    refine g_aload_n h (pc := 20) dX1_add_20 0 rfl ?_
    refine g_aload_n h (pc := 21) dX1_add_21 0 rfl ?_
    refine g_get h (pc := 22) dX1_add_22 iX1_add_1 0 rfl rfl 0 (by decide) fX1_add_11 rfl ?_
    refine g_iconst h (pc := 25) (v := 2) dX1_add_25 (by decide) ?_
    refine g_aload_n h (pc := 26) dX1_add_26 0 rfl ?_
    refine g_get h (pc := 27) dX1_add_27 iX1_add_1 0 rfl rfl 0 (by decide) fX1_add_11 rfl ?_
    refine g_alen h (pc := 30) dX1_add_30 1 rfl ?_
    refine g_imul h (pc := 31) dX1_add_31  ?_
    refine g_topi (y := nI (2 * cap)) (by rw [show (2 : Int32) = nI 2 from rfl, pk_mul]) ?_
    refine g_scallA h (pc := 32) (As := [.ref (b 1), .int (nI (2 * cap))]) (st := [.ref (b 0)]) (wr := [(b 0, .inr (1, [.ref (b 1), .int (nI L.length)]))]) (wz := fun f2 q => [(b 0, .inr (1, [.ref (b 1), .int (nI L.length)])), (q, .inl (cI, 2 * cap, .inl f2))]) dX1_add_32 (c_copyOf (gL C) (gD C) cI cO (b 1) cap (2 * cap) f (by omega) (by omega) _ rfl) hw [1] [0] [0, 2] rfl (by decide) rfl (by decide) (by decide) (by decide) (fun u q => rfl) ggX1_add_J7_copyOf_59c91 mX1_add_1 mX1_add_2 mX1_add_3 rfl (show nPar yJ7_copyOf_59c91 RJ7 2 = true by decide +kernel) ⟨Nat.le_of_ble_eq_true rfl, Nat.le_of_ble_eq_true rfl⟩ rfl (Nat.le_of_ble_eq_true rfl) ⟨by show _ ≤ capN L.length cap - cap; rw [e9]; omega, by show _ ≤ 2 * (capN L.length cap - cap); rw [e9]; omega⟩ (fun f2 q hf2 => ?_)
    refine g_put h hw (pc := 35) (ws' := lnq cI (b 0) q (nI L.length) (2 * cap) f2) (ty := .array .int) dX1_add_35 iX1_add_1 tyX1 tyX1_ok nmX1 0 rfl rfl 0 (by decide) fX1_add_11 rfl (by decide +kernel) rfl rfl (Nat.le_of_ble_eq_true rfl) rfl ?_
    have t9 := tail q (0 + 1) (0 + 2 * cap) f2 (by rw [e9]; exact hL.grow (by omega) (by omega) hf2) (by omega) (by omega) (by omega)
    rw [e9] at t9
    exact t9
  · have e9 : capN L.length cap = cap := if_neg hcc
    refine g_icmp_le_t h (pc := 17) (tgt := 38) dX1_add_17 (by decide) (nI_le (by omega) (by omega)) ?_
    have t9 := tail (b 1) 0 0 f (by rw [e9]; exact hL) (by omega) (by omega) (by omega)
    rw [e9] at t9
    exact t9
end
section
/-! the state in pure words: Z what stands (prices, tree, mends, rates, numbers), d what moves (goods, counters, asks, dues, the lines' rooms) -/
abbrev Sg : Type := Nat → Nat → Nat → Int32
abbrev Dy : Type := Sg × List E5 × List E5 × Nat × Nat
def su (z : Sg) (f r i : Nat) (v : Int32) : Sg := fun f2 => if f2 = f then (fun r2 => if r2 = r then upd (z f r) i v else z f r2) else z f2
theorem su_ne (z : Sg) {f f2 : Nat} (r i : Nat) (v : Int32) (h : f2 ≠ f) : su z f r i v f2 = z f2 := if_neg h
theorem su_at (z : Sg) (f r i r2 i2 : Nat) (v : Int32) : su z f r i v f r2 i2 = if r2 = r ∧ i2 = i then v else z f r2 i2 := by
  unfold su
  rw [if_pos rfl]
  by_cases h : r2 = r
  · subst h
    rw [if_pos rfl]
    by_cases h2 : i2 = i
    · subst h2
      rw [pk_us, if_pos ⟨rfl, rfl⟩]
    · rw [pk_un h2, if_neg (fun q => h2 q.2)]
  · rw [if_neg h, if_neg (fun q => h q.1)]
def dG (d : Dy) (f r i : Nat) (v : Int32) : Dy := (su d.1 f r i v, d.2)
def dA (d : Dy) (e : E5) : Dy := (d.1, d.2.1 ++ [e], d.2.2.1, capN d.2.1.length d.2.2.2.1, d.2.2.2.2)
def dU (d : Dy) (e : E5) : Dy := (d.1, d.2.1, d.2.2.1 ++ [e], d.2.2.2.1, capN d.2.2.1.length d.2.2.2.2)
def xA (d : Dy) (i : Nat) : Dy := (d.1, d.2.1.eraseIdx i, d.2.2.1, d.2.2.2.1, d.2.2.2.2)
def xU (d : Dy) (i : Nat) : Dy := (d.1, d.2.1, d.2.2.1.eraseIdx i, d.2.2.2.1, d.2.2.2.2)
def inc (d : Dy) (f i : Nat) : Dy := dG d f 0 i (d.1 f 0 i + 1)
def due (Z : Sg) (d : Dy) (sort : Int32) (s k : Nat) (how bh : Int32) : Dy := dU d (nI s, nI k, sort, Z 14 0 2 + bh, how)
def upx (Z : Sg) (x : Nat) : Nat := (Z 3 0 x).toNatClampNeg
/-- the mender of kind k for shelf x -/
def mo (Z : Sg) (k : Nat) : Nat → Nat → Nat
  | 0, x => x
  | n + 1, x => if Z 6 x k = 0 then mo Z k n (upx Z x) else x
def mOf (Z : Sg) (k s : Nat) : Nat := mo Z k 8 s
/-- the ways from x up to the shelf e -/
def wy (Z : Sg) (e : Nat) : Nat → Nat → Int32 → Int32
  | 0, _, acc => acc
  | n + 1, x, acc => if x = e then acc else wy Z e n (upx Z x) (acc + Z 4 0 x)
def down (Z : Sg) (d : Dy) (x k : Nat) : Dy := due Z d 0 x k 0 (Z 4 0 x)
def up1 (Z : Sg) (d : Dy) (x k : Nat) : Dy := if d.1 7 (upx Z x) k = 0 then dA d (nI (upx Z x), nI k, 1, Z 14 0 2, nI x) else down Z (dG d 7 (upx Z x) k (d.1 7 (upx Z x) k - 1)) x k
def ups (Z : Sg) (k e : Nat) : Nat → Nat → Dy → Dy
  | 0, _, d => d
  | n + 1, x, d => if x = e then d else ups Z k e n (upx Z x) (up1 Z d x k)
/-- a mend of k begins at s -/
def begins (Z : Sg) (d : Dy) (s k : Nat) : Dy := due Z d 1 s k 0 (Z 6 s k)
/-- a broken k sets out from s to its mender e -/
def sets (Z : Sg) (d : Dy) (s k e : Nat) (how : Int32) : Dy := due Z d 3 e k how (wy Z e 8 s 0)
def backP (Z : Sg) (d : Dy) (s k : Nat) : Dy := if mOf Z k s = s then begins Z d s k else sets Z d s k (mOf Z k s) 0
/-- a mend of o at s gets its core, of kind c -/
def serveM (Z : Sg) (d : Dy) (s c o : Nat) : Dy := begins Z (ups Z c (mOf Z c s) 8 s (backP Z (inc (inc d 12 c) 13 c) s c)) s o
def arrC (Z : Sg) (d : Dy) (s k c : Nat) : Dy := if d.1 7 s c = 0 then dA d (nI s, nI c, 2, Z 14 0 2, nI k) else serveM Z (dG d 7 s c (d.1 7 s c - 1)) s c k
def back (Z : Sg) (d : Dy) (s k : Nat) (how : Int32) : Dy := if mOf Z k s = s then (if how = 0 then begins Z d s k else arrC Z d s k (Z 2 0 k).toNatClampNeg) else sets Z d s k (mOf Z k s) how
def serve (Z : Sg) (d : Dy) (s k : Nat) (e : E5) : Dy := if col 2 e = 0 then inc d 11 k else if col 2 e = 1 then down Z d (col 4 e).toNatClampNeg k else serveM Z d s k (col 4 e).toNatClampNeg
/-- the place of the first ask for k at s; the number of asks if there is none -/
def fst2 (s k : Nat) (L : List E5) : Nat := L.findIdx (fun e => decide (col 0 e = nI s ∧ col 1 e = nI k))
def lands (Z : Sg) (d : Dy) (s k : Nat) : Dy := match d.2.1[fst2 s k d.2.1]? with
  | none => dG d 7 s k (d.1 7 s k + 1)
  | some e => serve Z (xA d (fst2 s k d.2.1)) s k e
def landsN (Z : Sg) (s k : Nat) : Nat → Dy → Dy
  | 0, d => d
  | n + 1, d => landsN Z s k n (lands Z (inc d 9 k) s k)
def machine (Z : Sg) (d : Dy) (s k : Nat) : Dy := if d.1 7 s k = 0 then dA d (nI s, nI k, 0, Z 14 0 2, -1) else inc (dG d 7 s k (d.1 7 s k - 1)) 11 k
def breaks (Z : Sg) (d : Dy) (s k : Nat) (how : Int32) : Dy := if how = 2 then due Z (inc (ups Z k 0 8 s (inc (machine Z (inc d 13 k) s k) 10 k)) 9 k) 2 0 k 0 (Z 1 0 k) else ups Z k (mOf Z k s) 8 s (back Z (machine Z (inc d 13 k) s k) s k how)
/-- a due that is due: taken out, done -/
def does (Z : Sg) (d : Dy) (i : Nat) (e : E5) : Dy := if col 2 e = 3 then back Z (xU d i) (col 0 e).toNatClampNeg (col 1 e).toNatClampNeg (col 4 e) else lands Z (xU d i) (col 0 e).toNatClampNeg (col 1 e).toNatClampNeg
def fstT (t : Int32) (L : List E5) : Nat := L.findIdx (fun e => decide (col 3 e = t))
def doAll (Z : Sg) : Nat → Dy → Dy
  | 0, d => d
  | n + 1, d => match d.2.2.1[fstT (Z 14 0 2) d.2.2.1]? with
    | none => d
    | some e => doAll Z n (does Z d (fstT (Z 14 0 2) d.2.2.1) e)
/-- one machine that stands, a day more -/
def std1 (z : Sg) (e : E5) : Sg := if col 2 e = 0 then su z 5 0 (col 0 e).toNatClampNeg (z 5 0 (col 0 e).toNatClampNeg + 1) else z
def stands (d : Dy) : Dy := (d.2.1.foldl std1 d.1, d.2)
/-! what stands is in order: ns shelves, nk kinds -/
def Zv (ns nk : Nat) (Z : Sg) : Prop := 1 ≤ ns ∧ ns ≤ 8 ∧ nk ≤ 8 ∧ Z 14 0 0 = nI nk ∧ Z 14 0 1 = nI ns ∧ (∀ x, 1 ≤ x → x < ns → Z 3 0 x = nI (upx Z x) ∧ upx Z x < x) ∧ (∀ k, k < nk → Z 6 0 k ≠ 0)
theorem Zv.n1 {ns nk : Nat} {Z : Sg} (h : Zv ns nk Z) : 1 ≤ ns := h.1
theorem Zv.n8 {ns nk : Nat} {Z : Sg} (h : Zv ns nk Z) : ns ≤ 8 := h.2.1
theorem Zv.k8 {ns nk : Nat} {Z : Sg} (h : Zv ns nk Z) : nk ≤ 8 := h.2.2.1
theorem Zv.nk {ns nk : Nat} {Z : Sg} (h : Zv ns nk Z) : Z 14 0 0 = nI nk := h.2.2.2.1
theorem Zv.ns {ns nk : Nat} {Z : Sg} (h : Zv ns nk Z) : Z 14 0 1 = nI ns := h.2.2.2.2.1
theorem Zv.up {ns nk : Nat} {Z : Sg} (h : Zv ns nk Z) {x : Nat} (h1 : 1 ≤ x) (h2 : x < ns) : Z 3 0 x = nI (upx Z x) := (h.2.2.2.2.2.1 x h1 h2).1
theorem Zv.lt {ns nk : Nat} {Z : Sg} (h : Zv ns nk Z) {x : Nat} (h1 : 1 ≤ x) (h2 : x < ns) : upx Z x < x := (h.2.2.2.2.2.1 x h1 h2).2
theorem Zv.m0 {ns nk : Nat} {Z : Sg} (h : Zv ns nk Z) {k : Nat} (h1 : k < nk) : Z 6 0 k ≠ 0 := h.2.2.2.2.2.2 k h1
/-- from x the shelf e is reached going up -/
def rch (Z : Sg) (e : Nat) : Nat → Nat → Prop
  | 0, x => x = e
  | n + 1, x => x = e ∨ (1 ≤ x ∧ rch Z e n (upx Z x))
theorem rch_le {ns nk : Nat} {Z : Sg} (h : Zv ns nk Z) {e : Nat} : ∀ (n x : Nat), x < ns → rch Z e n x → e ≤ x
  | 0, x, _, hr => by
    rw [rch] at hr
    omega
  | n + 1, x, hx, hr => by
    rw [rch] at hr
    rcases hr with hr | ⟨h1, hr⟩
    · omega
    · have h2 := h.lt h1 hx
      have h3 := rch_le h n (upx Z x) (by omega) hr
      omega
theorem rch_mo {ns nk : Nat} {Z : Sg} (h : Zv ns nk Z) {k : Nat} (hk : k < nk) : ∀ (n x : Nat), x < ns → rch Z (mo Z k n x) n x
  | 0, x, _ => rfl
  | n + 1, x, hx => by
    rw [rch, mo]
    by_cases hm : Z 6 x k = 0
    · rw [if_pos hm]
      have h1 : 1 ≤ x := by
        rcases Nat.eq_zero_or_pos x with h0 | h0
        · subst h0
          exact absurd hm (h.m0 hk)
        · exact h0
      have h2 := h.lt h1 hx
      exact Or.inr ⟨h1, rch_mo h hk n (upx Z x) (by omega)⟩
    · rw [if_neg hm]
      exact Or.inl rfl
theorem rch_0 {ns nk : Nat} {Z : Sg} (h : Zv ns nk Z) : ∀ (n x : Nat), x < ns → x ≤ n → rch Z 0 n x
  | 0, x, _, hn => by
    rw [rch]
    omega
  | n + 1, x, hx, hn => by
    rw [rch]
    rcases Nat.eq_zero_or_pos x with h0 | h0
    · exact Or.inl h0
    · have h2 := h.lt h0 hx
      exact Or.inr ⟨h0, rch_0 h n (upx Z x) (by omega) (by omega)⟩
theorem mo_le {ns nk : Nat} {Z : Sg} (h : Zv ns nk Z) {k : Nat} (hk : k < nk) (n x : Nat) (hx : x < ns) : mo Z k n x ≤ x := rch_le h n x hx (rch_mo h hk n x hx)
theorem mOf_le {ns nk : Nat} {Z : Sg} (h : Zv ns nk Z) {k s : Nat} (hk : k < nk) (hs : s < ns) : mOf Z k s ≤ s := mo_le h hk 8 s hs
theorem mo_nz {ns nk : Nat} {Z : Sg} (h : Zv ns nk Z) {k : Nat} (hk : k < nk) : ∀ (n x : Nat), x < ns → x < n → Z 6 (mo Z k n x) k ≠ 0
  | 0, x, _, hn => absurd hn (Nat.not_lt_zero x)
  | n + 1, x, hx, hn => by
    rw [mo]
    by_cases hm : Z 6 x k = 0
    · rw [if_pos hm]
      have h1 : 1 ≤ x := by
        rcases Nat.eq_zero_or_pos x with h0 | h0
        · subst h0
          exact absurd hm (h.m0 hk)
        · exact h0
      have h2 := h.lt h1 hx
      exact mo_nz h hk n (upx Z x) (by omega) (by omega)
    · rw [if_neg hm]
      exact hm
theorem mOf_nz {ns nk : Nat} {Z : Sg} (h : Zv ns nk Z) {k s : Nat} (hk : k < nk) (hs : s < ns) : Z 6 (mOf Z k s) k ≠ 0 := mo_nz h hk 8 s hs (by have := h.n8; omega)
end
section
/-! the tree's cells and its reading methods -/
abbrev rwO (b : Nat → Nat) (base : Nat) : Nat → Option Nat := fun i => some (b (base + i))
abbrev twd (cI cO : ClassId) (b : Nat → Nat) (Z : Sg) : va_W := [(b 0, .inr (2, [.ref (b 1), .ref (b 2), .ref (b 3), .int (Z 14 0 1)])), (b 1, .inl (cI, 8, .inl (Z 3 0))), (b 2, .inl (cI, 8, .inl (Z 4 0))), (b 3, .inl (cO, 8, .inr (.inr (.inr (.inr (rwO b 4)))))), (b 4, .inl (cI, 8, .inl (Z 6 0))), (b 5, .inl (cI, 8, .inl (Z 6 1))), (b 6, .inl (cI, 8, .inl (Z 6 2))), (b 7, .inl (cI, 8, .inl (Z 6 3))), (b 8, .inl (cI, 8, .inl (Z 6 4))), (b 9, .inl (cI, 8, .inl (Z 6 5))), (b 10, .inl (cI, 8, .inl (Z 6 6))), (b 11, .inl (cI, 8, .inl (Z 6 7)))]
theorem twd_m (cI cO : ClassId) (b : Nat → Nat) (Z : Sg) {x : Nat} (h : x < 8) : (twd cI cO b Z)[4 + x]? = some (b (4 + x), .inl (cI, 8, .inl (Z 6 x))) := by
  rcases (show x = 0 ∨ x = 1 ∨ x = 2 ∨ x = 3 ∨ x = 4 ∨ x = 5 ∨ x = 6 ∨ x = 7 by omega) with rfl | rfl | rfl | rfl | rfl | rfl | rfl | rfl <;> rfl
abbrev kwd (cI : ClassId) (b : Nat → Nat) (Z d : Sg) : va_W := [(b 0, .inr (0, [.ref (b 1), .ref (b 2), .ref (b 3), .ref (b 4), .ref (b 5), .ref (b 6), .ref (b 7), .ref (b 8), .int (Z 14 0 0)])), (b 1, .inl (cI, 8, .inl (Z 0 0))), (b 2, .inl (cI, 8, .inl (Z 1 0))), (b 3, .inl (cI, 8, .inl (Z 2 0))), (b 4, .inl (cI, 8, .inl (d 9 0))), (b 5, .inl (cI, 8, .inl (d 10 0))), (b 6, .inl (cI, 8, .inl (d 11 0))), (b 7, .inl (cI, 8, .inl (d 12 0))), (b 8, .inl (cI, 8, .inl (d 13 0)))]
/-- a number is one of the first n -/
def isIn (x : Int32) (n : Nat) : Bool := decide (0 ≤ x.toInt ∧ x.toInt < n)
theorem isIn_f1 {x : Int32} {n : Nat} (h : x < 0) : isIn x n = false := decide_eq_false (fun q => by rw [Int32.lt_iff_toInt_lt] at h; simp at h; omega)
theorem isIn_f2 {x : Int32} {n : Nat} (hn : n < 100) (h : nI n ≤ x) : isIn x n = false := decide_eq_false (fun q => by rw [Int32.le_iff_toInt_le, nI_toInt (by omega)] at h; omega)
theorem isIn_t {x : Int32} {n : Nat} (hn : n < 100) (h1 : ¬ x < 0) (h2 : ¬ nI n ≤ x) : isIn x n = true := decide_eq_true (by rw [Int32.lt_iff_toInt_lt] at h1; rw [Int32.le_iff_toInt_le, nI_toInt (by omega)] at h2; simp at h1; omega)
theorem isIn_of {x : Int32} {n : Nat} (hn : n < 100) (h : isIn x n = true) : ∃ j : Nat, j < n ∧ x = nI j := by
  have h1 := of_decide_eq_true h
  exact vp_in_of (vp_in_iff.mpr h1) (by omega)
theorem isIn_nI {j n : Nat} (h : j < n) (hn : n < 100) : isIn (nI j) n = true := decide_eq_true (by rw [nI_toInt (by omega)]; omega)

theorem iX0_has_0 : ∀ w ∈ wsX00, w ∈ wsX0_has := by decide +kernel
theorem fX0_has_36 : Cond.fieldLink RX0 36 "SpareShelves$Kinds" "size" "I" ∈ wsX0_has := by decide +kernel
set_option maxHeartbeats 4000000 in
set_option maxRecDepth 100000 in
theorem c_khas (l : Launch) (D : va_G) (cI cO : ClassId) (b : Nat → Nat) (Z d : Sg) (n : Nat) (hn : n ≤ 8) (hz : Z 14 0 0 = nI n) (x : Int32) : CR l yX0_has wsX0_has 0 0 D cI cO [.ref (b 0), .int x] (kwd cI b Z d) (fun r => r = if isIn x n then 1 else 0) := by
  refine CR.of (cc := cX0_has) (maxL := 2) (rt := .boolean) (by decide) rfl (Nat.le_of_ble_eq_true rfl) ?_
  intro C hgL hgD h hret
  refine g_iload_n h (pc := 0) dX0_has_0 1 rfl ?_
  refine g_if_lt h (pc := 1) (tgt := 16) dX0_has_1 (by decide) (fun c1 => ?_) (fun c1 => ?_)
  · refine g_iconst h (pc := 16) (v := 0) dX0_has_16 (by decide) ?_
    exact hret _ dX0_has_17 (by decide) (by rw [isIn_f1 c1]; rfl)
  · refine g_iload_n h (pc := 4) dX0_has_4 1 rfl ?_
    refine g_aload_n h (pc := 5) dX0_has_5 0 rfl ?_
    refine g_get h (pc := 6) dX0_has_6 iX0_has_0 0 rfl rfl 8 (by decide) fX0_has_36 rfl ?_
    rw [hz]
    refine g_icmp_ge h (pc := 9) (tgt := 16) dX0_has_9 (by decide) (fun c2 => ?_) (fun c2 => ?_)
    · refine g_iconst h (pc := 16) (v := 0) dX0_has_16 (by decide) ?_
      exact hret _ dX0_has_17 (by decide) (by rw [isIn_f2 (by omega) c2]; rfl)
    · refine g_iconst h (pc := 12) (v := 1) dX0_has_12 (by decide) ?_
      refine g_goto h (pc := 13) (tgt := 17) dX0_has_13 (by decide) ?_
      exact hret _ dX0_has_17 (by decide) (by rw [isIn_t (by omega) c1 c2]; rfl)

theorem iX2_has_2 : ∀ w ∈ wsX20, w ∈ wsX2_has := by decide +kernel
theorem fX2_has_23 : Cond.fieldLink RX2 23 "SpareShelves$Tree" "size" "I" ∈ wsX2_has := by decide +kernel
set_option maxHeartbeats 4000000 in
set_option maxRecDepth 100000 in
theorem c_thas (l : Launch) (D : va_G) (cI cO : ClassId) (b : Nat → Nat) (Z : Sg) (n : Nat) (hn : n ≤ 8) (hz : Z 14 0 1 = nI n) (x : Int32) : CR l yX2_has wsX2_has 0 0 D cI cO [.ref (b 0), .int x] (twd cI cO b Z) (fun r => r = if isIn x n then 1 else 0) := by
  refine CR.of (cc := cX2_has) (maxL := 2) (rt := .boolean) (by decide) rfl (Nat.le_of_ble_eq_true rfl) ?_
  intro C hgL hgD h hret
  refine g_iload_n h (pc := 0) dX2_has_0 1 rfl ?_
  refine g_if_lt h (pc := 1) (tgt := 16) dX2_has_1 (by decide) (fun c1 => ?_) (fun c1 => ?_)
  · refine g_iconst h (pc := 16) (v := 0) dX2_has_16 (by decide) ?_
    exact hret _ dX2_has_17 (by decide) (by rw [isIn_f1 c1]; rfl)
  · refine g_iload_n h (pc := 4) dX2_has_4 1 rfl ?_
    refine g_aload_n h (pc := 5) dX2_has_5 0 rfl ?_
    refine g_get h (pc := 6) dX2_has_6 iX2_has_2 0 rfl rfl 3 (by decide) fX2_has_23 rfl ?_
    rw [hz]
    refine g_icmp_ge h (pc := 9) (tgt := 16) dX2_has_9 (by decide) (fun c2 => ?_) (fun c2 => ?_)
    · refine g_iconst h (pc := 16) (v := 0) dX2_has_16 (by decide) ?_
      exact hret _ dX2_has_17 (by decide) (by rw [isIn_f2 (by omega) c2]; rfl)
    · refine g_iconst h (pc := 12) (v := 1) dX2_has_12 (by decide) ?_
      refine g_goto h (pc := 13) (tgt := 17) dX2_has_13 (by decide) ?_
      exact hret _ dX2_has_17 (by decide) (by rw [isIn_t (by omega) c1 c2]; rfl)

theorem iX2_firstThatMends_2 : ∀ w ∈ wsX20, w ∈ wsX2_firstThatMends := by decide +kernel
theorem fX2_firstThatMends_20 : Cond.fieldLink RX2 20 "SpareShelves$Tree" "mendDays" "[[I" ∈ wsX2_firstThatMends := by decide +kernel
theorem fX2_firstThatMends_9 : Cond.fieldLink RX2 9 "SpareShelves$Tree" "up" "[I" ∈ wsX2_firstThatMends := by decide +kernel
set_option maxHeartbeats 4000000 in
set_option maxRecDepth 100000 in
theorem c_first (l : Launch) (D : va_G) (cI cO : ClassId) (b : Nat → Nat) (Z : Sg) (ns nk : Nat) (hz : Zv ns nk Z) (s k : Nat) (hs : s < ns) (hk : k < nk) : CR l yX2_firstThatMends wsX2_firstThatMends 0 0 D cI cO [.ref (b 0), .int (nI s), .int (nI k)] (twd cI cO b Z) (fun r => r = nI (mOf Z k s)) := by
  refine CR.of (cc := cX2_firstThatMends) (maxL := 5) (rt := .int) (by decide) rfl (Nat.le_of_ble_eq_true rfl) ?_
  intro C hgL hgD h hret
  have hn8 := hz.n8
  have hk8 := hz.k8
  refine g_iload_n h (pc := 0) dX2_firstThatMends_0 1 rfl ?_
  refine g_istore_n h (pc := 1) dX2_firstThatMends_1 (by decide) rfl ?_
  refine g_iconst h (pc := 2) (v := 0) dX2_firstThatMends_2 (by decide) ?_
  refine g_istore h (pc := 3) dX2_firstThatMends_3 (by decide) rfl ?_
  suffices loop : ∀ (n j x : Nat), j + n = 8 → x < n → x < ns → mo Z k n x = mOf Z k s → GG C 5 (twd cI cO b Z) 0 0 5 [(0, .ref (b 0)), (1, .int (nI s)), (2, .int (nI k)), (3, .int (nI x)), (4, .int (nI j))] [] from loop 8 0 s (by omega) (by omega) hs rfl
  intro n
  induction n with
  | zero =>
    intro j x h1 h2
    exact absurd h2 (by omega)
  | succ n ih =>
    intro j x h1 h2 h3 hm
    refine g_iload h (pc := 5) dX2_firstThatMends_5 4 rfl ?_
    refine g_bipush h (pc := 7) (v := 8) dX2_firstThatMends_7 (by decide) ?_
    refine g_icmp_ge_f h (pc := 9) (tgt := 40) dX2_firstThatMends_9 (by decide) (nI_ge (a := j) (b := 8) (by omega) (by omega)) ?_
    refine g_iload_n h (pc := 12) dX2_firstThatMends_12 3 rfl ?_
    rcases Nat.eq_zero_or_pos x with h0 | h0
    · subst h0
      refine g_if_le_t h (pc := 13) (tgt := 40) dX2_firstThatMends_13 (by decide) (by decide) ?_
      refine g_iload_n h (pc := 40) dX2_firstThatMends_40 3 rfl ?_
      exact hret _ dX2_firstThatMends_41 rfl (by rw [← hm, mo, if_neg (hz.m0 hk)])
    · refine g_if_le_f h (pc := 13) (tgt := 40) dX2_firstThatMends_13 (by decide) (nI_nle h0 (by omega)) ?_
      refine g_aload_n h (pc := 16) dX2_firstThatMends_16 0 rfl ?_
      refine g_get h (pc := 17) dX2_firstThatMends_17 iX2_firstThatMends_2 0 rfl rfl 2 (by decide) fX2_firstThatMends_20 rfl ?_
      refine g_iload_n h (pc := 20) dX2_firstThatMends_20 3 rfl ?_
      refine g_aald h (pc := 21) (v := b (4 + x)) dX2_firstThatMends_21 3 rfl (vp_in_nI (by omega) (by omega)) (by rw [nI_clamp (by omega)]) ?_
      refine g_iload_n h (pc := 22) dX2_firstThatMends_22 2 rfl ?_
      refine g_iald h (pc := 23) (v := Z 6 x k) dX2_firstThatMends_23 (4 + x) (twd_m cI cO b Z (by omega)) (vp_in_nI (by omega) (by omega)) (by rw [nI_clamp (by omega)]) ?_
      refine g_if_ne h (pc := 24) (tgt := 40) dX2_firstThatMends_24 (by decide) (fun c2 => ?_) (fun c2 => ?_)
      · refine g_iload_n h (pc := 40) dX2_firstThatMends_40 3 rfl ?_
        exact hret _ dX2_firstThatMends_41 rfl (by rw [← hm, mo, if_neg c2])
      · have h4 := hz.lt h0 h3
        refine g_aload_n h (pc := 27) dX2_firstThatMends_27 0 rfl ?_
        refine g_get h (pc := 28) dX2_firstThatMends_28 iX2_firstThatMends_2 0 rfl rfl 0 (by decide) fX2_firstThatMends_9 rfl ?_
        refine g_iload_n h (pc := 31) dX2_firstThatMends_31 3 rfl ?_
        refine g_iald h (pc := 32) (v := nI (upx Z x)) dX2_firstThatMends_32 1 rfl (vp_in_nI (by omega) (by omega)) (by rw [nI_clamp (by omega)]; exact hz.up h0 h3) ?_
        refine g_istore_n h (pc := 33) dX2_firstThatMends_33 (by decide) rfl ?_
        refine g_iinc h (pc := 34) dX2_firstThatMends_34 4 rfl (nI_1 j) (by decide) rfl ?_
        refine g_goto h (pc := 37) (tgt := 5) dX2_firstThatMends_37 (by decide) ?_
        exact ih (j + 1) (upx Z x) (by omega) (by omega) (by omega) (by rw [← hm, mo, if_pos c2])

theorem iX2_waysUp_2 : ∀ w ∈ wsX20, w ∈ wsX2_waysUp := by decide +kernel
theorem fX2_waysUp_15 : Cond.fieldLink RX2 15 "SpareShelves$Tree" "way" "[I" ∈ wsX2_waysUp := by decide +kernel
theorem fX2_waysUp_9 : Cond.fieldLink RX2 9 "SpareShelves$Tree" "up" "[I" ∈ wsX2_waysUp := by decide +kernel
set_option maxHeartbeats 4000000 in
set_option maxRecDepth 100000 in
theorem c_ways (l : Launch) (D : va_G) (cI cO : ClassId) (b : Nat → Nat) (Z : Sg) (ns nk : Nat) (hz : Zv ns nk Z) (s e : Nat) (hs : s < ns) (hr : rch Z e 8 s) : CR l yX2_waysUp wsX2_waysUp 0 0 D cI cO [.ref (b 0), .int (nI s), .int (nI e)] (twd cI cO b Z) (fun r => r = wy Z e 8 s 0) := by
  refine CR.of (cc := cX2_waysUp) (maxL := 6) (rt := .int) (by decide) rfl (Nat.le_of_ble_eq_true rfl) ?_
  intro C hgL hgD h hret
  have hn8 := hz.n8
  refine g_iconst h (pc := 0) (v := 0) dX2_waysUp_0 (by decide) ?_
  refine g_istore_n h (pc := 1) dX2_waysUp_1 (by decide) rfl ?_
  refine g_iload_n h (pc := 2) dX2_waysUp_2 1 rfl ?_
  refine g_istore h (pc := 3) dX2_waysUp_3 (by decide) rfl ?_
  refine g_iconst h (pc := 5) (v := 0) dX2_waysUp_5 (by decide) ?_
  refine g_istore h (pc := 6) dX2_waysUp_6 (by decide) rfl ?_
  suffices loop : ∀ (n j x : Nat) (acc : Int32), j + n = 8 → x < ns → rch Z e n x → wy Z e n x acc = wy Z e 8 s 0 → GG C 6 (twd cI cO b Z) 0 0 8 [(0, .ref (b 0)), (1, .int (nI s)), (2, .int (nI e)), (3, .int acc), (4, .int (nI x)), (5, .int (nI j))] [] from loop 8 0 s 0 (by omega) hs hr rfl
  intro n
  induction n with
  | zero =>
    intro j x acc h1 h2 h3 hm
    refine g_iload h (pc := 8) dX2_waysUp_8 5 rfl ?_
    refine g_bipush h (pc := 10) (v := 8) dX2_waysUp_10 (by decide) ?_
    refine g_icmp_ge_t h (pc := 12) (tgt := 46) dX2_waysUp_12 (by decide) (nI_le (a := 8) (b := j) (by omega) (by omega)) ?_
    refine g_iload_n h (pc := 46) dX2_waysUp_46 3 rfl ?_
    exact hret _ dX2_waysUp_47 rfl (by rw [← hm, wy])
  | succ n ih =>
    intro j x acc h1 h2 h3 hm
    have hle := rch_le hz (n + 1) x h2 h3
    refine g_iload h (pc := 8) dX2_waysUp_8 5 rfl ?_
    refine g_bipush h (pc := 10) (v := 8) dX2_waysUp_10 (by decide) ?_
    refine g_icmp_ge_f h (pc := 12) (tgt := 46) dX2_waysUp_12 (by decide) (nI_ge (a := j) (b := 8) (by omega) (by omega)) ?_
    refine g_iload h (pc := 15) dX2_waysUp_15 4 rfl ?_
    refine g_iload_n h (pc := 17) dX2_waysUp_17 2 rfl ?_
    by_cases hx : x = e
    · subst hx
      refine g_icmp_le_t h (pc := 18) (tgt := 46) dX2_waysUp_18 (by decide) (Int32.le_refl _) ?_
      refine g_iload_n h (pc := 46) dX2_waysUp_46 3 rfl ?_
      exact hret _ dX2_waysUp_47 rfl (by rw [← hm, wy, if_pos rfl])
    · refine g_icmp_le_f h (pc := 18) (tgt := 46) dX2_waysUp_18 (by decide) (nI_ge (by omega) (by omega)) ?_
      rw [rch] at h3
      obtain ⟨h0, h3⟩ := h3.resolve_left hx
      have h4 := hz.lt h0 h2
      rw [wy, if_neg hx] at hm
      refine g_iload_n h (pc := 21) dX2_waysUp_21 3 rfl ?_
      refine g_aload_n h (pc := 22) dX2_waysUp_22 0 rfl ?_
      refine g_get h (pc := 23) dX2_waysUp_23 iX2_waysUp_2 0 rfl rfl 1 (by decide) fX2_waysUp_15 rfl ?_
      refine g_iload h (pc := 26) dX2_waysUp_26 4 rfl ?_
      refine g_iald h (pc := 28) (v := Z 4 0 x) dX2_waysUp_28 2 rfl (vp_in_nI (by omega) (by omega)) (by rw [nI_clamp (by omega)]) ?_
      refine g_iadd h (pc := 29) dX2_waysUp_29  ?_
      refine g_istore_n h (pc := 30) dX2_waysUp_30 (by decide) rfl ?_
      refine g_aload_n h (pc := 31) dX2_waysUp_31 0 rfl ?_
      refine g_get h (pc := 32) dX2_waysUp_32 iX2_waysUp_2 0 rfl rfl 0 (by decide) fX2_waysUp_9 rfl ?_
      refine g_iload h (pc := 35) dX2_waysUp_35 4 rfl ?_
      refine g_iald h (pc := 37) (v := nI (upx Z x)) dX2_waysUp_37 1 rfl (vp_in_nI (by omega) (by omega)) (by rw [nI_clamp (by omega)]; exact hz.up h0 h2) ?_
      refine g_istore h (pc := 38) dX2_waysUp_38 (by decide) rfl ?_
      refine g_iinc h (pc := 40) dX2_waysUp_40 5 rfl (nI_1 j) (by decide) rfl ?_
      refine g_goto h (pc := 43) (tgt := 8) dX2_waysUp_43 (by decide) ?_
      exact ih (j + 1) (upx Z x) _ (by omega) (by omega) h3 hm
end
section
/-! the class's cells, forty-six, over the pure state -/
abbrev UX : Type := Nat × Nat × (Nat → Int32) × (Nat → Int32) × (Nat → Int32)
def cso (x : Int32) : Int32 := if x = 0 then 0 else if x = 3 then 1 else if x = 1 then 2 else 3
/-- a due as the class writes it -/
def ce (e : E5) : E5 := (col 0 e, col 1 e, cso (col 2 e), col 3 e, if col 2 e = 3 then col 4 e else -1)
abbrev lb (h q : Nat) : Nat → Nat := fun i => if i = 0 then h else q
def cw (cI cO : ClassId) (a : Nat → Nat) (u : UX) (Z : Sg) (d : Dy) : va_W := [
  (a 0, .inr (3, [.ref (a 1), .ref (a 10), .ref (a 22), .ref (a 31), .ref (a 40), .ref (a 41), .ref (a 42), .ref (a 44), .int (Z 14 0 2)])),
  (a 1, .inr (0, [.ref (a 2), .ref (a 3), .ref (a 4), .ref (a 5), .ref (a 6), .ref (a 7), .ref (a 8), .ref (a 9), .int (Z 14 0 0)])),
  (a 2, .inl (cI, 8, .inl (Z 0 0))), (a 3, .inl (cI, 8, .inl (Z 1 0))), (a 4, .inl (cI, 8, .inl (Z 2 0))), (a 5, .inl (cI, 8, .inl (d.1 9 0))), (a 6, .inl (cI, 8, .inl (d.1 10 0))), (a 7, .inl (cI, 8, .inl (d.1 11 0))), (a 8, .inl (cI, 8, .inl (d.1 12 0))), (a 9, .inl (cI, 8, .inl (d.1 13 0))),
  (a 10, .inr (2, [.ref (a 11), .ref (a 12), .ref (a 13), .int (Z 14 0 1)])), (a 11, .inl (cI, 8, .inl (Z 3 0))), (a 12, .inl (cI, 8, .inl (Z 4 0))), (a 13, .inl (cO, 8, .inr (.inr (.inr (.inr (rwO (fun i => a (10 + i)) 4)))))),
  (a 14, .inl (cI, 8, .inl (Z 6 0))), (a 15, .inl (cI, 8, .inl (Z 6 1))), (a 16, .inl (cI, 8, .inl (Z 6 2))), (a 17, .inl (cI, 8, .inl (Z 6 3))), (a 18, .inl (cI, 8, .inl (Z 6 4))), (a 19, .inl (cI, 8, .inl (Z 6 5))), (a 20, .inl (cI, 8, .inl (Z 6 6))), (a 21, .inl (cI, 8, .inl (Z 6 7))),
  (a 22, .inl (cO, 8, .inr (.inr (.inr (.inr (rwO a 23)))))), (a 23, .inl (cI, 8, .inl (d.1 7 0))), (a 24, .inl (cI, 8, .inl (d.1 7 1))), (a 25, .inl (cI, 8, .inl (d.1 7 2))), (a 26, .inl (cI, 8, .inl (d.1 7 3))), (a 27, .inl (cI, 8, .inl (d.1 7 4))), (a 28, .inl (cI, 8, .inl (d.1 7 5))), (a 29, .inl (cI, 8, .inl (d.1 7 6))), (a 30, .inl (cI, 8, .inl (d.1 7 7))),
  (a 31, .inl (cO, 8, .inr (.inr (.inr (.inr (rwO a 32)))))), (a 32, .inl (cI, 8, .inl (Z 8 0))), (a 33, .inl (cI, 8, .inl (Z 8 1))), (a 34, .inl (cI, 8, .inl (Z 8 2))), (a 35, .inl (cI, 8, .inl (Z 8 3))), (a 36, .inl (cI, 8, .inl (Z 8 4))), (a 37, .inl (cI, 8, .inl (Z 8 5))), (a 38, .inl (cI, 8, .inl (Z 8 6))), (a 39, .inl (cI, 8, .inl (Z 8 7))),
  (a 40, .inl (cI, 8, .inl (d.1 5 0))), (a 41, .inl (cI, 8, .inl u.2.2.1)),
  (a 42, .inr (1, [.ref u.1, .int (nI d.2.1.length)])), (u.1, .inl (cI, d.2.2.2.1, .inl u.2.2.2.1)),
  (a 44, .inr (1, [.ref u.2.1, .int (nI (d.2.2.1.map ce).length)])), (u.2.1, .inl (cI, d.2.2.2.2, .inl u.2.2.2.2))]
def RC (d : Dy) (u : UX) : Prop := Ln d.2.1 d.2.2.2.1 u.2.2.2.1 ∧ Ln (d.2.2.1.map ce) d.2.2.2.2 u.2.2.2.2 ∧ 640 ≤ d.2.2.2.1 ∧ 640 ≤ d.2.2.2.2
def cp (d : Dy) : Nat := d.2.2.2.1 + d.2.2.2.2
theorem cw_m (cI cO : ClassId) (a : Nat → Nat) (u : UX) (Z : Sg) (d : Dy) {x : Nat} (h : x < 8) : (cw cI cO a u Z d)[10 + (4 + x)]? = some (a (10 + (4 + x)), .inl (cI, 8, .inl (Z 6 x))) := by
  rcases (show x = 0 ∨ x = 1 ∨ x = 2 ∨ x = 3 ∨ x = 4 ∨ x = 5 ∨ x = 6 ∨ x = 7 by omega) with rfl | rfl | rfl | rfl | rfl | rfl | rfl | rfl <;> rfl
theorem cw_g (cI cO : ClassId) (a : Nat → Nat) (u : UX) (Z : Sg) (d : Dy) {x : Nat} (h : x < 8) : (cw cI cO a u Z d)[23 + x]? = some (a (23 + x), .inl (cI, 8, .inl (d.1 7 x))) := by
  rcases (show x = 0 ∨ x = 1 ∨ x = 2 ∨ x = 3 ∨ x = 4 ∨ x = 5 ∨ x = 6 ∨ x = 7 by omega) with rfl | rfl | rfl | rfl | rfl | rfl | rfl | rfl <;> rfl
theorem cw_r (cI cO : ClassId) (a : Nat → Nat) (u : UX) (Z : Sg) (d : Dy) {x : Nat} (h : x < 8) : (cw cI cO a u Z d)[32 + x]? = some (a (32 + x), .inl (cI, 8, .inl (Z 8 x))) := by
  rcases (show x = 0 ∨ x = 1 ∨ x = 2 ∨ x = 3 ∨ x = 4 ∨ x = 5 ∨ x = 6 ∨ x = 7 by omega) with rfl | rfl | rfl | rfl | rfl | rfl | rfl | rfl <;> rfl
theorem cw_ms (cI cO : ClassId) (a : Nat → Nat) (u : UX) (Z : Sg) (d : Dy) {x : Nat} (h : x < 8) (k : Nat) (v : Int32) : (cw cI cO a u Z d).set (10 + (4 + x)) (a (10 + (4 + x)), .inl (cI, 8, .inl (upd (Z 6 x) k v))) = cw cI cO a u (su Z 6 x k v) d := by
  rcases (show x = 0 ∨ x = 1 ∨ x = 2 ∨ x = 3 ∨ x = 4 ∨ x = 5 ∨ x = 6 ∨ x = 7 by omega) with rfl | rfl | rfl | rfl | rfl | rfl | rfl | rfl <;> rfl
theorem cw_gs (cI cO : ClassId) (a : Nat → Nat) (u : UX) (Z : Sg) (d : Dy) {x : Nat} (h : x < 8) (k : Nat) (v : Int32) : (cw cI cO a u Z d).set (23 + x) (a (23 + x), .inl (cI, 8, .inl (upd (d.1 7 x) k v))) = cw cI cO a u Z (dG d 7 x k v) := by
  rcases (show x = 0 ∨ x = 1 ∨ x = 2 ∨ x = 3 ∨ x = 4 ∨ x = 5 ∨ x = 6 ∨ x = 7 by omega) with rfl | rfl | rfl | rfl | rfl | rfl | rfl | rfl <;> rfl
theorem cw_rs (cI cO : ClassId) (a : Nat → Nat) (u : UX) (Z : Sg) (d : Dy) {x : Nat} (h : x < 8) (k : Nat) (v : Int32) : (cw cI cO a u Z d).set (32 + x) (a (32 + x), .inl (cI, 8, .inl (upd (Z 8 x) k v))) = cw cI cO a u (su Z 8 x k v) d := by
  rcases (show x = 0 ∨ x = 1 ∨ x = 2 ∨ x = 3 ∨ x = 4 ∨ x = 5 ∨ x = 6 ∨ x = 7 by omega) with rfl | rfl | rfl | rfl | rfl | rfl | rfl | rfl <;> rfl
/-! a class method's contract: void, or with an int; the state d comes to be d2 -/
def CVc (l : Launch) (y : MethodName) (wds : List Cond) (fr lo : Nat) (D : va_G) (cI cO : ClassId) (a : Nat → Nat) (u : UX) (Z : Sg) (d : Dy) (As : List Value) (Z2 : Sg) (d2 : Dy) : Prop := CV l y wds fr lo (cp d2 - cp d) (2 * (cp d2 - cp d)) D cI cO (.ref (a 0) :: As) (cw cI cO a u Z d) (fun u2 : UX => RC d2 u2) (fun u2 => cw cI cO a u2 Z2 d2)
def CIc (l : Launch) (y : MethodName) (wds : List Cond) (fr lo : Nat) (D : va_G) (cI cO : ClassId) (a : Nat → Nat) (u : UX) (Z : Sg) (d : Dy) (As : List Value) (r : Int32) (Z2 : Sg) (d2 : Dy) : Prop := CI l y wds fr lo (cp d2 - cp d) (2 * (cp d2 - cp d)) D cI cO (.ref (a 0) :: As) (cw cI cO a u Z d) (fun (r2 : Int32) (u2 : UX) => r2 = r ∧ RC d2 u2) (fun u2 => cw cI cO a u2 Z2 d2)
def CRc (l : Launch) (y : MethodName) (wds : List Cond) (fr lo : Nat) (D : va_G) (cI cO : ClassId) (a : Nat → Nat) (u : UX) (Z : Sg) (d : Dy) (As : List Value) (r : Int32) : Prop := CR l y wds fr lo D cI cO (.ref (a 0) :: As) (cw cI cO a u Z d) (fun r2 : Int32 => r2 = r)
theorem cp_dU (d : Dy) (e : E5) : cp (dU d e) - cp d = capN d.2.2.1.length d.2.2.2.2 - d.2.2.2.2 := by show (_ + _) - (_ + _) = _; dsimp only [dU]; omega
theorem cp_dA (d : Dy) (e : E5) : cp (dA d e) - cp d = capN d.2.1.length d.2.2.2.1 - d.2.2.2.1 := by show (_ + _) - (_ + _) = _; dsimp only [dA]; omega
theorem capN_le (n c : Nat) : c ≤ capN n c := by unfold capN; split <;> omega
theorem cpl_dU (d : Dy) (e : E5) : cp d ≤ cp (dU d e) := by have := capN_le d.2.2.1.length d.2.2.2.2; show _ + _ ≤ _ + _; dsimp only [dU]; omega
theorem cpl_dA (d : Dy) (e : E5) : cp d ≤ cp (dA d e) := by have := capN_le d.2.1.length d.2.2.2.1; show _ + _ ≤ _ + _; dsimp only [dA]; omega
def crA (cI cO : ClassId) (a : Nat → Nat) (u : UX) (Z : Sg) (d : Dy) : va_W := [(a 0, .inr (3, [.ref (a 1), .ref (a 10), .ref (a 22), .ref (a 31), .ref (a 40), .ref (a 41), .ref (a 42), .ref (a 44), .int (Z 14 0 2)])), (a 1, .inr (0, [.ref (a 2), .ref (a 3), .ref (a 4), .ref (a 5), .ref (a 6), .ref (a 7), .ref (a 8), .ref (a 9), .int (Z 14 0 0)])), (a 2, .inl (cI, 8, .inl (Z 0 0))), (a 3, .inl (cI, 8, .inl (Z 1 0))), (a 4, .inl (cI, 8, .inl (Z 2 0))), (a 5, .inl (cI, 8, .inl (d.1 9 0))), (a 6, .inl (cI, 8, .inl (d.1 10 0))), (a 7, .inl (cI, 8, .inl (d.1 11 0))), (a 8, .inl (cI, 8, .inl (d.1 12 0))), (a 9, .inl (cI, 8, .inl (d.1 13 0))), (a 10, .inr (2, [.ref (a 11), .ref (a 12), .ref (a 13), .int (Z 14 0 1)])), (a 11, .inl (cI, 8, .inl (Z 3 0))), (a 12, .inl (cI, 8, .inl (Z 4 0))), (a 13, .inl (cO, 8, .inr (.inr (.inr (.inr (rwO (fun i => a (10 + i)) 4)))))), (a 14, .inl (cI, 8, .inl (Z 6 0))), (a 15, .inl (cI, 8, .inl (Z 6 1))), (a 16, .inl (cI, 8, .inl (Z 6 2))), (a 17, .inl (cI, 8, .inl (Z 6 3))), (a 18, .inl (cI, 8, .inl (Z 6 4))), (a 19, .inl (cI, 8, .inl (Z 6 5))), (a 20, .inl (cI, 8, .inl (Z 6 6))), (a 21, .inl (cI, 8, .inl (Z 6 7))), (a 22, .inl (cO, 8, .inr (.inr (.inr (.inr (rwO a 23)))))), (a 23, .inl (cI, 8, .inl (d.1 7 0))), (a 24, .inl (cI, 8, .inl (d.1 7 1))), (a 25, .inl (cI, 8, .inl (d.1 7 2))), (a 26, .inl (cI, 8, .inl (d.1 7 3))), (a 27, .inl (cI, 8, .inl (d.1 7 4))), (a 28, .inl (cI, 8, .inl (d.1 7 5))), (a 29, .inl (cI, 8, .inl (d.1 7 6))), (a 30, .inl (cI, 8, .inl (d.1 7 7))), (a 31, .inl (cO, 8, .inr (.inr (.inr (.inr (rwO a 32)))))), (a 32, .inl (cI, 8, .inl (Z 8 0))), (a 33, .inl (cI, 8, .inl (Z 8 1))), (a 34, .inl (cI, 8, .inl (Z 8 2))), (a 35, .inl (cI, 8, .inl (Z 8 3))), (a 36, .inl (cI, 8, .inl (Z 8 4))), (a 37, .inl (cI, 8, .inl (Z 8 5))), (a 38, .inl (cI, 8, .inl (Z 8 6))), (a 39, .inl (cI, 8, .inl (Z 8 7))), (a 40, .inl (cI, 8, .inl (d.1 5 0))), (a 41, .inl (cI, 8, .inl u.2.2.1)), (a 44, .inr (1, [.ref u.2.1, .int (nI (d.2.2.1.map ce).length)])), (u.2.1, .inl (cI, d.2.2.2.2, .inl u.2.2.2.2))]
def crD (cI cO : ClassId) (a : Nat → Nat) (u : UX) (Z : Sg) (d : Dy) : va_W := [(a 0, .inr (3, [.ref (a 1), .ref (a 10), .ref (a 22), .ref (a 31), .ref (a 40), .ref (a 41), .ref (a 42), .ref (a 44), .int (Z 14 0 2)])), (a 1, .inr (0, [.ref (a 2), .ref (a 3), .ref (a 4), .ref (a 5), .ref (a 6), .ref (a 7), .ref (a 8), .ref (a 9), .int (Z 14 0 0)])), (a 2, .inl (cI, 8, .inl (Z 0 0))), (a 3, .inl (cI, 8, .inl (Z 1 0))), (a 4, .inl (cI, 8, .inl (Z 2 0))), (a 5, .inl (cI, 8, .inl (d.1 9 0))), (a 6, .inl (cI, 8, .inl (d.1 10 0))), (a 7, .inl (cI, 8, .inl (d.1 11 0))), (a 8, .inl (cI, 8, .inl (d.1 12 0))), (a 9, .inl (cI, 8, .inl (d.1 13 0))), (a 10, .inr (2, [.ref (a 11), .ref (a 12), .ref (a 13), .int (Z 14 0 1)])), (a 11, .inl (cI, 8, .inl (Z 3 0))), (a 12, .inl (cI, 8, .inl (Z 4 0))), (a 13, .inl (cO, 8, .inr (.inr (.inr (.inr (rwO (fun i => a (10 + i)) 4)))))), (a 14, .inl (cI, 8, .inl (Z 6 0))), (a 15, .inl (cI, 8, .inl (Z 6 1))), (a 16, .inl (cI, 8, .inl (Z 6 2))), (a 17, .inl (cI, 8, .inl (Z 6 3))), (a 18, .inl (cI, 8, .inl (Z 6 4))), (a 19, .inl (cI, 8, .inl (Z 6 5))), (a 20, .inl (cI, 8, .inl (Z 6 6))), (a 21, .inl (cI, 8, .inl (Z 6 7))), (a 22, .inl (cO, 8, .inr (.inr (.inr (.inr (rwO a 23)))))), (a 23, .inl (cI, 8, .inl (d.1 7 0))), (a 24, .inl (cI, 8, .inl (d.1 7 1))), (a 25, .inl (cI, 8, .inl (d.1 7 2))), (a 26, .inl (cI, 8, .inl (d.1 7 3))), (a 27, .inl (cI, 8, .inl (d.1 7 4))), (a 28, .inl (cI, 8, .inl (d.1 7 5))), (a 29, .inl (cI, 8, .inl (d.1 7 6))), (a 30, .inl (cI, 8, .inl (d.1 7 7))), (a 31, .inl (cO, 8, .inr (.inr (.inr (.inr (rwO a 32)))))), (a 32, .inl (cI, 8, .inl (Z 8 0))), (a 33, .inl (cI, 8, .inl (Z 8 1))), (a 34, .inl (cI, 8, .inl (Z 8 2))), (a 35, .inl (cI, 8, .inl (Z 8 3))), (a 36, .inl (cI, 8, .inl (Z 8 4))), (a 37, .inl (cI, 8, .inl (Z 8 5))), (a 38, .inl (cI, 8, .inl (Z 8 6))), (a 39, .inl (cI, 8, .inl (Z 8 7))), (a 40, .inl (cI, 8, .inl (d.1 5 0))), (a 41, .inl (cI, 8, .inl u.2.2.1)), (a 42, .inr (1, [.ref u.1, .int (nI d.2.1.length)])), (u.1, .inl (cI, d.2.2.2.1, .inl u.2.2.2.1))]
section GGL
variable {C : GX} {nL : Nat} {k n pc idx : Nat} {lv : List (Nat × Value)} {st : List Value} {cc : ByteArray} {Ts : List Cond} {RM : Room} {cI cO : ClassId} {a : Nat → Nat} {u : UX} {Z : Sg} {d : Dy}
set_option maxHeartbeats 4000000 in
set_option maxRecDepth 100000 in
/-- asks.add -/
theorem g_aadd (h : OKx C cc nL Ts RX3 RM cI cO) (hw : ¬ gRo C) (hdg : decode cc pc = .ok (.invokevirtual idx, 3)) (hRC : RC d u) (hlen : d.2.1.length < 100000) (e0 e1 e2 e3 e4 : Int32) (hg : GoodIn Ts (wsV RX3 idx RX1 yX1_add wsX1_add)) (hR : 2 + 1 ≤ RM.frames ∧ 8 + (7 + 11) + 110 ≤ RM.locals) (hcat : (st.map fun v => v.category).sum ≤ 8) (hkn : k + (cp (dA d (e0, e1, e2, e3, e4)) - cp d) ≤ RM.cells ∧ n + 2 * (cp (dA d (e0, e1, e2, e3, e4)) - cp d) ≤ RM.slots)
    (kk : ∀ u2 : UX, RC (dA d (e0, e1, e2, e3, e4)) u2 → GG C nL (cw cI cO a u2 Z (dA d (e0, e1, e2, e3, e4))) (k + (cp (dA d (e0, e1, e2, e3, e4)) - cp d)) (n + 2 * (cp (dA d (e0, e1, e2, e3, e4)) - cp d)) (pc + 3) lv st) : GG C nL (cw cI cO a u Z d) k n pc lv (.int e4 :: .int e3 :: .int e2 :: .int e1 :: .int e0 :: .ref (a 42) :: st) := by
  rw [cp_dA] at hkn kk
  refine g_callVp h (As := [.int e0, .int e1, .int e2, .int e3, .int e4]) (st := st) (wr := crA cI cO a u Z d) (wz := fun v => cw cI cO a (v.1, u.2.1, u.2.2.1, v.2, u.2.2.2.2) Z (dA d (e0, e1, e2, e3, e4))) hdg (c_add (gL C) (gD C) cI cO (lb (a 42) u.1) d.2.2.2.1 u.2.2.2.1 d.2.1 hRC.1 hlen hRC.2.2.1 e0 e1 e2 e3 e4) hw [42, 43] [0, 1, 2, 3, 4, 5, 6, 7, 8, 9, 10, 11, 12, 13, 14, 15, 16, 17, 18, 19, 20, 21, 22, 23, 24, 25, 26, 27, 28, 29, 30, 31, 32, 33, 34, 35, 36, 37, 38, 39, 40, 41, 44, 45] [0, 1, 2, 3, 4, 5, 6, 7, 8, 9, 10, 11, 12, 13, 14, 15, 16, 17, 18, 19, 20, 21, 22, 23, 24, 25, 26, 27, 28, 29, 30, 31, 32, 33, 34, 35, 36, 37, 38, 39, 40, 41, 44, 45, 42, 43] rfl (by decide) rfl (by decide) (by decide) (by decide) (fun v => rfl) hg rfl (q0 := 0) rfl rfl (show nPar yX1_add RX1 5 = true by decide +kernel) hR rfl hcat hkn (fun v hv => ?_)
  exact kk _ ⟨hv, hRC.2.1, Nat.le_trans hRC.2.2.1 (capN_le _ _), hRC.2.2.2⟩
set_option maxHeartbeats 4000000 in
set_option maxRecDepth 100000 in
/-- dues.add -/
theorem g_dadd (h : OKx C cc nL Ts RX3 RM cI cO) (hw : ¬ gRo C) (hdg : decode cc pc = .ok (.invokevirtual idx, 3)) (hRC : RC d u) (hlen : d.2.2.1.length < 100000) (e : E5) {e0 e1 e2 e3 e4 : Int32} (he : ce e = (e0, e1, e2, e3, e4)) (hg : GoodIn Ts (wsV RX3 idx RX1 yX1_add wsX1_add)) (hR : 2 + 1 ≤ RM.frames ∧ 8 + (7 + 11) + 110 ≤ RM.locals) (hcat : (st.map fun v => v.category).sum ≤ 8) (hkn : k + (cp (dU d e) - cp d) ≤ RM.cells ∧ n + 2 * (cp (dU d e) - cp d) ≤ RM.slots)
    (kk : ∀ u2 : UX, RC (dU d e) u2 → GG C nL (cw cI cO a u2 Z (dU d e)) (k + (cp (dU d e) - cp d)) (n + 2 * (cp (dU d e) - cp d)) (pc + 3) lv st) : GG C nL (cw cI cO a u Z d) k n pc lv (.int e4 :: .int e3 :: .int e2 :: .int e1 :: .int e0 :: .ref (a 44) :: st) := by
  rw [cp_dU] at hkn kk
  have hl9 : (d.2.2.1.map ce).length = d.2.2.1.length := List.length_map _
  have hm9 : (d.2.2.1 ++ [e]).map ce = d.2.2.1.map ce ++ [(e0, e1, e2, e3, e4)] := by rw [List.map_append, List.map_cons, he]; rfl
  have hw9 : ∀ v : Nat × (Nat → Int32), cw cI cO a (u.1, v.1, u.2.2.1, u.2.2.2.1, v.2) Z (dU d e) = crD cI cO a u Z d ++ lnq cI (a 44) v.1 (nI (d.2.2.1.map ce ++ [(e0, e1, e2, e3, e4)]).length) (capN d.2.2.1.length d.2.2.2.2) v.2 := fun v => by
    unfold cw
    dsimp only [dU]
    rw [hm9]
    rfl
  have ca := c_add (gL C) (gD C) cI cO (lb (a 44) u.2.1) d.2.2.2.2 u.2.2.2.2 (d.2.2.1.map ce) hRC.2.1 (by rw [hl9]; exact hlen) hRC.2.2.2 e0 e1 e2 e3 e4
  rw [hl9] at ca
  refine g_callVp h (As := [.int e0, .int e1, .int e2, .int e3, .int e4]) (st := st) (wr := crD cI cO a u Z d) (wz := fun v => crD cI cO a u Z d ++ lnq cI (a 44) v.1 (nI (d.2.2.1.map ce ++ [(e0, e1, e2, e3, e4)]).length) (capN d.2.2.1.length d.2.2.2.2) v.2) hdg ca hw [44, 45] [0, 1, 2, 3, 4, 5, 6, 7, 8, 9, 10, 11, 12, 13, 14, 15, 16, 17, 18, 19, 20, 21, 22, 23, 24, 25, 26, 27, 28, 29, 30, 31, 32, 33, 34, 35, 36, 37, 38, 39, 40, 41, 42, 43] [0, 1, 2, 3, 4, 5, 6, 7, 8, 9, 10, 11, 12, 13, 14, 15, 16, 17, 18, 19, 20, 21, 22, 23, 24, 25, 26, 27, 28, 29, 30, 31, 32, 33, 34, 35, 36, 37, 38, 39, 40, 41, 42, 43, 44, 45] (by rw [← hl9]; rfl) (by decide) rfl (by decide) (by decide) (by decide) (fun v => rfl) hg rfl (q0 := 0) rfl rfl (show nPar yX1_add RX1 5 = true by decide +kernel) hR rfl hcat hkn (fun v hv => ?_)
  have k9 := kk (u.1, v.1, u.2.2.1, u.2.2.2.1, v.2) ⟨hRC.1, by show Ln ((d.2.2.1 ++ [e]).map ce) _ _; rw [hm9]; exact hv, hRC.2.2.1, Nat.le_trans hRC.2.2.2 (capN_le _ _)⟩
  rw [hw9 v] at k9
  exact k9
end GGL
end
section
/-! rooms only grow, numbers of asks and dues grow by little -/
def sz (d : Dy) : Nat := d.2.1.length + d.2.2.1.length
theorem sz_dA (d : Dy) (e : E5) : sz (dA d e) = sz d + 1 := by show (d.2.1 ++ [e]).length + d.2.2.1.length = d.2.1.length + d.2.2.1.length + 1; rw [List.length_append]; simp; omega
theorem sz_dU (d : Dy) (e : E5) : sz (dU d e) = sz d + 1 := by show d.2.1.length + (d.2.2.1 ++ [e]).length = d.2.1.length + d.2.2.1.length + 1; rw [List.length_append]; simp; omega
theorem sz_due (Z : Sg) (d : Dy) (so : Int32) (s k : Nat) (how bh : Int32) : sz (due Z d so s k how bh) = sz d + 1 := sz_dU d _
theorem cpl_due (Z : Sg) (d : Dy) (so : Int32) (s k : Nat) (how bh : Int32) : cp d ≤ cp (due Z d so s k how bh) := cpl_dU d _
theorem sz_down (Z : Sg) (d : Dy) (x k : Nat) : sz (down Z d x k) = sz d + 1 := sz_dU d _
theorem cpl_down (Z : Sg) (d : Dy) (x k : Nat) : cp d ≤ cp (down Z d x k) := cpl_dU d _
theorem sz_begins (Z : Sg) (d : Dy) (s k : Nat) : sz (begins Z d s k) = sz d + 1 := sz_dU d _
theorem cpl_begins (Z : Sg) (d : Dy) (s k : Nat) : cp d ≤ cp (begins Z d s k) := cpl_dU d _
theorem sz_sets (Z : Sg) (d : Dy) (s k e : Nat) (how : Int32) : sz (sets Z d s k e how) = sz d + 1 := sz_dU d _
theorem cpl_sets (Z : Sg) (d : Dy) (s k e : Nat) (how : Int32) : cp d ≤ cp (sets Z d s k e how) := cpl_dU d _
theorem sz_up1 (Z : Sg) (d : Dy) (x k : Nat) : sz (up1 Z d x k) = sz d + 1 := by
  unfold up1
  split
  · exact sz_dA d _
  · exact sz_dU _ _
theorem cpl_up1 (Z : Sg) (d : Dy) (x k : Nat) : cp d ≤ cp (up1 Z d x k) := by
  unfold up1
  split
  · exact cpl_dA d _
  · exact cpl_dU (dG d 7 (upx Z x) k (d.1 7 (upx Z x) k - 1)) _
theorem sz_ups (Z : Sg) (k e : Nat) : ∀ (n x : Nat) (d : Dy), sz (ups Z k e n x d) ≤ sz d + n
  | 0, x, d => Nat.le_refl _
  | n + 1, x, d => by
    rw [ups]
    split
    · omega
    · have h1 := sz_ups Z k e n (upx Z x) (up1 Z d x k)
      rw [sz_up1] at h1
      omega
theorem cpl_ups (Z : Sg) (k e : Nat) : ∀ (n x : Nat) (d : Dy), cp d ≤ cp (ups Z k e n x d)
  | 0, x, d => Nat.le_refl _
  | n + 1, x, d => by
    rw [ups]
    split
    · exact Nat.le_refl _
    · exact Nat.le_trans (cpl_up1 Z d x k) (cpl_ups Z k e n (upx Z x) (up1 Z d x k))
theorem sz_backP (Z : Sg) (d : Dy) (s k : Nat) : sz (backP Z d s k) = sz d + 1 := by
  unfold backP
  split
  · exact sz_dU _ _
  · exact sz_dU _ _
theorem cpl_backP (Z : Sg) (d : Dy) (s k : Nat) : cp d ≤ cp (backP Z d s k) := by
  unfold backP
  split
  · exact cpl_dU _ _
  · exact cpl_dU _ _
theorem sz_serveM (Z : Sg) (d : Dy) (s c o : Nat) : sz (serveM Z d s c o) ≤ sz d + 10 := by
  unfold serveM
  rw [sz_begins]
  have h1 := sz_ups Z c (mOf Z c s) 8 s (backP Z (inc (inc d 12 c) 13 c) s c)
  rw [sz_backP] at h1
  have h2 : sz (inc (inc d 12 c) 13 c) = sz d := rfl
  omega
theorem cpl_serveM (Z : Sg) (d : Dy) (s c o : Nat) : cp d ≤ cp (serveM Z d s c o) := by
  unfold serveM
  exact Nat.le_trans (Nat.le_trans (cpl_backP Z (inc (inc d 12 c) 13 c) s c) (cpl_ups _ _ _ _ _ _)) (cpl_begins _ _ _ _)
theorem sz_arrC (Z : Sg) (d : Dy) (s k c : Nat) : sz (arrC Z d s k c) ≤ sz d + 10 := by
  unfold arrC
  split
  · rw [sz_dA]; omega
  · exact sz_serveM Z (dG d 7 s c (d.1 7 s c - 1)) s c k
theorem cpl_arrC (Z : Sg) (d : Dy) (s k c : Nat) : cp d ≤ cp (arrC Z d s k c) := by
  unfold arrC
  split
  · exact cpl_dA _ _
  · exact cpl_serveM Z (dG d 7 s c (d.1 7 s c - 1)) s c k
theorem sz_back (Z : Sg) (d : Dy) (s k : Nat) (how : Int32) : sz (back Z d s k how) ≤ sz d + 10 := by
  unfold back
  split
  · split
    · rw [sz_begins]; omega
    · exact sz_arrC _ _ _ _ _
  · rw [sz_sets]; omega
theorem cpl_back (Z : Sg) (d : Dy) (s k : Nat) (how : Int32) : cp d ≤ cp (back Z d s k how) := by
  unfold back
  split
  · split
    · exact cpl_begins _ _ _ _
    · exact cpl_arrC _ _ _ _ _
  · exact cpl_sets _ _ _ _ _ _
theorem sz_serve (Z : Sg) (d : Dy) (s k : Nat) (e : E5) : sz (serve Z d s k e) ≤ sz d + 10 := by
  unfold serve
  split
  · exact Nat.le_add_right _ _
  · split
    · rw [sz_down]; omega
    · exact sz_serveM _ _ _ _ _
theorem cpl_serve (Z : Sg) (d : Dy) (s k : Nat) (e : E5) : cp d ≤ cp (serve Z d s k e) := by
  unfold serve
  split
  · exact Nat.le_refl _
  · split
    · exact cpl_down _ _ _ _
    · exact cpl_serveM _ _ _ _ _
theorem sz_xA (d : Dy) (i : Nat) : sz (xA d i) ≤ sz d := by
  show (d.2.1.eraseIdx i).length + _ ≤ _ + _
  have := List.length_eraseIdx_le d.2.1 i
  dsimp only [xA]
  omega
theorem sz_xU (d : Dy) (i : Nat) : sz (xU d i) ≤ sz d := by
  show _ + (d.2.2.1.eraseIdx i).length ≤ _ + _
  have := List.length_eraseIdx_le d.2.2.1 i
  dsimp only [xU]
  omega
theorem sz_lands (Z : Sg) (d : Dy) (s k : Nat) : sz (lands Z d s k) ≤ sz d + 10 := by
  unfold lands
  split
  · exact Nat.le_add_right _ _
  · exact Nat.le_trans (sz_serve _ _ _ _ _) (Nat.add_le_add_right (sz_xA d _) 10)
theorem cpl_lands (Z : Sg) (d : Dy) (s k : Nat) : cp d ≤ cp (lands Z d s k) := by
  unfold lands
  split
  · exact Nat.le_refl _
  · exact cpl_serve Z (xA d _) s k _
theorem sz_machine (Z : Sg) (d : Dy) (s k : Nat) : sz (machine Z d s k) ≤ sz d + 1 := by
  unfold machine
  split
  · rw [sz_dA]; omega
  · exact Nat.le_add_right _ _
theorem cpl_machine (Z : Sg) (d : Dy) (s k : Nat) : cp d ≤ cp (machine Z d s k) := by
  unfold machine
  split
  · exact cpl_dA _ _
  · exact Nat.le_refl _
theorem sz_breaks (Z : Sg) (d : Dy) (s k : Nat) (how : Int32) : sz (breaks Z d s k how) ≤ sz d + 30 := by
  have h0 := sz_machine Z (inc d 13 k) s k
  have h9 : sz (inc d 13 k) = sz d := rfl
  unfold breaks
  split
  · rw [sz_due]
    have h1 := sz_ups Z k 0 8 s (inc (machine Z (inc d 13 k) s k) 10 k)
    have h2 : sz (inc (machine Z (inc d 13 k) s k) 10 k) = sz (machine Z (inc d 13 k) s k) := rfl
    have h3 : sz (inc (ups Z k 0 8 s (inc (machine Z (inc d 13 k) s k) 10 k)) 9 k) = sz (ups Z k 0 8 s (inc (machine Z (inc d 13 k) s k) 10 k)) := rfl
    omega
  · have h1 := sz_ups Z k (mOf Z k s) 8 s (back Z (machine Z (inc d 13 k) s k) s k how)
    have h2 := sz_back Z (machine Z (inc d 13 k) s k) s k how
    omega
theorem cpl_breaks (Z : Sg) (d : Dy) (s k : Nat) (how : Int32) : cp d ≤ cp (breaks Z d s k how) := by
  have h0 : cp d ≤ cp (machine Z (inc d 13 k) s k) := cpl_machine Z (inc d 13 k) s k
  unfold breaks
  split
  · have h1 := cpl_ups Z k 0 8 s (inc (machine Z (inc d 13 k) s k) 10 k)
    have h2 : cp (inc (machine Z (inc d 13 k) s k) 10 k) = cp (machine Z (inc d 13 k) s k) := rfl
    have h3 : cp (inc (ups Z k 0 8 s (inc (machine Z (inc d 13 k) s k) 10 k)) 9 k) = cp (ups Z k 0 8 s (inc (machine Z (inc d 13 k) s k) 10 k)) := rfl
    have h4 := cpl_due Z (inc (ups Z k 0 8 s (inc (machine Z (inc d 13 k) s k) 10 k)) 9 k) 2 0 k 0 (Z 1 0 k)
    omega
  · exact Nat.le_trans (Nat.le_trans h0 (cpl_back _ _ _ _ _)) (cpl_ups _ _ _ _ _ _)
theorem su_comm (z : Sg) {f g : Nat} (h : f ≠ g) (r i r2 i2 : Nat) (v w : Int32) : su (su z f r i v) g r2 i2 w = su (su z g r2 i2 w) f r i v := by
  funext x y j
  by_cases h1 : x = f
  · subst h1
    rw [su_ne _ _ _ _ h, su_at, su_at, su_ne _ _ _ _ h]
  · by_cases h2 : x = g
    · subst h2
      rw [su_at, su_ne _ _ _ _ h1, su_ne _ _ _ _ h1, su_at]
    · rw [su_ne _ _ _ _ h2, su_ne _ _ _ _ h1, su_ne _ _ _ _ h1, su_ne _ _ _ _ h2]
theorem su_0 (z : Sg) (f r i : Nat) (v : Int32) : su z f r i v f r i = v := by rw [su_at, if_pos ⟨rfl, rfl⟩]
end
section
def outB (v lo hi : Int32) : Bool := decide (v < lo ∨ hi < v)

set_option maxHeartbeats 4000000 in
set_option maxRecDepth 100000 in
theorem c_out (l : Launch) (D : va_G) (cI cO : ClassId) (v lo hi : Int32) : CR l yX3_isOutside wsX3_isOutside 0 0 D cI cO [.int v, .int lo, .int hi] [] (fun r => r = if outB v lo hi then 1 else 0) := by
  refine CR.of (cc := cX3_isOutside) (maxL := 3) (rt := .boolean) (by decide) rfl (Nat.le_of_ble_eq_true rfl) ?_
  intro C hgL hgD h hret
  refine g_iload_n h (pc := 0) dX3_isOutside_0 0 rfl ?_
  refine g_iload_n h (pc := 1) dX3_isOutside_1 1 rfl ?_
  refine g_icmp_lt h (pc := 2) (tgt := 10) dX3_isOutside_2 (by decide) (fun c1 => ?_) (fun c1 => ?_)
  · refine g_iconst h (pc := 10) (v := 1) dX3_isOutside_10 (by decide) ?_
    refine g_goto h (pc := 11) (tgt := 15) dX3_isOutside_11 (by decide) ?_
    exact hret _ dX3_isOutside_15 (by decide) (by rw [show outB v lo hi = true from decide_eq_true (Or.inl c1)]; rfl)
  · refine g_iload_n h (pc := 5) dX3_isOutside_5 0 rfl ?_
    refine g_iload_n h (pc := 6) dX3_isOutside_6 2 rfl ?_
    refine g_icmp_le h (pc := 7) (tgt := 14) dX3_isOutside_7 (by decide) (fun c2 => ?_) (fun c2 => ?_)
    · refine g_iconst h (pc := 14) (v := 0) dX3_isOutside_14 (by decide) ?_
      exact hret _ dX3_isOutside_15 (by decide) (by rw [show outB v lo hi = false from decide_eq_false (fun q => q.elim c1 (fun q => absurd c2 (Int32.not_le.mpr q)))]; rfl)
    · refine g_iconst h (pc := 10) (v := 1) dX3_isOutside_10 (by decide) ?_
      refine g_goto h (pc := 11) (tgt := 15) dX3_isOutside_11 (by decide) ?_
      exact hret _ dX3_isOutside_15 (by decide) (by rw [show outB v lo hi = true from decide_eq_true (Or.inr (Int32.not_le.mp c2))]; rfl)

theorem iX3_isNoPlace_3 : ∀ w ∈ wsX30, w ∈ wsX3_isNoPlace := by decide +kernel
theorem fX3_isNoPlace_19 : Cond.fieldLink RX3 19 "SpareShelves" "tree" "LSpareShelves$Tree;" ∈ wsX3_isNoPlace := by decide +kernel
theorem fX3_isNoPlace_10 : Cond.fieldLink RX3 10 "SpareShelves" "kinds" "LSpareShelves$Kinds;" ∈ wsX3_isNoPlace := by decide +kernel
set_option maxHeartbeats 4000000 in
set_option maxRecDepth 100000 in
theorem c_noplace (l : Launch) (D : va_G) (cI cO : ClassId) (a : Nat → Nat) (u : UX) (Z : Sg) (d : Dy) (hRC : RC d u) (ns nk : Nat) (hz : Zv ns nk Z) (s k : Int32) : CRc l yX3_isNoPlace wsX3_isNoPlace 1 21 D cI cO a u Z d [.int s, .int k] (if isIn s ns && isIn k nk then 0 else 1) := by
  unfold CRc
  refine CR.of (cc := cX3_isNoPlace) (maxL := 3) (rt := .boolean) (by decide) rfl (Nat.le_of_ble_eq_true rfl) ?_
  intro C hgL hgD h hret
  refine g_aload_n h (pc := 0) dX3_isNoPlace_0 0 rfl ?_
  refine g_get h (pc := 1) dX3_isNoPlace_1 iX3_isNoPlace_3 0 rfl rfl 1 (by decide) fX3_isNoPlace_19 rfl ?_
  refine g_iload_n h (pc := 4) dX3_isNoPlace_4 1 rfl ?_
  refine g_callR h (pc := 5) (As := [.int s]) (st := []) dX3_isNoPlace_5 (c_thas (gL C) (gD C) cI cO (fun i => a (10 + i)) Z ns hz.n8 hz.ns s) [10, 11, 12, 13, 14, 15, 16, 17, 18, 19, 20, 21] rfl (by decide) gX3_isNoPlace_X2_has rfl (q0 := 0) rfl rfl (show nPar yX2_has RX2 1 = true by decide +kernel) ⟨Nat.le_of_ble_eq_true rfl, Nat.le_of_ble_eq_true rfl⟩ rfl (Nat.le_of_ble_eq_true rfl) ⟨Nat.zero_le _, Nat.zero_le _⟩ (fun r hr => ?_)
  subst hr
  cases hs : isIn s ns with
  | false =>
    rw [hs] at hret
    refine g_topi (y := 0) rfl ?_
    refine g_if_eq_t h (pc := 8) (tgt := 22) dX3_isNoPlace_8 (by decide) rfl ?_
    refine g_iconst h (pc := 22) (v := 1) dX3_isNoPlace_22 (by decide) ?_
    refine g_goto h (pc := 23) (tgt := 27) dX3_isNoPlace_23 (by decide) ?_
    exact hret _ dX3_isNoPlace_27 (by decide) rfl
  | true =>
    rw [hs] at hret
    refine g_topi (y := 1) rfl ?_
    refine g_if_eq_f h (pc := 8) (tgt := 22) dX3_isNoPlace_8 (by decide) (by decide) ?_
    refine g_aload_n h (pc := 11) dX3_isNoPlace_11 0 rfl ?_
    refine g_get h (pc := 12) dX3_isNoPlace_12 iX3_isNoPlace_3 0 rfl rfl 0 (by decide) fX3_isNoPlace_10 rfl ?_
    refine g_iload_n h (pc := 15) dX3_isNoPlace_15 2 rfl ?_
    refine g_callR h (pc := 16) (As := [.int k]) (st := []) dX3_isNoPlace_16 (c_khas (gL C) (gD C) cI cO (fun i => a (1 + i)) Z d.1 nk hz.k8 hz.nk k) [1, 2, 3, 4, 5, 6, 7, 8, 9] rfl (by decide) gX3_isNoPlace_X0_has rfl (q0 := 0) rfl rfl (show nPar yX0_has RX0 1 = true by decide +kernel) ⟨Nat.le_of_ble_eq_true rfl, Nat.le_of_ble_eq_true rfl⟩ rfl (Nat.le_of_ble_eq_true rfl) ⟨Nat.zero_le _, Nat.zero_le _⟩ (fun r hr => ?_)
    subst hr
    cases hk : isIn k nk with
    | false =>
      rw [hk] at hret
      refine g_topi (y := 0) rfl ?_
      refine g_if_ne_f h (pc := 19) (tgt := 26) dX3_isNoPlace_19 (by decide) rfl ?_
      refine g_iconst h (pc := 22) (v := 1) dX3_isNoPlace_22 (by decide) ?_
      refine g_goto h (pc := 23) (tgt := 27) dX3_isNoPlace_23 (by decide) ?_
      exact hret _ dX3_isNoPlace_27 (by decide) rfl
    | true =>
      rw [hk] at hret
      refine g_topi (y := 1) rfl ?_
      refine g_if_ne_t h (pc := 19) (tgt := 26) dX3_isNoPlace_19 (by decide) (by decide) ?_
      refine g_iconst h (pc := 26) (v := 0) dX3_isNoPlace_26 (by decide) ?_
      exact hret _ dX3_isNoPlace_27 (by decide) rfl

theorem iX3_mendsThatWait_3 : ∀ w ∈ wsX30, w ∈ wsX3_mendsThatWait := by decide +kernel
theorem fX3_mendsThatWait_41 : Cond.fieldLink RX3 41 "SpareShelves" "asks" "LSpareShelves$Line;" ∈ wsX3_mendsThatWait := by decide +kernel
set_option maxHeartbeats 4000000 in
set_option maxRecDepth 100000 in
theorem c_mwait (l : Launch) (D : va_G) (cI cO : ClassId) (a : Nat → Nat) (u : UX) (Z : Sg) (d : Dy) (hRC : RC d u) (ns nk : Nat) (hz : Zv ns nk Z) (s k : Int32) : CRc l yX3_mendsThatWait wsX3_mendsThatWait 2 52 D cI cO a u Z d [.int s, .int k] (nI (d.2.1.countP (fitB s (-1) 2 k))) := by
  unfold CRc
  refine CR.of (cc := cX3_mendsThatWait) (maxL := 3) (rt := .int) (by decide) rfl (Nat.le_of_ble_eq_true rfl) ?_
  intro C hgL hgD h hret
  refine g_aload_n h (pc := 0) dX3_mendsThatWait_0 0 rfl ?_
  refine g_get h (pc := 1) dX3_mendsThatWait_1 iX3_mendsThatWait_3 0 rfl rfl 6 (by decide) fX3_mendsThatWait_41 rfl ?_
  refine g_iload_n h (pc := 4) dX3_mendsThatWait_4 1 rfl ?_
  refine g_iconst h (pc := 5) (v := (-1)) dX3_mendsThatWait_5 (by decide) ?_
  refine g_iconst h (pc := 6) (v := 2) dX3_mendsThatWait_6 (by decide) ?_
  refine g_iload_n h (pc := 7) dX3_mendsThatWait_7 2 rfl ?_
  refine g_callR h (pc := 8) (As := [.int s, .int (-1), .int 2, .int k]) (st := []) dX3_mendsThatWait_8 (c_tally (gL C) (gD C) cI cO (lb (a 42) u.1) d.2.2.2.1 u.2.2.2.1 d.2.1 hRC.1 s (-1) 2 k) [42, 43] rfl (by decide) gX3_mendsThatWait_X1_tally rfl (q0 := 0) rfl rfl (show nPar yX1_tally RX1 4 = true by decide +kernel) ⟨Nat.le_of_ble_eq_true rfl, Nat.le_of_ble_eq_true rfl⟩ rfl (Nat.le_of_ble_eq_true rfl) ⟨Nat.zero_le _, Nat.zero_le _⟩ (fun r hr => ?_)
  subst hr
  exact hret _ dX3_mendsThatWait_11 rfl rfl

theorem iX3_takesGood_3 : ∀ w ∈ wsX30, w ∈ wsX3_takesGood := by decide +kernel
theorem fX3_takesGood_25 : Cond.fieldLink RX3 25 "SpareShelves" "good" "[[I" ∈ wsX3_takesGood := by decide +kernel
set_option maxHeartbeats 4000000 in
set_option maxRecDepth 100000 in
theorem c_take0 (l : Launch) (D : va_G) (cI cO : ClassId) (a : Nat → Nat) (u : UX) (Z : Sg) (d : Dy) (hRC : RC d u) (ns nk : Nat) (hz : Zv ns nk Z) (s k : Nat) (hs : s < ns) (hk : k < nk) (hg : d.1 7 s k = 0) : CIc l yX3_takesGood wsX3_takesGood 0 0 D cI cO a u Z d [.int (nI s), .int (nI k)] 0 Z d := by
  unfold CIc
  refine CI.of (cc := cX3_takesGood) (maxL := 3) (rt := .boolean) (by decide) rfl (Nat.le_of_ble_eq_true rfl) ?_
  intro C hgL hgD hw h hret
  have hn8 := hz.n8
  have hk8 := hz.k8
  refine g_aload_n h (pc := 0) dX3_takesGood_0 0 rfl ?_
  refine g_get h (pc := 1) dX3_takesGood_1 iX3_takesGood_3 0 rfl rfl 2 (by decide) fX3_takesGood_25 rfl ?_
  refine g_iload_n h (pc := 4) dX3_takesGood_4 1 rfl ?_
  refine g_aald h (pc := 5) (v := a (23 + s)) dX3_takesGood_5 22 rfl (vp_in_nI (by omega) (by omega)) (by rw [nI_clamp (by omega)]) ?_
  refine g_iload_n h (pc := 6) dX3_takesGood_6 2 rfl ?_
  refine g_iald h (pc := 7) (v := d.1 7 s k) dX3_takesGood_7 (23 + s) (cw_g cI cO a u Z d (by omega)) (vp_in_nI (by omega) (by omega)) (by rw [nI_clamp (by omega)]) ?_
  refine g_if_ne_f h (pc := 8) (tgt := 13) dX3_takesGood_8 (by decide) hg ?_
  refine g_iconst h (pc := 11) (v := 0) dX3_takesGood_11 (by decide) ?_
  exact hret _ u dX3_takesGood_12 (by decide) ⟨rfl, hRC⟩ rfl (Nat.zero_le _) (Nat.zero_le _)

set_option maxHeartbeats 4000000 in
set_option maxRecDepth 100000 in
theorem c_take1 (l : Launch) (D : va_G) (cI cO : ClassId) (a : Nat → Nat) (u : UX) (Z : Sg) (d : Dy) (hRC : RC d u) (ns nk : Nat) (hz : Zv ns nk Z) (s k : Nat) (hs : s < ns) (hk : k < nk) (hg : ¬ d.1 7 s k = 0) : CIc l yX3_takesGood wsX3_takesGood 0 0 D cI cO a u Z d [.int (nI s), .int (nI k)] 1 Z (dG d 7 s k (d.1 7 s k - 1)) := by
  unfold CIc
  refine CI.of (cc := cX3_takesGood) (maxL := 3) (rt := .boolean) (by decide) rfl (Nat.le_of_ble_eq_true rfl) ?_
  intro C hgL hgD hw h hret
  have hn8 := hz.n8
  have hk8 := hz.k8
  refine g_aload_n h (pc := 0) dX3_takesGood_0 0 rfl ?_
  refine g_get h (pc := 1) dX3_takesGood_1 iX3_takesGood_3 0 rfl rfl 2 (by decide) fX3_takesGood_25 rfl ?_
  refine g_iload_n h (pc := 4) dX3_takesGood_4 1 rfl ?_
  refine g_aald h (pc := 5) (v := a (23 + s)) dX3_takesGood_5 22 rfl (vp_in_nI (by omega) (by omega)) (by rw [nI_clamp (by omega)]) ?_
  refine g_iload_n h (pc := 6) dX3_takesGood_6 2 rfl ?_
  refine g_iald h (pc := 7) (v := d.1 7 s k) dX3_takesGood_7 (23 + s) (cw_g cI cO a u Z d (by omega)) (vp_in_nI (by omega) (by omega)) (by rw [nI_clamp (by omega)]) ?_
  refine g_if_ne_t h (pc := 8) (tgt := 13) dX3_takesGood_8 (by decide) hg ?_
  refine g_aload_n h (pc := 13) dX3_takesGood_13 0 rfl ?_
  refine g_get h (pc := 14) dX3_takesGood_14 iX3_takesGood_3 0 rfl rfl 2 (by decide) fX3_takesGood_25 rfl ?_
  refine g_iload_n h (pc := 17) dX3_takesGood_17 1 rfl ?_
  refine g_aald h (pc := 18) (v := a (23 + s)) dX3_takesGood_18 22 rfl (vp_in_nI (by omega) (by omega)) (by rw [nI_clamp (by omega)]) ?_
  refine g_iload_n h (pc := 19) dX3_takesGood_19 2 rfl ?_
  refine g_dup2 h (pc := 20) dX3_takesGood_20 rfl rfl ?_
  refine g_iald h (pc := 21) (v := d.1 7 s k) dX3_takesGood_21 (23 + s) (cw_g cI cO a u Z d (by omega)) (vp_in_nI (by omega) (by omega)) (by rw [nI_clamp (by omega)]) ?_
  refine g_iconst h (pc := 22) (v := 1) dX3_takesGood_22 (by decide) ?_
  refine g_isub h (pc := 23) dX3_takesGood_23  ?_
  refine g_iast h hw (pc := 24) (ws' := cw cI cO a u Z (dG d 7 s k (d.1 7 s k - 1))) dX3_takesGood_24 (23 + s) (cw_g cI cO a u Z d (by omega)) (vp_in_nI (by omega) (by omega)) (by rw [nI_clamp (by omega)]; exact cw_gs cI cO a u Z d (by omega) k _) ?_
  refine g_iconst h (pc := 25) (v := 1) dX3_takesGood_25 (by decide) ?_
  exact hret _ u dX3_takesGood_26 (by decide) ⟨rfl, hRC⟩ rfl (Nat.zero_le _) (Nat.zero_le _)

theorem iX3_goesDown_3 : ∀ w ∈ wsX30, w ∈ wsX3_goesDown := by decide +kernel
theorem fX3_goesDown_45 : Cond.fieldLink RX3 45 "SpareShelves" "dues" "LSpareShelves$Line;" ∈ wsX3_goesDown := by decide +kernel
theorem fX3_goesDown_48 : Cond.fieldLink RX3 48 "SpareShelves" "time" "I" ∈ wsX3_goesDown := by decide +kernel
theorem fX3_goesDown_19 : Cond.fieldLink RX3 19 "SpareShelves" "tree" "LSpareShelves$Tree;" ∈ wsX3_goesDown := by decide +kernel
theorem iX3_goesDown_2 : ∀ w ∈ wsX20, w ∈ wsX3_goesDown := by decide +kernel
theorem fX3_goesDown_80 : Cond.fieldLink RX3 80 "SpareShelves$Tree" "way" "[I" ∈ wsX3_goesDown := by decide +kernel
set_option maxHeartbeats 4000000 in
set_option maxRecDepth 100000 in
theorem c_down (l : Launch) (D : va_G) (cI cO : ClassId) (a : Nat → Nat) (u : UX) (Z : Sg) (d : Dy) (hRC : RC d u) (ns nk : Nat) (hz : Zv ns nk Z) (hsz : sz d ≤ 60000) (s k : Nat) (hs : s < ns) (hk : k < nk) : CVc l yX3_goesDown wsX3_goesDown 3 140 D cI cO a u Z d [.int (nI s), .int (nI k)] Z (down Z d s k) := by
  unfold CVc
  refine CV.of (cc := cX3_goesDown) (maxL := 3) (by decide) rfl (Nat.le_of_ble_eq_true rfl) ?_
  intro C hgL hgD hw h hret
  have hn8 := hz.n8
  have hk8 := hz.k8
  refine g_aload_n h (pc := 0) dX3_goesDown_0 0 rfl ?_
  refine g_get h (pc := 1) dX3_goesDown_1 iX3_goesDown_3 0 rfl rfl 7 (by decide) fX3_goesDown_45 rfl ?_
  refine g_iload_n h (pc := 4) dX3_goesDown_4 1 rfl ?_
  refine g_iload_n h (pc := 5) dX3_goesDown_5 2 rfl ?_
  refine g_iconst h (pc := 6) (v := 0) dX3_goesDown_6 (by decide) ?_
  refine g_aload_n h (pc := 7) dX3_goesDown_7 0 rfl ?_
  refine g_get h (pc := 8) dX3_goesDown_8 iX3_goesDown_3 0 rfl rfl 8 (by decide) fX3_goesDown_48 rfl ?_
  refine g_aload_n h (pc := 11) dX3_goesDown_11 0 rfl ?_
  refine g_get h (pc := 12) dX3_goesDown_12 iX3_goesDown_3 0 rfl rfl 1 (by decide) fX3_goesDown_19 rfl ?_
  refine g_get h (pc := 15) dX3_goesDown_15 iX3_goesDown_2 10 rfl rfl 1 (by decide) fX3_goesDown_80 rfl ?_
  refine g_iload_n h (pc := 18) dX3_goesDown_18 1 rfl ?_
  refine g_iald h (pc := 19) (v := Z 4 0 s) dX3_goesDown_19 12 rfl (vp_in_nI (by omega) (by omega)) (by rw [nI_clamp (by omega)]) ?_
  refine g_iadd h (pc := 20) dX3_goesDown_20  ?_
  refine g_iconst h (pc := 21) (v := (-1)) dX3_goesDown_21 (by decide) ?_
  refine g_dadd h hw (pc := 22) dX3_goesDown_22 hRC (by have h9 : d.2.2.1.length ≤ sz d := Nat.le_add_left _ _; omega) (nI s, nI k, 0, Z 14 0 2 + Z 4 0 s, 0) rfl gX3_goesDown_X1_add ⟨Nat.le_of_ble_eq_true rfl, Nat.le_of_ble_eq_true rfl⟩ (Nat.le_of_ble_eq_true rfl) ⟨Nat.le_of_eq (Nat.zero_add _), Nat.le_of_eq (Nat.zero_add _)⟩ (fun u2 hR2 => ?_)
  exact hret u2 dX3_goesDown_25 hR2 rfl (Nat.le_of_eq (Nat.zero_add _)) (Nat.le_of_eq (Nat.zero_add _))

theorem iX3_mendBegins_3 : ∀ w ∈ wsX30, w ∈ wsX3_mendBegins := by decide +kernel
theorem fX3_mendBegins_45 : Cond.fieldLink RX3 45 "SpareShelves" "dues" "LSpareShelves$Line;" ∈ wsX3_mendBegins := by decide +kernel
theorem fX3_mendBegins_48 : Cond.fieldLink RX3 48 "SpareShelves" "time" "I" ∈ wsX3_mendBegins := by decide +kernel
theorem fX3_mendBegins_19 : Cond.fieldLink RX3 19 "SpareShelves" "tree" "LSpareShelves$Tree;" ∈ wsX3_mendBegins := by decide +kernel
theorem iX3_mendBegins_2 : ∀ w ∈ wsX20, w ∈ wsX3_mendBegins := by decide +kernel
theorem fX3_mendBegins_72 : Cond.fieldLink RX3 72 "SpareShelves$Tree" "mendDays" "[[I" ∈ wsX3_mendBegins := by decide +kernel
set_option maxHeartbeats 4000000 in
set_option maxRecDepth 100000 in
theorem c_begins (l : Launch) (D : va_G) (cI cO : ClassId) (a : Nat → Nat) (u : UX) (Z : Sg) (d : Dy) (hRC : RC d u) (ns nk : Nat) (hz : Zv ns nk Z) (hsz : sz d ≤ 60000) (s k : Nat) (hs : s < ns) (hk : k < nk) : CVc l yX3_mendBegins wsX3_mendBegins 3 140 D cI cO a u Z d [.int (nI s), .int (nI k)] Z (begins Z d s k) := by
  unfold CVc
  refine CV.of (cc := cX3_mendBegins) (maxL := 3) (by decide) rfl (Nat.le_of_ble_eq_true rfl) ?_
  intro C hgL hgD hw h hret
  have hn8 := hz.n8
  have hk8 := hz.k8
  refine g_aload_n h (pc := 0) dX3_mendBegins_0 0 rfl ?_
  refine g_get h (pc := 1) dX3_mendBegins_1 iX3_mendBegins_3 0 rfl rfl 7 (by decide) fX3_mendBegins_45 rfl ?_
  refine g_iload_n h (pc := 4) dX3_mendBegins_4 1 rfl ?_
  refine g_iload_n h (pc := 5) dX3_mendBegins_5 2 rfl ?_
  refine g_iconst h (pc := 6) (v := 2) dX3_mendBegins_6 (by decide) ?_
  refine g_aload_n h (pc := 7) dX3_mendBegins_7 0 rfl ?_
  refine g_get h (pc := 8) dX3_mendBegins_8 iX3_mendBegins_3 0 rfl rfl 8 (by decide) fX3_mendBegins_48 rfl ?_
  refine g_aload_n h (pc := 11) dX3_mendBegins_11 0 rfl ?_
  refine g_get h (pc := 12) dX3_mendBegins_12 iX3_mendBegins_3 0 rfl rfl 1 (by decide) fX3_mendBegins_19 rfl ?_
  refine g_get h (pc := 15) dX3_mendBegins_15 iX3_mendBegins_2 10 rfl rfl 2 (by decide) fX3_mendBegins_72 rfl ?_
  refine g_iload_n h (pc := 18) dX3_mendBegins_18 1 rfl ?_
  refine g_aald h (pc := 19) (v := a (10 + (4 + s))) dX3_mendBegins_19 13 rfl (vp_in_nI (by omega) (by omega)) (by rw [nI_clamp (by omega)]) ?_
  refine g_iload_n h (pc := 20) dX3_mendBegins_20 2 rfl ?_
  refine g_iald h (pc := 21) (v := Z 6 s k) dX3_mendBegins_21 (10 + (4 + s)) (cw_m cI cO a u Z d (by omega)) (vp_in_nI (by omega) (by omega)) (by rw [nI_clamp (by omega)]) ?_
  refine g_iadd h (pc := 22) dX3_mendBegins_22  ?_
  refine g_iconst h (pc := 23) (v := (-1)) dX3_mendBegins_23 (by decide) ?_
  refine g_dadd h hw (pc := 24) dX3_mendBegins_24 hRC (by have h9 : d.2.2.1.length ≤ sz d := Nat.le_add_left _ _; omega) (nI s, nI k, 1, Z 14 0 2 + Z 6 s k, 0) rfl gX3_mendBegins_X1_add ⟨Nat.le_of_ble_eq_true rfl, Nat.le_of_ble_eq_true rfl⟩ (Nat.le_of_ble_eq_true rfl) ⟨Nat.le_of_eq (Nat.zero_add _), Nat.le_of_eq (Nat.zero_add _)⟩ (fun u2 hR2 => ?_)
  exact hret u2 dX3_mendBegins_27 hR2 rfl (Nat.le_of_eq (Nat.zero_add _)) (Nat.le_of_eq (Nat.zero_add _))

theorem iX3_setsOut_3 : ∀ w ∈ wsX30, w ∈ wsX3_setsOut := by decide +kernel
theorem fX3_setsOut_45 : Cond.fieldLink RX3 45 "SpareShelves" "dues" "LSpareShelves$Line;" ∈ wsX3_setsOut := by decide +kernel
theorem fX3_setsOut_48 : Cond.fieldLink RX3 48 "SpareShelves" "time" "I" ∈ wsX3_setsOut := by decide +kernel
theorem fX3_setsOut_19 : Cond.fieldLink RX3 19 "SpareShelves" "tree" "LSpareShelves$Tree;" ∈ wsX3_setsOut := by decide +kernel
set_option maxHeartbeats 4000000 in
set_option maxRecDepth 100000 in
theorem c_sets (l : Launch) (D : va_G) (cI cO : ClassId) (a : Nat → Nat) (u : UX) (Z : Sg) (d : Dy) (hRC : RC d u) (ns nk : Nat) (hz : Zv ns nk Z) (hsz : sz d ≤ 60000) (s k e : Nat) (hs : s < ns) (hk : k < nk) (hr : rch Z e 8 s) (how : Int32) : CVc l yX3_setsOut wsX3_setsOut 3 140 D cI cO a u Z d [.int (nI s), .int (nI k), .int (nI e), .int how] Z (sets Z d s k e how) := by
  unfold CVc
  refine CV.of (cc := cX3_setsOut) (maxL := 5) (by decide) rfl (Nat.le_of_ble_eq_true rfl) ?_
  intro C hgL hgD hw h hret
  have hn8 := hz.n8
  have hk8 := hz.k8
  refine g_aload_n h (pc := 0) dX3_setsOut_0 0 rfl ?_
  refine g_get h (pc := 1) dX3_setsOut_1 iX3_setsOut_3 0 rfl rfl 7 (by decide) fX3_setsOut_45 rfl ?_
  refine g_iload_n h (pc := 4) dX3_setsOut_4 3 rfl ?_
  refine g_iload_n h (pc := 5) dX3_setsOut_5 2 rfl ?_
  refine g_iconst h (pc := 6) (v := 1) dX3_setsOut_6 (by decide) ?_
  refine g_aload_n h (pc := 7) dX3_setsOut_7 0 rfl ?_
  refine g_get h (pc := 8) dX3_setsOut_8 iX3_setsOut_3 0 rfl rfl 8 (by decide) fX3_setsOut_48 rfl ?_
  refine g_aload_n h (pc := 11) dX3_setsOut_11 0 rfl ?_
  refine g_get h (pc := 12) dX3_setsOut_12 iX3_setsOut_3 0 rfl rfl 1 (by decide) fX3_setsOut_19 rfl ?_
  refine g_iload_n h (pc := 15) dX3_setsOut_15 1 rfl ?_
  refine g_iload_n h (pc := 16) dX3_setsOut_16 3 rfl ?_
  refine g_callR h (pc := 17) (As := [.int (nI s), .int (nI e)]) (st := [.int (Z 14 0 2), .int 1, .int (nI k), .int (nI e), .ref (a 44)]) dX3_setsOut_17 (c_ways (gL C) (gD C) cI cO (fun i => a (10 + i)) Z ns nk hz s e hs hr) [10, 11, 12, 13, 14, 15, 16, 17, 18, 19, 20, 21] rfl (by decide) gX3_setsOut_X2_waysUp rfl (q0 := 0) rfl rfl (show nPar yX2_waysUp RX2 2 = true by decide +kernel) ⟨Nat.le_of_ble_eq_true rfl, Nat.le_of_ble_eq_true rfl⟩ rfl (Nat.le_of_ble_eq_true rfl) ⟨Nat.zero_le _, Nat.zero_le _⟩ (fun r9 hr9 => ?_)
  subst hr9
  refine g_iadd h (pc := 20) dX3_setsOut_20  ?_
  refine g_iload h (pc := 21) dX3_setsOut_21 4 rfl ?_
  refine g_dadd h hw (pc := 23) dX3_setsOut_23 hRC (by have h9 : d.2.2.1.length ≤ sz d := Nat.le_add_left _ _; omega) (nI e, nI k, 3, Z 14 0 2 + wy Z e 8 s 0, how) rfl gX3_setsOut_X1_add ⟨Nat.le_of_ble_eq_true rfl, Nat.le_of_ble_eq_true rfl⟩ (Nat.le_of_ble_eq_true rfl) ⟨Nat.le_of_eq (Nat.zero_add _), Nat.le_of_eq (Nat.zero_add _)⟩ (fun u2 hR2 => ?_)
  exact hret u2 dX3_setsOut_26 hR2 rfl (Nat.le_of_eq (Nat.zero_add _)) (Nat.le_of_eq (Nat.zero_add _))
end
section
theorem nI_nm1 {c : Nat} (h : c < 2 ^ 31) : ¬ nI c = -1 := fun q => by
  have h1 : (nI c).toInt = (-1 : Int32).toInt := congrArg Int32.toInt q
  rw [nI_toInt h, show (-1 : Int32).toInt = -1 from by decide] at h1
  omega
section GGM
variable {C : GX} {nL : Nat} {k n pc idx : Nat} {lv : List (Nat × Value)} {st : List Value} {cc : ByteArray} {Ts : List Cond} {RM : Room} {cI cO : ClassId} {a : Nat → Nat} {u : UX} {Z : Sg} {d : Dy}
theorem map_era {α β : Type} (f : α → β) : ∀ (l : List α) (i : Nat), (l.eraseIdx i).map f = (l.map f).eraseIdx i
  | [], i => rfl
  | x :: l, 0 => rfl
  | x :: l, i + 1 => by
    rw [List.eraseIdx_cons_succ, List.map_cons, List.map_cons, List.eraseIdx_cons_succ, map_era f l i]
set_option maxHeartbeats 4000000 in
set_option maxRecDepth 100000 in
/-- asks.drop -/
theorem g_adrop (h : OKx C cc nL Ts RX3 RM cI cO) (hw : ¬ gRo C) (hdg : decode cc pc = .ok (.invokevirtual idx, 3)) (hRC : RC d u) (i : Nat) (hi : i < d.2.1.length) (hg : GoodIn Ts (wsV RX3 idx RX1 yX1_drop wsX1_drop)) (hR : 1 + 1 ≤ RM.frames ∧ 8 + (4 + 11) + 60 ≤ RM.locals) (hcat : (st.map fun v => v.category).sum ≤ 8) (hkn : k ≤ RM.cells ∧ n ≤ RM.slots)
    (kk : ∀ u2 : UX, RC (xA d i) u2 → GG C nL (cw cI cO a u2 Z (xA d i)) k n (pc + 3) lv st) : GG C nL (cw cI cO a u Z d) k n pc lv (.int (nI i) :: .ref (a 42) :: st) := by
  refine g_callVp h (As := [.int (nI i)]) (st := st) (wr := crA cI cO a u Z d) (wz := fun v => cw cI cO a (u.1, u.2.1, u.2.2.1, v, u.2.2.2.2) Z (xA d i)) hdg (c_drop (gL C) (gD C) cI cO (lb (a 42) u.1) d.2.2.2.1 u.2.2.2.1 d.2.1 hRC.1 i hi _ rfl) hw [42, 43] [0, 1, 2, 3, 4, 5, 6, 7, 8, 9, 10, 11, 12, 13, 14, 15, 16, 17, 18, 19, 20, 21, 22, 23, 24, 25, 26, 27, 28, 29, 30, 31, 32, 33, 34, 35, 36, 37, 38, 39, 40, 41, 44, 45] [0, 1, 2, 3, 4, 5, 6, 7, 8, 9, 10, 11, 12, 13, 14, 15, 16, 17, 18, 19, 20, 21, 22, 23, 24, 25, 26, 27, 28, 29, 30, 31, 32, 33, 34, 35, 36, 37, 38, 39, 40, 41, 44, 45, 42, 43] rfl (by decide) rfl (by decide) (by decide) (by decide) (fun v => rfl) hg rfl (q0 := 0) rfl rfl (show nPar yX1_drop RX1 1 = true by decide +kernel) hR rfl hcat hkn (fun v hv => ?_)
  exact kk _ ⟨hv, hRC.2.1, hRC.2.2.1, hRC.2.2.2⟩
set_option maxHeartbeats 4000000 in
set_option maxRecDepth 100000 in
/-- dues.drop -/
theorem g_ddrop (h : OKx C cc nL Ts RX3 RM cI cO) (hw : ¬ gRo C) (hdg : decode cc pc = .ok (.invokevirtual idx, 3)) (hRC : RC d u) (i : Nat) (hi : i < d.2.2.1.length) (hg : GoodIn Ts (wsV RX3 idx RX1 yX1_drop wsX1_drop)) (hR : 1 + 1 ≤ RM.frames ∧ 8 + (4 + 11) + 60 ≤ RM.locals) (hcat : (st.map fun v => v.category).sum ≤ 8) (hkn : k ≤ RM.cells ∧ n ≤ RM.slots)
    (kk : ∀ u2 : UX, RC (xU d i) u2 → GG C nL (cw cI cO a u2 Z (xU d i)) k n (pc + 3) lv st) : GG C nL (cw cI cO a u Z d) k n pc lv (.int (nI i) :: .ref (a 44) :: st) := by
  have hw9 : ∀ v : Nat → Int32, cw cI cO a (u.1, u.2.1, u.2.2.1, u.2.2.2.1, v) Z (xU d i) = crD cI cO a u Z d ++ lnw cI (lb (a 44) u.2.1) (nI ((d.2.2.1.map ce).eraseIdx i).length) d.2.2.2.2 v := fun v => by
    unfold cw
    dsimp only [xU]
    rw [map_era]
    rfl
  refine g_callVp h (As := [.int (nI i)]) (st := st) (wr := crD cI cO a u Z d) (wz := fun v => crD cI cO a u Z d ++ lnw cI (lb (a 44) u.2.1) (nI ((d.2.2.1.map ce).eraseIdx i).length) d.2.2.2.2 v) hdg (c_drop (gL C) (gD C) cI cO (lb (a 44) u.2.1) d.2.2.2.2 u.2.2.2.2 (d.2.2.1.map ce) hRC.2.1 i (by rw [List.length_map]; exact hi) _ rfl) hw [44, 45] [0, 1, 2, 3, 4, 5, 6, 7, 8, 9, 10, 11, 12, 13, 14, 15, 16, 17, 18, 19, 20, 21, 22, 23, 24, 25, 26, 27, 28, 29, 30, 31, 32, 33, 34, 35, 36, 37, 38, 39, 40, 41, 42, 43] [0, 1, 2, 3, 4, 5, 6, 7, 8, 9, 10, 11, 12, 13, 14, 15, 16, 17, 18, 19, 20, 21, 22, 23, 24, 25, 26, 27, 28, 29, 30, 31, 32, 33, 34, 35, 36, 37, 38, 39, 40, 41, 42, 43, 44, 45] rfl (by decide) rfl (by decide) (by decide) (by decide) (fun v => rfl) hg rfl (q0 := 0) rfl rfl (show nPar yX1_drop RX1 1 = true by decide +kernel) hR rfl hcat hkn (fun v hv => ?_)
  have k9 := kk (u.1, u.2.1, u.2.2.1, u.2.2.2.1, v) ⟨hRC.1, by show Ln ((d.2.2.1.eraseIdx i).map ce) _ _; rw [map_era]; exact hv, hRC.2.2.1, hRC.2.2.2⟩
  rw [hw9 v] at k9
  exact k9
end GGM

theorem iX3_asksGoUp_3 : ∀ w ∈ wsX30, w ∈ wsX3_asksGoUp := by decide +kernel
theorem fX3_asksGoUp_19 : Cond.fieldLink RX3 19 "SpareShelves" "tree" "LSpareShelves$Tree;" ∈ wsX3_asksGoUp := by decide +kernel
theorem iX3_asksGoUp_2 : ∀ w ∈ wsX20, w ∈ wsX3_asksGoUp := by decide +kernel
theorem fX3_asksGoUp_77 : Cond.fieldLink RX3 77 "SpareShelves$Tree" "up" "[I" ∈ wsX3_asksGoUp := by decide +kernel
theorem fX3_asksGoUp_41 : Cond.fieldLink RX3 41 "SpareShelves" "asks" "LSpareShelves$Line;" ∈ wsX3_asksGoUp := by decide +kernel
theorem fX3_asksGoUp_48 : Cond.fieldLink RX3 48 "SpareShelves" "time" "I" ∈ wsX3_asksGoUp := by decide +kernel
set_option maxHeartbeats 4000000 in
set_option maxRecDepth 100000 in
theorem c_ups (l : Launch) (D : va_G) (cI cO : ClassId) (a : Nat → Nat) (u : UX) (Z : Sg) (d : Dy) (hRC : RC d u) (ns nk : Nat) (hz : Zv ns nk Z) (hsz : sz d ≤ 50000) (s k e : Nat) (hs : s < ns) (hk : k < nk) (hr : rch Z e 8 s) : CVc l yX3_asksGoUp wsX3_asksGoUp 4 165 D cI cO a u Z d [.int (nI s), .int (nI k), .int (nI e)] Z (ups Z k e 8 s d) := by
  unfold CVc
  refine CV.of (cc := cX3_asksGoUp) (maxL := 7) (by decide) rfl (Nat.le_of_ble_eq_true rfl) ?_
  intro C hgL hgD hw h hret
  have hn8 := hz.n8
  have hk8 := hz.k8
  refine g_iload_n h (pc := 0) dX3_asksGoUp_0 1 rfl ?_
  refine g_istore h (pc := 1) dX3_asksGoUp_1 (by decide) rfl ?_
  refine g_iconst h (pc := 3) (v := 0) dX3_asksGoUp_3 (by decide) ?_
  refine g_istore h (pc := 4) dX3_asksGoUp_4 (by decide) rfl ?_
  refine g_wid (k' := cp d - cp d) (n' := 2 * (cp d - cp d)) (by omega) (by omega) ?_
  suffices loop : ∀ (n j x : Nat) (d1 : Dy) (u1 : UX), j + n = 8 → x < ns → rch Z e n x → ups Z k e n x d1 = ups Z k e 8 s d → RC d1 u1 → cp d ≤ cp d1 → sz d1 ≤ 50000 + j → GG C 7 (cw cI cO a u1 Z d1) (cp d1 - cp d) (2 * (cp d1 - cp d)) 6 [(0, .ref (a 0)), (1, .int (nI s)), (2, .int (nI k)), (3, .int (nI e)), (4, .int (nI x)), (5, .int (nI j))] [] from loop 8 0 s d u (by omega) hs hr rfl hRC (Nat.le_refl _) (by omega)
  intro n
  induction n with
  | zero =>
    intro j x d1 u1 h1 h2 h3 hm hR1 hc1 hz1
    refine g_iload h (pc := 6) dX3_asksGoUp_6 5 rfl ?_
    refine g_bipush h (pc := 8) (v := 8) dX3_asksGoUp_8 (by decide) ?_
    refine g_icmp_ge_t h (pc := 10) (tgt := 78) dX3_asksGoUp_10 (by decide) (nI_le (a := 8) (b := j) (by omega) (by omega)) ?_
    rw [ups] at hm
    subst hm
    exact hret u1 dX3_asksGoUp_78 hR1 rfl (Nat.le_refl _) (Nat.le_refl _)
  | succ n ih =>
    intro j x d1 u1 h1 h2 h3 hm hR1 hc1 hz1
    have hle := rch_le hz (n + 1) x h2 h3
    refine g_iload h (pc := 6) dX3_asksGoUp_6 5 rfl ?_
    refine g_bipush h (pc := 8) (v := 8) dX3_asksGoUp_8 (by decide) ?_
    refine g_icmp_ge_f h (pc := 10) (tgt := 78) dX3_asksGoUp_10 (by decide) (nI_ge (a := j) (b := 8) (by omega) (by omega)) ?_
    refine g_iload h (pc := 13) dX3_asksGoUp_13 4 rfl ?_
    refine g_iload_n h (pc := 15) dX3_asksGoUp_15 3 rfl ?_
    by_cases hx : x = e
    · subst hx
      refine g_icmp_le_t h (pc := 16) (tgt := 78) dX3_asksGoUp_16 (by decide) (Int32.le_refl _) ?_
      rw [ups, if_pos rfl] at hm
      subst hm
      exact hret u1 dX3_asksGoUp_78 hR1 rfl (Nat.le_refl _) (Nat.le_refl _)
    · refine g_icmp_le_f h (pc := 16) (tgt := 78) dX3_asksGoUp_16 (by decide) (nI_ge (by omega) (by omega)) ?_
      rw [rch] at h3
      obtain ⟨h0, h3⟩ := h3.resolve_left hx
      have h4 := hz.lt h0 h2
      rw [ups, if_neg hx] at hm
      have m1 : cp d1 ≤ cp (up1 Z d1 x k) := cpl_up1 Z d1 x k
      have m2 : cp (up1 Z d1 x k) ≤ cp (ups Z k e 8 s d) := by rw [← hm]; exact cpl_ups _ _ _ _ _ _
      have z1 := sz_up1 Z d1 x k
      refine g_aload_n h (pc := 19) dX3_asksGoUp_19 0 rfl ?_
      refine g_get h (pc := 20) dX3_asksGoUp_20 iX3_asksGoUp_3 0 rfl rfl 1 (by decide) fX3_asksGoUp_19 rfl ?_
      refine g_get h (pc := 23) dX3_asksGoUp_23 iX3_asksGoUp_2 10 rfl rfl 0 (by decide) fX3_asksGoUp_77 rfl ?_
      refine g_iload h (pc := 26) dX3_asksGoUp_26 4 rfl ?_
      refine g_iald h (pc := 28) (v := nI (upx Z x)) dX3_asksGoUp_28 11 rfl (vp_in_nI (by omega) (by omega)) (by rw [nI_clamp (by omega)]; exact hz.up h0 h2) ?_
      refine g_istore h (pc := 29) dX3_asksGoUp_29 (by decide) rfl ?_
      refine g_aload_n h (pc := 31) dX3_asksGoUp_31 0 rfl ?_
      refine g_iload h (pc := 32) dX3_asksGoUp_32 6 rfl ?_
      refine g_iload_n h (pc := 34) dX3_asksGoUp_34 2 rfl ?_
      have tl : ∀ (u2 : UX), RC (up1 Z d1 x k) u2 → GG C 7 (cw cI cO a u2 Z (up1 Z d1 x k)) (cp (up1 Z d1 x k) - cp d) (2 * (cp (up1 Z d1 x k) - cp d)) 68 [(0, .ref (a 0)), (1, .int (nI s)), (2, .int (nI k)), (3, .int (nI e)), (4, .int (nI x)), (5, .int (nI j)), (6, .int (nI (upx Z x)))] [] := by
        intro u2 hR2
        refine g_iload h (pc := 68) dX3_asksGoUp_68 6 rfl ?_
        refine g_istore h (pc := 70) dX3_asksGoUp_70 (by decide) rfl ?_
        refine g_iinc h (pc := 72) dX3_asksGoUp_72 5 rfl (nI_1 j) (by decide) rfl ?_
        refine g_goto h (pc := 75) (tgt := 6) dX3_asksGoUp_75 (by decide) ?_
        refine g_lvp [0, 1, 2, 3, 4, 5] rfl ?_
        exact ih (j + 1) (upx Z x) _ u2 (by omega) (by omega) h3 hm hR2 (by omega) (by omega)
      by_cases hg : d1.1 7 (upx Z x) k = 0
      · have e1 : up1 Z d1 x k = dA d1 (nI (upx Z x), nI k, 1, Z 14 0 2, nI x) := if_pos hg
        rw [e1] at tl m1 m2
        refine g_callI h (pc := 35) (As := [.int (nI (upx Z x)), .int (nI k)]) (st := []) dX3_asksGoUp_35 (c_take0 (gL C) (gD C) cI cO a u1 Z d1 hR1 ns nk hz (upx Z x) k (by omega) hk hg) hw gX3_asksGoUp_X3_takesGood rfl (q0 := 0) rfl rfl (show nPar yX3_takesGood RX3 2 = true by decide +kernel) ⟨Nat.le_of_ble_eq_true rfl, Nat.le_of_ble_eq_true rfl⟩ rfl (Nat.le_of_ble_eq_true rfl) ⟨by show _ ≤ cp (ups Z k e 8 s d) - cp d; omega, by show _ ≤ 2 * (cp (ups Z k e 8 s d) - cp d); omega⟩ (fun r u2 hR2 => ?_)
        obtain ⟨rfl, hR2⟩ := hR2
        refine g_wid (k' := cp d1 - cp d) (n' := 2 * (cp d1 - cp d)) (by omega) (by omega) ?_
        refine g_if_eq_t h (pc := 38) (tgt := 51) dX3_asksGoUp_38 (by decide) rfl ?_
        refine g_aload_n h (pc := 51) dX3_asksGoUp_51 0 rfl ?_
        refine g_get h (pc := 52) dX3_asksGoUp_52 iX3_asksGoUp_3 0 rfl rfl 6 (by decide) fX3_asksGoUp_41 rfl ?_
        refine g_iload h (pc := 55) dX3_asksGoUp_55 6 rfl ?_
        refine g_iload_n h (pc := 57) dX3_asksGoUp_57 2 rfl ?_
        refine g_iconst h (pc := 58) (v := 1) dX3_asksGoUp_58 (by decide) ?_
        refine g_aload_n h (pc := 59) dX3_asksGoUp_59 0 rfl ?_
        refine g_get h (pc := 60) dX3_asksGoUp_60 iX3_asksGoUp_3 0 rfl rfl 8 (by decide) fX3_asksGoUp_48 rfl ?_
        refine g_iload h (pc := 63) dX3_asksGoUp_63 4 rfl ?_
        refine g_aadd h hw (pc := 65) dX3_asksGoUp_65 hR2 (by have h9 : d1.2.1.length ≤ sz d1 := Nat.le_add_right _ _; omega) (nI (upx Z x)) (nI k) 1 (Z 14 0 2) (nI x) gX3_asksGoUp_X1_add ⟨Nat.le_of_ble_eq_true rfl, Nat.le_of_ble_eq_true rfl⟩ (Nat.le_of_ble_eq_true rfl) ⟨by show _ ≤ cp (ups Z k e 8 s d) - cp d; omega, by show _ ≤ 2 * (cp (ups Z k e 8 s d) - cp d); omega⟩ (fun u3 hR3 => ?_)
        refine g_wid (k' := cp (dA d1 (nI (upx Z x), nI k, 1, Z 14 0 2, nI x)) - cp d) (n' := 2 * (cp (dA d1 (nI (upx Z x), nI k, 1, Z 14 0 2, nI x)) - cp d)) (by omega) (by omega) ?_
        exact tl u3 hR3
      · have e1 : up1 Z d1 x k = down Z (dG d1 7 (upx Z x) k (d1.1 7 (upx Z x) k - 1)) x k := if_neg hg
        rw [e1] at tl m1 m2
        have e2 : cp (dG d1 7 (upx Z x) k (d1.1 7 (upx Z x) k - 1)) = cp d1 := rfl
        have e3 : sz (dG d1 7 (upx Z x) k (d1.1 7 (upx Z x) k - 1)) = sz d1 := rfl
        refine g_callI h (pc := 35) (As := [.int (nI (upx Z x)), .int (nI k)]) (st := []) dX3_asksGoUp_35 (c_take1 (gL C) (gD C) cI cO a u1 Z d1 hR1 ns nk hz (upx Z x) k (by omega) hk hg) hw gX3_asksGoUp_X3_takesGood rfl (q0 := 0) rfl rfl (show nPar yX3_takesGood RX3 2 = true by decide +kernel) ⟨Nat.le_of_ble_eq_true rfl, Nat.le_of_ble_eq_true rfl⟩ rfl (Nat.le_of_ble_eq_true rfl) ⟨by show _ ≤ cp (ups Z k e 8 s d) - cp d; omega, by show _ ≤ 2 * (cp (ups Z k e 8 s d) - cp d); omega⟩ (fun r u2 hR2 => ?_)
        obtain ⟨rfl, hR2⟩ := hR2
        refine g_wid (k' := cp d1 - cp d) (n' := 2 * (cp d1 - cp d)) (by omega) (by omega) ?_
        refine g_if_eq_f h (pc := 38) (tgt := 51) dX3_asksGoUp_38 (by decide) (by decide) ?_
        refine g_aload_n h (pc := 41) dX3_asksGoUp_41 0 rfl ?_
        refine g_iload h (pc := 42) dX3_asksGoUp_42 4 rfl ?_
        refine g_iload_n h (pc := 44) dX3_asksGoUp_44 2 rfl ?_
        refine g_callV h (pc := 45) (As := [.int (nI x), .int (nI k)]) (st := []) dX3_asksGoUp_45 (c_down (gL C) (gD C) cI cO a u2 Z _ hR2 ns nk hz (by omega) x k (by omega) hk) hw gX3_asksGoUp_X3_goesDown rfl (q0 := 0) rfl rfl (show nPar yX3_goesDown RX3 2 = true by decide +kernel) ⟨Nat.le_of_ble_eq_true rfl, Nat.le_of_ble_eq_true rfl⟩ rfl (Nat.le_of_ble_eq_true rfl) ⟨by show _ ≤ cp (ups Z k e 8 s d) - cp d; omega, by show _ ≤ 2 * (cp (ups Z k e 8 s d) - cp d); omega⟩ (fun u3 hR3 => ?_)
        refine g_wid (k' := cp (down Z (dG d1 7 (upx Z x) k (d1.1 7 (upx Z x) k - 1)) x k) - cp d) (n' := 2 * (cp (down Z (dG d1 7 (upx Z x) k (d1.1 7 (upx Z x) k - 1)) x k) - cp d)) (by omega) (by omega) ?_
        refine g_goto h (pc := 48) (tgt := 68) dX3_asksGoUp_48 (by decide) ?_
        exact tl u3 hR3

theorem iX3_mendGetsCore_3 : ∀ w ∈ wsX30, w ∈ wsX3_mendGetsCore := by decide +kernel
theorem fX3_mendGetsCore_10 : Cond.fieldLink RX3 10 "SpareShelves" "kinds" "LSpareShelves$Kinds;" ∈ wsX3_mendGetsCore := by decide +kernel
theorem iX3_mendGetsCore_0 : ∀ w ∈ wsX00, w ∈ wsX3_mendGetsCore := by decide +kernel
theorem fX3_mendGetsCore_148 : Cond.fieldLink RX3 148 "SpareShelves$Kinds" "mendsTook" "[I" ∈ wsX3_mendGetsCore := by decide +kernel
theorem fX3_mendGetsCore_102 : Cond.fieldLink RX3 102 "SpareShelves$Kinds" "broke" "[I" ∈ wsX3_mendGetsCore := by decide +kernel
theorem fX3_mendGetsCore_19 : Cond.fieldLink RX3 19 "SpareShelves" "tree" "LSpareShelves$Tree;" ∈ wsX3_mendGetsCore := by decide +kernel
set_option maxHeartbeats 4000000 in
set_option maxRecDepth 100000 in
theorem c_serveM (l : Launch) (D : va_G) (cI cO : ClassId) (a : Nat → Nat) (u : UX) (Z : Sg) (d : Dy) (hRC : RC d u) (ns nk : Nat) (hz : Zv ns nk Z) (hsz : sz d ≤ 45000) (s c o : Nat) (hs : s < ns) (hk : c < nk) (ho : o < nk) : CVc l yX3_mendGetsCore wsX3_mendGetsCore 5 195 D cI cO a u Z d [.int (nI s), .int (nI c), .int (nI o)] Z (serveM Z d s c o) := by
  unfold CVc
  refine CV.of (cc := cX3_mendGetsCore) (maxL := 5) (by decide) rfl (Nat.le_of_ble_eq_true rfl) ?_
  intro C hgL hgD hw h hret
  have hn8 := hz.n8
  have hk8 := hz.k8
  have m1 : cp d ≤ cp (backP Z (inc (inc d 12 c) 13 c) s c) := cpl_backP Z (inc (inc d 12 c) 13 c) s c
  have m2 : cp (backP Z (inc (inc d 12 c) 13 c) s c) ≤ cp (ups Z c (mOf Z c s) 8 s (backP Z (inc (inc d 12 c) 13 c) s c)) := cpl_ups _ _ _ _ _ _
  have m3 : cp (ups Z c (mOf Z c s) 8 s (backP Z (inc (inc d 12 c) 13 c) s c)) ≤ cp (serveM Z d s c o) := cpl_begins Z _ s o
  have z1 : sz (backP Z (inc (inc d 12 c) 13 c) s c) = sz d + 1 := sz_backP Z (inc (inc d 12 c) 13 c) s c
  have z2 : sz (ups Z c (mOf Z c s) 8 s (backP Z (inc (inc d 12 c) 13 c) s c)) ≤ sz (backP Z (inc (inc d 12 c) 13 c) s c) + 8 := sz_ups _ _ _ _ _ _
  have z0 : sz (inc (inc d 12 c) 13 c) = sz d := rfl
  have e0 : cp (inc (inc d 12 c) 13 c) = cp d := rfl
  have m4 : cp (begins Z (ups Z c (mOf Z c s) 8 s (backP Z (inc (inc d 12 c) 13 c) s c)) s o) = cp (serveM Z d s c o) := rfl
  refine g_aload_n h (pc := 0) dX3_mendGetsCore_0 0 rfl ?_
  refine g_get h (pc := 1) dX3_mendGetsCore_1 iX3_mendGetsCore_3 0 rfl rfl 0 (by decide) fX3_mendGetsCore_10 rfl ?_
  refine g_get h (pc := 4) dX3_mendGetsCore_4 iX3_mendGetsCore_0 1 rfl rfl 6 (by decide) fX3_mendGetsCore_148 rfl ?_
  refine g_iload_n h (pc := 7) dX3_mendGetsCore_7 2 rfl ?_
  refine g_dup2 h (pc := 8) dX3_mendGetsCore_8 rfl rfl ?_
  refine g_iald h (pc := 9) (v := d.1 12 0 c) dX3_mendGetsCore_9 8 rfl (vp_in_nI (by omega) (by omega)) (by rw [nI_clamp (by omega)]) ?_
  refine g_iconst h (pc := 10) (v := 1) dX3_mendGetsCore_10 (by decide) ?_
  refine g_iadd h (pc := 11) dX3_mendGetsCore_11  ?_
  refine g_iast h hw (pc := 12) (ws' := cw cI cO a u Z (inc d 12 c)) dX3_mendGetsCore_12 8 rfl (vp_in_nI (by omega) (by omega)) (by rw [nI_clamp (by omega)]; rfl) ?_
  refine g_aload_n h (pc := 13) dX3_mendGetsCore_13 0 rfl ?_
  refine g_get h (pc := 14) dX3_mendGetsCore_14 iX3_mendGetsCore_3 0 rfl rfl 0 (by decide) fX3_mendGetsCore_10 rfl ?_
  refine g_get h (pc := 17) dX3_mendGetsCore_17 iX3_mendGetsCore_0 1 rfl rfl 7 (by decide) fX3_mendGetsCore_102 rfl ?_
  refine g_iload_n h (pc := 20) dX3_mendGetsCore_20 2 rfl ?_
  refine g_dup2 h (pc := 21) dX3_mendGetsCore_21 rfl rfl ?_
  refine g_iald h (pc := 22) (v := (inc d 12 c).1 13 0 c) dX3_mendGetsCore_22 9 rfl (vp_in_nI (by omega) (by omega)) (by rw [nI_clamp (by omega)]) ?_
  refine g_iconst h (pc := 23) (v := 1) dX3_mendGetsCore_23 (by decide) ?_
  refine g_iadd h (pc := 24) dX3_mendGetsCore_24  ?_
  refine g_iast h hw (pc := 25) (ws' := cw cI cO a u Z (inc (inc d 12 c) 13 c)) dX3_mendGetsCore_25 9 rfl (vp_in_nI (by omega) (by omega)) (by rw [nI_clamp (by omega)]; rfl) ?_
  refine g_aload_n h (pc := 26) dX3_mendGetsCore_26 0 rfl ?_
  refine g_get h (pc := 27) dX3_mendGetsCore_27 iX3_mendGetsCore_3 0 rfl rfl 1 (by decide) fX3_mendGetsCore_19 rfl ?_
  refine g_iload_n h (pc := 30) dX3_mendGetsCore_30 1 rfl ?_
  refine g_iload_n h (pc := 31) dX3_mendGetsCore_31 2 rfl ?_
  refine g_callR h (pc := 32) (As := [.int (nI s), .int (nI c)]) (st := []) dX3_mendGetsCore_32 (c_first (gL C) (gD C) cI cO (fun i => a (10 + i)) Z ns nk hz s c hs hk) [10, 11, 12, 13, 14, 15, 16, 17, 18, 19, 20, 21] rfl (by decide) gX3_mendGetsCore_X2_firstThatMends rfl (q0 := 0) rfl rfl (show nPar yX2_firstThatMends RX2 2 = true by decide +kernel) ⟨Nat.le_of_ble_eq_true rfl, Nat.le_of_ble_eq_true rfl⟩ rfl (Nat.le_of_ble_eq_true rfl) ⟨Nat.zero_le _, Nat.zero_le _⟩ (fun r hr => ?_)
  subst hr
  have hmle := mOf_le hz hk hs
  refine g_istore h (pc := 35) dX3_mendGetsCore_35 (by decide) rfl ?_
  refine g_iload h (pc := 37) dX3_mendGetsCore_37 4 rfl ?_
  refine g_iload_n h (pc := 39) dX3_mendGetsCore_39 1 rfl ?_
  have tl : ∀ (u2 : UX), RC (backP Z (inc (inc d 12 c) 13 c) s c) u2 → GG C 5 (cw cI cO a u2 Z (backP Z (inc (inc d 12 c) 13 c) s c)) (cp (backP Z (inc (inc d 12 c) 13 c) s c) - cp d) (2 * (cp (backP Z (inc (inc d 12 c) 13 c) s c) - cp d)) 61 [(0, .ref (a 0)), (1, .int (nI s)), (2, .int (nI c)), (3, .int (nI o)), (4, .int (nI (mOf Z c s)))] [] := by
    intro u2 hR2
    refine g_aload_n h (pc := 61) dX3_mendGetsCore_61 0 rfl ?_
    refine g_iload_n h (pc := 62) dX3_mendGetsCore_62 1 rfl ?_
    refine g_iload_n h (pc := 63) dX3_mendGetsCore_63 2 rfl ?_
    refine g_iload h (pc := 64) dX3_mendGetsCore_64 4 rfl ?_
    refine g_callV h (pc := 66) (As := [.int (nI s), .int (nI c), .int (nI (mOf Z c s))]) (st := []) dX3_mendGetsCore_66 (c_ups (gL C) (gD C) cI cO a u2 Z _ hR2 ns nk hz (by omega) s c (mOf Z c s) hs hk (rch_mo hz hk 8 s hs)) hw gX3_mendGetsCore_X3_asksGoUp rfl (q0 := 0) rfl rfl (show nPar yX3_asksGoUp RX3 3 = true by decide +kernel) ⟨Nat.le_of_ble_eq_true rfl, Nat.le_of_ble_eq_true rfl⟩ rfl (Nat.le_of_ble_eq_true rfl) ⟨by show _ ≤ cp (serveM Z d s c o) - cp d; omega, by show _ ≤ 2 * (cp (serveM Z d s c o) - cp d); omega⟩ (fun u3 hR3 => ?_)
    refine g_wid (k' := cp (ups Z c (mOf Z c s) 8 s (backP Z (inc (inc d 12 c) 13 c) s c)) - cp d) (n' := 2 * (cp (ups Z c (mOf Z c s) 8 s (backP Z (inc (inc d 12 c) 13 c) s c)) - cp d)) (by omega) (by omega) ?_
    refine g_aload_n h (pc := 69) dX3_mendGetsCore_69 0 rfl ?_
    refine g_iload_n h (pc := 70) dX3_mendGetsCore_70 1 rfl ?_
    refine g_iload_n h (pc := 71) dX3_mendGetsCore_71 3 rfl ?_
    refine g_callV h (pc := 72) (As := [.int (nI s), .int (nI o)]) (st := []) dX3_mendGetsCore_72 (c_begins (gL C) (gD C) cI cO a u3 Z _ hR3 ns nk hz (by omega) s o hs ho) hw gX3_mendGetsCore_X3_mendBegins rfl (q0 := 0) rfl rfl (show nPar yX3_mendBegins RX3 2 = true by decide +kernel) ⟨Nat.le_of_ble_eq_true rfl, Nat.le_of_ble_eq_true rfl⟩ rfl (Nat.le_of_ble_eq_true rfl) ⟨by show _ ≤ cp (serveM Z d s c o) - cp d; omega, by show _ ≤ 2 * (cp (serveM Z d s c o) - cp d); omega⟩ (fun u4 hR4 => ?_)
    refine g_wid (k' := cp (serveM Z d s c o) - cp d) (n' := 2 * (cp (serveM Z d s c o) - cp d)) (by omega) (by omega) ?_
    exact hret u4 dX3_mendGetsCore_75 hR4 rfl (Nat.le_refl _) (Nat.le_refl _)
  by_cases hm : mOf Z c s = s
  · have e1 : (backP Z (inc (inc d 12 c) 13 c) s c) = begins Z (inc (inc d 12 c) 13 c) s c := if_pos hm
    have mg : cp (backP Z (inc (inc d 12 c) 13 c) s c) = cp (begins Z (inc (inc d 12 c) 13 c) s c) := by rw [e1]
    rw [e1] at tl
    refine g_icmp_ne_f h (pc := 40) (tgt := 52) dX3_mendGetsCore_40 (by decide) (by rw [hm]) ?_
    refine g_aload_n h (pc := 43) dX3_mendGetsCore_43 0 rfl ?_
    refine g_iload_n h (pc := 44) dX3_mendGetsCore_44 1 rfl ?_
    refine g_iload_n h (pc := 45) dX3_mendGetsCore_45 2 rfl ?_
    refine g_callV h (pc := 46) (As := [.int (nI s), .int (nI c)]) (st := []) dX3_mendGetsCore_46 (c_begins (gL C) (gD C) cI cO a u Z (inc (inc d 12 c) 13 c) hRC ns nk hz (by omega) s c hs hk) hw gX3_mendGetsCore_X3_mendBegins rfl (q0 := 0) rfl rfl (show nPar yX3_mendBegins RX3 2 = true by decide +kernel) ⟨Nat.le_of_ble_eq_true rfl, Nat.le_of_ble_eq_true rfl⟩ rfl (Nat.le_of_ble_eq_true rfl) ⟨by show _ ≤ cp (serveM Z d s c o) - cp d; omega, by show _ ≤ 2 * (cp (serveM Z d s c o) - cp d); omega⟩ (fun u2 hR2 => ?_)
    refine g_wid (k' := cp (begins Z (inc (inc d 12 c) 13 c) s c) - cp d) (n' := 2 * (cp (begins Z (inc (inc d 12 c) 13 c) s c) - cp d)) (by omega) (by omega) ?_
    refine g_goto h (pc := 49) (tgt := 61) dX3_mendGetsCore_49 (by decide) ?_
    exact tl u2 hR2
  · have e1 : (backP Z (inc (inc d 12 c) 13 c) s c) = sets Z (inc (inc d 12 c) 13 c) s c (mOf Z c s) 0 := if_neg hm
    have mg : cp (backP Z (inc (inc d 12 c) 13 c) s c) = cp (sets Z (inc (inc d 12 c) 13 c) s c (mOf Z c s) 0) := by rw [e1]
    rw [e1] at tl
    refine g_icmp_ne_t h (pc := 40) (tgt := 52) dX3_mendGetsCore_40 (by decide) (fun q => hm ((nI_eq (by omega) (by omega)).mp q)) ?_
    refine g_aload_n h (pc := 52) dX3_mendGetsCore_52 0 rfl ?_
    refine g_iload_n h (pc := 53) dX3_mendGetsCore_53 1 rfl ?_
    refine g_iload_n h (pc := 54) dX3_mendGetsCore_54 2 rfl ?_
    refine g_iload h (pc := 55) dX3_mendGetsCore_55 4 rfl ?_
    refine g_iconst h (pc := 57) (v := 0) dX3_mendGetsCore_57 (by decide) ?_
    refine g_callV h (pc := 58) (As := [.int (nI s), .int (nI c), .int (nI (mOf Z c s)), .int 0]) (st := []) dX3_mendGetsCore_58 (c_sets (gL C) (gD C) cI cO a u Z (inc (inc d 12 c) 13 c) hRC ns nk hz (by omega) s c (mOf Z c s) hs hk (rch_mo hz hk 8 s hs) 0) hw gX3_mendGetsCore_X3_setsOut rfl (q0 := 0) rfl rfl (show nPar yX3_setsOut RX3 4 = true by decide +kernel) ⟨Nat.le_of_ble_eq_true rfl, Nat.le_of_ble_eq_true rfl⟩ rfl (Nat.le_of_ble_eq_true rfl) ⟨by show _ ≤ cp (serveM Z d s c o) - cp d; omega, by show _ ≤ 2 * (cp (serveM Z d s c o) - cp d); omega⟩ (fun u2 hR2 => ?_)
    refine g_wid (k' := cp (sets Z (inc (inc d 12 c) 13 c) s c (mOf Z c s) 0) - cp d) (n' := 2 * (cp (sets Z (inc (inc d 12 c) 13 c) s c (mOf Z c s) 0) - cp d)) (by omega) (by omega) ?_
    exact tl u2 hR2

theorem iX3_goesBack_3 : ∀ w ∈ wsX30, w ∈ wsX3_goesBack := by decide +kernel
theorem fX3_goesBack_19 : Cond.fieldLink RX3 19 "SpareShelves" "tree" "LSpareShelves$Tree;" ∈ wsX3_goesBack := by decide +kernel
theorem fX3_goesBack_10 : Cond.fieldLink RX3 10 "SpareShelves" "kinds" "LSpareShelves$Kinds;" ∈ wsX3_goesBack := by decide +kernel
theorem iX3_goesBack_0 : ∀ w ∈ wsX00, w ∈ wsX3_goesBack := by decide +kernel
theorem fX3_goesBack_69 : Cond.fieldLink RX3 69 "SpareShelves$Kinds" "core" "[I" ∈ wsX3_goesBack := by decide +kernel
theorem fX3_goesBack_41 : Cond.fieldLink RX3 41 "SpareShelves" "asks" "LSpareShelves$Line;" ∈ wsX3_goesBack := by decide +kernel
theorem fX3_goesBack_48 : Cond.fieldLink RX3 48 "SpareShelves" "time" "I" ∈ wsX3_goesBack := by decide +kernel
set_option maxHeartbeats 4000000 in
set_option maxRecDepth 100000 in
theorem c_back (l : Launch) (D : va_G) (cI cO : ClassId) (a : Nat → Nat) (u : UX) (Z : Sg) (d : Dy) (hRC : RC d u) (ns nk : Nat) (hz : Zv ns nk Z) (hsz : sz d ≤ 44000) (s k : Nat) (hs : s < ns) (hk : k < nk) (how : Int32) (hh : how = 0 ∨ (how = 1 ∧ ∃ c, c < nk ∧ Z 2 0 k = nI c)) : CVc l yX3_goesBack wsX3_goesBack 6 220 D cI cO a u Z d [.int (nI s), .int (nI k), .int how] Z (back Z d s k how) := by
  unfold CVc
  refine CV.of (cc := cX3_goesBack) (maxL := 6) (by decide) rfl (Nat.le_of_ble_eq_true rfl) ?_
  intro C hgL hgD hw h hret
  have hn8 := hz.n8
  have hk8 := hz.k8
  have mf : cp d ≤ cp (back Z d s k how) := cpl_back Z d s k how
  refine g_aload_n h (pc := 0) dX3_goesBack_0 0 rfl ?_
  refine g_get h (pc := 1) dX3_goesBack_1 iX3_goesBack_3 0 rfl rfl 1 (by decide) fX3_goesBack_19 rfl ?_
  refine g_iload_n h (pc := 4) dX3_goesBack_4 1 rfl ?_
  refine g_iload_n h (pc := 5) dX3_goesBack_5 2 rfl ?_
  refine g_callR h (pc := 6) (As := [.int (nI s), .int (nI k)]) (st := []) dX3_goesBack_6 (c_first (gL C) (gD C) cI cO (fun i => a (10 + i)) Z ns nk hz s k hs hk) [10, 11, 12, 13, 14, 15, 16, 17, 18, 19, 20, 21] rfl (by decide) gX3_goesBack_X2_firstThatMends rfl (q0 := 0) rfl rfl (show nPar yX2_firstThatMends RX2 2 = true by decide +kernel) ⟨Nat.le_of_ble_eq_true rfl, Nat.le_of_ble_eq_true rfl⟩ rfl (Nat.le_of_ble_eq_true rfl) ⟨Nat.zero_le _, Nat.zero_le _⟩ (fun r hr => ?_)
  subst hr
  have hmle := mOf_le hz hk hs
  refine g_istore h (pc := 9) dX3_goesBack_9 (by decide) rfl ?_
  refine g_aload_n h (pc := 11) dX3_goesBack_11 0 rfl ?_
  refine g_get h (pc := 12) dX3_goesBack_12 iX3_goesBack_3 0 rfl rfl 0 (by decide) fX3_goesBack_10 rfl ?_
  refine g_get h (pc := 15) dX3_goesBack_15 iX3_goesBack_0 1 rfl rfl 2 (by decide) fX3_goesBack_69 rfl ?_
  refine g_iload_n h (pc := 18) dX3_goesBack_18 2 rfl ?_
  refine g_iald h (pc := 19) (v := Z 2 0 k) dX3_goesBack_19 4 rfl (vp_in_nI (by omega) (by omega)) (by rw [nI_clamp (by omega)]) ?_
  refine g_istore h (pc := 20) dX3_goesBack_20 (by decide) rfl ?_
  refine g_iload h (pc := 22) dX3_goesBack_22 4 rfl ?_
  refine g_iload_n h (pc := 24) dX3_goesBack_24 1 rfl ?_
  by_cases hm : mOf Z k s = s
  · refine g_icmp_eq_t h (pc := 25) (tgt := 40) dX3_goesBack_25 (by decide) (by rw [hm]) ?_
    refine g_iload_n h (pc := 40) dX3_goesBack_40 3 rfl ?_
    refine g_iconst h (pc := 41) (v := 1) dX3_goesBack_41 (by decide) ?_
    rcases hh with rfl | ⟨rfl, c, hc, ec⟩
    · have e1 : back Z d s k 0 = begins Z d s k := by unfold back; rw [if_pos hm, if_pos rfl]
      rw [e1] at mf hret
      have mg : cp (back Z d s k 0) = cp (begins Z d s k) := by rw [e1]
      refine g_icmp_ne_t h (pc := 42) (tgt := 51) dX3_goesBack_42 (by decide) (by decide) ?_
      refine g_aload_n h (pc := 51) dX3_goesBack_51 0 rfl ?_
      refine g_iload_n h (pc := 52) dX3_goesBack_52 1 rfl ?_
      refine g_iload_n h (pc := 53) dX3_goesBack_53 2 rfl ?_
      refine g_callV h (pc := 54) (As := [.int (nI s), .int (nI k)]) (st := []) dX3_goesBack_54 (c_begins (gL C) (gD C) cI cO a u Z d hRC ns nk hz (by omega) s k hs hk) hw gX3_goesBack_X3_mendBegins rfl (q0 := 0) rfl rfl (show nPar yX3_mendBegins RX3 2 = true by decide +kernel) ⟨Nat.le_of_ble_eq_true rfl, Nat.le_of_ble_eq_true rfl⟩ rfl (Nat.le_of_ble_eq_true rfl) ⟨by show _ ≤ cp (back Z d s k 0) - cp d; omega, by show _ ≤ 2 * (cp (back Z d s k 0) - cp d); omega⟩ (fun u2 hR2 => ?_)
      refine g_goto h (pc := 57) (tgt := 97) dX3_goesBack_57 (by decide) ?_
      exact hret u2 dX3_goesBack_97 hR2 rfl (by omega) (by omega)
    · have e0 : back Z d s k 1 = arrC Z d s k c := by unfold back; rw [if_pos hm, if_neg (by decide), ec, nI_clamp (by omega)]
      refine g_icmp_ne_f h (pc := 42) (tgt := 51) dX3_goesBack_42 (by decide) rfl ?_
      refine g_iload h (pc := 45) dX3_goesBack_45 5 rfl ?_
      refine g_iconst h (pc := 47) (v := (-1)) dX3_goesBack_47 (by decide) ?_
      rw [ec]
      refine g_icmp_ne_t h (pc := 48) (tgt := 60) dX3_goesBack_48 (by decide) (nI_nm1 (by omega)) ?_
      refine g_aload_n h (pc := 60) dX3_goesBack_60 0 rfl ?_
      refine g_iload_n h (pc := 61) dX3_goesBack_61 1 rfl ?_
      refine g_iload h (pc := 62) dX3_goesBack_62 5 rfl ?_
      by_cases hg : d.1 7 s c = 0
      · have e1 : back Z d s k 1 = dA d (nI s, nI c, 2, Z 14 0 2, nI k) := by rw [e0]; exact if_pos hg
        have mg : cp (back Z d s k 1) = cp (dA d (nI s, nI c, 2, Z 14 0 2, nI k)) := by rw [e1]
        have m1 := cpl_dA d (nI s, nI c, 2, Z 14 0 2, nI k)
        rw [e1] at hret
        refine g_callI h (pc := 64) (As := [.int (nI s), .int (nI c)]) (st := []) dX3_goesBack_64 (c_take0 (gL C) (gD C) cI cO a u Z d hRC ns nk hz s c hs hc hg) hw gX3_goesBack_X3_takesGood rfl (q0 := 0) rfl rfl (show nPar yX3_takesGood RX3 2 = true by decide +kernel) ⟨Nat.le_of_ble_eq_true rfl, Nat.le_of_ble_eq_true rfl⟩ rfl (Nat.le_of_ble_eq_true rfl) ⟨by show _ ≤ cp (back Z d s k 1) - cp d; omega, by show _ ≤ 2 * (cp (back Z d s k 1) - cp d); omega⟩ (fun r u2 hR2 => ?_)
        obtain ⟨rfl, hR2⟩ := hR2
        refine g_wid (k' := cp d - cp d) (n' := 2 * (cp d - cp d)) (by omega) (by omega) ?_
        refine g_if_eq_t h (pc := 67) (tgt := 81) dX3_goesBack_67 (by decide) rfl ?_
        refine g_aload_n h (pc := 81) dX3_goesBack_81 0 rfl ?_
        refine g_get h (pc := 82) dX3_goesBack_82 iX3_goesBack_3 0 rfl rfl 6 (by decide) fX3_goesBack_41 rfl ?_
        refine g_iload_n h (pc := 85) dX3_goesBack_85 1 rfl ?_
        refine g_iload h (pc := 86) dX3_goesBack_86 5 rfl ?_
        refine g_iconst h (pc := 88) (v := 2) dX3_goesBack_88 (by decide) ?_
        refine g_aload_n h (pc := 89) dX3_goesBack_89 0 rfl ?_
        refine g_get h (pc := 90) dX3_goesBack_90 iX3_goesBack_3 0 rfl rfl 8 (by decide) fX3_goesBack_48 rfl ?_
        refine g_iload_n h (pc := 93) dX3_goesBack_93 2 rfl ?_
        refine g_aadd h hw (pc := 94) dX3_goesBack_94 hR2 (by have h9 : d.2.1.length ≤ sz d := Nat.le_add_right _ _; omega) (nI s) (nI c) 2 (Z 14 0 2) (nI k) gX3_goesBack_X1_add ⟨Nat.le_of_ble_eq_true rfl, Nat.le_of_ble_eq_true rfl⟩ (Nat.le_of_ble_eq_true rfl) ⟨by show _ ≤ cp (back Z d s k 1) - cp d; omega, by show _ ≤ 2 * (cp (back Z d s k 1) - cp d); omega⟩ (fun u3 hR3 => ?_)
        exact hret u3 dX3_goesBack_97 hR3 rfl (by omega) (by omega)
      · have e1 : back Z d s k 1 = serveM Z (dG d 7 s c (d.1 7 s c - 1)) s c k := by rw [e0]; exact if_neg hg
        have mg : cp (back Z d s k 1) = cp (serveM Z (dG d 7 s c (d.1 7 s c - 1)) s c k) := by rw [e1]
        have m1 := cpl_serveM Z (dG d 7 s c (d.1 7 s c - 1)) s c k
        have e2 : cp (dG d 7 s c (d.1 7 s c - 1)) = cp d := rfl
        have e3 : sz (dG d 7 s c (d.1 7 s c - 1)) = sz d := rfl
        rw [e1] at hret
        refine g_callI h (pc := 64) (As := [.int (nI s), .int (nI c)]) (st := []) dX3_goesBack_64 (c_take1 (gL C) (gD C) cI cO a u Z d hRC ns nk hz s c hs hc hg) hw gX3_goesBack_X3_takesGood rfl (q0 := 0) rfl rfl (show nPar yX3_takesGood RX3 2 = true by decide +kernel) ⟨Nat.le_of_ble_eq_true rfl, Nat.le_of_ble_eq_true rfl⟩ rfl (Nat.le_of_ble_eq_true rfl) ⟨by show _ ≤ cp (back Z d s k 1) - cp d; omega, by show _ ≤ 2 * (cp (back Z d s k 1) - cp d); omega⟩ (fun r u2 hR2 => ?_)
        obtain ⟨rfl, hR2⟩ := hR2
        refine g_wid (k' := cp d - cp d) (n' := 2 * (cp d - cp d)) (by omega) (by omega) ?_
        refine g_if_eq_f h (pc := 67) (tgt := 81) dX3_goesBack_67 (by decide) (by decide) ?_
        refine g_aload_n h (pc := 70) dX3_goesBack_70 0 rfl ?_
        refine g_iload_n h (pc := 71) dX3_goesBack_71 1 rfl ?_
        refine g_iload h (pc := 72) dX3_goesBack_72 5 rfl ?_
        refine g_iload_n h (pc := 74) dX3_goesBack_74 2 rfl ?_
        refine g_callV h (pc := 75) (As := [.int (nI s), .int (nI c), .int (nI k)]) (st := []) dX3_goesBack_75 (c_serveM (gL C) (gD C) cI cO a u2 Z _ hR2 ns nk hz (by omega) s c k hs hc hk) hw gX3_goesBack_X3_mendGetsCore rfl (q0 := 0) rfl rfl (show nPar yX3_mendGetsCore RX3 3 = true by decide +kernel) ⟨Nat.le_of_ble_eq_true rfl, Nat.le_of_ble_eq_true rfl⟩ rfl (Nat.le_of_ble_eq_true rfl) ⟨by show _ ≤ cp (back Z d s k 1) - cp d; omega, by show _ ≤ 2 * (cp (back Z d s k 1) - cp d); omega⟩ (fun u3 hR3 => ?_)
        refine g_goto h (pc := 78) (tgt := 97) dX3_goesBack_78 (by decide) ?_
        exact hret u3 dX3_goesBack_97 hR3 rfl (by omega) (by omega)
  · have e1 : back Z d s k how = sets Z d s k (mOf Z k s) how := if_neg hm
    have mg : cp (back Z d s k how) = cp (sets Z d s k (mOf Z k s) how) := by rw [e1]
    rw [e1] at hret
    refine g_icmp_eq_f h (pc := 25) (tgt := 40) dX3_goesBack_25 (by decide) (fun q => hm ((nI_eq (by omega) (by omega)).mp q)) ?_
    refine g_aload_n h (pc := 28) dX3_goesBack_28 0 rfl ?_
    refine g_iload_n h (pc := 29) dX3_goesBack_29 1 rfl ?_
    refine g_iload_n h (pc := 30) dX3_goesBack_30 2 rfl ?_
    refine g_iload h (pc := 31) dX3_goesBack_31 4 rfl ?_
    refine g_iload_n h (pc := 33) dX3_goesBack_33 3 rfl ?_
    refine g_callV h (pc := 34) (As := [.int (nI s), .int (nI k), .int (nI (mOf Z k s)), .int how]) (st := []) dX3_goesBack_34 (c_sets (gL C) (gD C) cI cO a u Z d hRC ns nk hz (by omega) s k (mOf Z k s) hs hk (rch_mo hz hk 8 s hs) how) hw gX3_goesBack_X3_setsOut rfl (q0 := 0) rfl rfl (show nPar yX3_setsOut RX3 4 = true by decide +kernel) ⟨Nat.le_of_ble_eq_true rfl, Nat.le_of_ble_eq_true rfl⟩ rfl (Nat.le_of_ble_eq_true rfl) ⟨by show _ ≤ cp (back Z d s k how) - cp d; omega, by show _ ≤ 2 * (cp (back Z d s k how) - cp d); omega⟩ (fun u2 hR2 => ?_)
    refine g_goto h (pc := 37) (tgt := 97) dX3_goesBack_37 (by decide) ?_
    exact hret u2 dX3_goesBack_97 hR2 rfl (by omega) (by omega)

theorem iX3_servesMachine_3 : ∀ w ∈ wsX30, w ∈ wsX3_servesMachine := by decide +kernel
theorem fX3_servesMachine_41 : Cond.fieldLink RX3 41 "SpareShelves" "asks" "LSpareShelves$Line;" ∈ wsX3_servesMachine := by decide +kernel
theorem fX3_servesMachine_48 : Cond.fieldLink RX3 48 "SpareShelves" "time" "I" ∈ wsX3_servesMachine := by decide +kernel
theorem fX3_servesMachine_10 : Cond.fieldLink RX3 10 "SpareShelves" "kinds" "LSpareShelves$Kinds;" ∈ wsX3_servesMachine := by decide +kernel
theorem iX3_servesMachine_0 : ∀ w ∈ wsX00, w ∈ wsX3_servesMachine := by decide +kernel
theorem fX3_servesMachine_145 : Cond.fieldLink RX3 145 "SpareShelves$Kinds" "machinesTook" "[I" ∈ wsX3_servesMachine := by decide +kernel
set_option maxHeartbeats 4000000 in
set_option maxRecDepth 100000 in
theorem c_machine (l : Launch) (D : va_G) (cI cO : ClassId) (a : Nat → Nat) (u : UX) (Z : Sg) (d : Dy) (hRC : RC d u) (ns nk : Nat) (hz : Zv ns nk Z) (hsz : sz d ≤ 60000) (s k : Nat) (hs : s < ns) (hk : k < nk) : CIc l yX3_servesMachine wsX3_servesMachine 3 140 D cI cO a u Z d [.int (nI s), .int (nI k)] (if d.1 7 s k = 0 then 0 else 1) Z (machine Z d s k) := by
  unfold CIc
  refine CI.of (cc := cX3_servesMachine) (maxL := 3) (rt := .boolean) (by decide) rfl (Nat.le_of_ble_eq_true rfl) ?_
  intro C hgL hgD hw h hret
  have hn8 := hz.n8
  have hk8 := hz.k8
  refine g_aload_n h (pc := 0) dX3_servesMachine_0 0 rfl ?_
  refine g_iload_n h (pc := 1) dX3_servesMachine_1 1 rfl ?_
  refine g_iload_n h (pc := 2) dX3_servesMachine_2 2 rfl ?_
  by_cases hg : d.1 7 s k = 0
  · have e1 : machine Z d s k = dA d (nI s, nI k, 0, Z 14 0 2, -1) := if_pos hg
    have mg : cp (machine Z d s k) = cp (dA d (nI s, nI k, 0, Z 14 0 2, -1)) := by rw [e1]
    have m1 := cpl_dA d (nI s, nI k, 0, Z 14 0 2, -1)
    rw [e1, if_pos hg] at hret
    refine g_callI h (pc := 3) (As := [.int (nI s), .int (nI k)]) (st := []) dX3_servesMachine_3 (c_take0 (gL C) (gD C) cI cO a u Z d hRC ns nk hz s k hs hk hg) hw gX3_servesMachine_X3_takesGood rfl (q0 := 0) rfl rfl (show nPar yX3_takesGood RX3 2 = true by decide +kernel) ⟨Nat.le_of_ble_eq_true rfl, Nat.le_of_ble_eq_true rfl⟩ rfl (Nat.le_of_ble_eq_true rfl) ⟨by show _ ≤ cp (machine Z d s k) - cp d; omega, by show _ ≤ 2 * (cp (machine Z d s k) - cp d); omega⟩ (fun r u2 hR2 => ?_)
    obtain ⟨rfl, hR2⟩ := hR2
    refine g_wid (k' := cp d - cp d) (n' := 2 * (cp d - cp d)) (by omega) (by omega) ?_
    refine g_if_eq_t h (pc := 6) (tgt := 24) dX3_servesMachine_6 (by decide) rfl ?_
    refine g_aload_n h (pc := 24) dX3_servesMachine_24 0 rfl ?_
    refine g_get h (pc := 25) dX3_servesMachine_25 iX3_servesMachine_3 0 rfl rfl 6 (by decide) fX3_servesMachine_41 rfl ?_
    refine g_iload_n h (pc := 28) dX3_servesMachine_28 1 rfl ?_
    refine g_iload_n h (pc := 29) dX3_servesMachine_29 2 rfl ?_
    refine g_iconst h (pc := 30) (v := 0) dX3_servesMachine_30 (by decide) ?_
    refine g_aload_n h (pc := 31) dX3_servesMachine_31 0 rfl ?_
    refine g_get h (pc := 32) dX3_servesMachine_32 iX3_servesMachine_3 0 rfl rfl 8 (by decide) fX3_servesMachine_48 rfl ?_
    refine g_iconst h (pc := 35) (v := (-1)) dX3_servesMachine_35 (by decide) ?_
    refine g_aadd h hw (pc := 36) dX3_servesMachine_36 hR2 (by have h9 : d.2.1.length ≤ sz d := Nat.le_add_right _ _; omega) (nI s) (nI k) 0 (Z 14 0 2) (-1) gX3_servesMachine_X1_add ⟨Nat.le_of_ble_eq_true rfl, Nat.le_of_ble_eq_true rfl⟩ (Nat.le_of_ble_eq_true rfl) ⟨by show _ ≤ cp (machine Z d s k) - cp d; omega, by show _ ≤ 2 * (cp (machine Z d s k) - cp d); omega⟩ (fun u3 hR3 => ?_)
    refine g_iconst h (pc := 39) (v := 0) dX3_servesMachine_39 (by decide) ?_
    exact hret _ u3 dX3_servesMachine_40 (by decide) ⟨rfl, hR3⟩ rfl (by omega) (by omega)
  · have e1 : machine Z d s k = inc (dG d 7 s k (d.1 7 s k - 1)) 11 k := if_neg hg
    have mg : cp (machine Z d s k) = cp d := by rw [e1]; rfl
    have e2 : cp (dG d 7 s k (d.1 7 s k - 1)) = cp d := rfl
    rw [e1, if_neg hg] at hret
    refine g_callI h (pc := 3) (As := [.int (nI s), .int (nI k)]) (st := []) dX3_servesMachine_3 (c_take1 (gL C) (gD C) cI cO a u Z d hRC ns nk hz s k hs hk hg) hw gX3_servesMachine_X3_takesGood rfl (q0 := 0) rfl rfl (show nPar yX3_takesGood RX3 2 = true by decide +kernel) ⟨Nat.le_of_ble_eq_true rfl, Nat.le_of_ble_eq_true rfl⟩ rfl (Nat.le_of_ble_eq_true rfl) ⟨by show _ ≤ cp (machine Z d s k) - cp d; omega, by show _ ≤ 2 * (cp (machine Z d s k) - cp d); omega⟩ (fun r u2 hR2 => ?_)
    obtain ⟨rfl, hR2⟩ := hR2
    refine g_wid (k' := cp d - cp d) (n' := 2 * (cp d - cp d)) (by omega) (by omega) ?_
    refine g_if_eq_f h (pc := 6) (tgt := 24) dX3_servesMachine_6 (by decide) (by decide) ?_
    refine g_aload_n h (pc := 9) dX3_servesMachine_9 0 rfl ?_
    refine g_get h (pc := 10) dX3_servesMachine_10 iX3_servesMachine_3 0 rfl rfl 0 (by decide) fX3_servesMachine_10 rfl ?_
    refine g_get h (pc := 13) dX3_servesMachine_13 iX3_servesMachine_0 1 rfl rfl 5 (by decide) fX3_servesMachine_145 rfl ?_
    refine g_iload_n h (pc := 16) dX3_servesMachine_16 2 rfl ?_
    refine g_dup2 h (pc := 17) dX3_servesMachine_17 rfl rfl ?_
    refine g_iald h (pc := 18) (v := (dG d 7 s k (d.1 7 s k - 1)).1 11 0 k) dX3_servesMachine_18 7 rfl (vp_in_nI (by omega) (by omega)) (by rw [nI_clamp (by omega)]) ?_
    refine g_iconst h (pc := 19) (v := 1) dX3_servesMachine_19 (by decide) ?_
    refine g_iadd h (pc := 20) dX3_servesMachine_20  ?_
    refine g_iast h hw (pc := 21) (ws' := cw cI cO a u2 Z (inc (dG d 7 s k (d.1 7 s k - 1)) 11 k)) dX3_servesMachine_21 7 rfl (vp_in_nI (by omega) (by omega)) (by rw [nI_clamp (by omega)]; rfl) ?_
    refine g_iconst h (pc := 22) (v := 1) dX3_servesMachine_22 (by decide) ?_
    exact hret _ u2 dX3_servesMachine_23 (by decide) ⟨rfl, hR2⟩ rfl (Nat.le_refl _) (Nat.le_refl _)
end
section
/-! what is in order of asks and dues; what a function adds to them; their weights -/
def Zx (ns nk t : Nat) (Z : Sg) : Prop := Zv ns nk Z ∧ (∀ x, 1 ≤ x → x < ns → ∃ w, 1 ≤ w ∧ w ≤ 20 ∧ Z 4 0 x = nI w) ∧ (∀ s k, s < 8 → k < 8 → ∃ m, m ≤ 30 ∧ Z 6 s k = nI m) ∧ (∀ k, k < nk → Z 2 0 k = -1 ∨ ∃ c, c < nk ∧ Z 2 0 k = nI c) ∧ (∀ k, k < nk → ∃ b, 1 ≤ b ∧ b ≤ 50 ∧ Z 1 0 k = nI b) ∧ t ≤ 5000 ∧ Z 14 0 2 = nI t
theorem Zx.v {ns nk t : Nat} {Z : Sg} (h : Zx ns nk t Z) : Zv ns nk Z := h.1
theorem Zx.way {ns nk t : Nat} {Z : Sg} (h : Zx ns nk t Z) {x : Nat} (h1 : 1 ≤ x) (h2 : x < ns) : ∃ w, 1 ≤ w ∧ w ≤ 20 ∧ Z 4 0 x = nI w := h.2.1 x h1 h2
theorem Zx.mend {ns nk t : Nat} {Z : Sg} (h : Zx ns nk t Z) {s k : Nat} (h1 : s < 8) (h2 : k < 8) : ∃ m, m ≤ 30 ∧ Z 6 s k = nI m := h.2.2.1 s k h1 h2
theorem Zx.core {ns nk t : Nat} {Z : Sg} (h : Zx ns nk t Z) {k : Nat} (h1 : k < nk) : Z 2 0 k = -1 ∨ ∃ c, c < nk ∧ Z 2 0 k = nI c := h.2.2.2.1 k h1
theorem Zx.buy {ns nk t : Nat} {Z : Sg} (h : Zx ns nk t Z) {k : Nat} (h1 : k < nk) : ∃ b, 1 ≤ b ∧ b ≤ 50 ∧ Z 1 0 k = nI b := h.2.2.2.2.1 k h1
theorem Zx.tt {ns nk t : Nat} {Z : Sg} (h : Zx ns nk t Z) : Z 14 0 2 = nI t := h.2.2.2.2.2.2
theorem Zx.t5 {ns nk t : Nat} {Z : Sg} (h : Zx ns nk t Z) : t ≤ 5000 := h.2.2.2.2.2.1
theorem Zx.mnz {ns nk t : Nat} {Z : Sg} (h : Zx ns nk t Z) {s k : Nat} (h1 : s < 8) (h2 : k < 8) (h3 : Z 6 s k ≠ 0) : ∃ m, 1 ≤ m ∧ m ≤ 30 ∧ Z 6 s k = nI m := by
  obtain ⟨m, hm, e⟩ := h.mend h1 h2
  refine ⟨m, ?_, hm, e⟩
  rcases Nat.eq_zero_or_pos m with h0 | h0
  · subst h0
    exact absurd (e.trans nI_0) h3
  · exact h0
def okA (ns nk : Nat) (Z : Sg) (e : E5) : Prop := ∃ s k : Nat, s < ns ∧ k < nk ∧ col 0 e = nI s ∧ col 1 e = nI k ∧ ((col 2 e = 0 ∧ col 4 e = -1) ∨ (col 2 e = 1 ∧ ∃ c, 1 ≤ c ∧ c < ns ∧ col 4 e = nI c) ∨ (col 2 e = 2 ∧ ∃ c, c < nk ∧ col 4 e = nI c ∧ Z 6 s c ≠ 0))
def okU (ns nk : Nat) (Z : Sg) (tau : Nat) (e : E5) : Prop := ∃ s k t : Nat, s < ns ∧ k < nk ∧ col 0 e = nI s ∧ col 1 e = nI k ∧ col 3 e = nI t ∧ tau ≤ t ∧ t < 10000 ∧ ((col 2 e = 0 ∨ col 2 e = 1 ∨ col 2 e = 2) ∨ (col 2 e = 3 ∧ (col 4 e = 0 ∨ (col 4 e = 1 ∧ ∃ c, c < nk ∧ Z 2 0 k = nI c))))
theorem okU.mono {ns nk : Nat} {Z : Sg} {a b : Nat} (h : a ≤ b) {e : E5} (he : okU ns nk Z b e) : okU ns nk Z a e := by
  obtain ⟨s, k, t, h1, h2, h3, h4, h5, h6, h7⟩ := he
  exact ⟨s, k, t, h1, h2, h3, h4, h5, Nat.le_trans h h6, h7⟩
def wA (e : E5) : Nat := if col 2 e = 2 then 9 else 1
def wU (e : E5) : Nat := if col 2 e = 3 ∧ col 4 e = 1 then 9 else 1
def smA (L : List E5) : Nat := (L.map wA).sum
def smU (L : List E5) : Nat := (L.map wU).sum
theorem smA_app (L M : List E5) : smA (L ++ M) = smA L + smA M := by unfold smA; rw [List.map_append, List.sum_append]
theorem smU_app (L M : List E5) : smU (L ++ M) = smU L + smU M := by unfold smU; rw [List.map_append, List.sum_append]
theorem smA_1 (e : E5) : smA [e] = wA e := by simp [smA]
theorem smU_1 (e : E5) : smU [e] = wU e := by simp [smU]
theorem wA_pos (e : E5) : 1 ≤ wA e := by unfold wA; split <;> omega
theorem wU_pos (e : E5) : 1 ≤ wU e := by unfold wU; split <;> omega
theorem wA_9 (e : E5) : wA e ≤ 9 := by unfold wA; split <;> omega
theorem wU_9 (e : E5) : wU e ≤ 9 := by unfold wU; split <;> omega
theorem smA_len : ∀ L : List E5, L.length ≤ smA L
  | [] => Nat.zero_le _
  | e :: L => by
    have h1 := smA_len L
    have h2 := wA_pos e
    show L.length + 1 ≤ ((e :: L).map wA).sum
    rw [List.map_cons, List.sum_cons]
    unfold smA at h1
    omega
theorem smU_len : ∀ L : List E5, L.length ≤ smU L
  | [] => Nat.zero_le _
  | e :: L => by
    have h1 := smU_len L
    have h2 := wU_pos e
    show L.length + 1 ≤ ((e :: L).map wU).sum
    rw [List.map_cons, List.sum_cons]
    unfold smU at h1
    omega
theorem smA_9 : ∀ L : List E5, smA L ≤ 9 * L.length
  | [] => Nat.zero_le _
  | e :: L => by
    have h1 := smA_9 L
    have h2 := wA_9 e
    show ((e :: L).map wA).sum ≤ 9 * (L.length + 1)
    rw [List.map_cons, List.sum_cons]
    unfold smA at h1
    omega
theorem smU_9 : ∀ L : List E5, smU L ≤ 9 * L.length
  | [] => Nat.zero_le _
  | e :: L => by
    have h1 := smU_9 L
    have h2 := wU_9 e
    show ((e :: L).map wU).sum ≤ 9 * (L.length + 1)
    rw [List.map_cons, List.sum_cons]
    unfold smU at h1
    omega
theorem smA_era : ∀ (L : List E5) (i : Nat) (e : E5), L[i]? = some e → smA (L.eraseIdx i) + wA e = smA L
  | [], i, e, h => by simp at h
  | x :: L, 0, e, h => by
    cases h
    show (L.map wA).sum + wA x = ((x :: L).map wA).sum
    rw [List.map_cons, List.sum_cons]
    omega
  | x :: L, i + 1, e, h => by
    have h1 := smA_era L i e (by simpa using h)
    rw [List.eraseIdx_cons_succ]
    unfold smA at h1 ⊢
    rw [List.map_cons, List.sum_cons, List.map_cons, List.sum_cons]
    omega
theorem smU_era : ∀ (L : List E5) (i : Nat) (e : E5), L[i]? = some e → smU (L.eraseIdx i) + wU e = smU L
  | [], i, e, h => by simp at h
  | x :: L, 0, e, h => by
    cases h
    show (L.map wU).sum + wU x = ((x :: L).map wU).sum
    rw [List.map_cons, List.sum_cons]
    omega
  | x :: L, i + 1, e, h => by
    have h1 := smU_era L i e (by simpa using h)
    rw [List.eraseIdx_cons_succ]
    unfold smU at h1 ⊢
    rw [List.map_cons, List.sum_cons, List.map_cons, List.sum_cons]
    omega
def Ph (d : Dy) : Nat := smA d.2.1 + smU d.2.2.1
theorem Ph_sz (d : Dy) : sz d ≤ Ph d := Nat.add_le_add (smA_len _) (smU_len _)
/-- d2 is d with asks and dues more, all in order and later than t, of weight c at most; goods that were numbers up to B are so -/
def Gr (ns nk t : Nat) (Z : Sg) (c : Nat) (d d2 : Dy) : Prop := ∃ NA NU : List E5, d2.2.1 = d.2.1 ++ NA ∧ d2.2.2.1 = d.2.2.1 ++ NU ∧ (∀ e ∈ NA, okA ns nk Z e) ∧ (∀ e ∈ NU, okU ns nk Z (t + 1) e) ∧ smA NA + smU NU ≤ c
theorem Gr.rf {ns nk t : Nat} {Z : Sg} {d d2 : Dy} (h : d2.2 = d.2) : Gr ns nk t Z 0 d d2 := ⟨[], [], by rw [h, List.append_nil], by rw [h, List.append_nil], fun e he => absurd he List.not_mem_nil, fun e he => absurd he List.not_mem_nil, Nat.le_refl _⟩
theorem Gr.tr {ns nk t : Nat} {Z : Sg} {c c2 : Nat} {d d1 d2 : Dy} (h : Gr ns nk t Z c d d1) (h2 : Gr ns nk t Z c2 d1 d2) : Gr ns nk t Z (c + c2) d d2 := by
  obtain ⟨NA, NU, a1, a2, a3, a4, a5⟩ := h
  obtain ⟨MA, MU, b1, b2, b3, b4, b5⟩ := h2
  refine ⟨NA ++ MA, NU ++ MU, by rw [b1, a1, List.append_assoc], by rw [b2, a2, List.append_assoc], fun e he => ?_, fun e he => ?_, by rw [smA_app, smU_app]; omega⟩
  · rcases List.mem_append.mp he with h | h
    · exact a3 e h
    · exact b3 e h
  · rcases List.mem_append.mp he with h | h
    · exact a4 e h
    · exact b4 e h
theorem Gr.le {ns nk t : Nat} {Z : Sg} {c c2 : Nat} {d d2 : Dy} (h : Gr ns nk t Z c d d2) (hc : c ≤ c2) : Gr ns nk t Z c2 d d2 := by
  obtain ⟨NA, NU, a1, a2, a3, a4, a5⟩ := h
  exact ⟨NA, NU, a1, a2, a3, a4, Nat.le_trans a5 hc⟩
theorem Gr.ph {ns nk t : Nat} {Z : Sg} {c : Nat} {d d2 : Dy} (h : Gr ns nk t Z c d d2) : Ph d2 ≤ Ph d + c := by
  obtain ⟨NA, NU, a1, a2, a3, a4, a5⟩ := h
  unfold Ph
  rw [a1, a2, smA_app, smU_app]
  omega
theorem Gr.cg {ns nk t : Nat} {Z : Sg} {c : Nat} {d d1 d2 : Dy} (h : Gr ns nk t Z c d1 d2) (e : d1.2 = d.2) : Gr ns nk t Z c d d2 := by
  have h1 : Gr ns nk t Z (0 + c) d d2 := (Gr.rf e).tr h
  rwa [Nat.zero_add] at h1
def Dv (ns nk : Nat) (Z : Sg) (tau : Nat) (d : Dy) : Prop := (∀ e ∈ d.2.1, okA ns nk Z e) ∧ ∀ e ∈ d.2.2.1, okU ns nk Z tau e
theorem Gr.dv {ns nk t tau : Nat} {Z : Sg} {c : Nat} {d d2 : Dy} (h : Gr ns nk t Z c d d2) (ht : tau ≤ t + 1) (hd : Dv ns nk Z tau d) : Dv ns nk Z tau d2 := by
  obtain ⟨NA, NU, a1, a2, a3, a4, a5⟩ := h
  refine ⟨fun e he => ?_, fun e he => ?_⟩
  · rw [a1] at he
    rcases List.mem_append.mp he with h | h
    · exact hd.1 e h
    · exact a3 e h
  · rw [a2] at he
    rcases List.mem_append.mp he with h | h
    · exact hd.2 e h
    · exact (a4 e h).mono ht
theorem Dv.xA {ns nk tau : Nat} {Z : Sg} {d : Dy} (h : Dv ns nk Z tau d) (i : Nat) : Dv ns nk Z tau (xA d i) := ⟨fun e he => h.1 e (List.mem_of_mem_eraseIdx he), h.2⟩
theorem Dv.xU {ns nk tau : Nat} {Z : Sg} {d : Dy} (h : Dv ns nk Z tau d) (i : Nat) : Dv ns nk Z tau (xU d i) := ⟨h.1, fun e he => h.2 e (List.mem_of_mem_eraseIdx he)⟩
theorem gr_dU {ns nk t : Nat} {Z : Sg} (d : Dy) (e : E5) (he : okU ns nk Z (t + 1) e) {c : Nat} (hc : wU e ≤ c) : Gr ns nk t Z c d (dU d e) := ⟨[], [e], (List.append_nil _).symm, rfl, fun x hx => absurd hx List.not_mem_nil, fun x hx => by rw [List.mem_singleton.mp hx]; exact he, by rw [smU_1]; show 0 + _ ≤ _; omega⟩
theorem gr_dA {ns nk t : Nat} {Z : Sg} (d : Dy) (e : E5) (he : okA ns nk Z e) {c : Nat} (hc : wA e ≤ c) : Gr ns nk t Z c d (dA d e) := ⟨[e], [], rfl, (List.append_nil _).symm, fun x hx => by rw [List.mem_singleton.mp hx]; exact he, fun x hx => absurd hx List.not_mem_nil, by rw [smA_1]; show _ + 0 ≤ _; omega⟩
theorem gr_due {ns nk t : Nat} {Z : Sg} (hz : Zx ns nk t Z) (d : Dy) (so : Int32) (s k : Nat) (how bh : Int32) (hs : s < ns) (hk : k < nk) {b : Nat} (hb : bh = nI b) (h1 : 1 ≤ b) (h2 : b ≤ 1000) (hso : (so = 0 ∨ so = 1 ∨ so = 2) ∨ (so = 3 ∧ (how = 0 ∨ (how = 1 ∧ ∃ c, c < nk ∧ Z 2 0 k = nI c)))) {c : Nat} (hc : (if so = 3 ∧ how = 1 then 9 else 1) ≤ c) : Gr ns nk t Z c d (due Z d so s k how bh) := by
  have ht := hz.t5
  exact gr_dU (Z := Z) d (nI s, nI k, so, Z 14 0 2 + bh, how) ⟨s, k, t + b, hs, hk, rfl, rfl, by show Z 14 0 2 + bh = _; rw [hz.tt, hb, nI_add], by omega, by omega, hso⟩ hc
theorem gr_down {ns nk t : Nat} {Z : Sg} (hz : Zx ns nk t Z) (d : Dy) (x k : Nat) (h1 : 1 ≤ x) (hx : x < ns) (hk : k < nk) : Gr ns nk t Z 1 d (down Z d x k) := by
  obtain ⟨w, a1, a2, a3⟩ := hz.way h1 hx
  exact gr_due hz d 0 x k 0 _ hx hk a3 a1 (by omega) (Or.inl (Or.inl rfl)) (by decide)
theorem gr_begins {ns nk t : Nat} {Z : Sg} (hz : Zx ns nk t Z) (d : Dy) (s k : Nat) (hs : s < ns) (hk : k < nk) (hm : Z 6 s k ≠ 0) : Gr ns nk t Z 1 d (begins Z d s k) := by
  have hn := hz.v.n8
  have hn2 := hz.v.k8
  obtain ⟨m, a1, a2, a3⟩ := hz.mnz (show s < 8 by omega) (show k < 8 by omega) hm
  exact gr_due hz d 1 s k 0 _ hs hk a3 a1 (by omega) (Or.inl (Or.inr (Or.inl rfl))) (by decide)
theorem wy_nI {ns nk t : Nat} {Z : Sg} (hz : Zx ns nk t Z) {e : Nat} : ∀ (n x a : Nat), x < ns → rch Z e n x → ∃ b, wy Z e n x (nI a) = nI (a + b) ∧ b ≤ 20 * n ∧ (x ≠ e → 1 ≤ b)
  | 0, x, a, _, hr => ⟨0, rfl, Nat.le_refl _, fun h => absurd hr h⟩
  | n + 1, x, a, hx, hr => by
    rw [wy]
    by_cases he : x = e
    · rw [if_pos he]
      exact ⟨0, rfl, Nat.zero_le _, fun h => absurd he h⟩
    · rw [if_neg he]
      rw [rch] at hr
      obtain ⟨h1, hr⟩ := hr.resolve_left he
      obtain ⟨w, a1, a2, a3⟩ := hz.way h1 hx
      have h2 := hz.v.lt h1 hx
      obtain ⟨b, b1, b2, -⟩ := wy_nI hz n (upx Z x) (a + w) (by omega) hr
      rw [a3, nI_add, b1]
      exact ⟨w + b, by rw [Nat.add_assoc], by omega, fun _ => by omega⟩
theorem gr_sets {ns nk t : Nat} {Z : Sg} (hz : Zx ns nk t Z) (d : Dy) (s k e : Nat) (how : Int32) (hs : s < ns) (hk : k < nk) (hr : rch Z e 8 s) (hne : s ≠ e) (hh : how = 0 ∨ (how = 1 ∧ ∃ c, c < nk ∧ Z 2 0 k = nI c)) {c : Nat} (hc : (if how = 1 then 9 else 1) ≤ c) : Gr ns nk t Z c d (sets Z d s k e how) := by
  obtain ⟨b, b1, b2, b3⟩ := wy_nI hz 8 s 0 hs hr
  rw [nI_0, Nat.zero_add] at b1
  have hle := rch_le hz.v 8 s hs hr
  exact gr_due hz d 3 e k how _ (by omega) hk b1 (b3 hne) (by omega) (Or.inr ⟨rfl, hh⟩) (by
    refine Nat.le_trans (Nat.le_of_eq ?_) hc
    by_cases h1 : how = 1
    · rw [if_pos ⟨rfl, h1⟩, if_pos h1]
    · rw [if_neg (fun q => h1 q.2), if_neg h1])
theorem gr_up1 {ns nk t : Nat} {Z : Sg} (hz : Zx ns nk t Z) (d : Dy) (x k : Nat) (h1 : 1 ≤ x) (hx : x < ns) (hk : k < nk) : Gr ns nk t Z 1 d (up1 Z d x k) := by
  have h2 := hz.v.lt h1 hx
  unfold up1
  split
  · exact gr_dA d _ ⟨upx Z x, k, by omega, hk, rfl, rfl, Or.inr (Or.inl ⟨rfl, x, h1, hx, rfl⟩)⟩ (show (if (1 : Int32) = 2 then 9 else 1) ≤ 1 by decide)
  · exact (gr_down hz (dG d 7 (upx Z x) k (d.1 7 (upx Z x) k - 1)) x k h1 hx hk).cg rfl
theorem gr_ups {ns nk t : Nat} {Z : Sg} (hz : Zx ns nk t Z) (k e : Nat) (hk : k < nk) : ∀ (n x : Nat) (d : Dy), x < ns → rch Z e n x → Gr ns nk t Z x d (ups Z k e n x d)
  | 0, x, d, _, _ => (Gr.rf rfl).le (Nat.zero_le _)
  | n + 1, x, d, hx, hr => by
    rw [ups]
    split
    · exact (Gr.rf rfl).le (Nat.zero_le _)
    · rename_i hne
      rw [rch] at hr
      obtain ⟨h1, hr⟩ := hr.resolve_left hne
      have h2 := hz.v.lt h1 hx
      exact ((gr_up1 hz d x k h1 hx hk).tr (gr_ups hz k e hk n (upx Z x) _ (by omega) hr)).le (by omega)
theorem gr_backP {ns nk t : Nat} {Z : Sg} (hz : Zx ns nk t Z) (d : Dy) (s k : Nat) (hs : s < ns) (hk : k < nk) : Gr ns nk t Z 1 d (backP Z d s k) := by
  unfold backP
  split
  · rename_i h
    exact gr_begins hz d s k hs hk (by have h9 := mOf_nz hz.v hk hs; rwa [h] at h9)
  · rename_i h
    exact gr_sets hz d s k _ 0 hs hk (rch_mo hz.v hk 8 s hs) (fun q => h q.symm) (Or.inl rfl) (by decide)
theorem gr_serveM {ns nk t : Nat} {Z : Sg} (hz : Zx ns nk t Z) (d : Dy) (s c o : Nat) (hs : s < ns) (hk : c < nk) (ho : o < nk) (hm : Z 6 s o ≠ 0) : Gr ns nk t Z 9 d (serveM Z d s c o) := by
  have hn := hz.v.n8
  unfold serveM
  exact (((gr_backP hz (inc (inc d 12 c) 13 c) s c hs hk).cg rfl).tr ((gr_ups hz c (mOf Z c s) hk 8 s _ hs (rch_mo hz.v hk 8 s hs)).tr (gr_begins hz _ s o hs ho hm))).le (by omega)
theorem gr_arrC {ns nk t : Nat} {Z : Sg} (hz : Zx ns nk t Z) (d : Dy) (s k c : Nat) (hs : s < ns) (hk : k < nk) (hc : c < nk) (hm : Z 6 s k ≠ 0) : Gr ns nk t Z 9 d (arrC Z d s k c) := by
  unfold arrC
  split
  · exact gr_dA d _ ⟨s, c, hs, hc, rfl, rfl, Or.inr (Or.inr ⟨rfl, k, hk, rfl, hm⟩)⟩ (wA_9 _)
  · exact (gr_serveM hz (dG d 7 s c (d.1 7 s c - 1)) s c k hs hc hk hm).cg rfl
theorem gr_back {ns nk t : Nat} {Z : Sg} (hz : Zx ns nk t Z) (d : Dy) (s k : Nat) (how : Int32) (hs : s < ns) (hk : k < nk) (hh : how = 0 ∨ (how = 1 ∧ ∃ c, c < nk ∧ Z 2 0 k = nI c)) : Gr ns nk t Z (if how = 1 then 9 else 1) d (back Z d s k how) := by
  have hn := hz.v.k8
  unfold back
  by_cases h : mOf Z k s = s
  · rw [if_pos h]
    have hm : Z 6 s k ≠ 0 := by have h9 := mOf_nz hz.v hk hs; rwa [h] at h9
    rcases hh with rfl | ⟨rfl, c, hc, ec⟩
    · rw [if_pos (show (0 : Int32) = 0 from rfl), if_neg (show ¬ (0 : Int32) = 1 by decide)]
      exact gr_begins hz d s k hs hk hm
    · rw [if_neg (show ¬ (1 : Int32) = 0 by decide), if_pos (show (1 : Int32) = 1 from rfl), ec, nI_clamp (by omega)]
      exact gr_arrC hz d s k c hs hk hc hm
  · rw [if_neg h]
    exact gr_sets hz d s k _ how hs hk (rch_mo hz.v hk 8 s hs) (fun q => h q.symm) hh (Nat.le_refl _)
/-- the ask that is served: what it adds is no more than its weight, a machine's nothing -/
theorem gr_serve {ns nk t : Nat} {Z : Sg} (hz : Zx ns nk t Z) (d : Dy) (s k : Nat) (e : E5) (hs : s < ns) (hk : k < nk) (he : okA ns nk Z e) (h0 : col 0 e = nI s) : Gr ns nk t Z (wA e) d (serve Z d s k e) := by
  have hn := hz.v.n8
  have hn2 := hz.v.k8
  obtain ⟨s2, k2, a1, a2, a3, a4, a5⟩ := he
  have es : s2 = s := (nI_eq (by omega) (by omega)).mp (a3.symm.trans h0)
  subst es
  unfold serve wA
  rcases a5 with ⟨b1, b2⟩ | ⟨b1, c, c1, c2, c3⟩ | ⟨b1, c, c1, c2, c3⟩
  · rw [b1, if_pos (show (0 : Int32) = 0 from rfl)]
    exact (Gr.rf rfl).le (Nat.zero_le _)
  · rw [b1, if_neg (show ¬ (1 : Int32) = 2 by decide), if_neg (show ¬ (1 : Int32) = 0 by decide), if_pos (show (1 : Int32) = 1 from rfl), c3, nI_clamp (by omega)]
    exact gr_down hz d c k c1 c2 hk
  · rw [b1, if_pos (show (2 : Int32) = 2 from rfl), if_neg (show ¬ (2 : Int32) = 0 by decide), if_neg (show ¬ (2 : Int32) = 1 by decide), c2, nI_clamp (by omega)]
    exact gr_serveM hz d s2 k c hs hk c1 c3
theorem fst2_some {s k : Nat} {L : List E5} {e : E5} (h : L[fst2 s k L]? = some e) : col 0 e = nI s ∧ col 1 e = nI k := by
  have h1 := List.getElem?_eq_some_iff.mp h
  obtain ⟨h2, h3⟩ := h1
  have h4 := List.findIdx_getElem (w := h2)
  rw [← h3]
  exact of_decide_eq_true h4
/-- landing: the weight does not grow; all stays in order -/
theorem lands_ok {ns nk t tau : Nat} {Z : Sg} (hz : Zx ns nk t Z) (d : Dy) (s k : Nat) (hs : s < ns) (hk : k < nk) (ht : tau ≤ t + 1) (hd : Dv ns nk Z tau d) : Ph (lands Z d s k) ≤ Ph d ∧ Dv ns nk Z tau (lands Z d s k) ∧ ∃ NU, (lands Z d s k).2.2.1 = d.2.2.1 ++ NU ∧ ∀ e ∈ NU, okU ns nk Z (t + 1) e := by
  unfold lands
  split
  · exact ⟨Nat.le_refl _, hd, [], (List.append_nil _).symm, fun e he => absurd he List.not_mem_nil⟩
  · rename_i e he
    have hA := hd.1 e (List.mem_of_getElem? he)
    have g := gr_serve hz (xA d (fst2 s k d.2.1)) s k e hs hk hA (fst2_some he).1
    refine ⟨?_, g.dv ht (hd.xA _), ?_⟩
    · have h1 := g.ph
      have h2 := smA_era d.2.1 _ e he
      have h3 : Ph (xA d (fst2 s k d.2.1)) = smA (d.2.1.eraseIdx (fst2 s k d.2.1)) + smU d.2.2.1 := rfl
      have h4 : Ph d = smA d.2.1 + smU d.2.2.1 := rfl
      omega
    · obtain ⟨NA, NU, -, b2, -, b4, -⟩ := g
      exact ⟨NU, b2, b4⟩
theorem does_ok {ns nk t tau : Nat} {Z : Sg} (hz : Zx ns nk t Z) (d : Dy) (i : Nat) (e : E5) (hi : d.2.2.1[i]? = some e) (ht : tau ≤ t + 1) (hd : Dv ns nk Z tau d) : Ph (does Z d i e) ≤ Ph d ∧ Dv ns nk Z tau (does Z d i e) ∧ ∃ NU, (does Z d i e).2.2.1 = d.2.2.1.eraseIdx i ++ NU ∧ ∀ e ∈ NU, okU ns nk Z (t + 1) e := by
  have hn := hz.v.n8
  have hn2 := hz.v.k8
  have hU := hd.2 e (List.mem_of_getElem? hi)
  have h2 := smU_era d.2.2.1 _ e hi
  have h3 : Ph (xU d i) = smA d.2.1 + smU (d.2.2.1.eraseIdx i) := rfl
  have h4 : Ph d = smA d.2.1 + smU d.2.2.1 := rfl
  have h5 := wU_pos e
  obtain ⟨s, k, t2, a1, a2, a3, a4, a5, a6, a7, a8⟩ := hU
  unfold does
  rw [a3, a4, nI_clamp (by omega), nI_clamp (by omega)]
  rcases a8 with b | ⟨b, hh⟩
  · rw [if_neg (by rcases b with b | b | b <;> rw [b] <;> decide)]
    obtain ⟨c1, c2, c3⟩ := lands_ok hz (xU d i) s k a1 a2 ht (hd.xU i)
    exact ⟨by omega, c2, c3⟩
  · rw [if_pos b]
    have g := gr_back hz (xU d i) s k (col 4 e) a1 a2 hh
    have h6 := g.ph
    refine ⟨?_, g.dv ht (hd.xU i), ?_⟩
    · have h7 : wU e = if col 4 e = 1 then 9 else 1 := by
        unfold wU
        by_cases h8 : col 4 e = 1
        · rw [if_pos ⟨b, h8⟩, if_pos h8]
        · rw [if_neg (fun q => h8 q.2), if_neg h8]
      omega
    · obtain ⟨NA, NU, -, b2, -, b4, -⟩ := g
      exact ⟨NU, b2, b4⟩
end
section
theorem fnd_0 (p : E5 → Bool) : ∀ (L : List E5) (i : Nat), fnd p L 0 i = if L.findIdx p < L.length then nI (i + L.findIdx p) else -1
  | [], i => by
    rw [fnd, if_neg (by simp)]
  | e :: r, i => by
    rw [fnd, List.findIdx_cons]
    cases hp : p e with
    | true =>
      rw [if_pos rfl, if_pos rfl, if_pos (by simp)]
      rfl
    | false =>
      show (if (false = true) then _ else fnd p r 0 (i + 1)) = if (r.findIdx p + 1 < r.length + 1) then nI (i + (r.findIdx p + 1)) else -1
      rw [if_neg (by simp), fnd_0 p r (i + 1)]
      by_cases h : r.findIdx p < r.length
      · rw [if_pos h, if_pos (by omega)]
        congr 1
        omega
      · rw [if_neg h, if_neg (by omega)]
theorem fit2 (s k : Nat) (hs : s < 2 ^ 31) (hk : k < 2 ^ 31) : fitB (nI s) (nI k) (-1) (-1) = fun e => decide (col 0 e = nI s ∧ col 1 e = nI k) := by
  funext e
  unfold fitB
  apply decide_eq_decide.mpr
  constructor
  · intro h
    exact ⟨h.1.resolve_left (nI_nm1 hs), h.2.1.resolve_left (nI_nm1 hk)⟩
  · intro h
    exact ⟨Or.inr h.1, Or.inr h.2, Or.inl rfl, Or.inl rfl⟩
theorem find2 (s k : Nat) (hs : s < 2 ^ 31) (hk : k < 2 ^ 31) (L : List E5) : fnd (fitB (nI s) (nI k) (-1) (-1)) L 0 0 = if fst2 s k L < L.length then nI (fst2 s k L) else -1 := by
  rw [fnd_0, fit2 s k hs hk]
  unfold fst2
  rw [Nat.zero_add]

theorem iX3_lands_3 : ∀ w ∈ wsX30, w ∈ wsX3_lands := by decide +kernel
theorem fX3_lands_41 : Cond.fieldLink RX3 41 "SpareShelves" "asks" "LSpareShelves$Line;" ∈ wsX3_lands := by decide +kernel
theorem fX3_lands_25 : Cond.fieldLink RX3 25 "SpareShelves" "good" "[[I" ∈ wsX3_lands := by decide +kernel
theorem fX3_lands_10 : Cond.fieldLink RX3 10 "SpareShelves" "kinds" "LSpareShelves$Kinds;" ∈ wsX3_lands := by decide +kernel
theorem iX3_lands_0 : ∀ w ∈ wsX00, w ∈ wsX3_lands := by decide +kernel
theorem fX3_lands_145 : Cond.fieldLink RX3 145 "SpareShelves$Kinds" "machinesTook" "[I" ∈ wsX3_lands := by decide +kernel
set_option maxHeartbeats 4000000 in
set_option maxRecDepth 100000 in
theorem c_lands (l : Launch) (D : va_G) (cI cO : ClassId) (a : Nat → Nat) (u : UX) (Z : Sg) (d : Dy) (hRC : RC d u) (ns nk : Nat) (hz : Zv ns nk Z) (hsz : sz d ≤ 44000) (hA : ∀ e ∈ d.2.1, okA ns nk Z e) (s k : Nat) (hs : s < ns) (hk : k < nk) : CVc l yX3_lands wsX3_lands 6 220 D cI cO a u Z d [.int (nI s), .int (nI k)] Z (lands Z d s k) := by
  unfold CVc
  refine CV.of (cc := cX3_lands) (maxL := 6) (by decide) rfl (Nat.le_of_ble_eq_true rfl) ?_
  intro C hgL hgD hw h hret
  have hn8 := hz.n8
  have hk8 := hz.k8
  have mf : cp d ≤ cp (lands Z d s k) := cpl_lands Z d s k
  have hl9 : d.2.1.length ≤ sz d := Nat.le_add_right _ _
  refine g_aload_n h (pc := 0) dX3_lands_0 0 rfl ?_
  refine g_get h (pc := 1) dX3_lands_1 iX3_lands_3 0 rfl rfl 6 (by decide) fX3_lands_41 rfl ?_
  refine g_iload_n h (pc := 4) dX3_lands_4 1 rfl ?_
  refine g_iload_n h (pc := 5) dX3_lands_5 2 rfl ?_
  refine g_iconst h (pc := 6) (v := (-1)) dX3_lands_6 (by decide) ?_
  refine g_iconst h (pc := 7) (v := 0) dX3_lands_7 (by decide) ?_
  refine g_callR h (pc := 8) (As := [.int (nI s), .int (nI k), .int (-1), .int 0]) (st := []) dX3_lands_8 (c_find (gL C) (gD C) cI cO (lb (a 42) u.1) d.2.2.2.1 u.2.2.2.1 d.2.1 hRC.1 (nI s) (nI k) (-1) 0) [42, 43] rfl (by decide) gX3_lands_X1_find rfl (q0 := 0) rfl rfl (show nPar yX1_find RX1 4 = true by decide +kernel) ⟨Nat.le_of_ble_eq_true rfl, Nat.le_of_ble_eq_true rfl⟩ rfl (Nat.le_of_ble_eq_true rfl) ⟨Nat.zero_le _, Nat.zero_le _⟩ (fun r hr => ?_)
  subst hr
  rw [find2 s k (by omega) (by omega)]
  cases hf : d.2.1[fst2 s k d.2.1]? with
  | none =>
    have e1 : lands Z d s k = dG d 7 s k (d.1 7 s k + 1) := by unfold lands; rw [hf]
    rw [e1] at hret
    rw [if_neg (Nat.not_lt.mpr (List.getElem?_eq_none_iff.mp hf))]
    refine g_istore_n h (pc := 11) dX3_lands_11 (by decide) rfl ?_
    refine g_iload_n h (pc := 12) dX3_lands_12 3 rfl ?_
    refine g_iconst h (pc := 13) (v := (-1)) dX3_lands_13 (by decide) ?_
    refine g_icmp_ne_f h (pc := 14) (tgt := 30) dX3_lands_14 (by decide) rfl ?_
    refine g_aload_n h (pc := 17) dX3_lands_17 0 rfl ?_
    refine g_get h (pc := 18) dX3_lands_18 iX3_lands_3 0 rfl rfl 2 (by decide) fX3_lands_25 rfl ?_
    refine g_iload_n h (pc := 21) dX3_lands_21 1 rfl ?_
    refine g_aald h (pc := 22) (v := a (23 + s)) dX3_lands_22 22 rfl (vp_in_nI (by omega) (by omega)) (by rw [nI_clamp (by omega)]) ?_
    refine g_iload_n h (pc := 23) dX3_lands_23 2 rfl ?_
    refine g_dup2 h (pc := 24) dX3_lands_24 rfl rfl ?_
    refine g_iald h (pc := 25) (v := d.1 7 s k) dX3_lands_25 (23 + s) (cw_g cI cO a u Z d (by omega)) (vp_in_nI (by omega) (by omega)) (by rw [nI_clamp (by omega)]) ?_
    refine g_iconst h (pc := 26) (v := 1) dX3_lands_26 (by decide) ?_
    refine g_iadd h (pc := 27) dX3_lands_27  ?_
    refine g_iast h hw (pc := 28) (ws' := cw cI cO a u Z (dG d 7 s k (d.1 7 s k + 1))) dX3_lands_28 (23 + s) (cw_g cI cO a u Z d (by omega)) (vp_in_nI (by omega) (by omega)) (by rw [nI_clamp (by omega)]; exact cw_gs cI cO a u Z d (by omega) k _) ?_
    exact hret u dX3_lands_29 hRC rfl (Nat.zero_le _) (Nat.zero_le _)
  | some e =>
    obtain ⟨i, hi⟩ : ∃ i, i = fst2 s k d.2.1 := ⟨_, rfl⟩
    rw [← hi] at hf ⊢
    have hlt : i < d.2.1.length := (List.getElem?_eq_some_iff.mp hf).1
    have e1 : lands Z d s k = serve Z (xA d i) s k e := by unfold lands; rw [← hi, hf]
    have hok := hA e (List.mem_of_getElem? hf)
    have h0 := (fst2_some (by rw [← hi]; exact hf)).1
    obtain ⟨s2, k2, a1, a2, a3, a4, a5⟩ := hok
    have es : s2 = s := (nI_eq (by omega) (by omega)).mp (a3.symm.trans h0)
    subst es
    have ec : cp (xA d i) = cp d := rfl
    have ez := sz_xA d i
    rw [if_pos hlt]
    refine g_istore_n h (pc := 11) dX3_lands_11 (by decide) rfl ?_
    refine g_iload_n h (pc := 12) dX3_lands_12 3 rfl ?_
    refine g_iconst h (pc := 13) (v := (-1)) dX3_lands_13 (by decide) ?_
    refine g_icmp_ne_t h (pc := 14) (tgt := 30) dX3_lands_14 (by decide) (nI_nm1 (by omega)) ?_
    refine g_aload_n h (pc := 30) dX3_lands_30 0 rfl ?_
    refine g_get h (pc := 31) dX3_lands_31 iX3_lands_3 0 rfl rfl 6 (by decide) fX3_lands_41 rfl ?_
    refine g_iload_n h (pc := 34) dX3_lands_34 3 rfl ?_
    refine g_iconst h (pc := 35) (v := 2) dX3_lands_35 (by decide) ?_
    refine g_callR h (pc := 36) (As := [.int (nI i), .int 2]) (st := []) dX3_lands_36 (c_read (gL C) (gD C) cI cO (lb (a 42) u.1) d.2.2.2.1 u.2.2.2.1 d.2.1 hRC.1 i e hf 2 (by decide) _ 2 rfl rfl) [42, 43] rfl (by decide) gX3_lands_X1_read rfl (q0 := 0) rfl rfl (show nPar yX1_read RX1 2 = true by decide +kernel) ⟨Nat.le_of_ble_eq_true rfl, Nat.le_of_ble_eq_true rfl⟩ rfl (Nat.le_of_ble_eq_true rfl) ⟨Nat.zero_le _, Nat.zero_le _⟩ (fun r1 hr1 => ?_)
    subst hr1
    refine g_istore h (pc := 39) dX3_lands_39 (by decide) rfl ?_
    refine g_aload_n h (pc := 41) dX3_lands_41 0 rfl ?_
    refine g_get h (pc := 42) dX3_lands_42 iX3_lands_3 0 rfl rfl 6 (by decide) fX3_lands_41 rfl ?_
    refine g_iload_n h (pc := 45) dX3_lands_45 3 rfl ?_
    refine g_iconst h (pc := 46) (v := 4) dX3_lands_46 (by decide) ?_
    refine g_callR h (pc := 47) (As := [.int (nI i), .int 4]) (st := []) dX3_lands_47 (c_read (gL C) (gD C) cI cO (lb (a 42) u.1) d.2.2.2.1 u.2.2.2.1 d.2.1 hRC.1 i e hf 4 (by decide) _ 4 rfl rfl) [42, 43] rfl (by decide) gX3_lands_X1_read rfl (q0 := 0) rfl rfl (show nPar yX1_read RX1 2 = true by decide +kernel) ⟨Nat.le_of_ble_eq_true rfl, Nat.le_of_ble_eq_true rfl⟩ rfl (Nat.le_of_ble_eq_true rfl) ⟨Nat.zero_le _, Nat.zero_le _⟩ (fun r2 hr2 => ?_)
    subst hr2
    refine g_istore h (pc := 50) dX3_lands_50 (by decide) rfl ?_
    refine g_aload_n h (pc := 52) dX3_lands_52 0 rfl ?_
    refine g_get h (pc := 53) dX3_lands_53 iX3_lands_3 0 rfl rfl 6 (by decide) fX3_lands_41 rfl ?_
    refine g_iload_n h (pc := 56) dX3_lands_56 3 rfl ?_
    refine g_adrop h hw (pc := 57) dX3_lands_57 hRC i hlt gX3_lands_X1_drop ⟨Nat.le_of_ble_eq_true rfl, Nat.le_of_ble_eq_true rfl⟩ (Nat.le_of_ble_eq_true rfl) ⟨Nat.zero_le _, Nat.zero_le _⟩ (fun u2 hR2 => ?_)
    refine g_iload h (pc := 60) dX3_lands_60 4 rfl ?_
    rcases a5 with ⟨b1, b2⟩ | ⟨b1, c, c1, c2, c3⟩ | ⟨b1, c, c1, c2, c3⟩
    · have e2 : lands Z d s2 k = inc (xA d i) 11 k := by rw [e1]; unfold serve; rw [if_pos b1]
      rw [e2] at hret
      refine g_if_ne_f h (pc := 62) (tgt := 81) dX3_lands_62 (by decide) b1 ?_
      refine g_aload_n h (pc := 65) dX3_lands_65 0 rfl ?_
      refine g_get h (pc := 66) dX3_lands_66 iX3_lands_3 0 rfl rfl 0 (by decide) fX3_lands_10 rfl ?_
      refine g_get h (pc := 69) dX3_lands_69 iX3_lands_0 1 rfl rfl 5 (by decide) fX3_lands_145 rfl ?_
      refine g_iload_n h (pc := 72) dX3_lands_72 2 rfl ?_
      refine g_dup2 h (pc := 73) dX3_lands_73 rfl rfl ?_
      refine g_iald h (pc := 74) (v := (xA d i).1 11 0 k) dX3_lands_74 7 rfl (vp_in_nI (by omega) (by omega)) (by rw [nI_clamp (by omega)]) ?_
      refine g_iconst h (pc := 75) (v := 1) dX3_lands_75 (by decide) ?_
      refine g_iadd h (pc := 76) dX3_lands_76  ?_
      refine g_iast h hw (pc := 77) (ws' := cw cI cO a u2 Z (inc (xA d i) 11 k)) dX3_lands_77 7 rfl (vp_in_nI (by omega) (by omega)) (by rw [nI_clamp (by omega)]; rfl) ?_
      refine g_goto h (pc := 78) (tgt := 105) dX3_lands_78 (by decide) ?_
      exact hret u2 dX3_lands_105 hR2 rfl (Nat.zero_le _) (Nat.zero_le _)
    · have e2 : lands Z d s2 k = down Z (xA d i) c k := by rw [e1]; unfold serve; rw [b1, if_neg (show ¬ (1 : Int32) = 0 by decide), if_pos (show (1 : Int32) = 1 from rfl), c3, nI_clamp (by omega)]
      have mg : cp (lands Z d s2 k) = cp (down Z (xA d i) c k) := by rw [e2]
      rw [e2] at hret
      rw [b1, c3]
      refine g_if_ne_t h (pc := 62) (tgt := 81) dX3_lands_62 (by decide) (by decide) ?_
      refine g_iload h (pc := 81) dX3_lands_81 4 rfl ?_
      refine g_iconst h (pc := 83) (v := 1) dX3_lands_83 (by decide) ?_
      refine g_icmp_ne_f h (pc := 84) (tgt := 97) dX3_lands_84 (by decide) rfl ?_
      refine g_aload_n h (pc := 87) dX3_lands_87 0 rfl ?_
      refine g_iload h (pc := 88) dX3_lands_88 5 rfl ?_
      refine g_iload_n h (pc := 90) dX3_lands_90 2 rfl ?_
      refine g_callV h (pc := 91) (As := [.int (nI c), .int (nI k)]) (st := []) dX3_lands_91 (c_down (gL C) (gD C) cI cO a u2 Z _ hR2 ns nk hz (by omega) c k c2 hk) hw gX3_lands_X3_goesDown rfl (q0 := 0) rfl rfl (show nPar yX3_goesDown RX3 2 = true by decide +kernel) ⟨Nat.le_of_ble_eq_true rfl, Nat.le_of_ble_eq_true rfl⟩ rfl (Nat.le_of_ble_eq_true rfl) ⟨by show _ ≤ cp (lands Z d s2 k) - cp d; omega, by show _ ≤ 2 * (cp (lands Z d s2 k) - cp d); omega⟩ (fun u3 hR3 => ?_)
      refine g_goto h (pc := 94) (tgt := 105) dX3_lands_94 (by decide) ?_
      exact hret u3 dX3_lands_105 hR3 rfl (by omega) (by omega)
    · have e2 : lands Z d s2 k = serveM Z (xA d i) s2 k c := by rw [e1]; unfold serve; rw [b1, if_neg (show ¬ (2 : Int32) = 0 by decide), if_neg (show ¬ (2 : Int32) = 1 by decide), c2, nI_clamp (by omega)]
      have mg : cp (lands Z d s2 k) = cp (serveM Z (xA d i) s2 k c) := by rw [e2]
      rw [e2] at hret
      rw [b1, c2]
      refine g_if_ne_t h (pc := 62) (tgt := 81) dX3_lands_62 (by decide) (by decide) ?_
      refine g_iload h (pc := 81) dX3_lands_81 4 rfl ?_
      refine g_iconst h (pc := 83) (v := 1) dX3_lands_83 (by decide) ?_
      refine g_icmp_ne_t h (pc := 84) (tgt := 97) dX3_lands_84 (by decide) (by decide) ?_
      refine g_aload_n h (pc := 97) dX3_lands_97 0 rfl ?_
      refine g_iload_n h (pc := 98) dX3_lands_98 1 rfl ?_
      refine g_iload_n h (pc := 99) dX3_lands_99 2 rfl ?_
      refine g_iload h (pc := 100) dX3_lands_100 5 rfl ?_
      refine g_callV h (pc := 102) (As := [.int (nI s2), .int (nI k), .int (nI c)]) (st := []) dX3_lands_102 (c_serveM (gL C) (gD C) cI cO a u2 Z _ hR2 ns nk hz (by omega) s2 k c hs hk c1) hw gX3_lands_X3_mendGetsCore rfl (q0 := 0) rfl rfl (show nPar yX3_mendGetsCore RX3 3 = true by decide +kernel) ⟨Nat.le_of_ble_eq_true rfl, Nat.le_of_ble_eq_true rfl⟩ rfl (Nat.le_of_ble_eq_true rfl) ⟨by show _ ≤ cp (lands Z d s2 k) - cp d; omega, by show _ ≤ 2 * (cp (lands Z d s2 k) - cp d); omega⟩ (fun u3 hR3 => ?_)
      exact hret u3 dX3_lands_105 hR3 rfl (by omega) (by omega)

theorem fstT_at {t : Int32} {L : List E5} {p : Nat} {e : E5} (hp : L[p]? = some e) (he : col 3 e = t) (hb : ∀ (i : Nat) (x : E5), i < p → L[i]? = some x → col 3 x ≠ t) : fstT t L = p := by
  obtain ⟨h1, h2⟩ := List.getElem?_eq_some_iff.mp hp
  unfold fstT
  rw [List.findIdx_eq h1]
  refine ⟨by rw [h2]; exact decide_eq_true he, fun j hj => ?_⟩
  exact decide_eq_false (hb j _ hj (List.getElem?_eq_getElem (by omega)))
theorem fstT_no {t : Int32} {L : List E5} (hb : ∀ (i : Nat) (x : E5), L[i]? = some x → col 3 x ≠ t) : L[fstT t L]? = none := by
  cases h : L[fstT t L]? with
  | none => rfl
  | some e =>
    obtain ⟨h2, h3⟩ := List.getElem?_eq_some_iff.mp h
    have h4 : decide (col 3 (L[fstT t L]'h2) = t) = true := List.findIdx_getElem (w := h2)
    rw [h3] at h4
    exact absurd (of_decide_eq_true h4) (hb _ e h)
theorem doAll_no {Z : Sg} {d : Dy} (h : d.2.2.1[fstT (Z 14 0 2) d.2.2.1]? = none) : ∀ n, doAll Z n d = d
  | 0 => rfl
  | n + 1 => by rw [doAll, h]
theorem doAll_so {Z : Sg} {d : Dy} {e : E5} {p : Nat} (hp : fstT (Z 14 0 2) d.2.2.1 = p) (h : d.2.2.1[p]? = some e) (n : Nat) : doAll Z (n + 1) d = doAll Z n (does Z d p e) := by
  rw [doAll, hp, h]
theorem cpl_does (Z : Sg) (d : Dy) (i : Nat) (e : E5) : cp d ≤ cp (does Z d i e) := by
  unfold does
  split
  · exact cpl_back Z (xU d i) _ _ _
  · exact cpl_lands Z (xU d i) _ _
theorem cpl_doAll (Z : Sg) : ∀ (n : Nat) (d : Dy), cp d ≤ cp (doAll Z n d)
  | 0, d => Nat.le_refl _
  | n + 1, d => by
    rw [doAll]
    split
    · exact Nat.le_refl _
    · exact Nat.le_trans (cpl_does Z d _ _) (cpl_doAll Z n _)
/-- at the place p, m dues still to look at: none ahead of p and none behind p + m is due now -/
def Jd (Z : Sg) (p m : Nat) (d : Dy) : Prop := p + m ≤ d.2.2.1.length ∧ (∀ (i : Nat) (x : E5), i < p → d.2.2.1[i]? = some x → col 3 x ≠ Z 14 0 2) ∧ ∀ (i : Nat) (x : E5), p + m ≤ i → d.2.2.1[i]? = some x → col 3 x ≠ Z 14 0 2
theorem Jd.skip {Z : Sg} {p m : Nat} {d : Dy} {e : E5} (h : Jd Z p (m + 1) d) (hp : d.2.2.1[p]? = some e) (he : col 3 e ≠ Z 14 0 2) : Jd Z (p + 1) m d := by
  obtain ⟨h1, h2, h3⟩ := h
  refine ⟨by omega, fun i x hi hx => ?_, fun i x hi hx => h3 i x (by omega) hx⟩
  by_cases q : i = p
  · subst q
    rw [hp] at hx
    cases hx
    exact he
  · exact h2 i x (by omega) hx
theorem late_ne {ns nk t : Nat} {Z : Sg} (hz : Zx ns nk t Z) {e : E5} (h : okU ns nk Z (t + 1) e) : col 3 e ≠ Z 14 0 2 := by
  obtain ⟨s, k, t2, -, -, -, -, h5, h6, h7, -⟩ := h
  have := hz.t5
  rw [h5, hz.tt]
  exact fun q => absurd ((nI_eq (by omega) (by omega)).mp q) (by omega)
theorem Jd.did {ns nk t : Nat} {Z : Sg} (hz : Zx ns nk t Z) {p m : Nat} {d : Dy} {e : E5} (h : Jd Z p (m + 1) d) (hp : d.2.2.1[p]? = some e) (hd : Dv ns nk Z t d) : Jd Z p m (does Z d p e) := by
  obtain ⟨h1, h2, h3⟩ := h
  obtain ⟨-, -, NU, hU, hN⟩ := does_ok hz d p e hp (Nat.le_succ t) hd
  have hl := (List.getElem?_eq_some_iff.mp hp).1
  have hle : (d.2.2.1.eraseIdx p).length = d.2.2.1.length - 1 := List.length_eraseIdx_of_lt hl
  have key : ∀ (i : Nat) (x : E5), (does Z d p e).2.2.1[i]? = some x → (i < p ∧ d.2.2.1[i]? = some x) ∨ (p ≤ i ∧ d.2.2.1[i + 1]? = some x) ∨ (d.2.2.1.length - 1 ≤ i ∧ col 3 x ≠ Z 14 0 2) := by
    intro i x hx
    rw [hU] at hx
    by_cases q : i < d.2.2.1.length - 1
    · rw [List.getElem?_append_left (by omega), List.getElem?_eraseIdx] at hx
      split at hx
      · exact Or.inl ⟨by assumption, hx⟩
      · exact Or.inr (Or.inl ⟨by omega, hx⟩)
    · rw [List.getElem?_append_right (by omega)] at hx
      exact Or.inr (Or.inr ⟨by omega, late_ne hz (hN x (List.mem_of_getElem? hx))⟩)
  refine ⟨by rw [hU, List.length_append]; omega, fun i x hi hx => ?_, fun i x hi hx => ?_⟩
  · rcases key i x hx with ⟨q1, q2⟩ | ⟨q1, q2⟩ | ⟨q1, q2⟩
    · exact h2 i x hi q2
    · omega
    · exact q2
  · rcases key i x hx with ⟨q1, q2⟩ | ⟨q1, q2⟩ | ⟨q1, q2⟩
    · omega
    · exact h3 (i + 1) x (by omega) q2
    · exact q2
theorem Jd.none {Z : Sg} {p : Nat} {d : Dy} (h : Jd Z p 0 d) : d.2.2.1[fstT (Z 14 0 2) d.2.2.1]? = .none := fstT_no (fun i x hx => by
  by_cases q : i < p
  · exact h.2.1 i x q hx
  · exact h.2.2 i x (by omega) hx)
theorem cso_1 {x : Int32} (h : x = 3) : cso x = 1 := by subst h; decide
theorem cso_n {x : Int32} (h : x = 0 ∨ x = 1 ∨ x = 2) : ¬ cso x = 1 := by rcases h with rfl | rfl | rfl <;> decide

theorem iX3_doWhatIsDue_3 : ∀ w ∈ wsX30, w ∈ wsX3_doWhatIsDue := by decide +kernel
theorem fX3_doWhatIsDue_45 : Cond.fieldLink RX3 45 "SpareShelves" "dues" "LSpareShelves$Line;" ∈ wsX3_doWhatIsDue := by decide +kernel
theorem iX3_doWhatIsDue_1 : ∀ w ∈ wsX10, w ∈ wsX3_doWhatIsDue := by decide +kernel
theorem fX3_doWhatIsDue_98 : Cond.fieldLink RX3 98 "SpareShelves$Line" "size" "I" ∈ wsX3_doWhatIsDue := by decide +kernel
theorem fX3_doWhatIsDue_48 : Cond.fieldLink RX3 48 "SpareShelves" "time" "I" ∈ wsX3_doWhatIsDue := by decide +kernel
set_option maxHeartbeats 4000000 in
set_option maxRecDepth 100000 in
theorem c_due (l : Launch) (D : va_G) (cI cO : ClassId) (a : Nat → Nat) (u : UX) (Z : Sg) (d : Dy) (hRC : RC d u) (ns nk : Nat) (hz : Zv ns nk Z) (t : Nat) (hzx : Zx ns nk t Z) (hd : Dv ns nk Z t d) (hph : Ph d ≤ 20000) : CVc l yX3_doWhatIsDue wsX3_doWhatIsDue 7 250 D cI cO a u Z d [] Z (doAll Z d.2.2.1.length d) := by
  unfold CVc
  refine CV.of (cc := cX3_doWhatIsDue) (maxL := 8) (by decide) rfl (Nat.le_of_ble_eq_true rfl) ?_
  intro C hgL hgD hw h hret
  have hn8 := hz.n8
  have hk8 := hz.k8
  have hlen : d.2.2.1.length ≤ 20000 := Nat.le_trans (Nat.le_trans (Nat.le_add_left _ _) (Ph_sz d)) hph
  refine g_aload_n h (pc := 0) dX3_doWhatIsDue_0 0 rfl ?_
  refine g_get h (pc := 1) dX3_doWhatIsDue_1 iX3_doWhatIsDue_3 0 rfl rfl 7 (by decide) fX3_doWhatIsDue_45 rfl ?_
  refine g_get h (pc := 4) dX3_doWhatIsDue_4 iX3_doWhatIsDue_1 44 rfl rfl 1 (by decide) fX3_doWhatIsDue_98 rfl ?_
  refine g_topi (y := nI d.2.2.1.length) (by rw [List.length_map]) ?_
  refine g_istore_n h (pc := 7) dX3_doWhatIsDue_7 (by decide) rfl ?_
  refine g_iconst h (pc := 8) (v := 0) dX3_doWhatIsDue_8 (by decide) ?_
  refine g_istore_n h (pc := 9) dX3_doWhatIsDue_9 (by decide) rfl ?_
  refine g_iconst h (pc := 10) (v := 0) dX3_doWhatIsDue_10 (by decide) ?_
  refine g_istore_n h (pc := 11) dX3_doWhatIsDue_11 (by decide) rfl ?_
  refine g_wid (k' := cp d - cp d) (n' := 2 * (cp d - cp d)) (by omega) (by omega) ?_
  suffices loop : ∀ (m i p F : Nat) (d1 : Dy) (u1 : UX), i + m = d.2.2.1.length → m ≤ F → p ≤ i → Jd Z p m d1 → doAll Z F d1 = doAll Z d.2.2.1.length d → RC d1 u1 → cp d ≤ cp d1 → Dv ns nk Z t d1 → Ph d1 ≤ 20000 → GG C 8 (cw cI cO a u1 Z d1) (cp d1 - cp d) (2 * (cp d1 - cp d)) 12 [(0, .ref (a 0)), (1, .int (nI d.2.2.1.length)), (2, .int (nI p)), (3, .int (nI i))] [] from loop d.2.2.1.length 0 0 d.2.2.1.length d u (by omega) (Nat.le_refl _) (Nat.le_refl _) ⟨by omega, fun i x hi => absurd hi (by omega), fun i x hi hx => absurd (List.getElem?_eq_some_iff.mp hx).1 (by omega)⟩ rfl hRC (Nat.le_refl _) hd hph
  intro m
  induction m with
  | zero =>
    intro i p F d1 u1 h1 hF hpi hJ hm hR1 hc1 hd1 hp1
    refine g_iload_n h (pc := 12) dX3_doWhatIsDue_12 3 rfl ?_
    refine g_iload_n h (pc := 13) dX3_doWhatIsDue_13 1 rfl ?_
    refine g_icmp_ge_t h (pc := 14) (tgt := 124) dX3_doWhatIsDue_14 (by decide) (nI_le (by omega) (by omega)) ?_
    rw [doAll_no hJ.none] at hm
    subst hm
    exact hret u1 dX3_doWhatIsDue_124 hR1 rfl (Nat.le_refl _) (Nat.le_refl _)
  | succ m ih =>
    intro i p F d1 u1 h1 hF hpi hJ hm hR1 hc1 hd1 hp1
    have hlen1 : d1.2.2.1.length ≤ 20000 := Nat.le_trans (Nat.le_trans (Nat.le_add_left _ _) (Ph_sz d1)) hp1
    have hsz1 : sz d1 ≤ 20000 := Nat.le_trans (Ph_sz d1) hp1
    have hpl : p < d1.2.2.1.length := by have := hJ.1; omega
    obtain ⟨e, he⟩ : ∃ e, d1.2.2.1[p]? = some e := ⟨_, List.getElem?_eq_getElem hpl⟩
    have hme : (d1.2.2.1.map ce)[p]? = some (ce e) := by rw [List.getElem?_map, he]; rfl
    have cpf : cp d1 ≤ cp (doAll Z d.2.2.1.length d) := by rw [← hm]; exact cpl_doAll Z F d1
    refine g_iload_n h (pc := 12) dX3_doWhatIsDue_12 3 rfl ?_
    refine g_iload_n h (pc := 13) dX3_doWhatIsDue_13 1 rfl ?_
    refine g_icmp_ge_f h (pc := 14) (tgt := 124) dX3_doWhatIsDue_14 (by decide) (nI_ge (by omega) (by omega)) ?_
    refine g_aload_n h (pc := 17) dX3_doWhatIsDue_17 0 rfl ?_
    refine g_get h (pc := 18) dX3_doWhatIsDue_18 iX3_doWhatIsDue_3 0 rfl rfl 7 (by decide) fX3_doWhatIsDue_45 rfl ?_
    refine g_iload_n h (pc := 21) dX3_doWhatIsDue_21 2 rfl ?_
    refine g_iconst h (pc := 22) (v := 3) dX3_doWhatIsDue_22 (by decide) ?_
    refine g_callR h (pc := 23) (As := [.int (nI p), .int 3]) (st := []) dX3_doWhatIsDue_23 (c_read (gL C) (gD C) cI cO (lb (a 44) u1.2.1) d1.2.2.2.2 u1.2.2.2.2 (d1.2.2.1.map ce) hR1.2.1 p (ce e) hme 3 (by decide) _ 3 rfl rfl) [44, 45] rfl (by decide) gX3_doWhatIsDue_X1_read rfl (q0 := 0) rfl rfl (show nPar yX1_read RX1 2 = true by decide +kernel) ⟨Nat.le_of_ble_eq_true rfl, Nat.le_of_ble_eq_true rfl⟩ rfl (Nat.le_of_ble_eq_true rfl) ⟨by show _ ≤ cp (doAll Z d.2.2.1.length d) - cp d; omega, by show _ ≤ 2 * (cp (doAll Z d.2.2.1.length d) - cp d); omega⟩ (fun r1 hr1 => ?_)
    subst hr1
    refine g_aload_n h (pc := 26) dX3_doWhatIsDue_26 0 rfl ?_
    refine g_get h (pc := 27) dX3_doWhatIsDue_27 iX3_doWhatIsDue_3 0 rfl rfl 8 (by decide) fX3_doWhatIsDue_48 rfl ?_
    by_cases hnow : col 3 e = Z 14 0 2
    · refine g_icmp_eq_t h (pc := 30) (tgt := 39) dX3_doWhatIsDue_30 (by decide) hnow ?_
      refine g_aload_n h (pc := 39) dX3_doWhatIsDue_39 0 rfl ?_
      refine g_get h (pc := 40) dX3_doWhatIsDue_40 iX3_doWhatIsDue_3 0 rfl rfl 7 (by decide) fX3_doWhatIsDue_45 rfl ?_
      refine g_iload_n h (pc := 43) dX3_doWhatIsDue_43 2 rfl ?_
      refine g_iconst h (pc := 44) (v := 0) dX3_doWhatIsDue_44 (by decide) ?_
      obtain ⟨F, rfl⟩ : ∃ F1, F = F1 + 1 := ⟨F - 1, by omega⟩
      rw [doAll_so (fstT_at he hnow hJ.2.1) he] at hm
      have hJ2 := hJ.did hzx he hd1
      obtain ⟨ok1, ok2, -⟩ := does_ok hzx d1 p e he (Nat.le_succ t) hd1
      have cq1 := cpl_does Z d1 p e
      have cq2 : cp (does Z d1 p e) ≤ cp (doAll Z d.2.2.1.length d) := by rw [← hm]; exact cpl_doAll Z F _
      obtain ⟨s, k, t2, a1, a2, a3, a4, a5, a6, a7, a8⟩ := hd1.2 e (List.mem_of_getElem? he)
      refine g_callR h (pc := 45) (As := [.int (nI p), .int 0]) (st := []) dX3_doWhatIsDue_45 (c_read (gL C) (gD C) cI cO (lb (a 44) u1.2.1) d1.2.2.2.2 u1.2.2.2.2 (d1.2.2.1.map ce) hR1.2.1 p (ce e) hme 0 (by decide) _ 0 rfl rfl) [44, 45] rfl (by decide) gX3_doWhatIsDue_X1_read rfl (q0 := 0) rfl rfl (show nPar yX1_read RX1 2 = true by decide +kernel) ⟨Nat.le_of_ble_eq_true rfl, Nat.le_of_ble_eq_true rfl⟩ rfl (Nat.le_of_ble_eq_true rfl) ⟨by show _ ≤ cp (doAll Z d.2.2.1.length d) - cp d; omega, by show _ ≤ 2 * (cp (doAll Z d.2.2.1.length d) - cp d); omega⟩ (fun q0 hq0 => ?_)
      subst hq0
      refine g_istore h (pc := 48) dX3_doWhatIsDue_48 (by decide) rfl ?_
      refine g_aload_n h (pc := 50) dX3_doWhatIsDue_50 0 rfl ?_
      refine g_get h (pc := 51) dX3_doWhatIsDue_51 iX3_doWhatIsDue_3 0 rfl rfl 7 (by decide) fX3_doWhatIsDue_45 rfl ?_
      refine g_iload_n h (pc := 54) dX3_doWhatIsDue_54 2 rfl ?_
      refine g_iconst h (pc := 55) (v := 1) dX3_doWhatIsDue_55 (by decide) ?_
      refine g_callR h (pc := 56) (As := [.int (nI p), .int 1]) (st := []) dX3_doWhatIsDue_56 (c_read (gL C) (gD C) cI cO (lb (a 44) u1.2.1) d1.2.2.2.2 u1.2.2.2.2 (d1.2.2.1.map ce) hR1.2.1 p (ce e) hme 1 (by decide) _ 1 rfl rfl) [44, 45] rfl (by decide) gX3_doWhatIsDue_X1_read rfl (q0 := 0) rfl rfl (show nPar yX1_read RX1 2 = true by decide +kernel) ⟨Nat.le_of_ble_eq_true rfl, Nat.le_of_ble_eq_true rfl⟩ rfl (Nat.le_of_ble_eq_true rfl) ⟨by show _ ≤ cp (doAll Z d.2.2.1.length d) - cp d; omega, by show _ ≤ 2 * (cp (doAll Z d.2.2.1.length d) - cp d); omega⟩ (fun q1 hq1 => ?_)
      subst hq1
      refine g_istore h (pc := 59) dX3_doWhatIsDue_59 (by decide) rfl ?_
      refine g_aload_n h (pc := 61) dX3_doWhatIsDue_61 0 rfl ?_
      refine g_get h (pc := 62) dX3_doWhatIsDue_62 iX3_doWhatIsDue_3 0 rfl rfl 7 (by decide) fX3_doWhatIsDue_45 rfl ?_
      refine g_iload_n h (pc := 65) dX3_doWhatIsDue_65 2 rfl ?_
      refine g_iconst h (pc := 66) (v := 2) dX3_doWhatIsDue_66 (by decide) ?_
      refine g_callR h (pc := 67) (As := [.int (nI p), .int 2]) (st := []) dX3_doWhatIsDue_67 (c_read (gL C) (gD C) cI cO (lb (a 44) u1.2.1) d1.2.2.2.2 u1.2.2.2.2 (d1.2.2.1.map ce) hR1.2.1 p (ce e) hme 2 (by decide) _ 2 rfl rfl) [44, 45] rfl (by decide) gX3_doWhatIsDue_X1_read rfl (q0 := 0) rfl rfl (show nPar yX1_read RX1 2 = true by decide +kernel) ⟨Nat.le_of_ble_eq_true rfl, Nat.le_of_ble_eq_true rfl⟩ rfl (Nat.le_of_ble_eq_true rfl) ⟨by show _ ≤ cp (doAll Z d.2.2.1.length d) - cp d; omega, by show _ ≤ 2 * (cp (doAll Z d.2.2.1.length d) - cp d); omega⟩ (fun q2 hq2 => ?_)
      subst hq2
      refine g_istore h (pc := 70) dX3_doWhatIsDue_70 (by decide) rfl ?_
      refine g_aload_n h (pc := 72) dX3_doWhatIsDue_72 0 rfl ?_
      refine g_get h (pc := 73) dX3_doWhatIsDue_73 iX3_doWhatIsDue_3 0 rfl rfl 7 (by decide) fX3_doWhatIsDue_45 rfl ?_
      refine g_iload_n h (pc := 76) dX3_doWhatIsDue_76 2 rfl ?_
      refine g_iconst h (pc := 77) (v := 4) dX3_doWhatIsDue_77 (by decide) ?_
      refine g_callR h (pc := 78) (As := [.int (nI p), .int 4]) (st := []) dX3_doWhatIsDue_78 (c_read (gL C) (gD C) cI cO (lb (a 44) u1.2.1) d1.2.2.2.2 u1.2.2.2.2 (d1.2.2.1.map ce) hR1.2.1 p (ce e) hme 4 (by decide) _ 4 rfl rfl) [44, 45] rfl (by decide) gX3_doWhatIsDue_X1_read rfl (q0 := 0) rfl rfl (show nPar yX1_read RX1 2 = true by decide +kernel) ⟨Nat.le_of_ble_eq_true rfl, Nat.le_of_ble_eq_true rfl⟩ rfl (Nat.le_of_ble_eq_true rfl) ⟨by show _ ≤ cp (doAll Z d.2.2.1.length d) - cp d; omega, by show _ ≤ 2 * (cp (doAll Z d.2.2.1.length d) - cp d); omega⟩ (fun q3 hq3 => ?_)
      subst hq3
      refine g_istore h (pc := 81) dX3_doWhatIsDue_81 (by decide) rfl ?_
      refine g_aload_n h (pc := 83) dX3_doWhatIsDue_83 0 rfl ?_
      refine g_get h (pc := 84) dX3_doWhatIsDue_84 iX3_doWhatIsDue_3 0 rfl rfl 7 (by decide) fX3_doWhatIsDue_45 rfl ?_
      refine g_iload_n h (pc := 87) dX3_doWhatIsDue_87 2 rfl ?_
      refine g_ddrop h hw (pc := 88) dX3_doWhatIsDue_88 hR1 p hpl gX3_doWhatIsDue_X1_drop ⟨Nat.le_of_ble_eq_true rfl, Nat.le_of_ble_eq_true rfl⟩ (Nat.le_of_ble_eq_true rfl) ⟨by show _ ≤ cp (doAll Z d.2.2.1.length d) - cp d; omega, by show _ ≤ 2 * (cp (doAll Z d.2.2.1.length d) - cp d); omega⟩ (fun u2 hR2 => ?_)
      refine g_iload h (pc := 91) dX3_doWhatIsDue_91 6 rfl ?_
      refine g_iconst h (pc := 93) (v := 1) dX3_doWhatIsDue_93 (by decide) ?_
      have ez := sz_xU d1 p
      have ec : cp (xU d1 p) = cp d1 := rfl
      have tl : ∀ (u3 : UX) (lv : List (Nat × Value)), lv_pick lv [0, 1, 2, 3] = [(0, .ref (a 0)), (1, .int (nI d.2.2.1.length)), (2, .int (nI p)), (3, .int (nI i))] → RC (does Z d1 p e) u3 → GG C 8 (cw cI cO a u3 Z (does Z d1 p e)) (cp (does Z d1 p e) - cp d) (2 * (cp (does Z d1 p e) - cp d)) 118 lv [] := by
        intro u3 lv hlv hR3
        refine g_lvp [0, 1, 2, 3] hlv ?_
        refine g_iinc h (pc := 118) dX3_doWhatIsDue_118 3 rfl (nI_1 i) (by decide) rfl ?_
        refine g_goto h (pc := 121) (tgt := 12) dX3_doWhatIsDue_121 (by decide) ?_
        exact ih (i + 1) p F _ u3 (by omega) (by omega) (by omega) hJ2 hm hR3 (by omega) ok2 (by omega)
      rcases a8 with b | ⟨b, hh⟩
      · have e2 : does Z d1 p e = lands Z (xU d1 p) s k := by unfold does; rw [if_neg (by rcases b with b | b | b <;> rw [b] <;> decide), a3, a4, nI_clamp (by omega), nI_clamp (by omega)]
        have mg : cp (does Z d1 p e) = cp (lands Z (xU d1 p) s k) := by rw [e2]
        have mh := cpl_lands Z (xU d1 p) s k
        refine g_icmp_ne_t h (pc := 94) (tgt := 110) dX3_doWhatIsDue_94 (by decide) (cso_n b) ?_
        rw [show col 0 (ce e) = nI s from a3, show col 1 (ce e) = nI k from a4]
        refine g_aload_n h (pc := 110) dX3_doWhatIsDue_110 0 rfl ?_
        refine g_iload h (pc := 111) dX3_doWhatIsDue_111 4 rfl ?_
        refine g_iload h (pc := 113) dX3_doWhatIsDue_113 5 rfl ?_
        refine g_callV h (pc := 115) (As := [.int (nI s), .int (nI k)]) (st := []) dX3_doWhatIsDue_115 (c_lands (gL C) (gD C) cI cO a u2 Z _ hR2 ns nk hz (by omega) hd1.1 s k a1 a2) hw gX3_doWhatIsDue_X3_lands rfl (q0 := 0) rfl rfl (show nPar yX3_lands RX3 2 = true by decide +kernel) ⟨Nat.le_of_ble_eq_true rfl, Nat.le_of_ble_eq_true rfl⟩ rfl (Nat.le_of_ble_eq_true rfl) ⟨by show _ ≤ cp (doAll Z d.2.2.1.length d) - cp d; omega, by show _ ≤ 2 * (cp (doAll Z d.2.2.1.length d) - cp d); omega⟩ (fun u3 hR3 => ?_)
        refine g_wid (k' := cp (does Z d1 p e) - cp d) (n' := 2 * (cp (does Z d1 p e) - cp d)) (by omega) (by omega) ?_
        refine g_eq (by rw [e2]) (tl u3 _ rfl (by rw [e2]; exact hR3))
      · have e2 : does Z d1 p e = back Z (xU d1 p) s k (col 4 e) := by unfold does; rw [if_pos b, a3, a4, nI_clamp (by omega), nI_clamp (by omega)]
        have mg : cp (does Z d1 p e) = cp (back Z (xU d1 p) s k (col 4 e)) := by rw [e2]
        have mh := cpl_back Z (xU d1 p) s k (col 4 e)
        refine g_icmp_ne_f h (pc := 94) (tgt := 110) dX3_doWhatIsDue_94 (by decide) (cso_1 b) ?_
        rw [show col 0 (ce e) = nI s from a3, show col 1 (ce e) = nI k from a4, show col 4 (ce e) = col 4 e from if_pos b]
        refine g_aload_n h (pc := 97) dX3_doWhatIsDue_97 0 rfl ?_
        refine g_iload h (pc := 98) dX3_doWhatIsDue_98 4 rfl ?_
        refine g_iload h (pc := 100) dX3_doWhatIsDue_100 5 rfl ?_
        refine g_iload h (pc := 102) dX3_doWhatIsDue_102 7 rfl ?_
        refine g_callV h (pc := 104) (As := [.int (nI s), .int (nI k), .int (col 4 e)]) (st := []) dX3_doWhatIsDue_104 (c_back (gL C) (gD C) cI cO a u2 Z _ hR2 ns nk hz (by omega) s k a1 a2 (col 4 e) hh) hw gX3_doWhatIsDue_X3_goesBack rfl (q0 := 0) rfl rfl (show nPar yX3_goesBack RX3 3 = true by decide +kernel) ⟨Nat.le_of_ble_eq_true rfl, Nat.le_of_ble_eq_true rfl⟩ rfl (Nat.le_of_ble_eq_true rfl) ⟨by show _ ≤ cp (doAll Z d.2.2.1.length d) - cp d; omega, by show _ ≤ 2 * (cp (doAll Z d.2.2.1.length d) - cp d); omega⟩ (fun u3 hR3 => ?_)
        refine g_goto h (pc := 107) (tgt := 118) dX3_doWhatIsDue_107 (by decide) ?_
        refine g_wid (k' := cp (does Z d1 p e) - cp d) (n' := 2 * (cp (does Z d1 p e) - cp d)) (by omega) (by omega) ?_
        refine g_eq (by rw [e2]) (tl u3 _ rfl (by rw [e2]; exact hR3))
    · refine g_icmp_eq_f h (pc := 30) (tgt := 39) dX3_doWhatIsDue_30 (by decide) hnow ?_
      refine g_iinc h (pc := 33) dX3_doWhatIsDue_33 2 rfl (nI_1 p) (by decide) rfl ?_
      refine g_goto h (pc := 36) (tgt := 118) dX3_doWhatIsDue_36 (by decide) ?_
      refine g_iinc h (pc := 118) dX3_doWhatIsDue_118 3 rfl (nI_1 i) (by decide) rfl ?_
      refine g_goto h (pc := 121) (tgt := 12) dX3_doWhatIsDue_121 (by decide) ?_
      exact ih (i + 1) (p + 1) F d1 u1 (by omega) (by omega) (by omega) (hJ.skip he hnow) hm hR1 hc1 hd1 hp1

theorem iX3_countStanding_3 : ∀ w ∈ wsX30, w ∈ wsX3_countStanding := by decide +kernel
theorem fX3_countStanding_41 : Cond.fieldLink RX3 41 "SpareShelves" "asks" "LSpareShelves$Line;" ∈ wsX3_countStanding := by decide +kernel
theorem iX3_countStanding_1 : ∀ w ∈ wsX10, w ∈ wsX3_countStanding := by decide +kernel
theorem fX3_countStanding_98 : Cond.fieldLink RX3 98 "SpareShelves$Line" "size" "I" ∈ wsX3_countStanding := by decide +kernel
theorem fX3_countStanding_31 : Cond.fieldLink RX3 31 "SpareShelves" "stood" "[I" ∈ wsX3_countStanding := by decide +kernel
set_option maxHeartbeats 4000000 in
set_option maxRecDepth 100000 in
theorem c_stand (l : Launch) (D : va_G) (cI cO : ClassId) (a : Nat → Nat) (u : UX) (Z : Sg) (d : Dy) (hRC : RC d u) (ns nk : Nat) (hz : Zv ns nk Z) (hA : ∀ e ∈ d.2.1, okA ns nk Z e) (hl : d.2.1.length ≤ 20000) : CVc l yX3_countStanding wsX3_countStanding 1 24 D cI cO a u Z d [] Z (stands d) := by
  unfold CVc
  refine CV.of (cc := cX3_countStanding) (maxL := 2) (by decide) rfl (Nat.le_of_ble_eq_true rfl) ?_
  intro C hgL hgD hw h hret
  have hn8 := hz.n8
  have hk8 := hz.k8
  refine g_iconst h (pc := 0) (v := 0) dX3_countStanding_0 (by decide) ?_
  refine g_istore_n h (pc := 1) dX3_countStanding_1 (by decide) rfl ?_
  suffices loop : ∀ (m i : Nat), i + m = d.2.1.length → GG C 2 (cw cI cO a u Z ((d.2.1.take i).foldl std1 d.1, d.2)) 0 0 2 [(0, .ref (a 0)), (1, .int (nI i))] [] from loop d.2.1.length 0 (by omega)
  intro m
  induction m with
  | zero =>
    intro i h1
    refine g_iload_n h (pc := 2) dX3_countStanding_2 1 rfl ?_
    refine g_aload_n h (pc := 3) dX3_countStanding_3 0 rfl ?_
    refine g_get h (pc := 4) dX3_countStanding_4 iX3_countStanding_3 0 rfl rfl 6 (by decide) fX3_countStanding_41 rfl ?_
    refine g_get h (pc := 7) dX3_countStanding_7 iX3_countStanding_1 42 rfl rfl 1 (by decide) fX3_countStanding_98 rfl ?_
    refine g_icmp_ge_t h (pc := 10) (tgt := 49) dX3_countStanding_10 (by decide) (nI_le (a := d.2.1.length) (b := i) (by omega) (by omega)) ?_
    rw [List.take_of_length_le (by omega)]
    exact hret u dX3_countStanding_49 hRC rfl (Nat.zero_le _) (Nat.zero_le _)
  | succ m ih =>
    intro i h1
    obtain ⟨e, he⟩ : ∃ e, d.2.1[i]? = some e := ⟨_, List.getElem?_eq_getElem (show i < d.2.1.length by omega)⟩
    have hst : (d.2.1.take (i + 1)).foldl std1 d.1 = std1 ((d.2.1.take i).foldl std1 d.1) e := by rw [List.take_add_one, he, List.foldl_append]; rfl
    have h9 := ih (i + 1) (by omega)
    rw [hst] at h9
    generalize (d.2.1.take i).foldl std1 d.1 = z at h9 ⊢
    obtain ⟨s, k, a1, a2, a3, a4, a5⟩ := hA e (List.mem_of_getElem? he)
    refine g_iload_n h (pc := 2) dX3_countStanding_2 1 rfl ?_
    refine g_aload_n h (pc := 3) dX3_countStanding_3 0 rfl ?_
    refine g_get h (pc := 4) dX3_countStanding_4 iX3_countStanding_3 0 rfl rfl 6 (by decide) fX3_countStanding_41 rfl ?_
    refine g_get h (pc := 7) dX3_countStanding_7 iX3_countStanding_1 42 rfl rfl 1 (by decide) fX3_countStanding_98 rfl ?_
    refine g_icmp_ge_f h (pc := 10) (tgt := 49) dX3_countStanding_10 (by decide) (nI_ge (a := i) (b := d.2.1.length) (by omega) (by omega)) ?_
    refine g_aload_n h (pc := 13) dX3_countStanding_13 0 rfl ?_
    refine g_get h (pc := 14) dX3_countStanding_14 iX3_countStanding_3 0 rfl rfl 6 (by decide) fX3_countStanding_41 rfl ?_
    refine g_iload_n h (pc := 17) dX3_countStanding_17 1 rfl ?_
    refine g_iconst h (pc := 18) (v := 2) dX3_countStanding_18 (by decide) ?_
    refine g_callR h (pc := 19) (As := [.int (nI i), .int 2]) (st := []) dX3_countStanding_19 (c_read (gL C) (gD C) cI cO (lb (a 42) u.1) d.2.2.2.1 u.2.2.2.1 d.2.1 hRC.1 i e he 2 (by decide) _ 2 rfl rfl) [42, 43] rfl (by decide) gX3_countStanding_X1_read rfl (q0 := 0) rfl rfl (show nPar yX1_read RX1 2 = true by decide +kernel) ⟨Nat.le_of_ble_eq_true rfl, Nat.le_of_ble_eq_true rfl⟩ rfl (Nat.le_of_ble_eq_true rfl) ⟨Nat.zero_le _, Nat.zero_le _⟩ (fun r1 hr1 => ?_)
    subst hr1
    by_cases hm : col 2 e = 0
    · unfold std1 at h9
      rw [if_pos hm, a3, nI_clamp (by omega)] at h9
      refine g_if_ne_f h (pc := 22) (tgt := 43) dX3_countStanding_22 (by decide) hm ?_
      refine g_aload_n h (pc := 25) dX3_countStanding_25 0 rfl ?_
      refine g_get h (pc := 26) dX3_countStanding_26 iX3_countStanding_3 0 rfl rfl 4 (by decide) fX3_countStanding_31 rfl ?_
      refine g_aload_n h (pc := 29) dX3_countStanding_29 0 rfl ?_
      refine g_get h (pc := 30) dX3_countStanding_30 iX3_countStanding_3 0 rfl rfl 6 (by decide) fX3_countStanding_41 rfl ?_
      refine g_iload_n h (pc := 33) dX3_countStanding_33 1 rfl ?_
      refine g_iconst h (pc := 34) (v := 0) dX3_countStanding_34 (by decide) ?_
      refine g_callR h (pc := 35) (As := [.int (nI i), .int 0]) (st := [.ref (a 40)]) dX3_countStanding_35 (c_read (gL C) (gD C) cI cO (lb (a 42) u.1) d.2.2.2.1 u.2.2.2.1 d.2.1 hRC.1 i e he 0 (by decide) _ 0 rfl rfl) [42, 43] rfl (by decide) gX3_countStanding_X1_read rfl (q0 := 0) rfl rfl (show nPar yX1_read RX1 2 = true by decide +kernel) ⟨Nat.le_of_ble_eq_true rfl, Nat.le_of_ble_eq_true rfl⟩ rfl (Nat.le_of_ble_eq_true rfl) ⟨Nat.zero_le _, Nat.zero_le _⟩ (fun r2 hr2 => ?_)
      subst hr2
      rw [a3]
      refine g_dup2 h (pc := 38) dX3_countStanding_38 rfl rfl ?_
      refine g_iald h (pc := 39) (v := z 5 0 s) dX3_countStanding_39 40 rfl (vp_in_nI (by omega) (by omega)) (by rw [nI_clamp (by omega)]) ?_
      refine g_iconst h (pc := 40) (v := 1) dX3_countStanding_40 (by decide) ?_
      refine g_iadd h (pc := 41) dX3_countStanding_41  ?_
      refine g_iast h hw (pc := 42) (ws' := cw cI cO a u Z (su z 5 0 s (z 5 0 s + 1), d.2)) dX3_countStanding_42 40 rfl (vp_in_nI (by omega) (by omega)) (by rw [nI_clamp (by omega)]; rfl) ?_
      refine g_iinc h (pc := 43) dX3_countStanding_43 1 rfl (nI_1 i) (by decide) rfl ?_
      refine g_goto h (pc := 46) (tgt := 2) dX3_countStanding_46 (by decide) ?_
      exact h9
    · unfold std1 at h9
      rw [if_neg hm] at h9
      refine g_if_ne_t h (pc := 22) (tgt := 43) dX3_countStanding_22 (by decide) hm ?_
      refine g_iinc h (pc := 43) dX3_countStanding_43 1 rfl (nI_1 i) (by decide) rfl ?_
      refine g_goto h (pc := 46) (tgt := 2) dX3_countStanding_46 (by decide) ?_
      exact h9
end
section
/-! the calls in pure words: the answer, what stands, what moves -/
abbrev RZD : Type := Int32 × Sg × Dy
abbrev tN (x : Int32) : Nat := x.toNatClampNeg
def kindP (nk : Nat) (Z : Sg) (d : Dy) (p b c : Int32) : RZD := if (outB p 1 1000 || outB b 1 50) = true then (-2, Z, d) else if (!decide (c = -1) && !isIn c nk) = true then (-1, Z, d) else if 8 ≤ nk then (-4, Z, d) else (nI nk, su (su (su (su (su Z 0 0 nk p) 1 0 nk b) 2 0 nk c) 14 0 0 (nI (nk + 1))) 6 0 nk 10, d)
def shelfP (ns : Nat) (Z : Sg) (d : Dy) (up way : Int32) : RZD := if isIn up ns = false then (-1, Z, d) else if outB way 1 20 = true then (-2, Z, d) else if 8 ≤ ns then (-4, Z, d) else (nI ns, su (su (su Z 3 0 ns up) 4 0 ns way) 14 0 1 (nI (ns + 1)), d)
def mendP (ns nk : Nat) (Z : Sg) (d : Dy) (s k b : Int32) : RZD := if (isIn s ns && isIn k nk) = false then (-1, Z, d) else if outB b 0 30 = true ∨ (s = 0 ∧ b = 0) then (-2, Z, d) else if b = 0 ∧ 0 < nI (d.2.1.countP (fitB s (-1) 2 k)) then (-3, Z, d) else (Z 6 (tN s) (tN k), su Z 6 (tN s) (tN k) b, d)
def rateP (ns nk : Nat) (Z : Sg) (d : Dy) (s k r : Int32) : RZD := if (isIn s ns && isIn k nk) = false then (-1, Z, d) else if outB r 0 10000 = true then (-2, Z, d) else (Z 8 (tN s) (tN k), su Z 8 (tN s) (tN k) r, d)
def stockP (ns nk : Nat) (Z : Sg) (d : Dy) (s k n : Int32) : RZD := if (isIn s ns && isIn k nk) = false then (-1, Z, d) else if outB n 1 9 = true then (-2, Z, d) else if 200 < d.1 9 0 (tN k) + n then (-4, Z, d) else ((landsN Z (tN s) (tN k) (tN n) d).1 7 (tN s) (tN k), Z, landsN Z (tN s) (tN k) (tN n) d)
def failsP (ns nk : Nat) (Z : Sg) (d : Dy) (s k how : Int32) : RZD := if (isIn s ns && isIn k nk) = false then (-1, Z, d) else if outB how 0 2 = true then (-2, Z, d) else if how = 1 ∧ Z 2 0 (tN k) = -1 then (-3, Z, d) else if 100 < d.2.1.length ∨ 100 < d.2.2.1.length then (-4, Z, d) else (if d.1 7 (tN s) (tN k) = 0 then 0 else 1, Z, breaks Z d (tN s) (tN k) how)
def dy1 (q : Sg × Dy) : Sg × Dy := (su q.1 14 0 2 (q.1 14 0 2 + 1), stands (doAll (su q.1 14 0 2 (q.1 14 0 2 + 1)) q.2.2.2.1.length q.2))
def dyN : Nat → Sg × Dy → Sg × Dy
  | 0, q => q
  | n + 1, q => dyN n (dy1 q)
def daysP (Z : Sg) (d : Dy) (n : Int32) : RZD := if outB n 1 60 = true then (-2, Z, d) else if 5000 < Z 14 0 2 + n then (-4, Z, d) else ((dyN (tN n) (Z, d)).1 14 0 2, (dyN (tN n) (Z, d)).1, (dyN (tN n) (Z, d)).2)
theorem cpl_stands (d : Dy) : cp (stands d) = cp d := rfl
theorem cpl_dy1 (q : Sg × Dy) : cp q.2 ≤ cp (dy1 q).2 := cpl_doAll _ _ _
theorem cpl_dyN : ∀ (n : Nat) (q : Sg × Dy), cp q.2 ≤ cp (dyN n q).2
  | 0, q => Nat.le_refl _
  | n + 1, q => Nat.le_trans (cpl_dy1 q) (cpl_dyN n (dy1 q))
theorem cpl_landsN (Z : Sg) (s k : Nat) : ∀ (n : Nat) (d : Dy), cp d ≤ cp (landsN Z s k n d)
  | 0, d => Nat.le_refl _
  | n + 1, d => Nat.le_trans (cpl_lands Z (inc d 9 k) s k) (cpl_landsN Z s k n _)
theorem mach_comm (Z : Sg) (d : Dy) (s k : Nat) : machine Z (inc d 13 k) s k = inc (machine Z d s k) 13 k := by
  unfold machine
  by_cases h : d.1 7 s k = 0
  · rw [if_pos h, if_pos (show (inc d 13 k).1 7 s k = 0 from h)]
    rfl
  · rw [if_neg h, if_neg (show ¬ (inc d 13 k).1 7 s k = 0 from h)]
    refine Prod.ext ?_ rfl
    show su (su (su d.1 13 0 k (d.1 13 0 k + 1)) 7 s k (d.1 7 s k - 1)) 11 0 k (d.1 11 0 k + 1) = su (su (su d.1 7 s k (d.1 7 s k - 1)) 11 0 k (d.1 11 0 k + 1)) 13 0 k (d.1 13 0 k + 1)
    rw [su_comm d.1 (show 13 ≠ 7 by decide), su_comm (su d.1 7 s k (d.1 7 s k - 1)) (show 13 ≠ 11 by decide)]
theorem landsN_ok {ns nk t tau : Nat} {Z : Sg} (hz : Zx ns nk t Z) (s k : Nat) (hs : s < ns) (hk : k < nk) (ht : tau ≤ t + 1) : ∀ (n : Nat) (d : Dy), Dv ns nk Z tau d → Ph (landsN Z s k n d) ≤ Ph d ∧ Dv ns nk Z tau (landsN Z s k n d)
  | 0, d, hd => ⟨Nat.le_refl _, hd⟩
  | n + 1, d, hd => by
    obtain ⟨h1, h2, -⟩ := lands_ok hz (inc d 9 k) s k hs hk ht hd
    obtain ⟨h3, h4⟩ := landsN_ok hz s k hs hk ht n _ h2
    have h5 : Ph (inc d 9 k) = Ph d := rfl
    exact ⟨by rw [landsN]; omega, h4⟩
theorem doAll_ok {ns nk t : Nat} {Z : Sg} (hz : Zx ns nk t Z) : ∀ (n : Nat) (d : Dy), Dv ns nk Z t d → Ph (doAll Z n d) ≤ Ph d ∧ Dv ns nk Z t (doAll Z n d)
  | 0, d, hd => ⟨Nat.le_refl _, hd⟩
  | n + 1, d, hd => by
    rw [doAll]
    split
    · exact ⟨Nat.le_refl _, hd⟩
    · rename_i e he
      obtain ⟨h1, h2, -⟩ := does_ok hz d _ e he (Nat.le_succ t) hd
      obtain ⟨h3, h4⟩ := doAll_ok hz n _ h2
      exact ⟨by omega, h4⟩
theorem cnt_era (p : E5 → Bool) : ∀ (L : List E5) (i : Nat) (e : E5), L[i]? = some e → p e = true → (L.eraseIdx i).countP p + 1 = L.countP p
  | [], i, e, h, _ => by simp at h
  | x :: L, 0, e, h, hp => by
    cases h
    rw [List.eraseIdx_cons_zero, List.countP_cons_of_pos hp]
  | x :: L, i + 1, e, h, hp => by
    have h1 := cnt_era p L i e (by simpa using h) hp
    rw [List.eraseIdx_cons_succ, List.countP_cons, List.countP_cons]
    omega
theorem doAll_end {ns nk t : Nat} {Z : Sg} (hz : Zx ns nk t Z) : ∀ (n : Nat) (d : Dy), Dv ns nk Z t d → d.2.2.1.countP (fun e => decide (col 3 e = Z 14 0 2)) ≤ n → ∀ e ∈ (doAll Z n d).2.2.1, col 3 e ≠ Z 14 0 2
  | 0, d, hd, hc => fun e he q => by
    have h1 : 0 < d.2.2.1.countP (fun e => decide (col 3 e = Z 14 0 2)) := List.countP_pos_iff.mpr ⟨e, he, decide_eq_true q⟩
    omega
  | n + 1, d, hd, hc => by
    rw [doAll]
    split
    · rename_i hn
      intro e he q
      obtain ⟨i, hi⟩ := List.getElem?_of_mem he
      have h1 : d.2.2.1.findIdx (fun e => decide (col 3 e = Z 14 0 2)) < d.2.2.1.length := List.findIdx_lt_length.mpr ⟨e, he, decide_eq_true q⟩
      have h2 := List.getElem?_eq_none_iff.mp hn
      unfold fstT at h2
      omega
    · rename_i e he
      obtain ⟨h1, h2, NU, h3, h4⟩ := does_ok hz d _ e he (Nat.le_succ t) hd
      refine doAll_end hz n _ h2 ?_
      obtain ⟨g1, g2⟩ := List.getElem?_eq_some_iff.mp he
      have g3 : decide (col 3 (d.2.2.1[fstT (Z 14 0 2) d.2.2.1]'g1) = Z 14 0 2) = true := List.findIdx_getElem (w := g1)
      rw [g2] at g3
      have h5 := cnt_era (fun e => decide (col 3 e = Z 14 0 2)) d.2.2.1 _ e he g3
      have h6 : NU.countP (fun e => decide (col 3 e = Z 14 0 2)) = 0 := List.countP_eq_zero.mpr (fun x hx q => late_ne hz (h4 x hx) (of_decide_eq_true q))
      rw [h3, List.countP_append, h6]
      omega
theorem Zx_time {ns nk t t2 : Nat} {Z : Sg} (hz : Zx ns nk t Z) (ht : t2 ≤ 5000) : Zx ns nk t2 (su Z 14 0 2 (nI t2)) := ⟨hz.1, hz.2.1, hz.2.2.1, hz.2.2.2.1, hz.2.2.2.2.1, ht, su_0 Z 14 0 2 _⟩
theorem day_ok {ns nk t : Nat} {Z : Sg} (hz : Zx ns nk t Z) (ht : t + 1 ≤ 5000) (d : Dy) (hd : Dv ns nk Z (t + 1) d) : (dy1 (Z, d)).1 = su Z 14 0 2 (nI (t + 1)) ∧ Zx ns nk (t + 1) (dy1 (Z, d)).1 ∧ Dv ns nk (dy1 (Z, d)).1 (t + 2) (dy1 (Z, d)).2 ∧ Ph (dy1 (Z, d)).2 ≤ Ph d := by
  have e1 : (dy1 (Z, d)).1 = su Z 14 0 2 (nI (t + 1)) := by
    show su Z 14 0 2 (Z 14 0 2 + 1) = _
    rw [hz.tt, nI_1]
  have hz2 : Zx ns nk (t + 1) (su Z 14 0 2 (nI (t + 1))) := Zx_time hz ht
  have e2 : (dy1 (Z, d)).2 = stands (doAll (su Z 14 0 2 (nI (t + 1))) d.2.2.1.length d) := by
    show stands (doAll (su Z 14 0 2 (Z 14 0 2 + 1)) _ d) = _
    rw [hz.tt, nI_1]
  have hd2 : Dv ns nk (su Z 14 0 2 (nI (t + 1))) (t + 1) d := hd
  obtain ⟨h1, h2⟩ := doAll_ok hz2 d.2.2.1.length d hd2
  have h3 := doAll_end hz2 d.2.2.1.length d hd2 (List.countP_le_length)
  refine ⟨e1, by rw [e1]; exact hz2, ?_, by rw [e2]; exact h1⟩
  rw [e1, e2]
  refine ⟨h2.1, fun e he => ?_⟩
  obtain ⟨s, k, t2, a1, a2, a3, a4, a5, a6, a7⟩ := h2.2 e he
  have h4 := h3 e he
  rw [hz2.tt, a5] at h4
  refine ⟨s, k, t2, a1, a2, a3, a4, a5, ?_, a7⟩
  rcases Nat.lt_or_ge (t + 1) t2 with q | q
  · exact q
  · exact absurd (show nI t2 = nI (t + 1) by rw [show t2 = t + 1 by omega]) h4
end
section
theorem iX3_rate_3 : ∀ w ∈ wsX30, w ∈ wsX3_rate := by decide +kernel
theorem fX3_rate_28 : Cond.fieldLink RX3 28 "SpareShelves" "rates" "[[I" ∈ wsX3_rate := by decide +kernel
set_option maxHeartbeats 4000000 in
set_option maxRecDepth 100000 in
theorem c_rate (l : Launch) (D : va_G) (cI cO : ClassId) (a : Nat → Nat) (u : UX) (Z : Sg) (d : Dy) (hRC : RC d u) (ns nk : Nat) (hz : Zv ns nk Z) (x y r : Int32) : CIc l yX3_rate wsX3_rate 2 50 D cI cO a u Z d [.int x, .int y, .int r] (rateP ns nk Z d x y r).1 (rateP ns nk Z d x y r).2.1 (rateP ns nk Z d x y r).2.2 := by
  unfold CIc
  refine CI.of (cc := cX3_rate) (maxL := 5) (rt := .int) (by decide) rfl (Nat.le_of_ble_eq_true rfl) ?_
  intro C hgL hgD hw h hret
  have hn8 := hz.n8
  have hk8 := hz.k8
  cases hp : (isIn x ns && isIn y nk) with
  | false =>
    refine g_aload_n h (pc := 0) dX3_rate_0 0 rfl ?_
    refine g_iload_n h (pc := 1) dX3_rate_1 1 rfl ?_
    refine g_iload_n h (pc := 2) dX3_rate_2 2 rfl ?_
    refine g_callR h (pc := 3) (As := [.int x, .int y]) (st := []) dX3_rate_3 (c_noplace (gL C) (gD C) cI cO a u Z d hRC ns nk hz x y) [0, 1, 2, 3, 4, 5, 6, 7, 8, 9, 10, 11, 12, 13, 14, 15, 16, 17, 18, 19, 20, 21, 22, 23, 24, 25, 26, 27, 28, 29, 30, 31, 32, 33, 34, 35, 36, 37, 38, 39, 40, 41, 42, 43, 44, 45] rfl (by decide) gX3_rate_X3_isNoPlace rfl (q0 := 0) rfl rfl (show nPar yX3_isNoPlace RX3 2 = true by decide +kernel) ⟨Nat.le_of_ble_eq_true rfl, Nat.le_of_ble_eq_true rfl⟩ rfl (Nat.le_of_ble_eq_true rfl) ⟨Nat.zero_le _, Nat.zero_le _⟩ (fun r hr => ?_)
    subst hr
    rw [hp]
    refine g_topi (y := 1) rfl ?_
    refine g_if_eq_f h (pc := 6) (tgt := 11) dX3_rate_6 (by decide) (by decide) ?_
    refine g_iconst h (pc := 9) (v := (-1)) dX3_rate_9 (by decide) ?_
    have e1 : (rateP ns nk Z d x y r) = (-1, Z, d) := by unfold rateP; rw [if_pos hp]
    rw [e1] at hret
    exact hret _ u dX3_rate_10 rfl ⟨rfl, hRC⟩ rfl (Nat.zero_le _) (Nat.zero_le _)
  | true =>
    refine g_aload_n h (pc := 0) dX3_rate_0 0 rfl ?_
    refine g_iload_n h (pc := 1) dX3_rate_1 1 rfl ?_
    refine g_iload_n h (pc := 2) dX3_rate_2 2 rfl ?_
    refine g_callR h (pc := 3) (As := [.int x, .int y]) (st := []) dX3_rate_3 (c_noplace (gL C) (gD C) cI cO a u Z d hRC ns nk hz x y) [0, 1, 2, 3, 4, 5, 6, 7, 8, 9, 10, 11, 12, 13, 14, 15, 16, 17, 18, 19, 20, 21, 22, 23, 24, 25, 26, 27, 28, 29, 30, 31, 32, 33, 34, 35, 36, 37, 38, 39, 40, 41, 42, 43, 44, 45] rfl (by decide) gX3_rate_X3_isNoPlace rfl (q0 := 0) rfl rfl (show nPar yX3_isNoPlace RX3 2 = true by decide +kernel) ⟨Nat.le_of_ble_eq_true rfl, Nat.le_of_ble_eq_true rfl⟩ rfl (Nat.le_of_ble_eq_true rfl) ⟨Nat.zero_le _, Nat.zero_le _⟩ (fun r hr => ?_)
    subst hr
    rw [hp]
    refine g_topi (y := 0) rfl ?_
    refine g_if_eq_t h (pc := 6) (tgt := 11) dX3_rate_6 (by decide) rfl ?_
    have hpp := Bool.and_eq_true_iff.mp hp
    obtain ⟨s, hs, rfl⟩ := isIn_of (by omega) hpp.1
    obtain ⟨k, hk, rfl⟩ := isIn_of (by omega) hpp.2
    have ts : tN (nI s) = s := nI_clamp (by omega)
    have tk : tN (nI k) = k := nI_clamp (by omega)
    refine g_iload_n h (pc := 11) dX3_rate_11 3 rfl ?_
    refine g_iconst h (pc := 12) (v := 0) dX3_rate_12 (by decide) ?_
    refine g_sipush h (pc := 13) (v := 10000) dX3_rate_13 (by decide) ?_
    refine g_scallR h (pc := 16) (As := [.int r, .int (0), .int (10000)]) (st := []) dX3_rate_16 (c_out (gL C) (gD C) cI cO r (0) (10000)) [] rfl (by decide) gX3_rate_X3_isOutside rfl (show nPar yX3_isOutside RX3 3 = true by decide +kernel) ⟨Nat.le_of_ble_eq_true rfl, Nat.le_of_ble_eq_true rfl⟩ rfl (Nat.le_of_ble_eq_true rfl) ⟨Nat.zero_le _, Nat.zero_le _⟩ (fun r hr => ?_)
    subst hr
    cases ho : outB r 0 10000 with
    | true =>
      refine g_topi (y := 1) rfl ?_
      refine g_if_eq_f h (pc := 19) (tgt := 25) dX3_rate_19 (by decide) (by decide) ?_
      refine g_bipush h (pc := 22) (v := (-2)) dX3_rate_22 (by decide) ?_
      have e1 : (rateP ns nk Z d (nI s) (nI k) r) = (-2, Z, d) := by unfold rateP; rw [hp, if_neg (by decide), if_pos ho]
      rw [e1] at hret
      exact hret _ u dX3_rate_24 rfl ⟨rfl, hRC⟩ rfl (Nat.zero_le _) (Nat.zero_le _)
    | false =>
      refine g_topi (y := 0) rfl ?_
      refine g_if_eq_t h (pc := 19) (tgt := 25) dX3_rate_19 (by decide) rfl ?_
      have e1 : (rateP ns nk Z d (nI s) (nI k) r) = (Z 8 s k, su Z 8 s k r, d) := by unfold rateP; rw [hp, if_neg (by decide), if_neg (by rw [ho]; decide), ts, tk]
      rw [e1] at hret
      refine g_aload_n h (pc := 25) dX3_rate_25 0 rfl ?_
      refine g_get h (pc := 26) dX3_rate_26 iX3_rate_3 0 rfl rfl 3 (by decide) fX3_rate_28 rfl ?_
      refine g_iload_n h (pc := 29) dX3_rate_29 1 rfl ?_
      refine g_aald h (pc := 30) (v := a (32 + s)) dX3_rate_30 31 rfl (vp_in_nI (by omega) (by omega)) (by rw [nI_clamp (by omega)]) ?_
      refine g_iload_n h (pc := 31) dX3_rate_31 2 rfl ?_
      refine g_iald h (pc := 32) (v := Z 8 s k) dX3_rate_32 (32 + s) (cw_r cI cO a u Z d (by omega)) (vp_in_nI (by omega) (by omega)) (by rw [nI_clamp (by omega)]) ?_
      refine g_istore h (pc := 33) dX3_rate_33 (by decide) rfl ?_
      refine g_aload_n h (pc := 35) dX3_rate_35 0 rfl ?_
      refine g_get h (pc := 36) dX3_rate_36 iX3_rate_3 0 rfl rfl 3 (by decide) fX3_rate_28 rfl ?_
      refine g_iload_n h (pc := 39) dX3_rate_39 1 rfl ?_
      refine g_aald h (pc := 40) (v := a (32 + s)) dX3_rate_40 31 rfl (vp_in_nI (by omega) (by omega)) (by rw [nI_clamp (by omega)]) ?_
      refine g_iload_n h (pc := 41) dX3_rate_41 2 rfl ?_
      refine g_iload_n h (pc := 42) dX3_rate_42 3 rfl ?_
      refine g_iast h hw (pc := 43) (ws' := cw cI cO a u (su Z 8 s k r) d) dX3_rate_43 (32 + s) (cw_r cI cO a u Z d (by omega)) (vp_in_nI (by omega) (by omega)) (by rw [nI_clamp (by omega)]; exact cw_rs cI cO a u Z d (by omega) k _) ?_
      refine g_iload h (pc := 44) dX3_rate_44 4 rfl ?_
      exact hret _ u dX3_rate_46 rfl ⟨rfl, hRC⟩ rfl (Nat.zero_le _) (Nat.zero_le _)

theorem iX3_mend_3 : ∀ w ∈ wsX30, w ∈ wsX3_mend := by decide +kernel
theorem fX3_mend_19 : Cond.fieldLink RX3 19 "SpareShelves" "tree" "LSpareShelves$Tree;" ∈ wsX3_mend := by decide +kernel
theorem iX3_mend_2 : ∀ w ∈ wsX20, w ∈ wsX3_mend := by decide +kernel
theorem fX3_mend_72 : Cond.fieldLink RX3 72 "SpareShelves$Tree" "mendDays" "[[I" ∈ wsX3_mend := by decide +kernel
set_option maxHeartbeats 4000000 in
set_option maxRecDepth 100000 in
theorem c_mend (l : Launch) (D : va_G) (cI cO : ClassId) (a : Nat → Nat) (u : UX) (Z : Sg) (d : Dy) (hRC : RC d u) (ns nk : Nat) (hz : Zv ns nk Z) (x y b : Int32) : CIc l yX3_mend wsX3_mend 3 80 D cI cO a u Z d [.int x, .int y, .int b] (mendP ns nk Z d x y b).1 (mendP ns nk Z d x y b).2.1 (mendP ns nk Z d x y b).2.2 := by
  unfold CIc
  refine CI.of (cc := cX3_mend) (maxL := 5) (rt := .int) (by decide) rfl (Nat.le_of_ble_eq_true rfl) ?_
  intro C hgL hgD hw h hret
  have hn8 := hz.n8
  have hk8 := hz.k8
  cases hp : (isIn x ns && isIn y nk) with
  | false =>
    refine g_aload_n h (pc := 0) dX3_mend_0 0 rfl ?_
    refine g_iload_n h (pc := 1) dX3_mend_1 1 rfl ?_
    refine g_iload_n h (pc := 2) dX3_mend_2 2 rfl ?_
    refine g_callR h (pc := 3) (As := [.int x, .int y]) (st := []) dX3_mend_3 (c_noplace (gL C) (gD C) cI cO a u Z d hRC ns nk hz x y) [0, 1, 2, 3, 4, 5, 6, 7, 8, 9, 10, 11, 12, 13, 14, 15, 16, 17, 18, 19, 20, 21, 22, 23, 24, 25, 26, 27, 28, 29, 30, 31, 32, 33, 34, 35, 36, 37, 38, 39, 40, 41, 42, 43, 44, 45] rfl (by decide) gX3_mend_X3_isNoPlace rfl (q0 := 0) rfl rfl (show nPar yX3_isNoPlace RX3 2 = true by decide +kernel) ⟨Nat.le_of_ble_eq_true rfl, Nat.le_of_ble_eq_true rfl⟩ rfl (Nat.le_of_ble_eq_true rfl) ⟨Nat.zero_le _, Nat.zero_le _⟩ (fun r hr => ?_)
    subst hr
    rw [hp]
    refine g_topi (y := 1) rfl ?_
    refine g_if_eq_f h (pc := 6) (tgt := 11) dX3_mend_6 (by decide) (by decide) ?_
    refine g_iconst h (pc := 9) (v := (-1)) dX3_mend_9 (by decide) ?_
    have e1 : (mendP ns nk Z d x y b) = (-1, Z, d) := by unfold mendP; rw [if_pos hp]
    rw [e1] at hret
    exact hret _ u dX3_mend_10 rfl ⟨rfl, hRC⟩ rfl (Nat.zero_le _) (Nat.zero_le _)
  | true =>
    refine g_aload_n h (pc := 0) dX3_mend_0 0 rfl ?_
    refine g_iload_n h (pc := 1) dX3_mend_1 1 rfl ?_
    refine g_iload_n h (pc := 2) dX3_mend_2 2 rfl ?_
    refine g_callR h (pc := 3) (As := [.int x, .int y]) (st := []) dX3_mend_3 (c_noplace (gL C) (gD C) cI cO a u Z d hRC ns nk hz x y) [0, 1, 2, 3, 4, 5, 6, 7, 8, 9, 10, 11, 12, 13, 14, 15, 16, 17, 18, 19, 20, 21, 22, 23, 24, 25, 26, 27, 28, 29, 30, 31, 32, 33, 34, 35, 36, 37, 38, 39, 40, 41, 42, 43, 44, 45] rfl (by decide) gX3_mend_X3_isNoPlace rfl (q0 := 0) rfl rfl (show nPar yX3_isNoPlace RX3 2 = true by decide +kernel) ⟨Nat.le_of_ble_eq_true rfl, Nat.le_of_ble_eq_true rfl⟩ rfl (Nat.le_of_ble_eq_true rfl) ⟨Nat.zero_le _, Nat.zero_le _⟩ (fun r hr => ?_)
    subst hr
    rw [hp]
    refine g_topi (y := 0) rfl ?_
    refine g_if_eq_t h (pc := 6) (tgt := 11) dX3_mend_6 (by decide) rfl ?_
    have hpp := Bool.and_eq_true_iff.mp hp
    obtain ⟨s, hs, rfl⟩ := isIn_of (by omega) hpp.1
    obtain ⟨k, hk, rfl⟩ := isIn_of (by omega) hpp.2
    have ts : tN (nI s) = s := nI_clamp (by omega)
    have tk : tN (nI k) = k := nI_clamp (by omega)
    refine g_iload_n h (pc := 11) dX3_mend_11 3 rfl ?_
    refine g_iconst h (pc := 12) (v := 0) dX3_mend_12 (by decide) ?_
    refine g_bipush h (pc := 13) (v := 30) dX3_mend_13 (by decide) ?_
    refine g_scallR h (pc := 15) (As := [.int b, .int (0), .int (30)]) (st := []) dX3_mend_15 (c_out (gL C) (gD C) cI cO b (0) (30)) [] rfl (by decide) gX3_mend_X3_isOutside rfl (show nPar yX3_isOutside RX3 3 = true by decide +kernel) ⟨Nat.le_of_ble_eq_true rfl, Nat.le_of_ble_eq_true rfl⟩ rfl (Nat.le_of_ble_eq_true rfl) ⟨Nat.zero_le _, Nat.zero_le _⟩ (fun r hr => ?_)
    subst hr
    cases ho : outB b 0 30 with
    | true =>
      refine g_topi (y := 1) rfl ?_
      refine g_if_ne_t h (pc := 18) (tgt := 29) dX3_mend_18 (by decide) (by decide) ?_
      refine g_bipush h (pc := 29) (v := (-2)) dX3_mend_29 (by decide) ?_
      have e1 : (mendP ns nk Z d (nI s) (nI k) b) = (-2, Z, d) := by unfold mendP; rw [hp, if_neg (by decide), if_pos (Or.inl ho)]
      rw [e1] at hret
      exact hret _ u dX3_mend_31 rfl ⟨rfl, hRC⟩ rfl (Nat.zero_le _) (Nat.zero_le _)
    | false =>
      refine g_topi (y := 0) rfl ?_
      refine g_if_ne_f h (pc := 18) (tgt := 29) dX3_mend_18 (by decide) rfl ?_
      refine g_iload_n h (pc := 21) dX3_mend_21 1 rfl ?_
      by_cases hb : b = 0
      · by_cases hs0 : nI s = 0
        · refine g_if_ne_f h (pc := 22) (tgt := 32) dX3_mend_22 (by decide) hs0 ?_
          refine g_iload_n h (pc := 25) dX3_mend_25 3 rfl ?_
          refine g_if_ne_f h (pc := 26) (tgt := 32) dX3_mend_26 (by decide) hb ?_
          refine g_bipush h (pc := 29) (v := (-2)) dX3_mend_29 (by decide) ?_
          have e1 : (mendP ns nk Z d (nI s) (nI k) b) = (-2, Z, d) := by unfold mendP; rw [hp, if_neg (by decide), if_pos (Or.inr ⟨hs0, hb⟩)]
          rw [e1] at hret
          exact hret _ u dX3_mend_31 rfl ⟨rfl, hRC⟩ rfl (Nat.zero_le _) (Nat.zero_le _)
        · refine g_if_ne_t h (pc := 22) (tgt := 32) dX3_mend_22 (by decide) hs0 ?_
          refine g_iload_n h (pc := 32) dX3_mend_32 3 rfl ?_
          refine g_if_ne_f h (pc := 33) (tgt := 48) dX3_mend_33 (by decide) hb ?_
          refine g_aload_n h (pc := 36) dX3_mend_36 0 rfl ?_
          refine g_iload_n h (pc := 37) dX3_mend_37 1 rfl ?_
          refine g_iload_n h (pc := 38) dX3_mend_38 2 rfl ?_
          refine g_callR h (pc := 39) (As := [.int (nI s), .int (nI k)]) (st := []) dX3_mend_39 (c_mwait (gL C) (gD C) cI cO a u Z d hRC ns nk hz (nI s) (nI k)) [0, 1, 2, 3, 4, 5, 6, 7, 8, 9, 10, 11, 12, 13, 14, 15, 16, 17, 18, 19, 20, 21, 22, 23, 24, 25, 26, 27, 28, 29, 30, 31, 32, 33, 34, 35, 36, 37, 38, 39, 40, 41, 42, 43, 44, 45] rfl (by decide) gX3_mend_X3_mendsThatWait rfl (q0 := 0) rfl rfl (show nPar yX3_mendsThatWait RX3 2 = true by decide +kernel) ⟨Nat.le_of_ble_eq_true rfl, Nat.le_of_ble_eq_true rfl⟩ rfl (Nat.le_of_ble_eq_true rfl) ⟨Nat.zero_le _, Nat.zero_le _⟩ (fun r hr => ?_)
          subst hr
          refine g_if_le h (pc := 42) (tgt := 48) dX3_mend_42 (by decide) (fun c5 => ?_) (fun c5 => ?_)
          · have e1 : (mendP ns nk Z d (nI s) (nI k) b) = (Z 6 s k, su Z 6 s k b, d) := by unfold mendP; rw [hp, if_neg (by decide), if_neg (by rw [ho]; exact fun q => q.elim (fun q => absurd q (by decide)) (fun q => hs0 q.1)), if_neg (fun q => absurd c5 (Int32.not_le.mpr q.2)), ts, tk]
            rw [e1] at hret
            refine g_aload_n h (pc := 48) dX3_mend_48 0 rfl ?_
            refine g_get h (pc := 49) dX3_mend_49 iX3_mend_3 0 rfl rfl 1 (by decide) fX3_mend_19 rfl ?_
            refine g_get h (pc := 52) dX3_mend_52 iX3_mend_2 10 rfl rfl 2 (by decide) fX3_mend_72 rfl ?_
            refine g_iload_n h (pc := 55) dX3_mend_55 1 rfl ?_
            refine g_aald h (pc := 56) (v := a (10 + (4 + s))) dX3_mend_56 13 rfl (vp_in_nI (by omega) (by omega)) (by rw [nI_clamp (by omega)]) ?_
            refine g_iload_n h (pc := 57) dX3_mend_57 2 rfl ?_
            refine g_iald h (pc := 58) (v := Z 6 s k) dX3_mend_58 (10 + (4 + s)) (cw_m cI cO a u Z d (by omega)) (vp_in_nI (by omega) (by omega)) (by rw [nI_clamp (by omega)]) ?_
            refine g_istore h (pc := 59) dX3_mend_59 (by decide) rfl ?_
            refine g_aload_n h (pc := 61) dX3_mend_61 0 rfl ?_
            refine g_get h (pc := 62) dX3_mend_62 iX3_mend_3 0 rfl rfl 1 (by decide) fX3_mend_19 rfl ?_
            refine g_get h (pc := 65) dX3_mend_65 iX3_mend_2 10 rfl rfl 2 (by decide) fX3_mend_72 rfl ?_
            refine g_iload_n h (pc := 68) dX3_mend_68 1 rfl ?_
            refine g_aald h (pc := 69) (v := a (10 + (4 + s))) dX3_mend_69 13 rfl (vp_in_nI (by omega) (by omega)) (by rw [nI_clamp (by omega)]) ?_
            refine g_iload_n h (pc := 70) dX3_mend_70 2 rfl ?_
            refine g_iload_n h (pc := 71) dX3_mend_71 3 rfl ?_
            refine g_iast h hw (pc := 72) (ws' := cw cI cO a u (su Z 6 s k b) d) dX3_mend_72 (10 + (4 + s)) (cw_m cI cO a u Z d (by omega)) (vp_in_nI (by omega) (by omega)) (by rw [nI_clamp (by omega)]; exact cw_ms cI cO a u Z d (by omega) k _) ?_
            refine g_iload h (pc := 73) dX3_mend_73 4 rfl ?_
            exact hret _ u dX3_mend_75 rfl ⟨rfl, hRC⟩ rfl (Nat.zero_le _) (Nat.zero_le _)
          · refine g_bipush h (pc := 45) (v := (-3)) dX3_mend_45 (by decide) ?_
            have e1 : (mendP ns nk Z d (nI s) (nI k) b) = (-3, Z, d) := by unfold mendP; rw [hp, if_neg (by decide), if_neg (by rw [ho]; exact fun q => q.elim (fun q => absurd q (by decide)) (fun q => hs0 q.1)), if_pos ⟨hb, Int32.not_le.mp c5⟩]
            rw [e1] at hret
            exact hret _ u dX3_mend_47 rfl ⟨rfl, hRC⟩ rfl (Nat.zero_le _) (Nat.zero_le _)
      · have hbad : ¬ (outB b 0 30 = true ∨ (nI s = 0 ∧ b = 0)) := by rw [ho]; exact fun q => q.elim (fun q => absurd q (by decide)) (fun q => hb q.2)
        refine g_if_ne h (pc := 22) (tgt := 32) dX3_mend_22 (by decide) (fun c4 => ?_) (fun c4 => ?_)
        · refine g_iload_n h (pc := 32) dX3_mend_32 3 rfl ?_
          refine g_if_ne_t h (pc := 33) (tgt := 48) dX3_mend_33 (by decide) hb ?_
          have e1 : (mendP ns nk Z d (nI s) (nI k) b) = (Z 6 s k, su Z 6 s k b, d) := by unfold mendP; rw [hp, if_neg (by decide), if_neg (hbad), if_neg (fun q => hb q.1), ts, tk]
          rw [e1] at hret
          refine g_aload_n h (pc := 48) dX3_mend_48 0 rfl ?_
          refine g_get h (pc := 49) dX3_mend_49 iX3_mend_3 0 rfl rfl 1 (by decide) fX3_mend_19 rfl ?_
          refine g_get h (pc := 52) dX3_mend_52 iX3_mend_2 10 rfl rfl 2 (by decide) fX3_mend_72 rfl ?_
          refine g_iload_n h (pc := 55) dX3_mend_55 1 rfl ?_
          refine g_aald h (pc := 56) (v := a (10 + (4 + s))) dX3_mend_56 13 rfl (vp_in_nI (by omega) (by omega)) (by rw [nI_clamp (by omega)]) ?_
          refine g_iload_n h (pc := 57) dX3_mend_57 2 rfl ?_
          refine g_iald h (pc := 58) (v := Z 6 s k) dX3_mend_58 (10 + (4 + s)) (cw_m cI cO a u Z d (by omega)) (vp_in_nI (by omega) (by omega)) (by rw [nI_clamp (by omega)]) ?_
          refine g_istore h (pc := 59) dX3_mend_59 (by decide) rfl ?_
          refine g_aload_n h (pc := 61) dX3_mend_61 0 rfl ?_
          refine g_get h (pc := 62) dX3_mend_62 iX3_mend_3 0 rfl rfl 1 (by decide) fX3_mend_19 rfl ?_
          refine g_get h (pc := 65) dX3_mend_65 iX3_mend_2 10 rfl rfl 2 (by decide) fX3_mend_72 rfl ?_
          refine g_iload_n h (pc := 68) dX3_mend_68 1 rfl ?_
          refine g_aald h (pc := 69) (v := a (10 + (4 + s))) dX3_mend_69 13 rfl (vp_in_nI (by omega) (by omega)) (by rw [nI_clamp (by omega)]) ?_
          refine g_iload_n h (pc := 70) dX3_mend_70 2 rfl ?_
          refine g_iload_n h (pc := 71) dX3_mend_71 3 rfl ?_
          refine g_iast h hw (pc := 72) (ws' := cw cI cO a u (su Z 6 s k b) d) dX3_mend_72 (10 + (4 + s)) (cw_m cI cO a u Z d (by omega)) (vp_in_nI (by omega) (by omega)) (by rw [nI_clamp (by omega)]; exact cw_ms cI cO a u Z d (by omega) k _) ?_
          refine g_iload h (pc := 73) dX3_mend_73 4 rfl ?_
          exact hret _ u dX3_mend_75 rfl ⟨rfl, hRC⟩ rfl (Nat.zero_le _) (Nat.zero_le _)
        · refine g_iload_n h (pc := 25) dX3_mend_25 3 rfl ?_
          refine g_if_ne_t h (pc := 26) (tgt := 32) dX3_mend_26 (by decide) hb ?_
          refine g_iload_n h (pc := 32) dX3_mend_32 3 rfl ?_
          refine g_if_ne_t h (pc := 33) (tgt := 48) dX3_mend_33 (by decide) hb ?_
          have e1 : (mendP ns nk Z d (nI s) (nI k) b) = (Z 6 s k, su Z 6 s k b, d) := by unfold mendP; rw [hp, if_neg (by decide), if_neg (hbad), if_neg (fun q => hb q.1), ts, tk]
          rw [e1] at hret
          refine g_aload_n h (pc := 48) dX3_mend_48 0 rfl ?_
          refine g_get h (pc := 49) dX3_mend_49 iX3_mend_3 0 rfl rfl 1 (by decide) fX3_mend_19 rfl ?_
          refine g_get h (pc := 52) dX3_mend_52 iX3_mend_2 10 rfl rfl 2 (by decide) fX3_mend_72 rfl ?_
          refine g_iload_n h (pc := 55) dX3_mend_55 1 rfl ?_
          refine g_aald h (pc := 56) (v := a (10 + (4 + s))) dX3_mend_56 13 rfl (vp_in_nI (by omega) (by omega)) (by rw [nI_clamp (by omega)]) ?_
          refine g_iload_n h (pc := 57) dX3_mend_57 2 rfl ?_
          refine g_iald h (pc := 58) (v := Z 6 s k) dX3_mend_58 (10 + (4 + s)) (cw_m cI cO a u Z d (by omega)) (vp_in_nI (by omega) (by omega)) (by rw [nI_clamp (by omega)]) ?_
          refine g_istore h (pc := 59) dX3_mend_59 (by decide) rfl ?_
          refine g_aload_n h (pc := 61) dX3_mend_61 0 rfl ?_
          refine g_get h (pc := 62) dX3_mend_62 iX3_mend_3 0 rfl rfl 1 (by decide) fX3_mend_19 rfl ?_
          refine g_get h (pc := 65) dX3_mend_65 iX3_mend_2 10 rfl rfl 2 (by decide) fX3_mend_72 rfl ?_
          refine g_iload_n h (pc := 68) dX3_mend_68 1 rfl ?_
          refine g_aald h (pc := 69) (v := a (10 + (4 + s))) dX3_mend_69 13 rfl (vp_in_nI (by omega) (by omega)) (by rw [nI_clamp (by omega)]) ?_
          refine g_iload_n h (pc := 70) dX3_mend_70 2 rfl ?_
          refine g_iload_n h (pc := 71) dX3_mend_71 3 rfl ?_
          refine g_iast h hw (pc := 72) (ws' := cw cI cO a u (su Z 6 s k b) d) dX3_mend_72 (10 + (4 + s)) (cw_m cI cO a u Z d (by omega)) (vp_in_nI (by omega) (by omega)) (by rw [nI_clamp (by omega)]; exact cw_ms cI cO a u Z d (by omega) k _) ?_
          refine g_iload h (pc := 73) dX3_mend_73 4 rfl ?_
          exact hret _ u dX3_mend_75 rfl ⟨rfl, hRC⟩ rfl (Nat.zero_le _) (Nat.zero_le _)

theorem iX3_shelf_3 : ∀ w ∈ wsX30, w ∈ wsX3_shelf := by decide +kernel
theorem fX3_shelf_19 : Cond.fieldLink RX3 19 "SpareShelves" "tree" "LSpareShelves$Tree;" ∈ wsX3_shelf := by decide +kernel
theorem iX3_shelf_2 : ∀ w ∈ wsX20, w ∈ wsX3_shelf := by decide +kernel
theorem fX3_shelf_76 : Cond.fieldLink RX3 76 "SpareShelves$Tree" "size" "I" ∈ wsX3_shelf := by decide +kernel
theorem fX3_shelf_77 : Cond.fieldLink RX3 77 "SpareShelves$Tree" "up" "[I" ∈ wsX3_shelf := by decide +kernel
theorem fX3_shelf_80 : Cond.fieldLink RX3 80 "SpareShelves$Tree" "way" "[I" ∈ wsX3_shelf := by decide +kernel
set_option maxHeartbeats 4000000 in
set_option maxRecDepth 100000 in
theorem c_shelf (l : Launch) (D : va_G) (cI cO : ClassId) (a : Nat → Nat) (u : UX) (Z : Sg) (d : Dy) (hRC : RC d u) (ns nk : Nat) (hz : Zv ns nk Z) (x y : Int32) : CIc l yX3_shelf wsX3_shelf 1 30 D cI cO a u Z d [.int x, .int y] (shelfP ns Z d x y).1 (shelfP ns Z d x y).2.1 (shelfP ns Z d x y).2.2 := by
  unfold CIc
  refine CI.of (cc := cX3_shelf) (maxL := 4) (rt := .int) (by decide) rfl (Nat.le_of_ble_eq_true rfl) ?_
  intro C hgL hgD hw h hret
  have hn8 := hz.n8
  have hk8 := hz.k8
  refine g_aload_n h (pc := 0) dX3_shelf_0 0 rfl ?_
  refine g_get h (pc := 1) dX3_shelf_1 iX3_shelf_3 0 rfl rfl 1 (by decide) fX3_shelf_19 rfl ?_
  refine g_iload_n h (pc := 4) dX3_shelf_4 1 rfl ?_
  refine g_callR h (pc := 5) (As := [.int x]) (st := []) dX3_shelf_5 (c_thas (gL C) (gD C) cI cO (fun i => a (10 + i)) Z ns hz.n8 hz.ns x) [10, 11, 12, 13, 14, 15, 16, 17, 18, 19, 20, 21] rfl (by decide) gX3_shelf_X2_has rfl (q0 := 0) rfl rfl (show nPar yX2_has RX2 1 = true by decide +kernel) ⟨Nat.le_of_ble_eq_true rfl, Nat.le_of_ble_eq_true rfl⟩ rfl (Nat.le_of_ble_eq_true rfl) ⟨Nat.zero_le _, Nat.zero_le _⟩ (fun r hr => ?_)
  subst hr
  cases hp : isIn x ns with
  | false =>
    refine g_topi (y := 0) rfl ?_
    refine g_if_ne_f h (pc := 8) (tgt := 13) dX3_shelf_8 (by decide) rfl ?_
    refine g_iconst h (pc := 11) (v := (-1)) dX3_shelf_11 (by decide) ?_
    have e1 : (shelfP ns Z d x y) = (-1, Z, d) := by unfold shelfP; rw [if_pos hp]
    rw [e1] at hret
    exact hret _ u dX3_shelf_12 rfl ⟨rfl, hRC⟩ rfl (Nat.zero_le _) (Nat.zero_le _)
  | true =>
    refine g_topi (y := 1) rfl ?_
    refine g_if_ne_t h (pc := 8) (tgt := 13) dX3_shelf_8 (by decide) (by decide) ?_
    refine g_iload_n h (pc := 13) dX3_shelf_13 2 rfl ?_
    refine g_iconst h (pc := 14) (v := 1) dX3_shelf_14 (by decide) ?_
    refine g_bipush h (pc := 15) (v := 20) dX3_shelf_15 (by decide) ?_
    refine g_scallR h (pc := 17) (As := [.int y, .int (1), .int (20)]) (st := []) dX3_shelf_17 (c_out (gL C) (gD C) cI cO y (1) (20)) [] rfl (by decide) gX3_shelf_X3_isOutside rfl (show nPar yX3_isOutside RX3 3 = true by decide +kernel) ⟨Nat.le_of_ble_eq_true rfl, Nat.le_of_ble_eq_true rfl⟩ rfl (Nat.le_of_ble_eq_true rfl) ⟨Nat.zero_le _, Nat.zero_le _⟩ (fun r hr => ?_)
    subst hr
    cases ho : outB y 1 20 with
    | true =>
      refine g_topi (y := 1) rfl ?_
      refine g_if_eq_f h (pc := 20) (tgt := 26) dX3_shelf_20 (by decide) (by decide) ?_
      refine g_bipush h (pc := 23) (v := (-2)) dX3_shelf_23 (by decide) ?_
      have e1 : (shelfP ns Z d x y) = (-2, Z, d) := by unfold shelfP; rw [hp, if_neg (by decide), if_pos ho]
      rw [e1] at hret
      exact hret _ u dX3_shelf_25 rfl ⟨rfl, hRC⟩ rfl (Nat.zero_le _) (Nat.zero_le _)
    | false =>
      refine g_topi (y := 0) rfl ?_
      refine g_if_eq_t h (pc := 20) (tgt := 26) dX3_shelf_20 (by decide) rfl ?_
      refine g_aload_n h (pc := 26) dX3_shelf_26 0 rfl ?_
      refine g_get h (pc := 27) dX3_shelf_27 iX3_shelf_3 0 rfl rfl 1 (by decide) fX3_shelf_19 rfl ?_
      refine g_get h (pc := 30) dX3_shelf_30 iX3_shelf_2 10 rfl rfl 3 (by decide) fX3_shelf_76 rfl ?_
      refine g_topi hz.ns ?_
      refine g_bipush h (pc := 33) (v := 8) dX3_shelf_33 (by decide) ?_
      by_cases h8 : 8 ≤ ns
      · refine g_icmp_lt_f h (pc := 35) (tgt := 41) dX3_shelf_35 (by decide) (nI_nlt (a := ns) (b := 8) h8 (by omega)) ?_
        refine g_bipush h (pc := 38) (v := (-4)) dX3_shelf_38 (by decide) ?_
        have e1 : (shelfP ns Z d x y) = (-4, Z, d) := by unfold shelfP; rw [hp, if_neg (by decide), if_neg (by rw [ho]; decide), if_pos h8]
        rw [e1] at hret
        exact hret _ u dX3_shelf_40 rfl ⟨rfl, hRC⟩ rfl (Nat.zero_le _) (Nat.zero_le _)
      · refine g_icmp_lt_t h (pc := 35) (tgt := 41) dX3_shelf_35 (by decide) (nI_lt (a := ns) (b := 8) (by omega) (by omega)) ?_
        have e1 : (shelfP ns Z d x y) = (nI ns, su (su (su Z 3 0 ns x) 4 0 ns y) 14 0 1 (nI (ns + 1)), d) := by unfold shelfP; rw [hp, if_neg (by decide), if_neg (by rw [ho]; decide), if_neg h8]
        rw [e1] at hret
        refine g_aload_n h (pc := 41) dX3_shelf_41 0 rfl ?_
        refine g_get h (pc := 42) dX3_shelf_42 iX3_shelf_3 0 rfl rfl 1 (by decide) fX3_shelf_19 rfl ?_
        refine g_get h (pc := 45) dX3_shelf_45 iX3_shelf_2 10 rfl rfl 3 (by decide) fX3_shelf_76 rfl ?_
        refine g_topi hz.ns ?_
        refine g_istore_n h (pc := 48) dX3_shelf_48 (by decide) rfl ?_
        refine g_aload_n h (pc := 49) dX3_shelf_49 0 rfl ?_
        refine g_get h (pc := 50) dX3_shelf_50 iX3_shelf_3 0 rfl rfl 1 (by decide) fX3_shelf_19 rfl ?_
        refine g_get h (pc := 53) dX3_shelf_53 iX3_shelf_2 10 rfl rfl 0 (by decide) fX3_shelf_77 rfl ?_
        refine g_iload_n h (pc := 56) dX3_shelf_56 3 rfl ?_
        refine g_iload_n h (pc := 57) dX3_shelf_57 1 rfl ?_
        refine g_iast h hw (pc := 58) (ws' := cw cI cO a u (su Z 3 0 ns x) d) dX3_shelf_58 11 rfl (vp_in_nI (by omega) (by omega)) (by rw [nI_clamp (by omega)]; rfl) ?_
        refine g_aload_n h (pc := 59) dX3_shelf_59 0 rfl ?_
        refine g_get h (pc := 60) dX3_shelf_60 iX3_shelf_3 0 rfl rfl 1 (by decide) fX3_shelf_19 rfl ?_
        refine g_get h (pc := 63) dX3_shelf_63 iX3_shelf_2 10 rfl rfl 1 (by decide) fX3_shelf_80 rfl ?_
        refine g_iload_n h (pc := 66) dX3_shelf_66 3 rfl ?_
        refine g_iload_n h (pc := 67) dX3_shelf_67 2 rfl ?_
        refine g_iast h hw (pc := 68) (ws' := cw cI cO a u (su (su Z 3 0 ns x) 4 0 ns y) d) dX3_shelf_68 12 rfl (vp_in_nI (by omega) (by omega)) (by rw [nI_clamp (by omega)]; rfl) ?_
        refine g_aload_n h (pc := 69) dX3_shelf_69 0 rfl ?_
        refine g_get h (pc := 70) dX3_shelf_70 iX3_shelf_3 0 rfl rfl 1 (by decide) fX3_shelf_19 rfl ?_
        refine g_dup h (pc := 73) dX3_shelf_73 rfl ?_
        refine g_get h (pc := 74) dX3_shelf_74 iX3_shelf_2 10 rfl rfl 3 (by decide) fX3_shelf_76 rfl ?_
        refine g_topi (y := nI ns) hz.ns ?_
        refine g_iconst h (pc := 77) (v := 1) dX3_shelf_77 (by decide) ?_
        refine g_iadd h (pc := 78) dX3_shelf_78  ?_
        refine g_topi (nI_1 ns) ?_
        refine g_put h hw (pc := 79) (ws' := cw cI cO a u (su (su (su Z 3 0 ns x) 4 0 ns y) 14 0 1 (nI (ns + 1))) d) (ty := .int) dX3_shelf_79 iX3_shelf_2 tyX2 tyX2_ok nmX2 10 rfl rfl 3 (by decide) fX3_shelf_76 rfl (by decide +kernel) rfl rfl (Nat.le_of_ble_eq_true rfl) rfl ?_
        refine g_iload_n h (pc := 82) dX3_shelf_82 3 rfl ?_
        exact hret _ u dX3_shelf_83 rfl ⟨rfl, hRC⟩ rfl (Nat.zero_le _) (Nat.zero_le _)

theorem iX3_kind_3 : ∀ w ∈ wsX30, w ∈ wsX3_kind := by decide +kernel
theorem fX3_kind_10 : Cond.fieldLink RX3 10 "SpareShelves" "kinds" "LSpareShelves$Kinds;" ∈ wsX3_kind := by decide +kernel
theorem iX3_kind_0 : ∀ w ∈ wsX00, w ∈ wsX3_kind := by decide +kernel
theorem fX3_kind_60 : Cond.fieldLink RX3 60 "SpareShelves$Kinds" "size" "I" ∈ wsX3_kind := by decide +kernel
theorem fX3_kind_63 : Cond.fieldLink RX3 63 "SpareShelves$Kinds" "price" "[I" ∈ wsX3_kind := by decide +kernel
theorem fX3_kind_66 : Cond.fieldLink RX3 66 "SpareShelves$Kinds" "buyDays" "[I" ∈ wsX3_kind := by decide +kernel
theorem fX3_kind_69 : Cond.fieldLink RX3 69 "SpareShelves$Kinds" "core" "[I" ∈ wsX3_kind := by decide +kernel
theorem fX3_kind_19 : Cond.fieldLink RX3 19 "SpareShelves" "tree" "LSpareShelves$Tree;" ∈ wsX3_kind := by decide +kernel
theorem iX3_kind_2 : ∀ w ∈ wsX20, w ∈ wsX3_kind := by decide +kernel
theorem fX3_kind_72 : Cond.fieldLink RX3 72 "SpareShelves$Tree" "mendDays" "[[I" ∈ wsX3_kind := by decide +kernel
set_option maxHeartbeats 4000000 in
set_option maxRecDepth 100000 in
theorem c_kind (l : Launch) (D : va_G) (cI cO : ClassId) (a : Nat → Nat) (u : UX) (Z : Sg) (d : Dy) (hRC : RC d u) (ns nk : Nat) (hz : Zv ns nk Z) (x y c : Int32) : CIc l yX3_kind wsX3_kind 1 30 D cI cO a u Z d [.int x, .int y, .int c] (kindP nk Z d x y c).1 (kindP nk Z d x y c).2.1 (kindP nk Z d x y c).2.2 := by
  unfold CIc
  refine CI.of (cc := cX3_kind) (maxL := 5) (rt := .int) (by decide) rfl (Nat.le_of_ble_eq_true rfl) ?_
  intro C hgL hgD hw h hret
  have hn8 := hz.n8
  have hk8 := hz.k8
  refine g_iload_n h (pc := 0) dX3_kind_0 1 rfl ?_
  refine g_iconst h (pc := 1) (v := 1) dX3_kind_1 (by decide) ?_
  refine g_sipush h (pc := 2) (v := 1000) dX3_kind_2 (by decide) ?_
  refine g_scallR h (pc := 5) (As := [.int x, .int (1), .int (1000)]) (st := []) dX3_kind_5 (c_out (gL C) (gD C) cI cO x (1) (1000)) [] rfl (by decide) gX3_kind_X3_isOutside rfl (show nPar yX3_isOutside RX3 3 = true by decide +kernel) ⟨Nat.le_of_ble_eq_true rfl, Nat.le_of_ble_eq_true rfl⟩ rfl (Nat.le_of_ble_eq_true rfl) ⟨Nat.zero_le _, Nat.zero_le _⟩ (fun r hr => ?_)
  subst hr
  cases ho : outB x 1 1000 with
  | true =>
    refine g_topi (y := 1) rfl ?_
    refine g_if_ne_t h (pc := 8) (tgt := 21) dX3_kind_8 (by decide) (by decide) ?_
    refine g_bipush h (pc := 21) (v := (-2)) dX3_kind_21 (by decide) ?_
    have e1 : (kindP nk Z d x y c) = (-2, Z, d) := by unfold kindP; rw [if_pos (by rw [ho]; rfl)]
    rw [e1] at hret
    exact hret _ u dX3_kind_23 rfl ⟨rfl, hRC⟩ rfl (Nat.zero_le _) (Nat.zero_le _)
  | false =>
    refine g_topi (y := 0) rfl ?_
    refine g_if_ne_f h (pc := 8) (tgt := 21) dX3_kind_8 (by decide) rfl ?_
    refine g_iload_n h (pc := 11) dX3_kind_11 2 rfl ?_
    refine g_iconst h (pc := 12) (v := 1) dX3_kind_12 (by decide) ?_
    refine g_bipush h (pc := 13) (v := 50) dX3_kind_13 (by decide) ?_
    refine g_scallR h (pc := 15) (As := [.int y, .int (1), .int (50)]) (st := []) dX3_kind_15 (c_out (gL C) (gD C) cI cO y (1) (50)) [] rfl (by decide) gX3_kind_X3_isOutside rfl (show nPar yX3_isOutside RX3 3 = true by decide +kernel) ⟨Nat.le_of_ble_eq_true rfl, Nat.le_of_ble_eq_true rfl⟩ rfl (Nat.le_of_ble_eq_true rfl) ⟨Nat.zero_le _, Nat.zero_le _⟩ (fun r hr => ?_)
    subst hr
    cases ho2 : outB y 1 50 with
    | true =>
      refine g_topi (y := 1) rfl ?_
      refine g_if_eq_f h (pc := 18) (tgt := 24) dX3_kind_18 (by decide) (by decide) ?_
      refine g_bipush h (pc := 21) (v := (-2)) dX3_kind_21 (by decide) ?_
      have e1 : (kindP nk Z d x y c) = (-2, Z, d) := by unfold kindP; rw [if_pos (by rw [ho, ho2]; rfl)]
      rw [e1] at hret
      exact hret _ u dX3_kind_23 rfl ⟨rfl, hRC⟩ rfl (Nat.zero_le _) (Nat.zero_le _)
    | false =>
      refine g_topi (y := 0) rfl ?_
      refine g_if_eq_t h (pc := 18) (tgt := 24) dX3_kind_18 (by decide) rfl ?_
      refine g_iload_n h (pc := 24) dX3_kind_24 3 rfl ?_
      refine g_iconst h (pc := 25) (v := (-1)) dX3_kind_25 (by decide) ?_
      have hA : ¬ (outB x 1 1000 || outB y 1 50) = true := by rw [ho, ho2]; decide
      have tl : (!decide (c = -1) && !isIn c nk) = false → GG C 5 (cw cI cO a u Z d) 0 0 42 [(0, .ref (a 0)), (1, .int x), (2, .int y), (3, .int c)] [] := by
        intro hB
        refine g_aload_n h (pc := 42) dX3_kind_42 0 rfl ?_
        refine g_get h (pc := 43) dX3_kind_43 iX3_kind_3 0 rfl rfl 0 (by decide) fX3_kind_10 rfl ?_
        refine g_get h (pc := 46) dX3_kind_46 iX3_kind_0 1 rfl rfl 8 (by decide) fX3_kind_60 rfl ?_
        refine g_topi hz.nk ?_
        refine g_bipush h (pc := 49) (v := 8) dX3_kind_49 (by decide) ?_
        by_cases h8 : 8 ≤ nk
        · refine g_icmp_lt_f h (pc := 51) (tgt := 57) dX3_kind_51 (by decide) (nI_nlt (a := nk) (b := 8) h8 (by omega)) ?_
          refine g_bipush h (pc := 54) (v := (-4)) dX3_kind_54 (by decide) ?_
          have e1 : (kindP nk Z d x y c) = (-4, Z, d) := by unfold kindP; rw [if_neg hA, if_neg (by rw [hB]; decide), if_pos h8]
          rw [e1] at hret
          exact hret _ u dX3_kind_56 rfl ⟨rfl, hRC⟩ rfl (Nat.zero_le _) (Nat.zero_le _)
        · refine g_icmp_lt_t h (pc := 51) (tgt := 57) dX3_kind_51 (by decide) (nI_lt (a := nk) (b := 8) (by omega) (by omega)) ?_
          have e1 : (kindP nk Z d x y c) = (nI nk, su (su (su (su (su Z 0 0 nk x) 1 0 nk y) 2 0 nk c) 14 0 0 (nI (nk + 1))) 6 0 nk 10, d) := by unfold kindP; rw [if_neg hA, if_neg (by rw [hB]; decide), if_neg h8]
          rw [e1] at hret
          refine g_aload_n h (pc := 57) dX3_kind_57 0 rfl ?_
          refine g_get h (pc := 58) dX3_kind_58 iX3_kind_3 0 rfl rfl 0 (by decide) fX3_kind_10 rfl ?_
          refine g_get h (pc := 61) dX3_kind_61 iX3_kind_0 1 rfl rfl 8 (by decide) fX3_kind_60 rfl ?_
          refine g_topi hz.nk ?_
          refine g_istore h (pc := 64) dX3_kind_64 (by decide) rfl ?_
          refine g_aload_n h (pc := 66) dX3_kind_66 0 rfl ?_
          refine g_get h (pc := 67) dX3_kind_67 iX3_kind_3 0 rfl rfl 0 (by decide) fX3_kind_10 rfl ?_
          refine g_get h (pc := 70) dX3_kind_70 iX3_kind_0 1 rfl rfl 0 (by decide) fX3_kind_63 rfl ?_
          refine g_iload h (pc := 73) dX3_kind_73 4 rfl ?_
          refine g_iload_n h (pc := 75) dX3_kind_75 1 rfl ?_
          refine g_iast h hw (pc := 76) (ws' := cw cI cO a u (su Z 0 0 nk x) d) dX3_kind_76 2 rfl (vp_in_nI (by omega) (by omega)) (by rw [nI_clamp (by omega)]; rfl) ?_
          refine g_aload_n h (pc := 77) dX3_kind_77 0 rfl ?_
          refine g_get h (pc := 78) dX3_kind_78 iX3_kind_3 0 rfl rfl 0 (by decide) fX3_kind_10 rfl ?_
          refine g_get h (pc := 81) dX3_kind_81 iX3_kind_0 1 rfl rfl 1 (by decide) fX3_kind_66 rfl ?_
          refine g_iload h (pc := 84) dX3_kind_84 4 rfl ?_
          refine g_iload_n h (pc := 86) dX3_kind_86 2 rfl ?_
          refine g_iast h hw (pc := 87) (ws' := cw cI cO a u (su (su Z 0 0 nk x) 1 0 nk y) d) dX3_kind_87 3 rfl (vp_in_nI (by omega) (by omega)) (by rw [nI_clamp (by omega)]; rfl) ?_
          refine g_aload_n h (pc := 88) dX3_kind_88 0 rfl ?_
          refine g_get h (pc := 89) dX3_kind_89 iX3_kind_3 0 rfl rfl 0 (by decide) fX3_kind_10 rfl ?_
          refine g_get h (pc := 92) dX3_kind_92 iX3_kind_0 1 rfl rfl 2 (by decide) fX3_kind_69 rfl ?_
          refine g_iload h (pc := 95) dX3_kind_95 4 rfl ?_
          refine g_iload_n h (pc := 97) dX3_kind_97 3 rfl ?_
          refine g_iast h hw (pc := 98) (ws' := cw cI cO a u (su (su (su Z 0 0 nk x) 1 0 nk y) 2 0 nk c) d) dX3_kind_98 4 rfl (vp_in_nI (by omega) (by omega)) (by rw [nI_clamp (by omega)]; rfl) ?_
          refine g_aload_n h (pc := 99) dX3_kind_99 0 rfl ?_
          refine g_get h (pc := 100) dX3_kind_100 iX3_kind_3 0 rfl rfl 0 (by decide) fX3_kind_10 rfl ?_
          refine g_dup h (pc := 103) dX3_kind_103 rfl ?_
          refine g_get h (pc := 104) dX3_kind_104 iX3_kind_0 1 rfl rfl 8 (by decide) fX3_kind_60 rfl ?_
          refine g_topi (y := nI nk) hz.nk ?_
          refine g_iconst h (pc := 107) (v := 1) dX3_kind_107 (by decide) ?_
          refine g_iadd h (pc := 108) dX3_kind_108  ?_
          refine g_topi (nI_1 nk) ?_
          refine g_put h hw (pc := 109) (ws' := cw cI cO a u (su (su (su (su Z 0 0 nk x) 1 0 nk y) 2 0 nk c) 14 0 0 (nI (nk + 1))) d) (ty := .int) dX3_kind_109 iX3_kind_0 tyX0 tyX0_ok nmX0 1 rfl rfl 8 (by decide) fX3_kind_60 rfl (by decide +kernel) rfl rfl (Nat.le_of_ble_eq_true rfl) rfl ?_
          refine g_aload_n h (pc := 112) dX3_kind_112 0 rfl ?_
          refine g_get h (pc := 113) dX3_kind_113 iX3_kind_3 0 rfl rfl 1 (by decide) fX3_kind_19 rfl ?_
          refine g_get h (pc := 116) dX3_kind_116 iX3_kind_2 10 rfl rfl 2 (by decide) fX3_kind_72 rfl ?_
          refine g_iconst h (pc := 119) (v := 0) dX3_kind_119 (by decide) ?_
          refine g_aald h (pc := 120) (v := a (10 + (4 + 0))) dX3_kind_120 13 rfl (vp_in_nI (n := 0) (by omega) (by omega)) rfl ?_
          refine g_iload h (pc := 121) dX3_kind_121 4 rfl ?_
          refine g_bipush h (pc := 123) (v := 10) dX3_kind_123 (by decide) ?_
          refine g_iast h hw (pc := 125) (ws' := cw cI cO a u (su (su (su (su (su Z 0 0 nk x) 1 0 nk y) 2 0 nk c) 14 0 0 (nI (nk + 1))) 6 0 nk 10) d) dX3_kind_125 (10 + (4 + 0)) (cw_m cI cO a u (su (su (su (su Z 0 0 nk x) 1 0 nk y) 2 0 nk c) 14 0 0 (nI (nk + 1))) d (by omega)) (vp_in_nI (by omega) (by omega)) (by rw [nI_clamp (by omega)]; exact cw_ms cI cO a u (su (su (su (su Z 0 0 nk x) 1 0 nk y) 2 0 nk c) 14 0 0 (nI (nk + 1))) d (by omega) nk _) ?_
          refine g_iload h (pc := 126) dX3_kind_126 4 rfl ?_
          exact hret _ u dX3_kind_128 rfl ⟨rfl, hRC⟩ rfl (Nat.zero_le _) (Nat.zero_le _)
      by_cases hc : c = -1
      · refine g_icmp_eq_t h (pc := 26) (tgt := 42) dX3_kind_26 (by decide) hc ?_
        exact tl (by rw [decide_eq_true hc]; rfl)
      · refine g_icmp_eq_f h (pc := 26) (tgt := 42) dX3_kind_26 (by decide) hc ?_
        refine g_aload_n h (pc := 29) dX3_kind_29 0 rfl ?_
        refine g_get h (pc := 30) dX3_kind_30 iX3_kind_3 0 rfl rfl 0 (by decide) fX3_kind_10 rfl ?_
        refine g_iload_n h (pc := 33) dX3_kind_33 3 rfl ?_
        refine g_callR h (pc := 34) (As := [.int c]) (st := []) dX3_kind_34 (c_khas (gL C) (gD C) cI cO (fun i => a (1 + i)) Z d.1 nk hz.k8 hz.nk c) [1, 2, 3, 4, 5, 6, 7, 8, 9] rfl (by decide) gX3_kind_X0_has rfl (q0 := 0) rfl rfl (show nPar yX0_has RX0 1 = true by decide +kernel) ⟨Nat.le_of_ble_eq_true rfl, Nat.le_of_ble_eq_true rfl⟩ rfl (Nat.le_of_ble_eq_true rfl) ⟨Nat.zero_le _, Nat.zero_le _⟩ (fun r hr => ?_)
        subst hr
        cases hi : isIn c nk with
        | true =>
          refine g_topi (y := 1) rfl ?_
          refine g_if_ne_t h (pc := 37) (tgt := 42) dX3_kind_37 (by decide) (by decide) ?_
          exact tl (by rw [hi]; simp)
        | false =>
          refine g_topi (y := 0) rfl ?_
          refine g_if_ne_f h (pc := 37) (tgt := 42) dX3_kind_37 (by decide) rfl ?_
          refine g_iconst h (pc := 40) (v := (-1)) dX3_kind_40 (by decide) ?_
          have e1 : (kindP nk Z d x y c) = (-1, Z, d) := by unfold kindP; rw [if_neg hA, if_pos (by rw [hi, decide_eq_false hc]; rfl)]
          rw [e1] at hret
          exact hret _ u dX3_kind_41 rfl ⟨rfl, hRC⟩ rfl (Nat.zero_le _) (Nat.zero_le _)
end
section
theorem outB_in {n lo hi : Int32} {a b : Nat} (h : outB n lo hi = false) (h1 : lo = nI a) (h2 : hi = nI b) (hb : b < 2 ^ 30) (hab : a ≤ b) : ∃ j : Nat, a ≤ j ∧ j ≤ b ∧ n = nI j := by
  subst h1
  subst h2
  have h3 := of_decide_eq_false h
  have h4 : ¬ n < nI a := fun q => h3 (Or.inl q)
  have h5 : ¬ nI b < n := fun q => h3 (Or.inr q)
  rw [Int32.lt_iff_toInt_lt, nI_toInt (by omega)] at h4
  rw [Int32.lt_iff_toInt_lt, nI_toInt (by omega)] at h5
  obtain ⟨j, hj, e⟩ := vp_in_of (x := n) (n := b + 1) (vp_in_iff.mpr ⟨by omega, by omega⟩) (by omega)
  subst e
  rw [nI_toInt (by omega)] at h4
  exact ⟨j, by omega, by omega, rfl⟩

theorem iX3_stock_3 : ∀ w ∈ wsX30, w ∈ wsX3_stock := by decide +kernel
theorem fX3_stock_10 : Cond.fieldLink RX3 10 "SpareShelves" "kinds" "LSpareShelves$Kinds;" ∈ wsX3_stock := by decide +kernel
theorem iX3_stock_0 : ∀ w ∈ wsX00, w ∈ wsX3_stock := by decide +kernel
theorem fX3_stock_91 : Cond.fieldLink RX3 91 "SpareShelves$Kinds" "bought" "[I" ∈ wsX3_stock := by decide +kernel
theorem fX3_stock_25 : Cond.fieldLink RX3 25 "SpareShelves" "good" "[[I" ∈ wsX3_stock := by decide +kernel
set_option maxHeartbeats 4000000 in
set_option maxRecDepth 100000 in
theorem c_stock (l : Launch) (D : va_G) (cI cO : ClassId) (a : Nat → Nat) (u : UX) (Z : Sg) (d : Dy) (hRC : RC d u) (ns nk : Nat) (hz : Zv ns nk Z) (t : Nat) (hzx : Zx ns nk t Z) (hd : Dv ns nk Z (t + 1) d) (hph : Ph d ≤ 20000) (x y m : Int32) : CIc l yX3_stock wsX3_stock 7 250 D cI cO a u Z d [.int x, .int y, .int m] (stockP ns nk Z d x y m).1 (stockP ns nk Z d x y m).2.1 (stockP ns nk Z d x y m).2.2 := by
  unfold CIc
  refine CI.of (cc := cX3_stock) (maxL := 5) (rt := .int) (by decide) rfl (Nat.le_of_ble_eq_true rfl) ?_
  intro C hgL hgD hw h hret
  have hn8 := hz.n8
  have hk8 := hz.k8
  cases hp : (isIn x ns && isIn y nk) with
  | false =>
    refine g_aload_n h (pc := 0) dX3_stock_0 0 rfl ?_
    refine g_iload_n h (pc := 1) dX3_stock_1 1 rfl ?_
    refine g_iload_n h (pc := 2) dX3_stock_2 2 rfl ?_
    refine g_callR h (pc := 3) (As := [.int x, .int y]) (st := []) dX3_stock_3 (c_noplace (gL C) (gD C) cI cO a u Z d hRC ns nk hz x y) [0, 1, 2, 3, 4, 5, 6, 7, 8, 9, 10, 11, 12, 13, 14, 15, 16, 17, 18, 19, 20, 21, 22, 23, 24, 25, 26, 27, 28, 29, 30, 31, 32, 33, 34, 35, 36, 37, 38, 39, 40, 41, 42, 43, 44, 45] rfl (by decide) gX3_stock_X3_isNoPlace rfl (q0 := 0) rfl rfl (show nPar yX3_isNoPlace RX3 2 = true by decide +kernel) ⟨Nat.le_of_ble_eq_true rfl, Nat.le_of_ble_eq_true rfl⟩ rfl (Nat.le_of_ble_eq_true rfl) ⟨Nat.zero_le _, Nat.zero_le _⟩ (fun r hr => ?_)
    subst hr
    rw [hp]
    refine g_topi (y := 1) rfl ?_
    refine g_if_eq_f h (pc := 6) (tgt := 11) dX3_stock_6 (by decide) (by decide) ?_
    refine g_iconst h (pc := 9) (v := (-1)) dX3_stock_9 (by decide) ?_
    have e1 : (stockP ns nk Z d x y m) = (-1, Z, d) := by unfold stockP; rw [if_pos hp]
    rw [e1] at hret
    exact hret _ u dX3_stock_10 rfl ⟨rfl, hRC⟩ rfl (Nat.zero_le _) (Nat.zero_le _)
  | true =>
    refine g_aload_n h (pc := 0) dX3_stock_0 0 rfl ?_
    refine g_iload_n h (pc := 1) dX3_stock_1 1 rfl ?_
    refine g_iload_n h (pc := 2) dX3_stock_2 2 rfl ?_
    refine g_callR h (pc := 3) (As := [.int x, .int y]) (st := []) dX3_stock_3 (c_noplace (gL C) (gD C) cI cO a u Z d hRC ns nk hz x y) [0, 1, 2, 3, 4, 5, 6, 7, 8, 9, 10, 11, 12, 13, 14, 15, 16, 17, 18, 19, 20, 21, 22, 23, 24, 25, 26, 27, 28, 29, 30, 31, 32, 33, 34, 35, 36, 37, 38, 39, 40, 41, 42, 43, 44, 45] rfl (by decide) gX3_stock_X3_isNoPlace rfl (q0 := 0) rfl rfl (show nPar yX3_isNoPlace RX3 2 = true by decide +kernel) ⟨Nat.le_of_ble_eq_true rfl, Nat.le_of_ble_eq_true rfl⟩ rfl (Nat.le_of_ble_eq_true rfl) ⟨Nat.zero_le _, Nat.zero_le _⟩ (fun r hr => ?_)
    subst hr
    rw [hp]
    refine g_topi (y := 0) rfl ?_
    refine g_if_eq_t h (pc := 6) (tgt := 11) dX3_stock_6 (by decide) rfl ?_
    have hpp := Bool.and_eq_true_iff.mp hp
    obtain ⟨s, hs, rfl⟩ := isIn_of (by omega) hpp.1
    obtain ⟨k, hk, rfl⟩ := isIn_of (by omega) hpp.2
    have ts : tN (nI s) = s := nI_clamp (by omega)
    have tk : tN (nI k) = k := nI_clamp (by omega)
    refine g_iload_n h (pc := 11) dX3_stock_11 3 rfl ?_
    refine g_iconst h (pc := 12) (v := 1) dX3_stock_12 (by decide) ?_
    refine g_bipush h (pc := 13) (v := 9) dX3_stock_13 (by decide) ?_
    refine g_scallR h (pc := 15) (As := [.int m, .int (1), .int (9)]) (st := []) dX3_stock_15 (c_out (gL C) (gD C) cI cO m (1) (9)) [] rfl (by decide) gX3_stock_X3_isOutside rfl (show nPar yX3_isOutside RX3 3 = true by decide +kernel) ⟨Nat.le_of_ble_eq_true rfl, Nat.le_of_ble_eq_true rfl⟩ rfl (Nat.le_of_ble_eq_true rfl) ⟨Nat.zero_le _, Nat.zero_le _⟩ (fun r hr => ?_)
    subst hr
    cases ho : outB m 1 9 with
    | true =>
      refine g_topi (y := 1) rfl ?_
      refine g_if_eq_f h (pc := 18) (tgt := 24) dX3_stock_18 (by decide) (by decide) ?_
      refine g_bipush h (pc := 21) (v := (-2)) dX3_stock_21 (by decide) ?_
      have e1 : (stockP ns nk Z d (nI s) (nI k) m) = (-2, Z, d) := by unfold stockP; rw [hp, if_neg (by decide), if_pos ho]
      rw [e1] at hret
      exact hret _ u dX3_stock_23 rfl ⟨rfl, hRC⟩ rfl (Nat.zero_le _) (Nat.zero_le _)
    | false =>
      refine g_topi (y := 0) rfl ?_
      refine g_if_eq_t h (pc := 18) (tgt := 24) dX3_stock_18 (by decide) rfl ?_
      refine g_aload_n h (pc := 24) dX3_stock_24 0 rfl ?_
      refine g_get h (pc := 25) dX3_stock_25 iX3_stock_3 0 rfl rfl 0 (by decide) fX3_stock_10 rfl ?_
      refine g_get h (pc := 28) dX3_stock_28 iX3_stock_0 1 rfl rfl 3 (by decide) fX3_stock_91 rfl ?_
      refine g_iload_n h (pc := 31) dX3_stock_31 2 rfl ?_
      refine g_iald h (pc := 32) (v := d.1 9 0 k) dX3_stock_32 5 rfl (vp_in_nI (by omega) (by omega)) (by rw [nI_clamp (by omega)]) ?_
      refine g_iload_n h (pc := 33) dX3_stock_33 3 rfl ?_
      refine g_iadd h (pc := 34) dX3_stock_34  ?_
      refine g_sipush h (pc := 35) (v := 200) dX3_stock_35 (by decide) ?_
      by_cases hfu : 200 < d.1 9 0 k + m
      · refine g_icmp_le_f h (pc := 38) (tgt := 44) dX3_stock_38 (by decide) (Int32.not_le.mpr hfu) ?_
        refine g_bipush h (pc := 41) (v := (-4)) dX3_stock_41 (by decide) ?_
        have e1 : (stockP ns nk Z d (nI s) (nI k) m) = (-4, Z, d) := by unfold stockP; rw [hp, if_neg (by decide), if_neg (by rw [ho]; decide), tk, if_pos hfu]
        rw [e1] at hret
        exact hret _ u dX3_stock_43 rfl ⟨rfl, hRC⟩ rfl (Nat.zero_le _) (Nat.zero_le _)
      · refine g_icmp_le_t h (pc := 38) (tgt := 44) dX3_stock_38 (by decide) (Int32.not_lt.mp hfu) ?_
        obtain ⟨j, hj1, hj2, rfl⟩ := outB_in (a := 1) (b := 9) ho rfl rfl (by omega) (by omega)
        have tj : tN (nI j) = j := nI_clamp (by omega)
        have e1 : (stockP ns nk Z d (nI s) (nI k) (nI j)) = ((landsN Z s k j d).1 7 s k, Z, (landsN Z s k j d)) := by unfold stockP; rw [hp, if_neg (by decide), if_neg (by rw [ho]; decide), tk, ts, tj, if_neg hfu]
        have ef : cp (stockP ns nk Z d (nI s) (nI k) (nI j)).2.2 = cp (landsN Z s k j d) := by rw [e1]
        rw [e1] at hret
        refine g_iconst h (pc := 44) (v := 0) dX3_stock_44 (by decide) ?_
        refine g_istore h (pc := 45) dX3_stock_45 (by decide) rfl ?_
        refine g_wid (k' := cp d - cp d) (n' := 2 * (cp d - cp d)) (by omega) (by omega) ?_
        suffices loop : ∀ (n i : Nat) (d1 : Dy) (u1 : UX), i + n = j → landsN Z s k n d1 = (landsN Z s k j d) → RC d1 u1 → cp d ≤ cp d1 → Dv ns nk Z (t + 1) d1 → Ph d1 ≤ 20000 → GG C 5 (cw cI cO a u1 Z d1) (cp d1 - cp d) (2 * (cp d1 - cp d)) 47 [(0, .ref (a 0)), (1, .int (nI s)), (2, .int (nI k)), (3, .int (nI j)), (4, .int (nI i))] [] from loop j 0 d u (by omega) rfl hRC (Nat.le_refl _) hd hph
        intro n
        induction n with
        | zero =>
          intro i d1 u1 h1 hm hR1 hc1 hd1 hp1
          refine g_iload h (pc := 47) dX3_stock_47 4 rfl ?_
          refine g_iload_n h (pc := 49) dX3_stock_49 3 rfl ?_
          refine g_icmp_ge_t h (pc := 50) (tgt := 78) dX3_stock_50 (by decide) (nI_le (by omega) (by omega)) ?_
          rw [landsN] at hm
          rw [← hm] at hret
          refine g_aload_n h (pc := 78) dX3_stock_78 0 rfl ?_
          refine g_get h (pc := 79) dX3_stock_79 iX3_stock_3 0 rfl rfl 2 (by decide) fX3_stock_25 rfl ?_
          refine g_iload_n h (pc := 82) dX3_stock_82 1 rfl ?_
          refine g_aald h (pc := 83) (v := a (23 + s)) dX3_stock_83 22 rfl (vp_in_nI (by omega) (by omega)) (by rw [nI_clamp (by omega)]) ?_
          refine g_iload_n h (pc := 84) dX3_stock_84 2 rfl ?_
          refine g_iald h (pc := 85) (v := d1.1 7 s k) dX3_stock_85 (23 + s) (cw_g cI cO a u1 Z d1 (by omega)) (vp_in_nI (by omega) (by omega)) (by rw [nI_clamp (by omega)]) ?_
          exact hret _ u1 dX3_stock_86 rfl ⟨rfl, hR1⟩ rfl (Nat.le_refl _) (Nat.le_refl _)
        | succ n ih =>
          intro i d1 u1 h1 hm hR1 hc1 hd1 hp1
          rw [landsN] at hm
          obtain ⟨k1, k2, -⟩ := lands_ok hzx (inc d1 9 k) s k hs hk (Nat.le_refl _) hd1
          have e5 : cp (inc d1 9 k) = cp d1 := rfl
          have e6 : sz (inc d1 9 k) = sz d1 := rfl
          have e7 : Ph (inc d1 9 k) = Ph d1 := rfl
          have e8 := cpl_lands Z (inc d1 9 k) s k
          have e9 : cp (lands Z (inc d1 9 k) s k) ≤ cp (landsN Z s k j d) := by rw [← hm]; exact cpl_landsN Z s k n _
          have e10 := Ph_sz d1
          refine g_iload h (pc := 47) dX3_stock_47 4 rfl ?_
          refine g_iload_n h (pc := 49) dX3_stock_49 3 rfl ?_
          refine g_icmp_ge_f h (pc := 50) (tgt := 78) dX3_stock_50 (by decide) (nI_ge (by omega) (by omega)) ?_
          refine g_aload_n h (pc := 53) dX3_stock_53 0 rfl ?_
          refine g_get h (pc := 54) dX3_stock_54 iX3_stock_3 0 rfl rfl 0 (by decide) fX3_stock_10 rfl ?_
          refine g_get h (pc := 57) dX3_stock_57 iX3_stock_0 1 rfl rfl 3 (by decide) fX3_stock_91 rfl ?_
          refine g_iload_n h (pc := 60) dX3_stock_60 2 rfl ?_
          refine g_dup2 h (pc := 61) dX3_stock_61 rfl rfl ?_
          refine g_iald h (pc := 62) (v := d1.1 9 0 k) dX3_stock_62 5 rfl (vp_in_nI (by omega) (by omega)) (by rw [nI_clamp (by omega)]) ?_
          refine g_iconst h (pc := 63) (v := 1) dX3_stock_63 (by decide) ?_
          refine g_iadd h (pc := 64) dX3_stock_64  ?_
          refine g_iast h hw (pc := 65) (ws' := cw cI cO a u1 Z (inc d1 9 k)) dX3_stock_65 5 rfl (vp_in_nI (by omega) (by omega)) (by rw [nI_clamp (by omega)]; rfl) ?_
          refine g_aload_n h (pc := 66) dX3_stock_66 0 rfl ?_
          refine g_iload_n h (pc := 67) dX3_stock_67 1 rfl ?_
          refine g_iload_n h (pc := 68) dX3_stock_68 2 rfl ?_
          refine g_callV h (pc := 69) (As := [.int (nI s), .int (nI k)]) (st := []) dX3_stock_69 (c_lands (gL C) (gD C) cI cO a u1 Z (inc d1 9 k) hR1 ns nk hz (by omega) hd1.1 s k hs hk) hw gX3_stock_X3_lands rfl (q0 := 0) rfl rfl (show nPar yX3_lands RX3 2 = true by decide +kernel) ⟨Nat.le_of_ble_eq_true rfl, Nat.le_of_ble_eq_true rfl⟩ rfl (Nat.le_of_ble_eq_true rfl) ⟨by show _ ≤ cp (stockP ns nk Z d (nI s) (nI k) (nI j)).2.2 - cp d; omega, by show _ ≤ 2 * (cp (stockP ns nk Z d (nI s) (nI k) (nI j)).2.2 - cp d); omega⟩ (fun u2 hR2 => ?_)
          refine g_wid (k' := cp (lands Z (inc d1 9 k) s k) - cp d) (n' := 2 * (cp (lands Z (inc d1 9 k) s k) - cp d)) (by omega) (by omega) ?_
          refine g_iinc h (pc := 72) dX3_stock_72 4 rfl (nI_1 i) (by decide) rfl ?_
          refine g_goto h (pc := 75) (tgt := 47) dX3_stock_75 (by decide) ?_
          exact ih (i + 1) _ u2 (by omega) hm hR2 (by omega) k2 (by omega)

theorem iX3_fails_3 : ∀ w ∈ wsX30, w ∈ wsX3_fails := by decide +kernel
theorem fX3_fails_41 : Cond.fieldLink RX3 41 "SpareShelves" "asks" "LSpareShelves$Line;" ∈ wsX3_fails := by decide +kernel
theorem iX3_fails_1 : ∀ w ∈ wsX10, w ∈ wsX3_fails := by decide +kernel
theorem fX3_fails_98 : Cond.fieldLink RX3 98 "SpareShelves$Line" "size" "I" ∈ wsX3_fails := by decide +kernel
theorem fX3_fails_45 : Cond.fieldLink RX3 45 "SpareShelves" "dues" "LSpareShelves$Line;" ∈ wsX3_fails := by decide +kernel
theorem fX3_fails_10 : Cond.fieldLink RX3 10 "SpareShelves" "kinds" "LSpareShelves$Kinds;" ∈ wsX3_fails := by decide +kernel
theorem iX3_fails_0 : ∀ w ∈ wsX00, w ∈ wsX3_fails := by decide +kernel
theorem fX3_fails_102 : Cond.fieldLink RX3 102 "SpareShelves$Kinds" "broke" "[I" ∈ wsX3_fails := by decide +kernel
theorem fX3_fails_105 : Cond.fieldLink RX3 105 "SpareShelves$Kinds" "scrapped" "[I" ∈ wsX3_fails := by decide +kernel
theorem fX3_fails_91 : Cond.fieldLink RX3 91 "SpareShelves$Kinds" "bought" "[I" ∈ wsX3_fails := by decide +kernel
theorem fX3_fails_48 : Cond.fieldLink RX3 48 "SpareShelves" "time" "I" ∈ wsX3_fails := by decide +kernel
theorem fX3_fails_66 : Cond.fieldLink RX3 66 "SpareShelves$Kinds" "buyDays" "[I" ∈ wsX3_fails := by decide +kernel
theorem fX3_fails_19 : Cond.fieldLink RX3 19 "SpareShelves" "tree" "LSpareShelves$Tree;" ∈ wsX3_fails := by decide +kernel
theorem fX3_fails_69 : Cond.fieldLink RX3 69 "SpareShelves$Kinds" "core" "[I" ∈ wsX3_fails := by decide +kernel
set_option maxHeartbeats 4000000 in
set_option maxRecDepth 100000 in
theorem c_fails (l : Launch) (D : va_G) (cI cO : ClassId) (a : Nat → Nat) (u : UX) (Z : Sg) (d : Dy) (hRC : RC d u) (ns nk : Nat) (hz : Zv ns nk Z) (t : Nat) (hzx : Zx ns nk t Z) (hph : Ph d ≤ 20000) (x y how : Int32) : CIc l yX3_fails wsX3_fails 7 250 D cI cO a u Z d [.int x, .int y, .int how] (failsP ns nk Z d x y how).1 (failsP ns nk Z d x y how).2.1 (failsP ns nk Z d x y how).2.2 := by
  unfold CIc
  refine CI.of (cc := cX3_fails) (maxL := 5) (rt := .int) (by decide) rfl (Nat.le_of_ble_eq_true rfl) ?_
  intro C hgL hgD hw h hret
  have hn8 := hz.n8
  have hk8 := hz.k8
  cases hp : (isIn x ns && isIn y nk) with
  | false =>
    refine g_aload_n h (pc := 0) dX3_fails_0 0 rfl ?_
    refine g_iload_n h (pc := 1) dX3_fails_1 1 rfl ?_
    refine g_iload_n h (pc := 2) dX3_fails_2 2 rfl ?_
    refine g_callR h (pc := 3) (As := [.int x, .int y]) (st := []) dX3_fails_3 (c_noplace (gL C) (gD C) cI cO a u Z d hRC ns nk hz x y) [0, 1, 2, 3, 4, 5, 6, 7, 8, 9, 10, 11, 12, 13, 14, 15, 16, 17, 18, 19, 20, 21, 22, 23, 24, 25, 26, 27, 28, 29, 30, 31, 32, 33, 34, 35, 36, 37, 38, 39, 40, 41, 42, 43, 44, 45] rfl (by decide) gX3_fails_X3_isNoPlace rfl (q0 := 0) rfl rfl (show nPar yX3_isNoPlace RX3 2 = true by decide +kernel) ⟨Nat.le_of_ble_eq_true rfl, Nat.le_of_ble_eq_true rfl⟩ rfl (Nat.le_of_ble_eq_true rfl) ⟨Nat.zero_le _, Nat.zero_le _⟩ (fun r hr => ?_)
    subst hr
    rw [hp]
    refine g_topi (y := 1) rfl ?_
    refine g_if_eq_f h (pc := 6) (tgt := 11) dX3_fails_6 (by decide) (by decide) ?_
    refine g_iconst h (pc := 9) (v := (-1)) dX3_fails_9 (by decide) ?_
    have e1 : (failsP ns nk Z d x y how) = (-1, Z, d) := by unfold failsP; rw [if_pos hp]
    rw [e1] at hret
    exact hret _ u dX3_fails_10 rfl ⟨rfl, hRC⟩ rfl (Nat.zero_le _) (Nat.zero_le _)
  | true =>
    refine g_aload_n h (pc := 0) dX3_fails_0 0 rfl ?_
    refine g_iload_n h (pc := 1) dX3_fails_1 1 rfl ?_
    refine g_iload_n h (pc := 2) dX3_fails_2 2 rfl ?_
    refine g_callR h (pc := 3) (As := [.int x, .int y]) (st := []) dX3_fails_3 (c_noplace (gL C) (gD C) cI cO a u Z d hRC ns nk hz x y) [0, 1, 2, 3, 4, 5, 6, 7, 8, 9, 10, 11, 12, 13, 14, 15, 16, 17, 18, 19, 20, 21, 22, 23, 24, 25, 26, 27, 28, 29, 30, 31, 32, 33, 34, 35, 36, 37, 38, 39, 40, 41, 42, 43, 44, 45] rfl (by decide) gX3_fails_X3_isNoPlace rfl (q0 := 0) rfl rfl (show nPar yX3_isNoPlace RX3 2 = true by decide +kernel) ⟨Nat.le_of_ble_eq_true rfl, Nat.le_of_ble_eq_true rfl⟩ rfl (Nat.le_of_ble_eq_true rfl) ⟨Nat.zero_le _, Nat.zero_le _⟩ (fun r hr => ?_)
    subst hr
    rw [hp]
    refine g_topi (y := 0) rfl ?_
    refine g_if_eq_t h (pc := 6) (tgt := 11) dX3_fails_6 (by decide) rfl ?_
    have hpp := Bool.and_eq_true_iff.mp hp
    obtain ⟨s, hs, rfl⟩ := isIn_of (by omega) hpp.1
    obtain ⟨k, hk, rfl⟩ := isIn_of (by omega) hpp.2
    have ts : tN (nI s) = s := nI_clamp (by omega)
    have tk : tN (nI k) = k := nI_clamp (by omega)
    refine g_iload_n h (pc := 11) dX3_fails_11 3 rfl ?_
    refine g_iconst h (pc := 12) (v := 0) dX3_fails_12 (by decide) ?_
    refine g_iconst h (pc := 13) (v := 2) dX3_fails_13 (by decide) ?_
    refine g_scallR h (pc := 14) (As := [.int how, .int (0), .int (2)]) (st := []) dX3_fails_14 (c_out (gL C) (gD C) cI cO how (0) (2)) [] rfl (by decide) gX3_fails_X3_isOutside rfl (show nPar yX3_isOutside RX3 3 = true by decide +kernel) ⟨Nat.le_of_ble_eq_true rfl, Nat.le_of_ble_eq_true rfl⟩ rfl (Nat.le_of_ble_eq_true rfl) ⟨Nat.zero_le _, Nat.zero_le _⟩ (fun r hr => ?_)
    subst hr
    cases ho : outB how 0 2 with
    | true =>
      refine g_topi (y := 1) rfl ?_
      refine g_if_eq_f h (pc := 17) (tgt := 23) dX3_fails_17 (by decide) (by decide) ?_
      refine g_bipush h (pc := 20) (v := (-2)) dX3_fails_20 (by decide) ?_
      have e1 : (failsP ns nk Z d (nI s) (nI k) how) = (-2, Z, d) := by unfold failsP; rw [hp, if_neg (by decide), if_pos ho]
      rw [e1] at hret
      exact hret _ u dX3_fails_22 rfl ⟨rfl, hRC⟩ rfl (Nat.zero_le _) (Nat.zero_le _)
    | false =>
      refine g_topi (y := 0) rfl ?_
      refine g_if_eq_t h (pc := 17) (tgt := 23) dX3_fails_17 (by decide) rfl ?_
      refine g_iload_n h (pc := 23) dX3_fails_23 3 rfl ?_
      refine g_iconst h (pc := 24) (v := 1) dX3_fails_24 (by decide) ?_
      have hsz : sz d ≤ 20000 := Nat.le_trans (Ph_sz d) hph
      have hla : d.2.1.length ≤ sz d := Nat.le_add_right _ _
      have hlu : d.2.2.1.length ≤ sz d := Nat.le_add_left _ _
      have tl : ¬ (how = 1 ∧ Z 2 0 k = -1) → GG C 5 (cw cI cO a u Z d) 0 0 44 [(0, .ref (a 0)), (1, .int (nI s)), (2, .int (nI k)), (3, .int how)] [] := by
        intro hns
        refine g_aload_n h (pc := 44) dX3_fails_44 0 rfl ?_
        refine g_get h (pc := 45) dX3_fails_45 iX3_fails_3 0 rfl rfl 6 (by decide) fX3_fails_41 rfl ?_
        refine g_get h (pc := 48) dX3_fails_48 iX3_fails_1 42 rfl rfl 1 (by decide) fX3_fails_98 rfl ?_
        refine g_bipush h (pc := 51) (v := 100) dX3_fails_51 (by decide) ?_
        by_cases hf1 : 100 < d.2.1.length
        · refine g_icmp_gt_t h (pc := 53) (tgt := 68) dX3_fails_53 (by decide) (nI_lt (a := 100) hf1 (by omega)) ?_
          refine g_bipush h (pc := 68) (v := (-4)) dX3_fails_68 (by decide) ?_
          have e1 : (failsP ns nk Z d (nI s) (nI k) how) = (-4, Z, d) := by unfold failsP; rw [hp, if_neg (by decide), if_neg (by rw [ho]; decide), tk, if_neg hns, if_pos (Or.inl hf1)]
          rw [e1] at hret
          exact hret _ u dX3_fails_70 rfl ⟨rfl, hRC⟩ rfl (Nat.zero_le _) (Nat.zero_le _)
        · refine g_icmp_gt_f h (pc := 53) (tgt := 68) dX3_fails_53 (by decide) (nI_nlt (a := 100) (by omega) (by omega)) ?_
          refine g_aload_n h (pc := 56) dX3_fails_56 0 rfl ?_
          refine g_get h (pc := 57) dX3_fails_57 iX3_fails_3 0 rfl rfl 7 (by decide) fX3_fails_45 rfl ?_
          refine g_get h (pc := 60) dX3_fails_60 iX3_fails_1 44 rfl rfl 1 (by decide) fX3_fails_98 rfl ?_
          refine g_topi (y := nI d.2.2.1.length) (by rw [List.length_map]) ?_
          refine g_bipush h (pc := 63) (v := 100) dX3_fails_63 (by decide) ?_
          by_cases hf2 : 100 < d.2.2.1.length
          · refine g_icmp_le_f h (pc := 65) (tgt := 71) dX3_fails_65 (by decide) (nI_ge (a := 100) hf2 (by omega)) ?_
            refine g_bipush h (pc := 68) (v := (-4)) dX3_fails_68 (by decide) ?_
            have e1 : (failsP ns nk Z d (nI s) (nI k) how) = (-4, Z, d) := by unfold failsP; rw [hp, if_neg (by decide), if_neg (by rw [ho]; decide), tk, if_neg hns, if_pos (Or.inr hf2)]
            rw [e1] at hret
            exact hret _ u dX3_fails_70 rfl ⟨rfl, hRC⟩ rfl (Nat.zero_le _) (Nat.zero_le _)
          · refine g_icmp_le_t h (pc := 65) (tgt := 71) dX3_fails_65 (by decide) (nI_le (b := 100) (by omega) (by omega)) ?_
            have e1 : (failsP ns nk Z d (nI s) (nI k) how) = (if d.1 7 s k = 0 then 0 else 1, Z, (breaks Z d s k how)) := by unfold failsP; rw [hp, if_neg (by decide), if_neg (by rw [ho]; decide), tk, ts, if_neg hns, if_neg (fun q => q.elim hf1 hf2)]
            have ef : cp (failsP ns nk Z d (nI s) (nI k) how).2.2 = cp (breaks Z d s k how) := by rw [e1]
            rw [e1] at hret
            have m0 := cpl_machine Z d s k
            have m1 : cp (machine Z (inc d 13 k) s k) = cp (machine Z d s k) := by rw [mach_comm]; rfl
            have z0 := sz_machine Z d s k
            have z1 : sz (machine Z (inc d 13 k) s k) = sz (machine Z d s k) := by rw [mach_comm]; rfl
            refine g_aload_n h (pc := 71) dX3_fails_71 0 rfl ?_
            refine g_iload_n h (pc := 72) dX3_fails_72 1 rfl ?_
            refine g_iload_n h (pc := 73) dX3_fails_73 2 rfl ?_
            have mf : cp (machine Z (inc d 13 k) s k) ≤ cp (breaks Z d s k how) := by
              unfold breaks
              split
              · exact Nat.le_trans (cpl_ups Z k 0 8 s (inc (machine Z (inc d 13 k) s k) 10 k)) (cpl_due Z (inc (ups Z k 0 8 s (inc (machine Z (inc d 13 k) s k) 10 k)) 9 k) 2 0 k 0 (Z 1 0 k))
              · exact Nat.le_trans (cpl_back Z _ s k how) (cpl_ups _ _ _ _ _ _)
            refine g_callI h (pc := 74) (As := [.int (nI s), .int (nI k)]) (st := []) dX3_fails_74 (c_machine (gL C) (gD C) cI cO a u Z d hRC ns nk hz (by omega) s k hs hk) hw gX3_fails_X3_servesMachine rfl (q0 := 0) rfl rfl (show nPar yX3_servesMachine RX3 2 = true by decide +kernel) ⟨Nat.le_of_ble_eq_true rfl, Nat.le_of_ble_eq_true rfl⟩ rfl (Nat.le_of_ble_eq_true rfl) ⟨by show _ ≤ cp (failsP ns nk Z d (nI s) (nI k) how).2.2 - cp d; omega, by show _ ≤ 2 * (cp (failsP ns nk Z d (nI s) (nI k) how).2.2 - cp d); omega⟩ (fun r u2 hR2 => ?_)
            obtain ⟨rfl, hR2⟩ := hR2
            refine g_wid (k' := cp (machine Z d s k) - cp d) (n' := 2 * (cp (machine Z d s k) - cp d)) (by omega) (by omega) ?_
            refine g_istore h (pc := 77) dX3_fails_77 (by decide) rfl ?_
            refine g_aload_n h (pc := 79) dX3_fails_79 0 rfl ?_
            refine g_get h (pc := 80) dX3_fails_80 iX3_fails_3 0 rfl rfl 0 (by decide) fX3_fails_10 rfl ?_
            refine g_get h (pc := 83) dX3_fails_83 iX3_fails_0 1 rfl rfl 7 (by decide) fX3_fails_102 rfl ?_
            refine g_iload_n h (pc := 86) dX3_fails_86 2 rfl ?_
            refine g_dup2 h (pc := 87) dX3_fails_87 rfl rfl ?_
            refine g_iald h (pc := 88) (v := (machine Z d s k).1 13 0 k) dX3_fails_88 9 rfl (vp_in_nI (by omega) (by omega)) (by rw [nI_clamp (by omega)]) ?_
            refine g_iconst h (pc := 89) (v := 1) dX3_fails_89 (by decide) ?_
            refine g_iadd h (pc := 90) dX3_fails_90  ?_
            refine g_iast h hw (pc := 91) (ws' := cw cI cO a u2 Z (inc (machine Z d s k) 13 k)) dX3_fails_91 9 rfl (vp_in_nI (by omega) (by omega)) (by rw [nI_clamp (by omega)]; rfl) ?_
            refine g_eq (ws' := cw cI cO a u2 Z (machine Z (inc d 13 k) s k)) (by rw [mach_comm]) ?_
            have hR3 : RC (machine Z (inc d 13 k) s k) u2 := by rw [mach_comm]; exact hR2
            have ed : ∀ (u5 : UX), RC (breaks Z d s k how) u5 → GG C 5 (cw cI cO a u5 Z (breaks Z d s k how)) (cp (breaks Z d s k how) - cp d) (2 * (cp (breaks Z d s k how) - cp d)) 180 [(0, .ref (a 0)), (1, .int (nI s)), (2, .int (nI k)), (3, .int how), (4, .int (if d.1 7 s k = 0 then 0 else 1))] [] := by
              intro u5 hR5
              refine g_iload h (pc := 180) dX3_fails_180 4 rfl ?_
              by_cases hg0 : d.1 7 s k = 0
              · rw [if_pos hg0] at hret ⊢
                refine g_if_eq_t h (pc := 182) (tgt := 189) dX3_fails_182 (by decide) rfl ?_
                refine g_iconst h (pc := 189) (v := 0) dX3_fails_189 (by decide) ?_
                exact hret _ u5 dX3_fails_190 rfl ⟨rfl, hR5⟩ rfl (Nat.le_refl _) (Nat.le_refl _)
              · rw [if_neg hg0] at hret ⊢
                refine g_if_eq_f h (pc := 182) (tgt := 189) dX3_fails_182 (by decide) (by decide) ?_
                refine g_iconst h (pc := 185) (v := 1) dX3_fails_185 (by decide) ?_
                refine g_goto h (pc := 186) (tgt := 190) dX3_fails_186 (by decide) ?_
                exact hret _ u5 dX3_fails_190 rfl ⟨rfl, hR5⟩ rfl (Nat.le_refl _) (Nat.le_refl _)
            refine g_iload_n h (pc := 92) dX3_fails_92 3 rfl ?_
            refine g_iconst h (pc := 93) (v := 2) dX3_fails_93 (by decide) ?_
            by_cases h2 : how = 2
            · have e2 : (breaks Z d s k how) = (due Z (inc (ups Z k 0 8 s (inc (machine Z (inc d 13 k) s k) 10 k)) 9 k) 2 0 k 0 (Z 1 0 k)) := if_pos h2
              rw [e2] at ed mf
              have eg : cp (breaks Z d s k how) = cp (due Z (inc (ups Z k 0 8 s (inc (machine Z (inc d 13 k) s k) 10 k)) 9 k) 2 0 k 0 (Z 1 0 k)) := by rw [e2]
              have q1 : cp (inc (machine Z (inc d 13 k) s k) 10 k) = cp (machine Z (inc d 13 k) s k) := rfl
              have q2 := cpl_ups Z k 0 8 s (inc (machine Z (inc d 13 k) s k) 10 k)
              have q3 : cp (inc (ups Z k 0 8 s (inc (machine Z (inc d 13 k) s k) 10 k)) 9 k) = cp (ups Z k 0 8 s (inc (machine Z (inc d 13 k) s k) 10 k)) := rfl
              have q4 := cpl_due Z (inc (ups Z k 0 8 s (inc (machine Z (inc d 13 k) s k) 10 k)) 9 k) 2 0 k 0 (Z 1 0 k)
              have q5 : sz (inc (machine Z (inc d 13 k) s k) 10 k) = sz (machine Z (inc d 13 k) s k) := rfl
              have q6 := sz_ups Z k 0 8 s (inc (machine Z (inc d 13 k) s k) 10 k)
              have q7 : sz (inc (ups Z k 0 8 s (inc (machine Z (inc d 13 k) s k) 10 k)) 9 k) = sz (ups Z k 0 8 s (inc (machine Z (inc d 13 k) s k) 10 k)) := rfl
              have q8 : cp (dU (inc (ups Z k 0 8 s (inc (machine Z (inc d 13 k) s k) 10 k)) 9 k) (nI 0, nI k, 2, Z 14 0 2 + Z 1 0 k, 0)) = cp (due Z (inc (ups Z k 0 8 s (inc (machine Z (inc d 13 k) s k) 10 k)) 9 k) 2 0 k 0 (Z 1 0 k)) := rfl
              refine g_icmp_ne_f h (pc := 94) (tgt := 158) dX3_fails_94 (by decide) h2 ?_
              refine g_aload_n h (pc := 97) dX3_fails_97 0 rfl ?_
              refine g_get h (pc := 98) dX3_fails_98 iX3_fails_3 0 rfl rfl 0 (by decide) fX3_fails_10 rfl ?_
              refine g_get h (pc := 101) dX3_fails_101 iX3_fails_0 1 rfl rfl 4 (by decide) fX3_fails_105 rfl ?_
              refine g_iload_n h (pc := 104) dX3_fails_104 2 rfl ?_
              refine g_dup2 h (pc := 105) dX3_fails_105 rfl rfl ?_
              refine g_iald h (pc := 106) (v := (machine Z (inc d 13 k) s k).1 10 0 k) dX3_fails_106 6 rfl (vp_in_nI (by omega) (by omega)) (by rw [nI_clamp (by omega)]) ?_
              refine g_iconst h (pc := 107) (v := 1) dX3_fails_107 (by decide) ?_
              refine g_iadd h (pc := 108) dX3_fails_108  ?_
              refine g_iast h hw (pc := 109) (ws' := cw cI cO a u2 Z (inc (machine Z (inc d 13 k) s k) 10 k)) dX3_fails_109 6 rfl (vp_in_nI (by omega) (by omega)) (by rw [nI_clamp (by omega)]; rfl) ?_
              refine g_aload_n h (pc := 110) dX3_fails_110 0 rfl ?_
              refine g_iload_n h (pc := 111) dX3_fails_111 1 rfl ?_
              refine g_iload_n h (pc := 112) dX3_fails_112 2 rfl ?_
              refine g_iconst h (pc := 113) (v := 0) dX3_fails_113 (by decide) ?_
              refine g_callV h (pc := 114) (As := [.int (nI s), .int (nI k), .int (nI 0)]) (st := []) dX3_fails_114 (c_ups (gL C) (gD C) cI cO a u2 Z (inc (machine Z (inc d 13 k) s k) 10 k) hR3 ns nk hz (by omega) s k 0 hs hk (rch_0 hz 8 s hs (by omega))) hw gX3_fails_X3_asksGoUp rfl (q0 := 0) rfl rfl (show nPar yX3_asksGoUp RX3 3 = true by decide +kernel) ⟨Nat.le_of_ble_eq_true rfl, Nat.le_of_ble_eq_true rfl⟩ rfl (Nat.le_of_ble_eq_true rfl) ⟨by show _ ≤ cp (failsP ns nk Z d (nI s) (nI k) how).2.2 - cp d; omega, by show _ ≤ 2 * (cp (failsP ns nk Z d (nI s) (nI k) how).2.2 - cp d); omega⟩ (fun u3 hR4 => ?_)
              refine g_wid (k' := cp (ups Z k 0 8 s (inc (machine Z (inc d 13 k) s k) 10 k)) - cp d) (n' := 2 * (cp (ups Z k 0 8 s (inc (machine Z (inc d 13 k) s k) 10 k)) - cp d)) (by omega) (by omega) ?_
              refine g_aload_n h (pc := 117) dX3_fails_117 0 rfl ?_
              refine g_get h (pc := 118) dX3_fails_118 iX3_fails_3 0 rfl rfl 0 (by decide) fX3_fails_10 rfl ?_
              refine g_get h (pc := 121) dX3_fails_121 iX3_fails_0 1 rfl rfl 3 (by decide) fX3_fails_91 rfl ?_
              refine g_iload_n h (pc := 124) dX3_fails_124 2 rfl ?_
              refine g_dup2 h (pc := 125) dX3_fails_125 rfl rfl ?_
              refine g_iald h (pc := 126) (v := (ups Z k 0 8 s (inc (machine Z (inc d 13 k) s k) 10 k)).1 9 0 k) dX3_fails_126 5 rfl (vp_in_nI (by omega) (by omega)) (by rw [nI_clamp (by omega)]) ?_
              refine g_iconst h (pc := 127) (v := 1) dX3_fails_127 (by decide) ?_
              refine g_iadd h (pc := 128) dX3_fails_128  ?_
              refine g_iast h hw (pc := 129) (ws' := cw cI cO a u3 Z (inc (ups Z k 0 8 s (inc (machine Z (inc d 13 k) s k) 10 k)) 9 k)) dX3_fails_129 5 rfl (vp_in_nI (by omega) (by omega)) (by rw [nI_clamp (by omega)]; rfl) ?_
              refine g_aload_n h (pc := 130) dX3_fails_130 0 rfl ?_
              refine g_get h (pc := 131) dX3_fails_131 iX3_fails_3 0 rfl rfl 7 (by decide) fX3_fails_45 rfl ?_
              refine g_iconst h (pc := 134) (v := 0) dX3_fails_134 (by decide) ?_
              refine g_iload_n h (pc := 135) dX3_fails_135 2 rfl ?_
              refine g_iconst h (pc := 136) (v := 3) dX3_fails_136 (by decide) ?_
              refine g_aload_n h (pc := 137) dX3_fails_137 0 rfl ?_
              refine g_get h (pc := 138) dX3_fails_138 iX3_fails_3 0 rfl rfl 8 (by decide) fX3_fails_48 rfl ?_
              refine g_aload_n h (pc := 141) dX3_fails_141 0 rfl ?_
              refine g_get h (pc := 142) dX3_fails_142 iX3_fails_3 0 rfl rfl 0 (by decide) fX3_fails_10 rfl ?_
              refine g_get h (pc := 145) dX3_fails_145 iX3_fails_0 1 rfl rfl 1 (by decide) fX3_fails_66 rfl ?_
              refine g_iload_n h (pc := 148) dX3_fails_148 2 rfl ?_
              refine g_iald h (pc := 149) (v := Z 1 0 k) dX3_fails_149 3 rfl (vp_in_nI (by omega) (by omega)) (by rw [nI_clamp (by omega)]) ?_
              refine g_iadd h (pc := 150) dX3_fails_150  ?_
              refine g_iconst h (pc := 151) (v := (-1)) dX3_fails_151 (by decide) ?_
              refine g_dadd h hw (pc := 152) dX3_fails_152 (show RC (inc (ups Z k 0 8 s (inc (machine Z (inc d 13 k) s k) 10 k)) 9 k) u3 from hR4) (by have h9 : (inc (ups Z k 0 8 s (inc (machine Z (inc d 13 k) s k) 10 k)) 9 k).2.2.1.length ≤ sz (inc (ups Z k 0 8 s (inc (machine Z (inc d 13 k) s k) 10 k)) 9 k) := Nat.le_add_left _ _; omega) (nI 0, nI k, 2, Z 14 0 2 + Z 1 0 k, 0) rfl gX3_fails_X1_add ⟨Nat.le_of_ble_eq_true rfl, Nat.le_of_ble_eq_true rfl⟩ (Nat.le_of_ble_eq_true rfl) ⟨by show _ ≤ cp (failsP ns nk Z d (nI s) (nI k) how).2.2 - cp d; omega, by show _ ≤ 2 * (cp (failsP ns nk Z d (nI s) (nI k) how).2.2 - cp d); omega⟩ (fun u4 hR5 => ?_)
              refine g_wid (k' := cp (due Z (inc (ups Z k 0 8 s (inc (machine Z (inc d 13 k) s k) 10 k)) 9 k) 2 0 k 0 (Z 1 0 k)) - cp d) (n' := 2 * (cp (due Z (inc (ups Z k 0 8 s (inc (machine Z (inc d 13 k) s k) 10 k)) 9 k) 2 0 k 0 (Z 1 0 k)) - cp d)) (by show _ + (cp (due Z (inc (ups Z k 0 8 s (inc (machine Z (inc d 13 k) s k) 10 k)) 9 k) 2 0 k 0 (Z 1 0 k)) - cp (inc (ups Z k 0 8 s (inc (machine Z (inc d 13 k) s k) 10 k)) 9 k)) ≤ _; omega) (by show _ + 2 * (cp (due Z (inc (ups Z k 0 8 s (inc (machine Z (inc d 13 k) s k) 10 k)) 9 k) 2 0 k 0 (Z 1 0 k)) - cp (inc (ups Z k 0 8 s (inc (machine Z (inc d 13 k) s k) 10 k)) 9 k)) ≤ _; omega) ?_
              refine g_goto h (pc := 155) (tgt := 180) dX3_fails_155 (by decide) ?_
              exact ed u4 hR5
            · have e2 : (breaks Z d s k how) = (ups Z k (mOf Z k s) 8 s (back Z (machine Z (inc d 13 k) s k) s k how)) := if_neg h2
              rw [e2] at ed mf
              have eg : cp (breaks Z d s k how) = cp (ups Z k (mOf Z k s) 8 s (back Z (machine Z (inc d 13 k) s k) s k how)) := by rw [e2]
              have q1 := cpl_back Z (machine Z (inc d 13 k) s k) s k how
              have q2 := cpl_ups Z k (mOf Z k s) 8 s (back Z (machine Z (inc d 13 k) s k) s k how)
              have q5 := sz_back Z (machine Z (inc d 13 k) s k) s k how
              have hh : how = 0 ∨ (how = 1 ∧ ∃ c, c < nk ∧ Z 2 0 k = nI c) := by
                obtain ⟨j, j1, j2, rfl⟩ := outB_in (a := 0) (b := 2) ho rfl rfl (by omega) (by omega)
                rcases (show j = 0 ∨ j = 1 ∨ j = 2 by omega) with rfl | rfl | rfl
                · exact Or.inl rfl
                · exact Or.inr ⟨rfl, (hzx.core hk).resolve_left (fun q => hns ⟨rfl, q⟩)⟩
                · exact absurd rfl h2
              refine g_icmp_ne_t h (pc := 94) (tgt := 158) dX3_fails_94 (by decide) h2 ?_
              refine g_aload_n h (pc := 158) dX3_fails_158 0 rfl ?_
              refine g_iload_n h (pc := 159) dX3_fails_159 1 rfl ?_
              refine g_iload_n h (pc := 160) dX3_fails_160 2 rfl ?_
              refine g_iload_n h (pc := 161) dX3_fails_161 3 rfl ?_
              refine g_callV h (pc := 162) (As := [.int (nI s), .int (nI k), .int how]) (st := []) dX3_fails_162 (c_back (gL C) (gD C) cI cO a u2 Z (machine Z (inc d 13 k) s k) hR3 ns nk hz (by omega) s k hs hk how hh) hw gX3_fails_X3_goesBack rfl (q0 := 0) rfl rfl (show nPar yX3_goesBack RX3 3 = true by decide +kernel) ⟨Nat.le_of_ble_eq_true rfl, Nat.le_of_ble_eq_true rfl⟩ rfl (Nat.le_of_ble_eq_true rfl) ⟨by show _ ≤ cp (failsP ns nk Z d (nI s) (nI k) how).2.2 - cp d; omega, by show _ ≤ 2 * (cp (failsP ns nk Z d (nI s) (nI k) how).2.2 - cp d); omega⟩ (fun u3 hR4 => ?_)
              refine g_wid (k' := cp (back Z (machine Z (inc d 13 k) s k) s k how) - cp d) (n' := 2 * (cp (back Z (machine Z (inc d 13 k) s k) s k how) - cp d)) (by omega) (by omega) ?_
              refine g_aload_n h (pc := 165) dX3_fails_165 0 rfl ?_
              refine g_iload_n h (pc := 166) dX3_fails_166 1 rfl ?_
              refine g_iload_n h (pc := 167) dX3_fails_167 2 rfl ?_
              refine g_aload_n h (pc := 168) dX3_fails_168 0 rfl ?_
              refine g_get h (pc := 169) dX3_fails_169 iX3_fails_3 0 rfl rfl 1 (by decide) fX3_fails_19 rfl ?_
              refine g_iload_n h (pc := 172) dX3_fails_172 1 rfl ?_
              refine g_iload_n h (pc := 173) dX3_fails_173 2 rfl ?_
              refine g_callR h (pc := 174) (As := [.int (nI s), .int (nI k)]) (st := [.int (nI k), .int (nI s), .ref (a 0)]) dX3_fails_174 (c_first (gL C) (gD C) cI cO (fun i => a (10 + i)) Z ns nk hz s k hs hk) [10, 11, 12, 13, 14, 15, 16, 17, 18, 19, 20, 21] rfl (by decide) gX3_fails_X2_firstThatMends rfl (q0 := 0) rfl rfl (show nPar yX2_firstThatMends RX2 2 = true by decide +kernel) ⟨Nat.le_of_ble_eq_true rfl, Nat.le_of_ble_eq_true rfl⟩ rfl (Nat.le_of_ble_eq_true rfl) ⟨by show _ ≤ cp (failsP ns nk Z d (nI s) (nI k) how).2.2 - cp d; omega, by show _ ≤ 2 * (cp (failsP ns nk Z d (nI s) (nI k) how).2.2 - cp d); omega⟩ (fun r9 hr9 => ?_)
              subst hr9
              refine g_callV h (pc := 177) (As := [.int (nI s), .int (nI k), .int (nI (mOf Z k s))]) (st := []) dX3_fails_177 (c_ups (gL C) (gD C) cI cO a u3 Z _ hR4 ns nk hz (by omega) s k (mOf Z k s) hs hk (rch_mo hz hk 8 s hs)) hw gX3_fails_X3_asksGoUp rfl (q0 := 0) rfl rfl (show nPar yX3_asksGoUp RX3 3 = true by decide +kernel) ⟨Nat.le_of_ble_eq_true rfl, Nat.le_of_ble_eq_true rfl⟩ rfl (Nat.le_of_ble_eq_true rfl) ⟨by show _ ≤ cp (failsP ns nk Z d (nI s) (nI k) how).2.2 - cp d; omega, by show _ ≤ 2 * (cp (failsP ns nk Z d (nI s) (nI k) how).2.2 - cp d); omega⟩ (fun u4 hR5 => ?_)
              refine g_wid (k' := cp (ups Z k (mOf Z k s) 8 s (back Z (machine Z (inc d 13 k) s k) s k how)) - cp d) (n' := 2 * (cp (ups Z k (mOf Z k s) 8 s (back Z (machine Z (inc d 13 k) s k) s k how)) - cp d)) (by omega) (by omega) ?_
              exact ed u4 hR5
      by_cases hh1 : how = 1
      · refine g_icmp_ne_f h (pc := 25) (tgt := 44) dX3_fails_25 (by decide) hh1 ?_
        refine g_aload_n h (pc := 28) dX3_fails_28 0 rfl ?_
        refine g_get h (pc := 29) dX3_fails_29 iX3_fails_3 0 rfl rfl 0 (by decide) fX3_fails_10 rfl ?_
        refine g_get h (pc := 32) dX3_fails_32 iX3_fails_0 1 rfl rfl 2 (by decide) fX3_fails_69 rfl ?_
        refine g_iload_n h (pc := 35) dX3_fails_35 2 rfl ?_
        refine g_iald h (pc := 36) (v := Z 2 0 k) dX3_fails_36 4 rfl (vp_in_nI (by omega) (by omega)) (by rw [nI_clamp (by omega)]) ?_
        refine g_iconst h (pc := 37) (v := (-1)) dX3_fails_37 (by decide) ?_
        by_cases hc1 : Z 2 0 k = -1
        · refine g_icmp_ne_f h (pc := 38) (tgt := 44) dX3_fails_38 (by decide) hc1 ?_
          refine g_bipush h (pc := 41) (v := (-3)) dX3_fails_41 (by decide) ?_
          have e1 : (failsP ns nk Z d (nI s) (nI k) how) = (-3, Z, d) := by unfold failsP; rw [hp, if_neg (by decide), if_neg (by rw [ho]; decide), tk, if_pos ⟨hh1, hc1⟩]
          rw [e1] at hret
          exact hret _ u dX3_fails_43 rfl ⟨rfl, hRC⟩ rfl (Nat.zero_le _) (Nat.zero_le _)
        · refine g_icmp_ne_t h (pc := 38) (tgt := 44) dX3_fails_38 (by decide) hc1 ?_
          exact tl (fun q => hc1 q.2)
      · refine g_icmp_ne_t h (pc := 25) (tgt := 44) dX3_fails_25 (by decide) hh1 ?_
        exact tl (fun q => hh1 q.1)

theorem iX3_days_3 : ∀ w ∈ wsX30, w ∈ wsX3_days := by decide +kernel
theorem fX3_days_48 : Cond.fieldLink RX3 48 "SpareShelves" "time" "I" ∈ wsX3_days := by decide +kernel
set_option maxHeartbeats 4000000 in
set_option maxRecDepth 100000 in
theorem c_days (l : Launch) (D : va_G) (cI cO : ClassId) (a : Nat → Nat) (u : UX) (Z : Sg) (d : Dy) (hRC : RC d u) (ns nk : Nat) (hz : Zv ns nk Z) (t : Nat) (hzx : Zx ns nk t Z) (hd : Dv ns nk Z (t + 1) d) (hph : Ph d ≤ 20000) (x : Int32) : CIc l yX3_days wsX3_days 8 290 D cI cO a u Z d [.int x] (daysP Z d x).1 (daysP Z d x).2.1 (daysP Z d x).2.2 := by
  unfold CIc
  refine CI.of (cc := cX3_days) (maxL := 3) (rt := .int) (by decide) rfl (Nat.le_of_ble_eq_true rfl) ?_
  intro C hgL hgD hw h hret
  have hn8 := hz.n8
  have hk8 := hz.k8
  refine g_iload_n h (pc := 0) dX3_days_0 1 rfl ?_
  refine g_iconst h (pc := 1) (v := 1) dX3_days_1 (by decide) ?_
  refine g_bipush h (pc := 2) (v := 60) dX3_days_2 (by decide) ?_
  refine g_scallR h (pc := 4) (As := [.int x, .int (1), .int (60)]) (st := []) dX3_days_4 (c_out (gL C) (gD C) cI cO x (1) (60)) [] rfl (by decide) gX3_days_X3_isOutside rfl (show nPar yX3_isOutside RX3 3 = true by decide +kernel) ⟨Nat.le_of_ble_eq_true rfl, Nat.le_of_ble_eq_true rfl⟩ rfl (Nat.le_of_ble_eq_true rfl) ⟨Nat.zero_le _, Nat.zero_le _⟩ (fun r hr => ?_)
  subst hr
  cases ho : outB x 1 60 with
  | true =>
    refine g_topi (y := 1) rfl ?_
    refine g_if_eq_f h (pc := 7) (tgt := 13) dX3_days_7 (by decide) (by decide) ?_
    refine g_bipush h (pc := 10) (v := (-2)) dX3_days_10 (by decide) ?_
    have e1 : (daysP Z d x) = (-2, Z, d) := by unfold daysP; rw [if_pos ho]
    rw [e1] at hret
    exact hret _ u dX3_days_12 rfl ⟨rfl, hRC⟩ rfl (Nat.zero_le _) (Nat.zero_le _)
  | false =>
    refine g_topi (y := 0) rfl ?_
    refine g_if_eq_t h (pc := 7) (tgt := 13) dX3_days_7 (by decide) rfl ?_
    refine g_aload_n h (pc := 13) dX3_days_13 0 rfl ?_
    refine g_get h (pc := 14) dX3_days_14 iX3_days_3 0 rfl rfl 8 (by decide) fX3_days_48 rfl ?_
    refine g_iload_n h (pc := 17) dX3_days_17 1 rfl ?_
    refine g_iadd h (pc := 18) dX3_days_18  ?_
    refine g_sipush h (pc := 19) (v := 5000) dX3_days_19 (by decide) ?_
    by_cases hfu : 5000 < Z 14 0 2 + x
    · refine g_icmp_le_f h (pc := 22) (tgt := 28) dX3_days_22 (by decide) (Int32.not_le.mpr hfu) ?_
      refine g_bipush h (pc := 25) (v := (-4)) dX3_days_25 (by decide) ?_
      have e1 : (daysP Z d x) = (-4, Z, d) := by unfold daysP; rw [if_neg (by rw [ho]; decide), if_pos hfu]
      rw [e1] at hret
      exact hret _ u dX3_days_27 rfl ⟨rfl, hRC⟩ rfl (Nat.zero_le _) (Nat.zero_le _)
    · refine g_icmp_le_t h (pc := 22) (tgt := 28) dX3_days_22 (by decide) (Int32.not_lt.mp hfu) ?_
      obtain ⟨j, hj1, hj2, rfl⟩ := outB_in (a := 1) (b := 60) ho rfl rfl (by omega) (by omega)
      have tj : tN (nI j) = j := nI_clamp (by omega)
      have e1 : (daysP Z d (nI j)) = ((dyN j (Z, d)).1 14 0 2, (dyN j (Z, d)).1, (dyN j (Z, d)).2) := by unfold daysP; rw [if_neg (by rw [ho]; decide), if_neg hfu, tj]
      have ef : cp (daysP Z d (nI j)).2.2 = cp (dyN j (Z, d)).2 := by rw [e1]
      rw [e1] at hret
      have ht5 := hzx.t5
      have htj : t + j ≤ 5000 := by
        rw [hzx.tt, nI_add, show (5000 : Int32) = nI 5000 from rfl] at hfu
        rcases Nat.lt_or_ge 5000 (t + j) with q | q
        · exact absurd (nI_lt q (by omega)) hfu
        · exact q
      refine g_iconst h (pc := 28) (v := 0) dX3_days_28 (by decide) ?_
      refine g_istore_n h (pc := 29) dX3_days_29 (by decide) rfl ?_
      refine g_wid (k' := cp d - cp d) (n' := 2 * (cp d - cp d)) (by omega) (by omega) ?_
      suffices loop : ∀ (n i t1 : Nat) (Z1 : Sg) (d1 : Dy) (u1 : UX), i + n = j → t1 + n ≤ 5000 → dyN n (Z1, d1) = (dyN j (Z, d)) → Zx ns nk t1 Z1 → RC d1 u1 → cp d ≤ cp d1 → Dv ns nk Z1 (t1 + 1) d1 → Ph d1 ≤ 20000 → GG C 3 (cw cI cO a u1 Z1 d1) (cp d1 - cp d) (2 * (cp d1 - cp d)) 30 [(0, .ref (a 0)), (1, .int (nI j)), (2, .int (nI i))] [] from loop j 0 t Z d u (by omega) htj rfl hzx hRC (Nat.le_refl _) hd hph
      intro n
      induction n with
      | zero =>
        intro i t1 Z1 d1 u1 h1 ht1 hm hz1 hR1 hc1 hd1 hp1
        refine g_iload_n h (pc := 30) dX3_days_30 2 rfl ?_
        refine g_iload_n h (pc := 31) dX3_days_31 1 rfl ?_
        refine g_icmp_ge_t h (pc := 32) (tgt := 59) dX3_days_32 (by decide) (nI_le (by omega) (by omega)) ?_
        rw [dyN] at hm
        rw [← hm] at hret ef
        refine g_aload_n h (pc := 59) dX3_days_59 0 rfl ?_
        refine g_get h (pc := 60) dX3_days_60 iX3_days_3 0 rfl rfl 8 (by decide) fX3_days_48 rfl ?_
        exact hret _ u1 dX3_days_63 rfl ⟨rfl, hR1⟩ rfl (Nat.le_refl _) (Nat.le_refl _)
      | succ n ih =>
        intro i t1 Z1 d1 u1 h1 ht1 hm hz1 hR1 hc1 hd1 hp1
        rw [dyN] at hm
        obtain ⟨k0, k1, k2, k3⟩ := day_ok hz1 (by omega) d1 hd1
        have mm : cp (dy1 (Z1, d1)).2 ≤ cp (dyN j (Z, d)).2 := by rw [← hm]; exact cpl_dyN n _
        have k4 : (dy1 (Z1, d1)).2 = (stands (doAll (su Z1 14 0 2 (nI (t1 + 1))) d1.2.2.1.length d1)) := by show stands (doAll (su Z1 14 0 2 (Z1 14 0 2 + 1)) _ d1) = _; rw [hz1.tt, nI_1]
        rw [show dy1 (Z1, d1) = ((su Z1 14 0 2 (nI (t1 + 1))), (stands (doAll (su Z1 14 0 2 (nI (t1 + 1))) d1.2.2.1.length d1))) from Prod.ext k0 k4] at hm k1 k2 k3 mm
        have hz2 : Zx ns nk (t1 + 1) (su Z1 14 0 2 (nI (t1 + 1))) := k1
        have c1 := cpl_doAll (su Z1 14 0 2 (nI (t1 + 1))) d1.2.2.1.length d1
        have c2 : cp (stands (doAll (su Z1 14 0 2 (nI (t1 + 1))) d1.2.2.1.length d1)) = cp (doAll (su Z1 14 0 2 (nI (t1 + 1))) d1.2.2.1.length d1) := rfl
        obtain ⟨f1, f2⟩ := doAll_ok hz2 d1.2.2.1.length d1 hd1
        have f3 := Ph_sz (doAll (su Z1 14 0 2 (nI (t1 + 1))) d1.2.2.1.length d1)
        have f4 : (doAll (su Z1 14 0 2 (nI (t1 + 1))) d1.2.2.1.length d1).2.1.length ≤ sz (doAll (su Z1 14 0 2 (nI (t1 + 1))) d1.2.2.1.length d1) := Nat.le_add_right _ _
        have mm2 : cp (stands (doAll (su Z1 14 0 2 (nI (t1 + 1))) d1.2.2.1.length d1)) ≤ cp (dyN j (Z, d)).2 := mm
        refine g_iload_n h (pc := 30) dX3_days_30 2 rfl ?_
        refine g_iload_n h (pc := 31) dX3_days_31 1 rfl ?_
        refine g_icmp_ge_f h (pc := 32) (tgt := 59) dX3_days_32 (by decide) (nI_ge (by omega) (by omega)) ?_
        refine g_aload_n h (pc := 35) dX3_days_35 0 rfl ?_
        refine g_dup h (pc := 36) dX3_days_36 rfl ?_
        refine g_get h (pc := 37) dX3_days_37 iX3_days_3 0 rfl rfl 8 (by decide) fX3_days_48 rfl ?_
        refine g_topi hz1.tt ?_
        refine g_iconst h (pc := 40) (v := 1) dX3_days_40 (by decide) ?_
        refine g_iadd h (pc := 41) dX3_days_41  ?_
        refine g_topi (nI_1 t1) ?_
        refine g_put h hw (pc := 42) (ws' := cw cI cO a u1 (su Z1 14 0 2 (nI (t1 + 1))) d1) (ty := .int) dX3_days_42 iX3_days_3 tyX3 tyX3_ok nmX3 0 rfl rfl 8 (by decide) fX3_days_48 rfl (by decide +kernel) rfl rfl (Nat.le_of_ble_eq_true rfl) rfl ?_
        refine g_aload_n h (pc := 45) dX3_days_45 0 rfl ?_
        refine g_callV h (pc := 46) (As := []) (st := []) dX3_days_46 (c_due (gL C) (gD C) cI cO a u1 (su Z1 14 0 2 (nI (t1 + 1))) d1 hR1 ns nk hz2.v (t1 + 1) hz2 hd1 hp1) hw gX3_days_X3_doWhatIsDue rfl (q0 := 0) rfl rfl (show nPar yX3_doWhatIsDue RX3 0 = true by decide +kernel) ⟨Nat.le_of_ble_eq_true rfl, Nat.le_of_ble_eq_true rfl⟩ rfl (Nat.le_of_ble_eq_true rfl) ⟨by show _ ≤ cp (daysP Z d (nI j)).2.2 - cp d; omega, by show _ ≤ 2 * (cp (daysP Z d (nI j)).2.2 - cp d); omega⟩ (fun u2 hR2 => ?_)
        refine g_wid (k' := cp (doAll (su Z1 14 0 2 (nI (t1 + 1))) d1.2.2.1.length d1) - cp d) (n' := 2 * (cp (doAll (su Z1 14 0 2 (nI (t1 + 1))) d1.2.2.1.length d1) - cp d)) (by omega) (by omega) ?_
        refine g_aload_n h (pc := 49) dX3_days_49 0 rfl ?_
        refine g_callV h (pc := 50) (As := []) (st := []) dX3_days_50 (c_stand (gL C) (gD C) cI cO a u2 (su Z1 14 0 2 (nI (t1 + 1))) _ hR2 ns nk hz2.v f2.1 (by omega)) hw gX3_days_X3_countStanding rfl (q0 := 0) rfl rfl (show nPar yX3_countStanding RX3 0 = true by decide +kernel) ⟨Nat.le_of_ble_eq_true rfl, Nat.le_of_ble_eq_true rfl⟩ rfl (Nat.le_of_ble_eq_true rfl) ⟨by show _ ≤ cp (daysP Z d (nI j)).2.2 - cp d; omega, by show _ ≤ 2 * (cp (daysP Z d (nI j)).2.2 - cp d); omega⟩ (fun u3 hR3 => ?_)
        refine g_wid (k' := cp (stands (doAll (su Z1 14 0 2 (nI (t1 + 1))) d1.2.2.1.length d1)) - cp d) (n' := 2 * (cp (stands (doAll (su Z1 14 0 2 (nI (t1 + 1))) d1.2.2.1.length d1)) - cp d)) (by omega) (by omega) ?_
        refine g_iinc h (pc := 53) dX3_days_53 2 rfl (nI_1 i) (by decide) rfl ?_
        refine g_goto h (pc := 56) (tgt := 30) dX3_days_56 (by decide) ?_
        exact ih (i + 1) (t1 + 1) _ _ u3 (by omega) (by omega) hm hz2 hR3 (by omega) k2 (Nat.le_trans k3 hp1)
end
section
/-! the reading calls in pure words -/
theorem isIn_out {x : Int32} {n : Nat} {hi : Int} (h : isIn x n = false) (hh : hi = (n : Int) - 1) : x.toInt < 0 ∨ hi < x.toInt := by
  have h1 := of_decide_eq_false h
  omega
def sw (w : Int32) (L : List Int32) : Int32 := if isIn w L.length = true then (L[tN w]?).getD (-1) else -1
theorem sw_in {L : List Int32} {j : Nat} {v : Int32} (hj : j < L.length) (hL : L.length < 100) (hv : L[j]? = some v) : sw (nI j) L = v := by
  unfold sw
  rw [if_pos (isIn_nI hj hL), show tN (nI j) = j from nI_clamp (by omega), hv]
  rfl
theorem sw_out {w : Int32} {L : List Int32} (h : isIn w L.length = false) : sw w L = -1 := by
  unfold sw
  rw [if_neg (by rw [h]; decide)]
/-- dues of a sort, at a shelf or at any, of a kind or of any -/
def duc (s k so : Int32) (e : E5) : Bool := decide ((s = -1 ∨ col 0 e = s) ∧ (k = -1 ∨ col 1 e = k) ∧ col 2 e = so)
theorem cso_inj {x y : Int32} (hx : (x = 0 ∨ x = 1 ∨ x = 2) ∨ x = 3) (hy : (y = 0 ∨ y = 1 ∨ y = 2) ∨ y = 3) : (cso x = cso y) ↔ x = y := by
  rcases hx with (rfl | rfl | rfl) | rfl <;> rcases hy with (rfl | rfl | rfl) | rfl <;> decide
theorem cso_m1 {y : Int32} (hy : (y = 0 ∨ y = 1 ∨ y = 2) ∨ y = 3) : ¬ cso y = -1 := by
  rcases hy with (rfl | rfl | rfl) | rfl <;> decide
theorem okU.sort {ns nk : Nat} {Z : Sg} {tau : Nat} {e : E5} (h : okU ns nk Z tau e) : (col 2 e = 0 ∨ col 2 e = 1 ∨ col 2 e = 2) ∨ col 2 e = 3 := by
  obtain ⟨_, _, _, -, -, -, -, -, -, -, h⟩ := h
  exact h.imp id (fun q => q.1)
theorem tallyU {s k so : Int32} (hso : (so = 0 ∨ so = 1 ∨ so = 2) ∨ so = 3) {L : List E5} (h : ∀ e ∈ L, (col 2 e = 0 ∨ col 2 e = 1 ∨ col 2 e = 2) ∨ col 2 e = 3) : (L.map ce).countP (fitB s k (cso so) (-1)) = L.countP (duc s k so) := by
  rw [List.countP_map]
  apply List.countP_congr
  intro e he
  show fitB s k (cso so) (-1) (ce e) = true ↔ duc s k so e = true
  unfold fitB duc
  rw [decide_eq_true_iff, decide_eq_true_iff]
  constructor
  · intro q
    exact ⟨q.1, q.2.1, (cso_inj (h e he) hso).mp (q.2.2.1.resolve_left (cso_m1 hso))⟩
  · intro q
    exact ⟨q.1, q.2.1, Or.inr ((cso_inj (h e he) hso).mpr q.2.2), Or.inl rfl⟩
def sumI (f : Nat → Int32) : Nat → Int32
  | 0 => 0
  | n + 1 => sumI f n + f n
/-- the entry that is number left of those that fit -/
def nth (p : E5 → Bool) : List E5 → Int32 → Option E5
  | [], _ => none
  | e :: r, left => if p e then (if left = 0 then some e else nth p r (left + (-1))) else nth p r left
theorem fnd_nth (p : E5 → Bool) : ∀ (L : List E5) (left : Int32) (i : Nat), (fnd p L left i = -1 ∧ nth p L left = none) ∨ ∃ (j : Nat) (e : E5), fnd p L left i = nI (i + j) ∧ L[j]? = some e ∧ nth p L left = some e
  | [], left, i => Or.inl ⟨rfl, rfl⟩
  | e :: r, left, i => by
    rw [fnd, nth]
    cases hp : p e with
    | true =>
      rw [if_pos rfl, if_pos rfl]
      by_cases hl : left = 0
      · rw [if_pos hl, if_pos hl]
        exact Or.inr ⟨0, e, rfl, rfl, rfl⟩
      · rw [if_neg hl, if_neg hl]
        rcases fnd_nth p r (left + (-1)) (i + 1) with h | ⟨j, e2, h1, h2, h3⟩
        · exact Or.inl h
        · exact Or.inr ⟨j + 1, e2, by rw [h1]; congr 1; omega, by simpa using h2, h3⟩
    | false =>
      rw [if_neg (by decide), if_neg (by decide)]
      rcases fnd_nth p r left (i + 1) with h | ⟨j, e2, h1, h2, h3⟩
      · exact Or.inl h
      · exact Or.inr ⟨j + 1, e2, by rw [h1]; congr 1; omega, by simpa using h2, h3⟩
def oc (j : Nat) (x : Option E5) : Int32 := match x with
  | none => -1
  | some e => col j e
def aboutP (ns nk : Nat) (d : Dy) (s k w : Int32) : Int32 := if (isIn s ns && isIn k nk) = false then -1 else sw w [d.1 7 (tN s) (tN k), nI (d.2.1.countP (fitB s k (-1) (-1))), nI (d.2.1.countP (fitB s k 0 (-1))), nI (d.2.2.1.countP (duc s k 1)), nI (d.2.1.countP (fitB s (-1) 2 k)), nI (d.2.2.1.countP (duc s k 0)), nI (d.2.2.1.countP (duc s k 3)), nI (d.2.2.1.countP (duc s k 2))]
def askP (ns nk : Nat) (d : Dy) (s k i w : Int32) : Int32 := if (isIn s ns && isIn k nk) = false then -1 else sw w [oc 2 (nth (fitB s k (-1) (-1)) d.2.1 i), oc 3 (nth (fitB s k (-1) (-1)) d.2.1 i), oc 4 (nth (fitB s k (-1) (-1)) d.2.1 i)]
def allP (ns nk : Nat) (d : Dy) (k w : Int32) : Int32 := if isIn k nk = false then -1 else sw w [d.1 9 0 (tN k), d.1 10 0 (tN k), sumI (fun s => d.1 7 s (tN k)) ns, nI (d.2.2.1.countP (duc (-1) k 0)) + nI (d.2.2.1.countP (duc (-1) k 3)), nI (d.2.2.1.countP (duc (-1) k 1)) + nI (d.2.1.countP (fitB (-1) (-1) 2 k)), nI (d.2.2.1.countP (duc (-1) k 2)), d.1 11 0 (tN k), d.1 12 0 (tN k), d.1 13 0 (tN k)]
def fieldP (ns : Nat) (Z : Sg) (d : Dy) (s w : Int32) : Int32 := if isIn s ns = false then -1 else sw w [Z 3 0 (tN s), Z 4 0 (tN s), nI (d.2.1.countP (fitB s (-1) 0 (-1))), d.1 5 0 (tN s), oc 3 (nth (fitB s (-1) 0 (-1)) d.2.1 0)]
def menderP (ns nk : Nat) (Z : Sg) (s k : Int32) : Int32 := if (isIn s ns && isIn k nk) = false then -1 else nI (mOf Z (tN k) (tN s))
def worthP (nk : Nat) (Z : Sg) (d : Dy) : Int32 := sumI (fun k => Z 0 0 k * (d.1 9 0 k - d.1 10 0 k)) nk
def countP9 (ns nk : Nat) (Z : Sg) (d : Dy) (w : Int32) : Int32 := sw w [nI nk, nI ns, Z 14 0 2, nI d.2.1.length, nI d.2.2.1.length, nI (d.2.1.countP (fitB (-1) (-1) 0 (-1))), sumI (fun s => d.1 5 0 s) ns]

theorem iX3_about_3 : ∀ w ∈ wsX30, w ∈ wsX3_about := by decide +kernel
theorem fX3_about_25 : Cond.fieldLink RX3 25 "SpareShelves" "good" "[[I" ∈ wsX3_about := by decide +kernel
theorem fX3_about_41 : Cond.fieldLink RX3 41 "SpareShelves" "asks" "LSpareShelves$Line;" ∈ wsX3_about := by decide +kernel
theorem fX3_about_45 : Cond.fieldLink RX3 45 "SpareShelves" "dues" "LSpareShelves$Line;" ∈ wsX3_about := by decide +kernel
set_option maxHeartbeats 4000000 in
set_option maxRecDepth 100000 in
theorem c_about (l : Launch) (D : va_G) (cI cO : ClassId) (a : Nat → Nat) (u : UX) (Z : Sg) (d : Dy) (hRC : RC d u) (ns nk : Nat) (hz : Zv ns nk Z) (hU : ∀ e ∈ d.2.2.1, (col 2 e = 0 ∨ col 2 e = 1 ∨ col 2 e = 2) ∨ col 2 e = 3) (x y wh : Int32) : CRc l yX3_about wsX3_about 3 80 D cI cO a u Z d [.int x, .int y, .int wh] (aboutP ns nk d x y wh) := by
  unfold CRc
  refine CR.of (cc := cX3_about) (maxL := 4) (rt := .int) (by decide) rfl (Nat.le_of_ble_eq_true rfl) ?_
  intro C hgL hgD h hret
  have hn8 := hz.n8
  have hk8 := hz.k8
  cases hp : (isIn x ns && isIn y nk) with
  | false =>
    refine g_aload_n h (pc := 0) dX3_about_0 0 rfl ?_
    refine g_iload_n h (pc := 1) dX3_about_1 1 rfl ?_
    refine g_iload_n h (pc := 2) dX3_about_2 2 rfl ?_
    refine g_callR h (pc := 3) (As := [.int x, .int y]) (st := []) dX3_about_3 (c_noplace (gL C) (gD C) cI cO a u Z d hRC ns nk hz x y) [0, 1, 2, 3, 4, 5, 6, 7, 8, 9, 10, 11, 12, 13, 14, 15, 16, 17, 18, 19, 20, 21, 22, 23, 24, 25, 26, 27, 28, 29, 30, 31, 32, 33, 34, 35, 36, 37, 38, 39, 40, 41, 42, 43, 44, 45] rfl (by decide) gX3_about_X3_isNoPlace rfl (q0 := 0) rfl rfl (show nPar yX3_isNoPlace RX3 2 = true by decide +kernel) ⟨Nat.le_of_ble_eq_true rfl, Nat.le_of_ble_eq_true rfl⟩ rfl (Nat.le_of_ble_eq_true rfl) ⟨Nat.zero_le _, Nat.zero_le _⟩ (fun r hr => ?_)
    subst hr
    rw [hp]
    refine g_topi (y := 1) rfl ?_
    refine g_if_eq_f h (pc := 6) (tgt := 11) dX3_about_6 (by decide) (by decide) ?_
    refine g_iconst h (pc := 9) (v := (-1)) dX3_about_9 (by decide) ?_
    exact hret _ dX3_about_10 rfl (by unfold aboutP; rw [if_pos hp])
  | true =>
    refine g_aload_n h (pc := 0) dX3_about_0 0 rfl ?_
    refine g_iload_n h (pc := 1) dX3_about_1 1 rfl ?_
    refine g_iload_n h (pc := 2) dX3_about_2 2 rfl ?_
    refine g_callR h (pc := 3) (As := [.int x, .int y]) (st := []) dX3_about_3 (c_noplace (gL C) (gD C) cI cO a u Z d hRC ns nk hz x y) [0, 1, 2, 3, 4, 5, 6, 7, 8, 9, 10, 11, 12, 13, 14, 15, 16, 17, 18, 19, 20, 21, 22, 23, 24, 25, 26, 27, 28, 29, 30, 31, 32, 33, 34, 35, 36, 37, 38, 39, 40, 41, 42, 43, 44, 45] rfl (by decide) gX3_about_X3_isNoPlace rfl (q0 := 0) rfl rfl (show nPar yX3_isNoPlace RX3 2 = true by decide +kernel) ⟨Nat.le_of_ble_eq_true rfl, Nat.le_of_ble_eq_true rfl⟩ rfl (Nat.le_of_ble_eq_true rfl) ⟨Nat.zero_le _, Nat.zero_le _⟩ (fun r hr => ?_)
    subst hr
    rw [hp]
    refine g_topi (y := 0) rfl ?_
    refine g_if_eq_t h (pc := 6) (tgt := 11) dX3_about_6 (by decide) rfl ?_
    have hpp := Bool.and_eq_true_iff.mp hp
    obtain ⟨s, hs, rfl⟩ := isIn_of (by omega) hpp.1
    obtain ⟨k, hk, rfl⟩ := isIn_of (by omega) hpp.2
    have ts : tN (nI s) = s := nI_clamp (by omega)
    have tk : tN (nI k) = k := nI_clamp (by omega)
    refine g_iload_n h (pc := 11) dX3_about_11 3 rfl ?_
    have e0 : ∀ q, aboutP ns nk d (nI s) (nI k) q = sw q [d.1 7 s k, nI (d.2.1.countP (fitB (nI s) (nI k) (-1) (-1))), nI (d.2.1.countP (fitB (nI s) (nI k) 0 (-1))), nI (d.2.2.1.countP (duc (nI s) (nI k) 1)), nI (d.2.1.countP (fitB (nI s) (-1) 2 (nI k))), nI (d.2.2.1.countP (duc (nI s) (nI k) 0)), nI (d.2.2.1.countP (duc (nI s) (nI k) 3)), nI (d.2.2.1.countP (duc (nI s) (nI k) 2))] := by
      intro q
      unfold aboutP
      rw [hp, if_neg (by decide), ts, tk]
    cases hsw : isIn wh 8 with
    | false =>
      refine g_tblOut h (pc := 12) (tgt := 148) dX3_about_12 (isIn_out hsw rfl) (by decide) ?_
      refine g_iconst h (pc := 148) (v := (-1)) dX3_about_148 (by decide) ?_
      exact hret _ dX3_about_149 rfl (by rw [e0]; exact (sw_out hsw).symm)
    | true =>
      obtain ⟨j9, hj9, rfl⟩ := isIn_of (by omega) hsw
      rcases (show j9 = 0 ∨ j9 = 1 ∨ j9 = 2 ∨ j9 = 3 ∨ j9 = 4 ∨ j9 = 5 ∨ j9 = 6 ∨ j9 = 7 by omega) with rfl | rfl | rfl | rfl | rfl | rfl | rfl | rfl
      · refine g_tblIn h (pc := 12) (tgt := 60) dX3_about_12 (by decide) (by decide) (off := 48) (by decide) (by decide) ?_
        refine g_aload_n h (pc := 60) dX3_about_60 0 rfl ?_
        refine g_get h (pc := 61) dX3_about_61 iX3_about_3 0 rfl rfl 2 (by decide) fX3_about_25 rfl ?_
        refine g_iload_n h (pc := 64) dX3_about_64 1 rfl ?_
        refine g_aald h (pc := 65) (v := a (23 + s)) dX3_about_65 22 rfl (vp_in_nI (by omega) (by omega)) (by rw [nI_clamp (by omega)]) ?_
        refine g_iload_n h (pc := 66) dX3_about_66 2 rfl ?_
        refine g_iald h (pc := 67) (v := d.1 7 s k) dX3_about_67 (23 + s) (cw_g cI cO a u Z d (by omega)) (vp_in_nI (by omega) (by omega)) (by rw [nI_clamp (by omega)]) ?_
        exact hret _ dX3_about_68 rfl (by rw [e0]; exact (sw_in (j := 0) (Nat.le_of_ble_eq_true rfl) (Nat.le_of_ble_eq_true rfl) rfl).symm)
      · refine g_tblIn h (pc := 12) (tgt := 69) dX3_about_12 (by decide) (by decide) (off := 57) (by decide) (by decide) ?_
        refine g_aload_n h (pc := 69) dX3_about_69 0 rfl ?_
        refine g_get h (pc := 70) dX3_about_70 iX3_about_3 0 rfl rfl 6 (by decide) fX3_about_41 rfl ?_
        refine g_iload_n h (pc := 73) dX3_about_73 1 rfl ?_
        refine g_iload_n h (pc := 74) dX3_about_74 2 rfl ?_
        refine g_iconst h (pc := 75) (v := (-1)) dX3_about_75 (by decide) ?_
        refine g_iconst h (pc := 76) (v := (-1)) dX3_about_76 (by decide) ?_
        refine g_callR h (pc := 77) (As := [.int (nI s), .int (nI k), .int (-1), .int (-1)]) (st := []) dX3_about_77 (c_tally (gL C) (gD C) cI cO (lb (a 42) u.1) d.2.2.2.1 u.2.2.2.1 d.2.1 hRC.1 (nI s) (nI k) (-1) (-1)) [42, 43] rfl (by decide) gX3_about_X1_tally rfl (q0 := 0) rfl rfl (show nPar yX1_tally RX1 4 = true by decide +kernel) ⟨Nat.le_of_ble_eq_true rfl, Nat.le_of_ble_eq_true rfl⟩ rfl (Nat.le_of_ble_eq_true rfl) ⟨Nat.zero_le _, Nat.zero_le _⟩ (fun r hr => ?_)
        subst hr
        exact hret _ dX3_about_80 rfl (by rw [e0]; exact (sw_in (j := 1) (Nat.le_of_ble_eq_true rfl) (Nat.le_of_ble_eq_true rfl) rfl).symm)
      · refine g_tblIn h (pc := 12) (tgt := 81) dX3_about_12 (by decide) (by decide) (off := 69) (by decide) (by decide) ?_
        refine g_aload_n h (pc := 81) dX3_about_81 0 rfl ?_
        refine g_get h (pc := 82) dX3_about_82 iX3_about_3 0 rfl rfl 6 (by decide) fX3_about_41 rfl ?_
        refine g_iload_n h (pc := 85) dX3_about_85 1 rfl ?_
        refine g_iload_n h (pc := 86) dX3_about_86 2 rfl ?_
        refine g_iconst h (pc := 87) (v := 0) dX3_about_87 (by decide) ?_
        refine g_iconst h (pc := 88) (v := (-1)) dX3_about_88 (by decide) ?_
        refine g_callR h (pc := 89) (As := [.int (nI s), .int (nI k), .int 0, .int (-1)]) (st := []) dX3_about_89 (c_tally (gL C) (gD C) cI cO (lb (a 42) u.1) d.2.2.2.1 u.2.2.2.1 d.2.1 hRC.1 (nI s) (nI k) 0 (-1)) [42, 43] rfl (by decide) gX3_about_X1_tally rfl (q0 := 0) rfl rfl (show nPar yX1_tally RX1 4 = true by decide +kernel) ⟨Nat.le_of_ble_eq_true rfl, Nat.le_of_ble_eq_true rfl⟩ rfl (Nat.le_of_ble_eq_true rfl) ⟨Nat.zero_le _, Nat.zero_le _⟩ (fun r hr => ?_)
        subst hr
        exact hret _ dX3_about_92 rfl (by rw [e0]; exact (sw_in (j := 2) (Nat.le_of_ble_eq_true rfl) (Nat.le_of_ble_eq_true rfl) rfl).symm)
      · refine g_tblIn h (pc := 12) (tgt := 93) dX3_about_12 (by decide) (by decide) (off := 81) (by decide) (by decide) ?_
        refine g_aload_n h (pc := 93) dX3_about_93 0 rfl ?_
        refine g_get h (pc := 94) dX3_about_94 iX3_about_3 0 rfl rfl 7 (by decide) fX3_about_45 rfl ?_
        refine g_iload_n h (pc := 97) dX3_about_97 1 rfl ?_
        refine g_iload_n h (pc := 98) dX3_about_98 2 rfl ?_
        refine g_iconst h (pc := 99) (v := 2) dX3_about_99 (by decide) ?_
        refine g_iconst h (pc := 100) (v := (-1)) dX3_about_100 (by decide) ?_
        refine g_callR h (pc := 101) (As := [.int (nI s), .int (nI k), .int 2, .int (-1)]) (st := []) dX3_about_101 (c_tally (gL C) (gD C) cI cO (lb (a 44) u.2.1) d.2.2.2.2 u.2.2.2.2 (d.2.2.1.map ce) hRC.2.1 (nI s) (nI k) 2 (-1)) [44, 45] rfl (by decide) gX3_about_X1_tally rfl (q0 := 0) rfl rfl (show nPar yX1_tally RX1 4 = true by decide +kernel) ⟨Nat.le_of_ble_eq_true rfl, Nat.le_of_ble_eq_true rfl⟩ rfl (Nat.le_of_ble_eq_true rfl) ⟨Nat.zero_le _, Nat.zero_le _⟩ (fun r hr => ?_)
        subst hr
        have t1 := tallyU (s := nI s) (k := nI k) (so := 1) (by decide) hU
        rw [show cso 1 = 2 by decide] at t1
        exact hret _ dX3_about_104 rfl (by rw [e0, t1]; exact (sw_in (j := 3) (Nat.le_of_ble_eq_true rfl) (Nat.le_of_ble_eq_true rfl) rfl).symm)
      · refine g_tblIn h (pc := 12) (tgt := 105) dX3_about_12 (by decide) (by decide) (off := 93) (by decide) (by decide) ?_
        refine g_aload_n h (pc := 105) dX3_about_105 0 rfl ?_
        refine g_iload_n h (pc := 106) dX3_about_106 1 rfl ?_
        refine g_iload_n h (pc := 107) dX3_about_107 2 rfl ?_
        refine g_callR h (pc := 108) (As := [.int (nI s), .int (nI k)]) (st := []) dX3_about_108 (c_mwait (gL C) (gD C) cI cO a u Z d hRC ns nk hz (nI s) (nI k)) [0, 1, 2, 3, 4, 5, 6, 7, 8, 9, 10, 11, 12, 13, 14, 15, 16, 17, 18, 19, 20, 21, 22, 23, 24, 25, 26, 27, 28, 29, 30, 31, 32, 33, 34, 35, 36, 37, 38, 39, 40, 41, 42, 43, 44, 45] rfl (by decide) gX3_about_X3_mendsThatWait rfl (q0 := 0) rfl rfl (show nPar yX3_mendsThatWait RX3 2 = true by decide +kernel) ⟨Nat.le_of_ble_eq_true rfl, Nat.le_of_ble_eq_true rfl⟩ rfl (Nat.le_of_ble_eq_true rfl) ⟨Nat.zero_le _, Nat.zero_le _⟩ (fun r hr => ?_)
        subst hr
        exact hret _ dX3_about_111 rfl (by rw [e0]; exact (sw_in (j := 4) (Nat.le_of_ble_eq_true rfl) (Nat.le_of_ble_eq_true rfl) rfl).symm)
      · refine g_tblIn h (pc := 12) (tgt := 112) dX3_about_12 (by decide) (by decide) (off := 100) (by decide) (by decide) ?_
        refine g_aload_n h (pc := 112) dX3_about_112 0 rfl ?_
        refine g_get h (pc := 113) dX3_about_113 iX3_about_3 0 rfl rfl 7 (by decide) fX3_about_45 rfl ?_
        refine g_iload_n h (pc := 116) dX3_about_116 1 rfl ?_
        refine g_iload_n h (pc := 117) dX3_about_117 2 rfl ?_
        refine g_iconst h (pc := 118) (v := 0) dX3_about_118 (by decide) ?_
        refine g_iconst h (pc := 119) (v := (-1)) dX3_about_119 (by decide) ?_
        refine g_callR h (pc := 120) (As := [.int (nI s), .int (nI k), .int 0, .int (-1)]) (st := []) dX3_about_120 (c_tally (gL C) (gD C) cI cO (lb (a 44) u.2.1) d.2.2.2.2 u.2.2.2.2 (d.2.2.1.map ce) hRC.2.1 (nI s) (nI k) 0 (-1)) [44, 45] rfl (by decide) gX3_about_X1_tally rfl (q0 := 0) rfl rfl (show nPar yX1_tally RX1 4 = true by decide +kernel) ⟨Nat.le_of_ble_eq_true rfl, Nat.le_of_ble_eq_true rfl⟩ rfl (Nat.le_of_ble_eq_true rfl) ⟨Nat.zero_le _, Nat.zero_le _⟩ (fun r hr => ?_)
        subst hr
        have t1 := tallyU (s := nI s) (k := nI k) (so := 0) (by decide) hU
        rw [show cso 0 = 0 by decide] at t1
        exact hret _ dX3_about_123 rfl (by rw [e0, t1]; exact (sw_in (j := 5) (Nat.le_of_ble_eq_true rfl) (Nat.le_of_ble_eq_true rfl) rfl).symm)
      · refine g_tblIn h (pc := 12) (tgt := 124) dX3_about_12 (by decide) (by decide) (off := 112) (by decide) (by decide) ?_
        refine g_aload_n h (pc := 124) dX3_about_124 0 rfl ?_
        refine g_get h (pc := 125) dX3_about_125 iX3_about_3 0 rfl rfl 7 (by decide) fX3_about_45 rfl ?_
        refine g_iload_n h (pc := 128) dX3_about_128 1 rfl ?_
        refine g_iload_n h (pc := 129) dX3_about_129 2 rfl ?_
        refine g_iconst h (pc := 130) (v := 1) dX3_about_130 (by decide) ?_
        refine g_iconst h (pc := 131) (v := (-1)) dX3_about_131 (by decide) ?_
        refine g_callR h (pc := 132) (As := [.int (nI s), .int (nI k), .int 1, .int (-1)]) (st := []) dX3_about_132 (c_tally (gL C) (gD C) cI cO (lb (a 44) u.2.1) d.2.2.2.2 u.2.2.2.2 (d.2.2.1.map ce) hRC.2.1 (nI s) (nI k) 1 (-1)) [44, 45] rfl (by decide) gX3_about_X1_tally rfl (q0 := 0) rfl rfl (show nPar yX1_tally RX1 4 = true by decide +kernel) ⟨Nat.le_of_ble_eq_true rfl, Nat.le_of_ble_eq_true rfl⟩ rfl (Nat.le_of_ble_eq_true rfl) ⟨Nat.zero_le _, Nat.zero_le _⟩ (fun r hr => ?_)
        subst hr
        have t1 := tallyU (s := nI s) (k := nI k) (so := 3) (by decide) hU
        rw [show cso 3 = 1 by decide] at t1
        exact hret _ dX3_about_135 rfl (by rw [e0, t1]; exact (sw_in (j := 6) (Nat.le_of_ble_eq_true rfl) (Nat.le_of_ble_eq_true rfl) rfl).symm)
      · refine g_tblIn h (pc := 12) (tgt := 136) dX3_about_12 (by decide) (by decide) (off := 124) (by decide) (by decide) ?_
        refine g_aload_n h (pc := 136) dX3_about_136 0 rfl ?_
        refine g_get h (pc := 137) dX3_about_137 iX3_about_3 0 rfl rfl 7 (by decide) fX3_about_45 rfl ?_
        refine g_iload_n h (pc := 140) dX3_about_140 1 rfl ?_
        refine g_iload_n h (pc := 141) dX3_about_141 2 rfl ?_
        refine g_iconst h (pc := 142) (v := 3) dX3_about_142 (by decide) ?_
        refine g_iconst h (pc := 143) (v := (-1)) dX3_about_143 (by decide) ?_
        refine g_callR h (pc := 144) (As := [.int (nI s), .int (nI k), .int 3, .int (-1)]) (st := []) dX3_about_144 (c_tally (gL C) (gD C) cI cO (lb (a 44) u.2.1) d.2.2.2.2 u.2.2.2.2 (d.2.2.1.map ce) hRC.2.1 (nI s) (nI k) 3 (-1)) [44, 45] rfl (by decide) gX3_about_X1_tally rfl (q0 := 0) rfl rfl (show nPar yX1_tally RX1 4 = true by decide +kernel) ⟨Nat.le_of_ble_eq_true rfl, Nat.le_of_ble_eq_true rfl⟩ rfl (Nat.le_of_ble_eq_true rfl) ⟨Nat.zero_le _, Nat.zero_le _⟩ (fun r hr => ?_)
        subst hr
        have t1 := tallyU (s := nI s) (k := nI k) (so := 2) (by decide) hU
        rw [show cso 2 = 3 by decide] at t1
        exact hret _ dX3_about_147 rfl (by rw [e0, t1]; exact (sw_in (j := 7) (Nat.le_of_ble_eq_true rfl) (Nat.le_of_ble_eq_true rfl) rfl).symm)

theorem iX3_ask_3 : ∀ w ∈ wsX30, w ∈ wsX3_ask := by decide +kernel
theorem fX3_ask_41 : Cond.fieldLink RX3 41 "SpareShelves" "asks" "LSpareShelves$Line;" ∈ wsX3_ask := by decide +kernel
set_option maxHeartbeats 4000000 in
set_option maxRecDepth 100000 in
theorem c_ask (l : Launch) (D : va_G) (cI cO : ClassId) (a : Nat → Nat) (u : UX) (Z : Sg) (d : Dy) (hRC : RC d u) (ns nk : Nat) (hz : Zv ns nk Z) (hlA : d.2.1.length ≤ 20000) (x y i wh : Int32) : CRc l yX3_ask wsX3_ask 2 60 D cI cO a u Z d [.int x, .int y, .int i, .int wh] (askP ns nk d x y i wh) := by
  unfold CRc
  refine CR.of (cc := cX3_ask) (maxL := 6) (rt := .int) (by decide) rfl (Nat.le_of_ble_eq_true rfl) ?_
  intro C hgL hgD h hret
  have hn8 := hz.n8
  have hk8 := hz.k8
  cases hp : (isIn x ns && isIn y nk) with
  | false =>
    refine g_aload_n h (pc := 0) dX3_ask_0 0 rfl ?_
    refine g_iload_n h (pc := 1) dX3_ask_1 1 rfl ?_
    refine g_iload_n h (pc := 2) dX3_ask_2 2 rfl ?_
    refine g_callR h (pc := 3) (As := [.int x, .int y]) (st := []) dX3_ask_3 (c_noplace (gL C) (gD C) cI cO a u Z d hRC ns nk hz x y) [0, 1, 2, 3, 4, 5, 6, 7, 8, 9, 10, 11, 12, 13, 14, 15, 16, 17, 18, 19, 20, 21, 22, 23, 24, 25, 26, 27, 28, 29, 30, 31, 32, 33, 34, 35, 36, 37, 38, 39, 40, 41, 42, 43, 44, 45] rfl (by decide) gX3_ask_X3_isNoPlace rfl (q0 := 0) rfl rfl (show nPar yX3_isNoPlace RX3 2 = true by decide +kernel) ⟨Nat.le_of_ble_eq_true rfl, Nat.le_of_ble_eq_true rfl⟩ rfl (Nat.le_of_ble_eq_true rfl) ⟨Nat.zero_le _, Nat.zero_le _⟩ (fun r hr => ?_)
    subst hr
    rw [hp]
    refine g_topi (y := 1) rfl ?_
    refine g_if_eq_f h (pc := 6) (tgt := 11) dX3_ask_6 (by decide) (by decide) ?_
    refine g_iconst h (pc := 9) (v := (-1)) dX3_ask_9 (by decide) ?_
    exact hret _ dX3_ask_10 rfl (by unfold askP; rw [if_pos hp])
  | true =>
    refine g_aload_n h (pc := 0) dX3_ask_0 0 rfl ?_
    refine g_iload_n h (pc := 1) dX3_ask_1 1 rfl ?_
    refine g_iload_n h (pc := 2) dX3_ask_2 2 rfl ?_
    refine g_callR h (pc := 3) (As := [.int x, .int y]) (st := []) dX3_ask_3 (c_noplace (gL C) (gD C) cI cO a u Z d hRC ns nk hz x y) [0, 1, 2, 3, 4, 5, 6, 7, 8, 9, 10, 11, 12, 13, 14, 15, 16, 17, 18, 19, 20, 21, 22, 23, 24, 25, 26, 27, 28, 29, 30, 31, 32, 33, 34, 35, 36, 37, 38, 39, 40, 41, 42, 43, 44, 45] rfl (by decide) gX3_ask_X3_isNoPlace rfl (q0 := 0) rfl rfl (show nPar yX3_isNoPlace RX3 2 = true by decide +kernel) ⟨Nat.le_of_ble_eq_true rfl, Nat.le_of_ble_eq_true rfl⟩ rfl (Nat.le_of_ble_eq_true rfl) ⟨Nat.zero_le _, Nat.zero_le _⟩ (fun r hr => ?_)
    subst hr
    rw [hp]
    refine g_topi (y := 0) rfl ?_
    refine g_if_eq_t h (pc := 6) (tgt := 11) dX3_ask_6 (by decide) rfl ?_
    have hpp := Bool.and_eq_true_iff.mp hp
    obtain ⟨s, hs, rfl⟩ := isIn_of (by omega) hpp.1
    obtain ⟨k, hk, rfl⟩ := isIn_of (by omega) hpp.2
    have ts : tN (nI s) = s := nI_clamp (by omega)
    have tk : tN (nI k) = k := nI_clamp (by omega)
    refine g_aload_n h (pc := 11) dX3_ask_11 0 rfl ?_
    refine g_get h (pc := 12) dX3_ask_12 iX3_ask_3 0 rfl rfl 6 (by decide) fX3_ask_41 rfl ?_
    refine g_iload_n h (pc := 15) dX3_ask_15 1 rfl ?_
    refine g_iload_n h (pc := 16) dX3_ask_16 2 rfl ?_
    refine g_iconst h (pc := 17) (v := (-1)) dX3_ask_17 (by decide) ?_
    refine g_iload_n h (pc := 18) dX3_ask_18 3 rfl ?_
    refine g_callR h (pc := 19) (As := [.int (nI s), .int (nI k), .int (-1), .int i]) (st := []) dX3_ask_19 (c_find (gL C) (gD C) cI cO (lb (a 42) u.1) d.2.2.2.1 u.2.2.2.1 d.2.1 hRC.1 (nI s) (nI k) (-1) i) [42, 43] rfl (by decide) gX3_ask_X1_find rfl (q0 := 0) rfl rfl (show nPar yX1_find RX1 4 = true by decide +kernel) ⟨Nat.le_of_ble_eq_true rfl, Nat.le_of_ble_eq_true rfl⟩ rfl (Nat.le_of_ble_eq_true rfl) ⟨Nat.zero_le _, Nat.zero_le _⟩ (fun r hr => ?_)
    subst hr
    refine g_istore h (pc := 22) dX3_ask_22 (by decide) rfl ?_
    refine g_iload h (pc := 24) dX3_ask_24 4 rfl ?_
    have e0 : ∀ q, askP ns nk d (nI s) (nI k) i q = sw q [oc 2 (nth (fitB (nI s) (nI k) (-1) (-1)) d.2.1 i), oc 3 (nth (fitB (nI s) (nI k) (-1) (-1)) d.2.1 i), oc 4 (nth (fitB (nI s) (nI k) (-1) (-1)) d.2.1 i)] := by
      intro q
      unfold askP
      rw [hp, if_neg (by decide)]
    cases hsw : isIn wh 3 with
    | false =>
      refine g_tblOut h (pc := 26) (tgt := 85) dX3_ask_26 (isIn_out hsw rfl) (by decide) ?_
      refine g_iconst h (pc := 85) (v := (-1)) dX3_ask_85 (by decide) ?_
      exact hret _ dX3_ask_86 rfl (by rw [e0]; exact (sw_out hsw).symm)
    | true =>
      obtain ⟨j9, hj9, rfl⟩ := isIn_of (by omega) hsw
      rcases (show j9 = 0 ∨ j9 = 1 ∨ j9 = 2 by omega) with rfl | rfl | rfl
      · refine g_tblIn h (pc := 26) (tgt := 52) dX3_ask_26 (by decide) (by decide) (off := 26) (by decide) (by decide) ?_
        rcases fnd_nth (fitB (nI s) (nI k) (-1) (-1)) d.2.1 i 0 with ⟨f1, f2⟩ | ⟨i2, e, f1, f2, f3⟩
        · rw [f1]
          refine g_aload_n h (pc := 52) dX3_ask_52 0 rfl ?_
          refine g_get h (pc := 53) dX3_ask_53 iX3_ask_3 0 rfl rfl 6 (by decide) fX3_ask_41 rfl ?_
          refine g_iload h (pc := 56) dX3_ask_56 5 rfl ?_
          refine g_iconst h (pc := 58) (v := 2) dX3_ask_58 (by decide) ?_
          refine g_callR h (pc := 59) (As := [.int (-1), .int 2]) (st := []) dX3_ask_59 (c_readN (gL C) (gD C) cI cO (lb (a 42) u.1) d.2.2.2.1 u.2.2.2.1 (nI d.2.1.length) 2) [42, 43] rfl (by decide) gX3_ask_X1_read rfl (q0 := 0) rfl rfl (show nPar yX1_read RX1 2 = true by decide +kernel) ⟨Nat.le_of_ble_eq_true rfl, Nat.le_of_ble_eq_true rfl⟩ rfl (Nat.le_of_ble_eq_true rfl) ⟨Nat.zero_le _, Nat.zero_le _⟩ (fun r hr => ?_)
          subst hr
          exact hret _ dX3_ask_62 rfl (by rw [e0, f2]; exact (sw_in (j := 0) (Nat.le_of_ble_eq_true rfl) (Nat.le_of_ble_eq_true rfl) rfl).symm)
        · rw [f1, Nat.zero_add]
          refine g_aload_n h (pc := 52) dX3_ask_52 0 rfl ?_
          refine g_get h (pc := 53) dX3_ask_53 iX3_ask_3 0 rfl rfl 6 (by decide) fX3_ask_41 rfl ?_
          refine g_iload h (pc := 56) dX3_ask_56 5 rfl ?_
          refine g_iconst h (pc := 58) (v := 2) dX3_ask_58 (by decide) ?_
          refine g_callR h (pc := 59) (As := [.int (nI i2), .int 2]) (st := []) dX3_ask_59 (c_read (gL C) (gD C) cI cO (lb (a 42) u.1) d.2.2.2.1 u.2.2.2.1 d.2.1 hRC.1 i2 e f2 2 (by decide) _ 2 rfl rfl) [42, 43] rfl (by decide) gX3_ask_X1_read rfl (q0 := 0) rfl rfl (show nPar yX1_read RX1 2 = true by decide +kernel) ⟨Nat.le_of_ble_eq_true rfl, Nat.le_of_ble_eq_true rfl⟩ rfl (Nat.le_of_ble_eq_true rfl) ⟨Nat.zero_le _, Nat.zero_le _⟩ (fun r hr => ?_)
          subst hr
          exact hret _ dX3_ask_62 rfl (by rw [e0, f3]; exact (sw_in (j := 0) (Nat.le_of_ble_eq_true rfl) (Nat.le_of_ble_eq_true rfl) rfl).symm)
      · refine g_tblIn h (pc := 26) (tgt := 63) dX3_ask_26 (by decide) (by decide) (off := 37) (by decide) (by decide) ?_
        rcases fnd_nth (fitB (nI s) (nI k) (-1) (-1)) d.2.1 i 0 with ⟨f1, f2⟩ | ⟨i2, e, f1, f2, f3⟩
        · rw [f1]
          refine g_aload_n h (pc := 63) dX3_ask_63 0 rfl ?_
          refine g_get h (pc := 64) dX3_ask_64 iX3_ask_3 0 rfl rfl 6 (by decide) fX3_ask_41 rfl ?_
          refine g_iload h (pc := 67) dX3_ask_67 5 rfl ?_
          refine g_iconst h (pc := 69) (v := 3) dX3_ask_69 (by decide) ?_
          refine g_callR h (pc := 70) (As := [.int (-1), .int 3]) (st := []) dX3_ask_70 (c_readN (gL C) (gD C) cI cO (lb (a 42) u.1) d.2.2.2.1 u.2.2.2.1 (nI d.2.1.length) 3) [42, 43] rfl (by decide) gX3_ask_X1_read rfl (q0 := 0) rfl rfl (show nPar yX1_read RX1 2 = true by decide +kernel) ⟨Nat.le_of_ble_eq_true rfl, Nat.le_of_ble_eq_true rfl⟩ rfl (Nat.le_of_ble_eq_true rfl) ⟨Nat.zero_le _, Nat.zero_le _⟩ (fun r hr => ?_)
          subst hr
          exact hret _ dX3_ask_73 rfl (by rw [e0, f2]; exact (sw_in (j := 1) (Nat.le_of_ble_eq_true rfl) (Nat.le_of_ble_eq_true rfl) rfl).symm)
        · rw [f1, Nat.zero_add]
          refine g_aload_n h (pc := 63) dX3_ask_63 0 rfl ?_
          refine g_get h (pc := 64) dX3_ask_64 iX3_ask_3 0 rfl rfl 6 (by decide) fX3_ask_41 rfl ?_
          refine g_iload h (pc := 67) dX3_ask_67 5 rfl ?_
          refine g_iconst h (pc := 69) (v := 3) dX3_ask_69 (by decide) ?_
          refine g_callR h (pc := 70) (As := [.int (nI i2), .int 3]) (st := []) dX3_ask_70 (c_read (gL C) (gD C) cI cO (lb (a 42) u.1) d.2.2.2.1 u.2.2.2.1 d.2.1 hRC.1 i2 e f2 3 (by decide) _ 3 rfl rfl) [42, 43] rfl (by decide) gX3_ask_X1_read rfl (q0 := 0) rfl rfl (show nPar yX1_read RX1 2 = true by decide +kernel) ⟨Nat.le_of_ble_eq_true rfl, Nat.le_of_ble_eq_true rfl⟩ rfl (Nat.le_of_ble_eq_true rfl) ⟨Nat.zero_le _, Nat.zero_le _⟩ (fun r hr => ?_)
          subst hr
          exact hret _ dX3_ask_73 rfl (by rw [e0, f3]; exact (sw_in (j := 1) (Nat.le_of_ble_eq_true rfl) (Nat.le_of_ble_eq_true rfl) rfl).symm)
      · refine g_tblIn h (pc := 26) (tgt := 74) dX3_ask_26 (by decide) (by decide) (off := 48) (by decide) (by decide) ?_
        rcases fnd_nth (fitB (nI s) (nI k) (-1) (-1)) d.2.1 i 0 with ⟨f1, f2⟩ | ⟨i2, e, f1, f2, f3⟩
        · rw [f1]
          refine g_aload_n h (pc := 74) dX3_ask_74 0 rfl ?_
          refine g_get h (pc := 75) dX3_ask_75 iX3_ask_3 0 rfl rfl 6 (by decide) fX3_ask_41 rfl ?_
          refine g_iload h (pc := 78) dX3_ask_78 5 rfl ?_
          refine g_iconst h (pc := 80) (v := 4) dX3_ask_80 (by decide) ?_
          refine g_callR h (pc := 81) (As := [.int (-1), .int 4]) (st := []) dX3_ask_81 (c_readN (gL C) (gD C) cI cO (lb (a 42) u.1) d.2.2.2.1 u.2.2.2.1 (nI d.2.1.length) 4) [42, 43] rfl (by decide) gX3_ask_X1_read rfl (q0 := 0) rfl rfl (show nPar yX1_read RX1 2 = true by decide +kernel) ⟨Nat.le_of_ble_eq_true rfl, Nat.le_of_ble_eq_true rfl⟩ rfl (Nat.le_of_ble_eq_true rfl) ⟨Nat.zero_le _, Nat.zero_le _⟩ (fun r hr => ?_)
          subst hr
          exact hret _ dX3_ask_84 rfl (by rw [e0, f2]; exact (sw_in (j := 2) (Nat.le_of_ble_eq_true rfl) (Nat.le_of_ble_eq_true rfl) rfl).symm)
        · rw [f1, Nat.zero_add]
          refine g_aload_n h (pc := 74) dX3_ask_74 0 rfl ?_
          refine g_get h (pc := 75) dX3_ask_75 iX3_ask_3 0 rfl rfl 6 (by decide) fX3_ask_41 rfl ?_
          refine g_iload h (pc := 78) dX3_ask_78 5 rfl ?_
          refine g_iconst h (pc := 80) (v := 4) dX3_ask_80 (by decide) ?_
          refine g_callR h (pc := 81) (As := [.int (nI i2), .int 4]) (st := []) dX3_ask_81 (c_read (gL C) (gD C) cI cO (lb (a 42) u.1) d.2.2.2.1 u.2.2.2.1 d.2.1 hRC.1 i2 e f2 4 (by decide) _ 4 rfl rfl) [42, 43] rfl (by decide) gX3_ask_X1_read rfl (q0 := 0) rfl rfl (show nPar yX1_read RX1 2 = true by decide +kernel) ⟨Nat.le_of_ble_eq_true rfl, Nat.le_of_ble_eq_true rfl⟩ rfl (Nat.le_of_ble_eq_true rfl) ⟨Nat.zero_le _, Nat.zero_le _⟩ (fun r hr => ?_)
          subst hr
          exact hret _ dX3_ask_84 rfl (by rw [e0, f3]; exact (sw_in (j := 2) (Nat.le_of_ble_eq_true rfl) (Nat.le_of_ble_eq_true rfl) rfl).symm)

theorem iX3_goodOnShelves_3 : ∀ w ∈ wsX30, w ∈ wsX3_goodOnShelves := by decide +kernel
theorem fX3_goodOnShelves_19 : Cond.fieldLink RX3 19 "SpareShelves" "tree" "LSpareShelves$Tree;" ∈ wsX3_goodOnShelves := by decide +kernel
theorem iX3_goodOnShelves_2 : ∀ w ∈ wsX20, w ∈ wsX3_goodOnShelves := by decide +kernel
theorem fX3_goodOnShelves_76 : Cond.fieldLink RX3 76 "SpareShelves$Tree" "size" "I" ∈ wsX3_goodOnShelves := by decide +kernel
theorem fX3_goodOnShelves_25 : Cond.fieldLink RX3 25 "SpareShelves" "good" "[[I" ∈ wsX3_goodOnShelves := by decide +kernel
set_option maxHeartbeats 4000000 in
set_option maxRecDepth 100000 in
theorem c_goods (l : Launch) (D : va_G) (cI cO : ClassId) (a : Nat → Nat) (u : UX) (Z : Sg) (d : Dy) (hRC : RC d u) (ns nk : Nat) (hz : Zv ns nk Z) (k : Nat) (hk : k < nk) : CRc l yX3_goodOnShelves wsX3_goodOnShelves 0 0 D cI cO a u Z d [.int (nI k)] (sumI (fun s => d.1 7 s k) ns) := by
  unfold CRc
  refine CR.of (cc := cX3_goodOnShelves) (maxL := 4) (rt := .int) (by decide) rfl (Nat.le_of_ble_eq_true rfl) ?_
  intro C hgL hgD h hret
  have hn8 := hz.n8
  have hk8 := hz.k8
  refine g_iconst h (pc := 0) (v := 0) dX3_goodOnShelves_0 (by decide) ?_
  refine g_istore_n h (pc := 1) dX3_goodOnShelves_1 (by decide) rfl ?_
  refine g_iconst h (pc := 2) (v := 0) dX3_goodOnShelves_2 (by decide) ?_
  refine g_istore_n h (pc := 3) dX3_goodOnShelves_3 (by decide) rfl ?_
  suffices loop : ∀ (m i : Nat), i + m = ns → GG C 4 (cw cI cO a u Z d) 0 0 4 [(0, .ref (a 0)), (1, .int (nI k)), (2, .int (sumI (fun s => d.1 7 s k) i)), (3, .int (nI i))] [] from loop ns 0 (by omega)
  intro m
  induction m with
  | zero =>
    intro i h1
    refine g_iload_n h (pc := 4) dX3_goodOnShelves_4 3 rfl ?_
    refine g_aload_n h (pc := 5) dX3_goodOnShelves_5 0 rfl ?_
    refine g_get h (pc := 6) dX3_goodOnShelves_6 iX3_goodOnShelves_3 0 rfl rfl 1 (by decide) fX3_goodOnShelves_19 rfl ?_
    refine g_get h (pc := 9) dX3_goodOnShelves_9 iX3_goodOnShelves_2 10 rfl rfl 3 (by decide) fX3_goodOnShelves_76 rfl ?_
    refine g_topi hz.ns ?_
    refine g_icmp_ge_t h (pc := 12) (tgt := 32) dX3_goodOnShelves_12 (by decide) (nI_le (by omega) (by omega)) ?_
    refine g_iload_n h (pc := 32) dX3_goodOnShelves_32 2 rfl ?_
    rw [show i = ns by omega]
    exact hret _ dX3_goodOnShelves_33 rfl rfl
  | succ m ih =>
    intro i h1
    refine g_iload_n h (pc := 4) dX3_goodOnShelves_4 3 rfl ?_
    refine g_aload_n h (pc := 5) dX3_goodOnShelves_5 0 rfl ?_
    refine g_get h (pc := 6) dX3_goodOnShelves_6 iX3_goodOnShelves_3 0 rfl rfl 1 (by decide) fX3_goodOnShelves_19 rfl ?_
    refine g_get h (pc := 9) dX3_goodOnShelves_9 iX3_goodOnShelves_2 10 rfl rfl 3 (by decide) fX3_goodOnShelves_76 rfl ?_
    refine g_topi hz.ns ?_
    refine g_icmp_ge_f h (pc := 12) (tgt := 32) dX3_goodOnShelves_12 (by decide) (nI_ge (by omega) (by omega)) ?_
    refine g_iload_n h (pc := 15) dX3_goodOnShelves_15 2 rfl ?_
    refine g_aload_n h (pc := 16) dX3_goodOnShelves_16 0 rfl ?_
    refine g_get h (pc := 17) dX3_goodOnShelves_17 iX3_goodOnShelves_3 0 rfl rfl 2 (by decide) fX3_goodOnShelves_25 rfl ?_
    refine g_iload_n h (pc := 20) dX3_goodOnShelves_20 3 rfl ?_
    refine g_aald h (pc := 21) (v := a (23 + i)) dX3_goodOnShelves_21 22 rfl (vp_in_nI (by omega) (by omega)) (by rw [nI_clamp (by omega)]) ?_
    refine g_iload_n h (pc := 22) dX3_goodOnShelves_22 1 rfl ?_
    refine g_iald h (pc := 23) (v := d.1 7 i k) dX3_goodOnShelves_23 (23 + i) (cw_g cI cO a u Z d (by omega)) (vp_in_nI (by omega) (by omega)) (by rw [nI_clamp (by omega)]) ?_
    refine g_iadd h (pc := 24) dX3_goodOnShelves_24  ?_
    refine g_istore_n h (pc := 25) dX3_goodOnShelves_25 (by decide) rfl ?_
    refine g_iinc h (pc := 26) dX3_goodOnShelves_26 3 rfl (nI_1 i) (by decide) rfl ?_
    refine g_goto h (pc := 29) (tgt := 4) dX3_goodOnShelves_29 (by decide) ?_
    exact ih (i + 1) (by omega)

theorem iX3_stoodOfAll_3 : ∀ w ∈ wsX30, w ∈ wsX3_stoodOfAll := by decide +kernel
theorem fX3_stoodOfAll_19 : Cond.fieldLink RX3 19 "SpareShelves" "tree" "LSpareShelves$Tree;" ∈ wsX3_stoodOfAll := by decide +kernel
theorem iX3_stoodOfAll_2 : ∀ w ∈ wsX20, w ∈ wsX3_stoodOfAll := by decide +kernel
theorem fX3_stoodOfAll_76 : Cond.fieldLink RX3 76 "SpareShelves$Tree" "size" "I" ∈ wsX3_stoodOfAll := by decide +kernel
theorem fX3_stoodOfAll_31 : Cond.fieldLink RX3 31 "SpareShelves" "stood" "[I" ∈ wsX3_stoodOfAll := by decide +kernel
set_option maxHeartbeats 4000000 in
set_option maxRecDepth 100000 in
theorem c_stoods (l : Launch) (D : va_G) (cI cO : ClassId) (a : Nat → Nat) (u : UX) (Z : Sg) (d : Dy) (hRC : RC d u) (ns nk : Nat) (hz : Zv ns nk Z)  : CRc l yX3_stoodOfAll wsX3_stoodOfAll 0 0 D cI cO a u Z d [] (sumI (fun s => d.1 5 0 s) ns) := by
  unfold CRc
  refine CR.of (cc := cX3_stoodOfAll) (maxL := 3) (rt := .int) (by decide) rfl (Nat.le_of_ble_eq_true rfl) ?_
  intro C hgL hgD h hret
  have hn8 := hz.n8
  have hk8 := hz.k8
  refine g_iconst h (pc := 0) (v := 0) dX3_stoodOfAll_0 (by decide) ?_
  refine g_istore_n h (pc := 1) dX3_stoodOfAll_1 (by decide) rfl ?_
  refine g_iconst h (pc := 2) (v := 0) dX3_stoodOfAll_2 (by decide) ?_
  refine g_istore_n h (pc := 3) dX3_stoodOfAll_3 (by decide) rfl ?_
  suffices loop : ∀ (m i : Nat), i + m = ns → GG C 3 (cw cI cO a u Z d) 0 0 4 [(0, .ref (a 0)), (1, .int (sumI (fun s => d.1 5 0 s) i)), (2, .int (nI i))] [] from loop ns 0 (by omega)
  intro m
  induction m with
  | zero =>
    intro i h1
    refine g_iload_n h (pc := 4) dX3_stoodOfAll_4 2 rfl ?_
    refine g_aload_n h (pc := 5) dX3_stoodOfAll_5 0 rfl ?_
    refine g_get h (pc := 6) dX3_stoodOfAll_6 iX3_stoodOfAll_3 0 rfl rfl 1 (by decide) fX3_stoodOfAll_19 rfl ?_
    refine g_get h (pc := 9) dX3_stoodOfAll_9 iX3_stoodOfAll_2 10 rfl rfl 3 (by decide) fX3_stoodOfAll_76 rfl ?_
    refine g_topi hz.ns ?_
    refine g_icmp_ge_t h (pc := 12) (tgt := 30) dX3_stoodOfAll_12 (by decide) (nI_le (by omega) (by omega)) ?_
    refine g_iload_n h (pc := 30) dX3_stoodOfAll_30 1 rfl ?_
    rw [show i = ns by omega]
    exact hret _ dX3_stoodOfAll_31 rfl rfl
  | succ m ih =>
    intro i h1
    refine g_iload_n h (pc := 4) dX3_stoodOfAll_4 2 rfl ?_
    refine g_aload_n h (pc := 5) dX3_stoodOfAll_5 0 rfl ?_
    refine g_get h (pc := 6) dX3_stoodOfAll_6 iX3_stoodOfAll_3 0 rfl rfl 1 (by decide) fX3_stoodOfAll_19 rfl ?_
    refine g_get h (pc := 9) dX3_stoodOfAll_9 iX3_stoodOfAll_2 10 rfl rfl 3 (by decide) fX3_stoodOfAll_76 rfl ?_
    refine g_topi hz.ns ?_
    refine g_icmp_ge_f h (pc := 12) (tgt := 30) dX3_stoodOfAll_12 (by decide) (nI_ge (by omega) (by omega)) ?_
    refine g_iload_n h (pc := 15) dX3_stoodOfAll_15 1 rfl ?_
    refine g_aload_n h (pc := 16) dX3_stoodOfAll_16 0 rfl ?_
    refine g_get h (pc := 17) dX3_stoodOfAll_17 iX3_stoodOfAll_3 0 rfl rfl 4 (by decide) fX3_stoodOfAll_31 rfl ?_
    refine g_iload_n h (pc := 20) dX3_stoodOfAll_20 2 rfl ?_
    refine g_iald h (pc := 21) (v := d.1 5 0 i) dX3_stoodOfAll_21 40 rfl (vp_in_nI (by omega) (by omega)) (by rw [nI_clamp (by omega)]) ?_
    refine g_iadd h (pc := 22) dX3_stoodOfAll_22  ?_
    refine g_istore_n h (pc := 23) dX3_stoodOfAll_23 (by decide) rfl ?_
    refine g_iinc h (pc := 24) dX3_stoodOfAll_24 2 rfl (nI_1 i) (by decide) rfl ?_
    refine g_goto h (pc := 27) (tgt := 4) dX3_stoodOfAll_27 (by decide) ?_
    exact ih (i + 1) (by omega)

theorem iX3_worth_3 : ∀ w ∈ wsX30, w ∈ wsX3_worth := by decide +kernel
theorem fX3_worth_10 : Cond.fieldLink RX3 10 "SpareShelves" "kinds" "LSpareShelves$Kinds;" ∈ wsX3_worth := by decide +kernel
theorem iX3_worth_0 : ∀ w ∈ wsX00, w ∈ wsX3_worth := by decide +kernel
theorem fX3_worth_60 : Cond.fieldLink RX3 60 "SpareShelves$Kinds" "size" "I" ∈ wsX3_worth := by decide +kernel
theorem fX3_worth_63 : Cond.fieldLink RX3 63 "SpareShelves$Kinds" "price" "[I" ∈ wsX3_worth := by decide +kernel
theorem fX3_worth_91 : Cond.fieldLink RX3 91 "SpareShelves$Kinds" "bought" "[I" ∈ wsX3_worth := by decide +kernel
theorem fX3_worth_105 : Cond.fieldLink RX3 105 "SpareShelves$Kinds" "scrapped" "[I" ∈ wsX3_worth := by decide +kernel
set_option maxHeartbeats 4000000 in
set_option maxRecDepth 100000 in
theorem c_worth (l : Launch) (D : va_G) (cI cO : ClassId) (a : Nat → Nat) (u : UX) (Z : Sg) (d : Dy) (hRC : RC d u) (ns nk : Nat) (hz : Zv ns nk Z)  : CRc l yX3_worth wsX3_worth 0 0 D cI cO a u Z d [] (worthP nk Z d) := by
  unfold CRc
  refine CR.of (cc := cX3_worth) (maxL := 3) (rt := .int) (by decide) rfl (Nat.le_of_ble_eq_true rfl) ?_
  intro C hgL hgD h hret
  have hn8 := hz.n8
  have hk8 := hz.k8
  refine g_iconst h (pc := 0) (v := 0) dX3_worth_0 (by decide) ?_
  refine g_istore_n h (pc := 1) dX3_worth_1 (by decide) rfl ?_
  refine g_iconst h (pc := 2) (v := 0) dX3_worth_2 (by decide) ?_
  refine g_istore_n h (pc := 3) dX3_worth_3 (by decide) rfl ?_
  suffices loop : ∀ (m i : Nat), i + m = nk → GG C 3 (cw cI cO a u Z d) 0 0 4 [(0, .ref (a 0)), (1, .int (sumI (fun k => Z 0 0 k * (d.1 9 0 k - d.1 10 0 k)) i)), (2, .int (nI i))] [] from loop nk 0 (by omega)
  intro m
  induction m with
  | zero =>
    intro i h1
    refine g_iload_n h (pc := 4) dX3_worth_4 2 rfl ?_
    refine g_aload_n h (pc := 5) dX3_worth_5 0 rfl ?_
    refine g_get h (pc := 6) dX3_worth_6 iX3_worth_3 0 rfl rfl 0 (by decide) fX3_worth_10 rfl ?_
    refine g_get h (pc := 9) dX3_worth_9 iX3_worth_0 1 rfl rfl 8 (by decide) fX3_worth_60 rfl ?_
    refine g_topi hz.nk ?_
    refine g_icmp_ge_t h (pc := 12) (tgt := 53) dX3_worth_12 (by decide) (nI_le (by omega) (by omega)) ?_
    refine g_iload_n h (pc := 53) dX3_worth_53 1 rfl ?_
    rw [show i = nk by omega]
    exact hret _ dX3_worth_54 rfl rfl
  | succ m ih =>
    intro i h1
    refine g_iload_n h (pc := 4) dX3_worth_4 2 rfl ?_
    refine g_aload_n h (pc := 5) dX3_worth_5 0 rfl ?_
    refine g_get h (pc := 6) dX3_worth_6 iX3_worth_3 0 rfl rfl 0 (by decide) fX3_worth_10 rfl ?_
    refine g_get h (pc := 9) dX3_worth_9 iX3_worth_0 1 rfl rfl 8 (by decide) fX3_worth_60 rfl ?_
    refine g_topi hz.nk ?_
    refine g_icmp_ge_f h (pc := 12) (tgt := 53) dX3_worth_12 (by decide) (nI_ge (by omega) (by omega)) ?_
    refine g_iload_n h (pc := 15) dX3_worth_15 1 rfl ?_
    refine g_aload_n h (pc := 16) dX3_worth_16 0 rfl ?_
    refine g_get h (pc := 17) dX3_worth_17 iX3_worth_3 0 rfl rfl 0 (by decide) fX3_worth_10 rfl ?_
    refine g_get h (pc := 20) dX3_worth_20 iX3_worth_0 1 rfl rfl 0 (by decide) fX3_worth_63 rfl ?_
    refine g_iload_n h (pc := 23) dX3_worth_23 2 rfl ?_
    refine g_iald h (pc := 24) (v := Z 0 0 i) dX3_worth_24 2 rfl (vp_in_nI (by omega) (by omega)) (by rw [nI_clamp (by omega)]) ?_
    refine g_aload_n h (pc := 25) dX3_worth_25 0 rfl ?_
    refine g_get h (pc := 26) dX3_worth_26 iX3_worth_3 0 rfl rfl 0 (by decide) fX3_worth_10 rfl ?_
    refine g_get h (pc := 29) dX3_worth_29 iX3_worth_0 1 rfl rfl 3 (by decide) fX3_worth_91 rfl ?_
    refine g_iload_n h (pc := 32) dX3_worth_32 2 rfl ?_
    refine g_iald h (pc := 33) (v := d.1 9 0 i) dX3_worth_33 5 rfl (vp_in_nI (by omega) (by omega)) (by rw [nI_clamp (by omega)]) ?_
    refine g_aload_n h (pc := 34) dX3_worth_34 0 rfl ?_
    refine g_get h (pc := 35) dX3_worth_35 iX3_worth_3 0 rfl rfl 0 (by decide) fX3_worth_10 rfl ?_
    refine g_get h (pc := 38) dX3_worth_38 iX3_worth_0 1 rfl rfl 4 (by decide) fX3_worth_105 rfl ?_
    refine g_iload_n h (pc := 41) dX3_worth_41 2 rfl ?_
    refine g_iald h (pc := 42) (v := d.1 10 0 i) dX3_worth_42 6 rfl (vp_in_nI (by omega) (by omega)) (by rw [nI_clamp (by omega)]) ?_
    refine g_isub h (pc := 43) dX3_worth_43  ?_
    refine g_imul h (pc := 44) dX3_worth_44  ?_
    refine g_iadd h (pc := 45) dX3_worth_45  ?_
    refine g_istore_n h (pc := 46) dX3_worth_46 (by decide) rfl ?_
    refine g_iinc h (pc := 47) dX3_worth_47 2 rfl (nI_1 i) (by decide) rfl ?_
    refine g_goto h (pc := 50) (tgt := 4) dX3_worth_50 (by decide) ?_
    exact ih (i + 1) (by omega)

theorem iX3_count_3 : ∀ w ∈ wsX30, w ∈ wsX3_count := by decide +kernel
theorem fX3_count_10 : Cond.fieldLink RX3 10 "SpareShelves" "kinds" "LSpareShelves$Kinds;" ∈ wsX3_count := by decide +kernel
theorem iX3_count_0 : ∀ w ∈ wsX00, w ∈ wsX3_count := by decide +kernel
theorem fX3_count_60 : Cond.fieldLink RX3 60 "SpareShelves$Kinds" "size" "I" ∈ wsX3_count := by decide +kernel
theorem fX3_count_19 : Cond.fieldLink RX3 19 "SpareShelves" "tree" "LSpareShelves$Tree;" ∈ wsX3_count := by decide +kernel
theorem iX3_count_2 : ∀ w ∈ wsX20, w ∈ wsX3_count := by decide +kernel
theorem fX3_count_76 : Cond.fieldLink RX3 76 "SpareShelves$Tree" "size" "I" ∈ wsX3_count := by decide +kernel
theorem fX3_count_48 : Cond.fieldLink RX3 48 "SpareShelves" "time" "I" ∈ wsX3_count := by decide +kernel
theorem fX3_count_41 : Cond.fieldLink RX3 41 "SpareShelves" "asks" "LSpareShelves$Line;" ∈ wsX3_count := by decide +kernel
theorem iX3_count_1 : ∀ w ∈ wsX10, w ∈ wsX3_count := by decide +kernel
theorem fX3_count_98 : Cond.fieldLink RX3 98 "SpareShelves$Line" "size" "I" ∈ wsX3_count := by decide +kernel
theorem fX3_count_45 : Cond.fieldLink RX3 45 "SpareShelves" "dues" "LSpareShelves$Line;" ∈ wsX3_count := by decide +kernel
set_option maxHeartbeats 4000000 in
set_option maxRecDepth 100000 in
theorem c_count (l : Launch) (D : va_G) (cI cO : ClassId) (a : Nat → Nat) (u : UX) (Z : Sg) (d : Dy) (hRC : RC d u) (ns nk : Nat) (hz : Zv ns nk Z) (wh : Int32) : CRc l yX3_count wsX3_count 2 60 D cI cO a u Z d [.int wh] (countP9 ns nk Z d wh) := by
  unfold CRc
  refine CR.of (cc := cX3_count) (maxL := 2) (rt := .int) (by decide) rfl (Nat.le_of_ble_eq_true rfl) ?_
  intro C hgL hgD h hret
  have hn8 := hz.n8
  have hk8 := hz.k8
  refine g_iload_n h (pc := 0) dX3_count_0 1 rfl ?_
  cases hsw : isIn wh 7 with
  | false =>
    refine g_tblOut h (pc := 1) (tgt := 98) dX3_count_1 (isIn_out hsw rfl) (by decide) ?_
    refine g_iconst h (pc := 98) (v := (-1)) dX3_count_98 (by decide) ?_
    exact hret _ dX3_count_99 rfl (by exact (sw_out hsw).symm)
  | true =>
    obtain ⟨j9, hj9, rfl⟩ := isIn_of (by omega) hsw
    rcases (show j9 = 0 ∨ j9 = 1 ∨ j9 = 2 ∨ j9 = 3 ∨ j9 = 4 ∨ j9 = 5 ∨ j9 = 6 by omega) with rfl | rfl | rfl | rfl | rfl | rfl | rfl
    · refine g_tblIn h (pc := 1) (tgt := 44) dX3_count_1 (by decide) (by decide) (off := 43) (by decide) (by decide) ?_
      refine g_aload_n h (pc := 44) dX3_count_44 0 rfl ?_
      refine g_get h (pc := 45) dX3_count_45 iX3_count_3 0 rfl rfl 0 (by decide) fX3_count_10 rfl ?_
      refine g_get h (pc := 48) dX3_count_48 iX3_count_0 1 rfl rfl 8 (by decide) fX3_count_60 rfl ?_
      refine g_topi hz.nk ?_
      exact hret _ dX3_count_51 rfl (by exact (sw_in (j := 0) (Nat.le_of_ble_eq_true rfl) (Nat.le_of_ble_eq_true rfl) rfl).symm)
    · refine g_tblIn h (pc := 1) (tgt := 52) dX3_count_1 (by decide) (by decide) (off := 51) (by decide) (by decide) ?_
      refine g_aload_n h (pc := 52) dX3_count_52 0 rfl ?_
      refine g_get h (pc := 53) dX3_count_53 iX3_count_3 0 rfl rfl 1 (by decide) fX3_count_19 rfl ?_
      refine g_get h (pc := 56) dX3_count_56 iX3_count_2 10 rfl rfl 3 (by decide) fX3_count_76 rfl ?_
      refine g_topi hz.ns ?_
      exact hret _ dX3_count_59 rfl (by exact (sw_in (j := 1) (Nat.le_of_ble_eq_true rfl) (Nat.le_of_ble_eq_true rfl) rfl).symm)
    · refine g_tblIn h (pc := 1) (tgt := 60) dX3_count_1 (by decide) (by decide) (off := 59) (by decide) (by decide) ?_
      refine g_aload_n h (pc := 60) dX3_count_60 0 rfl ?_
      refine g_get h (pc := 61) dX3_count_61 iX3_count_3 0 rfl rfl 8 (by decide) fX3_count_48 rfl ?_
      exact hret _ dX3_count_64 rfl (by exact (sw_in (j := 2) (Nat.le_of_ble_eq_true rfl) (Nat.le_of_ble_eq_true rfl) rfl).symm)
    · refine g_tblIn h (pc := 1) (tgt := 65) dX3_count_1 (by decide) (by decide) (off := 64) (by decide) (by decide) ?_
      refine g_aload_n h (pc := 65) dX3_count_65 0 rfl ?_
      refine g_get h (pc := 66) dX3_count_66 iX3_count_3 0 rfl rfl 6 (by decide) fX3_count_41 rfl ?_
      refine g_get h (pc := 69) dX3_count_69 iX3_count_1 42 rfl rfl 1 (by decide) fX3_count_98 rfl ?_
      exact hret _ dX3_count_72 rfl (by exact (sw_in (j := 3) (Nat.le_of_ble_eq_true rfl) (Nat.le_of_ble_eq_true rfl) rfl).symm)
    · refine g_tblIn h (pc := 1) (tgt := 73) dX3_count_1 (by decide) (by decide) (off := 72) (by decide) (by decide) ?_
      refine g_aload_n h (pc := 73) dX3_count_73 0 rfl ?_
      refine g_get h (pc := 74) dX3_count_74 iX3_count_3 0 rfl rfl 7 (by decide) fX3_count_45 rfl ?_
      refine g_get h (pc := 77) dX3_count_77 iX3_count_1 44 rfl rfl 1 (by decide) fX3_count_98 rfl ?_
      refine g_topi (y := nI d.2.2.1.length) (by rw [List.length_map]) ?_
      exact hret _ dX3_count_80 rfl (by exact (sw_in (j := 4) (Nat.le_of_ble_eq_true rfl) (Nat.le_of_ble_eq_true rfl) rfl).symm)
    · refine g_tblIn h (pc := 1) (tgt := 81) dX3_count_1 (by decide) (by decide) (off := 80) (by decide) (by decide) ?_
      refine g_aload_n h (pc := 81) dX3_count_81 0 rfl ?_
      refine g_get h (pc := 82) dX3_count_82 iX3_count_3 0 rfl rfl 6 (by decide) fX3_count_41 rfl ?_
      refine g_iconst h (pc := 85) (v := (-1)) dX3_count_85 (by decide) ?_
      refine g_iconst h (pc := 86) (v := (-1)) dX3_count_86 (by decide) ?_
      refine g_iconst h (pc := 87) (v := 0) dX3_count_87 (by decide) ?_
      refine g_iconst h (pc := 88) (v := (-1)) dX3_count_88 (by decide) ?_
      refine g_callR h (pc := 89) (As := [.int (-1), .int (-1), .int 0, .int (-1)]) (st := []) dX3_count_89 (c_tally (gL C) (gD C) cI cO (lb (a 42) u.1) d.2.2.2.1 u.2.2.2.1 d.2.1 hRC.1 (-1) (-1) 0 (-1)) [42, 43] rfl (by decide) gX3_count_X1_tally rfl (q0 := 0) rfl rfl (show nPar yX1_tally RX1 4 = true by decide +kernel) ⟨Nat.le_of_ble_eq_true rfl, Nat.le_of_ble_eq_true rfl⟩ rfl (Nat.le_of_ble_eq_true rfl) ⟨Nat.zero_le _, Nat.zero_le _⟩ (fun r hr => ?_)
      subst hr
      exact hret _ dX3_count_92 rfl (by exact (sw_in (j := 5) (Nat.le_of_ble_eq_true rfl) (Nat.le_of_ble_eq_true rfl) rfl).symm)
    · refine g_tblIn h (pc := 1) (tgt := 93) dX3_count_1 (by decide) (by decide) (off := 92) (by decide) (by decide) ?_
      refine g_aload_n h (pc := 93) dX3_count_93 0 rfl ?_
      refine g_callR h (pc := 94) (As := []) (st := []) dX3_count_94 (c_stoods (gL C) (gD C) cI cO a u Z d hRC ns nk hz) [0, 1, 2, 3, 4, 5, 6, 7, 8, 9, 10, 11, 12, 13, 14, 15, 16, 17, 18, 19, 20, 21, 22, 23, 24, 25, 26, 27, 28, 29, 30, 31, 32, 33, 34, 35, 36, 37, 38, 39, 40, 41, 42, 43, 44, 45] rfl (by decide) gX3_count_X3_stoodOfAll rfl (q0 := 0) rfl rfl (show nPar yX3_stoodOfAll RX3 0 = true by decide +kernel) ⟨Nat.le_of_ble_eq_true rfl, Nat.le_of_ble_eq_true rfl⟩ rfl (Nat.le_of_ble_eq_true rfl) ⟨Nat.zero_le _, Nat.zero_le _⟩ (fun r hr => ?_)
      subst hr
      exact hret _ dX3_count_97 rfl (by exact (sw_in (j := 6) (Nat.le_of_ble_eq_true rfl) (Nat.le_of_ble_eq_true rfl) rfl).symm)

theorem iX3_mender_3 : ∀ w ∈ wsX30, w ∈ wsX3_mender := by decide +kernel
theorem fX3_mender_19 : Cond.fieldLink RX3 19 "SpareShelves" "tree" "LSpareShelves$Tree;" ∈ wsX3_mender := by decide +kernel
set_option maxHeartbeats 4000000 in
set_option maxRecDepth 100000 in
theorem c_mender (l : Launch) (D : va_G) (cI cO : ClassId) (a : Nat → Nat) (u : UX) (Z : Sg) (d : Dy) (hRC : RC d u) (ns nk : Nat) (hz : Zv ns nk Z) (x y : Int32) : CRc l yX3_mender wsX3_mender 2 60 D cI cO a u Z d [.int x, .int y] (menderP ns nk Z x y) := by
  unfold CRc
  refine CR.of (cc := cX3_mender) (maxL := 3) (rt := .int) (by decide) rfl (Nat.le_of_ble_eq_true rfl) ?_
  intro C hgL hgD h hret
  have hn8 := hz.n8
  have hk8 := hz.k8
  cases hp : (isIn x ns && isIn y nk) with
  | false =>
    refine g_aload_n h (pc := 0) dX3_mender_0 0 rfl ?_
    refine g_iload_n h (pc := 1) dX3_mender_1 1 rfl ?_
    refine g_iload_n h (pc := 2) dX3_mender_2 2 rfl ?_
    refine g_callR h (pc := 3) (As := [.int x, .int y]) (st := []) dX3_mender_3 (c_noplace (gL C) (gD C) cI cO a u Z d hRC ns nk hz x y) [0, 1, 2, 3, 4, 5, 6, 7, 8, 9, 10, 11, 12, 13, 14, 15, 16, 17, 18, 19, 20, 21, 22, 23, 24, 25, 26, 27, 28, 29, 30, 31, 32, 33, 34, 35, 36, 37, 38, 39, 40, 41, 42, 43, 44, 45] rfl (by decide) gX3_mender_X3_isNoPlace rfl (q0 := 0) rfl rfl (show nPar yX3_isNoPlace RX3 2 = true by decide +kernel) ⟨Nat.le_of_ble_eq_true rfl, Nat.le_of_ble_eq_true rfl⟩ rfl (Nat.le_of_ble_eq_true rfl) ⟨Nat.zero_le _, Nat.zero_le _⟩ (fun r hr => ?_)
    subst hr
    rw [hp]
    refine g_topi (y := 1) rfl ?_
    refine g_if_eq_f h (pc := 6) (tgt := 11) dX3_mender_6 (by decide) (by decide) ?_
    refine g_iconst h (pc := 9) (v := (-1)) dX3_mender_9 (by decide) ?_
    exact hret _ dX3_mender_10 rfl (by unfold menderP; rw [if_pos hp])
  | true =>
    refine g_aload_n h (pc := 0) dX3_mender_0 0 rfl ?_
    refine g_iload_n h (pc := 1) dX3_mender_1 1 rfl ?_
    refine g_iload_n h (pc := 2) dX3_mender_2 2 rfl ?_
    refine g_callR h (pc := 3) (As := [.int x, .int y]) (st := []) dX3_mender_3 (c_noplace (gL C) (gD C) cI cO a u Z d hRC ns nk hz x y) [0, 1, 2, 3, 4, 5, 6, 7, 8, 9, 10, 11, 12, 13, 14, 15, 16, 17, 18, 19, 20, 21, 22, 23, 24, 25, 26, 27, 28, 29, 30, 31, 32, 33, 34, 35, 36, 37, 38, 39, 40, 41, 42, 43, 44, 45] rfl (by decide) gX3_mender_X3_isNoPlace rfl (q0 := 0) rfl rfl (show nPar yX3_isNoPlace RX3 2 = true by decide +kernel) ⟨Nat.le_of_ble_eq_true rfl, Nat.le_of_ble_eq_true rfl⟩ rfl (Nat.le_of_ble_eq_true rfl) ⟨Nat.zero_le _, Nat.zero_le _⟩ (fun r hr => ?_)
    subst hr
    rw [hp]
    refine g_topi (y := 0) rfl ?_
    refine g_if_eq_t h (pc := 6) (tgt := 11) dX3_mender_6 (by decide) rfl ?_
    have hpp := Bool.and_eq_true_iff.mp hp
    obtain ⟨s, hs, rfl⟩ := isIn_of (by omega) hpp.1
    obtain ⟨k, hk, rfl⟩ := isIn_of (by omega) hpp.2
    have ts : tN (nI s) = s := nI_clamp (by omega)
    have tk : tN (nI k) = k := nI_clamp (by omega)
    refine g_aload_n h (pc := 11) dX3_mender_11 0 rfl ?_
    refine g_get h (pc := 12) dX3_mender_12 iX3_mender_3 0 rfl rfl 1 (by decide) fX3_mender_19 rfl ?_
    refine g_iload_n h (pc := 15) dX3_mender_15 1 rfl ?_
    refine g_iload_n h (pc := 16) dX3_mender_16 2 rfl ?_
    refine g_callR h (pc := 17) (As := [.int (nI s), .int (nI k)]) (st := []) dX3_mender_17 (c_first (gL C) (gD C) cI cO (fun i => a (10 + i)) Z ns nk hz s k hs hk) [10, 11, 12, 13, 14, 15, 16, 17, 18, 19, 20, 21] rfl (by decide) gX3_mender_X2_firstThatMends rfl (q0 := 0) rfl rfl (show nPar yX2_firstThatMends RX2 2 = true by decide +kernel) ⟨Nat.le_of_ble_eq_true rfl, Nat.le_of_ble_eq_true rfl⟩ rfl (Nat.le_of_ble_eq_true rfl) ⟨Nat.zero_le _, Nat.zero_le _⟩ (fun r hr => ?_)
    subst hr
    exact hret _ dX3_mender_20 rfl (by unfold menderP; rw [hp, if_neg (by decide), ts, tk])

theorem iX3_all_3 : ∀ w ∈ wsX30, w ∈ wsX3_all := by decide +kernel
theorem fX3_all_10 : Cond.fieldLink RX3 10 "SpareShelves" "kinds" "LSpareShelves$Kinds;" ∈ wsX3_all := by decide +kernel
theorem iX3_all_0 : ∀ w ∈ wsX00, w ∈ wsX3_all := by decide +kernel
theorem fX3_all_91 : Cond.fieldLink RX3 91 "SpareShelves$Kinds" "bought" "[I" ∈ wsX3_all := by decide +kernel
theorem fX3_all_105 : Cond.fieldLink RX3 105 "SpareShelves$Kinds" "scrapped" "[I" ∈ wsX3_all := by decide +kernel
theorem fX3_all_45 : Cond.fieldLink RX3 45 "SpareShelves" "dues" "LSpareShelves$Line;" ∈ wsX3_all := by decide +kernel
theorem fX3_all_145 : Cond.fieldLink RX3 145 "SpareShelves$Kinds" "machinesTook" "[I" ∈ wsX3_all := by decide +kernel
theorem fX3_all_148 : Cond.fieldLink RX3 148 "SpareShelves$Kinds" "mendsTook" "[I" ∈ wsX3_all := by decide +kernel
theorem fX3_all_102 : Cond.fieldLink RX3 102 "SpareShelves$Kinds" "broke" "[I" ∈ wsX3_all := by decide +kernel
set_option maxHeartbeats 4000000 in
set_option maxRecDepth 100000 in
theorem c_all (l : Launch) (D : va_G) (cI cO : ClassId) (a : Nat → Nat) (u : UX) (Z : Sg) (d : Dy) (hRC : RC d u) (ns nk : Nat) (hz : Zv ns nk Z) (hU : ∀ e ∈ d.2.2.1, (col 2 e = 0 ∨ col 2 e = 1 ∨ col 2 e = 2) ∨ col 2 e = 3) (y wh : Int32) : CRc l yX3_all wsX3_all 3 80 D cI cO a u Z d [.int y, .int wh] (allP ns nk d y wh) := by
  unfold CRc
  refine CR.of (cc := cX3_all) (maxL := 3) (rt := .int) (by decide) rfl (Nat.le_of_ble_eq_true rfl) ?_
  intro C hgL hgD h hret
  have hn8 := hz.n8
  have hk8 := hz.k8
  refine g_aload_n h (pc := 0) dX3_all_0 0 rfl ?_
  refine g_get h (pc := 1) dX3_all_1 iX3_all_3 0 rfl rfl 0 (by decide) fX3_all_10 rfl ?_
  refine g_iload_n h (pc := 4) dX3_all_4 1 rfl ?_
  refine g_callR h (pc := 5) (As := [.int y]) (st := []) dX3_all_5 (c_khas (gL C) (gD C) cI cO (fun i => a (1 + i)) Z d.1 nk hz.k8 hz.nk y) [1, 2, 3, 4, 5, 6, 7, 8, 9] rfl (by decide) gX3_all_X0_has rfl (q0 := 0) rfl rfl (show nPar yX0_has RX0 1 = true by decide +kernel) ⟨Nat.le_of_ble_eq_true rfl, Nat.le_of_ble_eq_true rfl⟩ rfl (Nat.le_of_ble_eq_true rfl) ⟨Nat.zero_le _, Nat.zero_le _⟩ (fun r hr => ?_)
  subst hr
  cases hp : isIn y nk with
  | false =>
    refine g_topi (y := 0) rfl ?_
    refine g_if_ne_f h (pc := 8) (tgt := 13) dX3_all_8 (by decide) rfl ?_
    refine g_iconst h (pc := 11) (v := (-1)) dX3_all_11 (by decide) ?_
    exact hret _ dX3_all_12 rfl (by unfold allP; rw [if_pos hp])
  | true =>
    refine g_topi (y := 1) rfl ?_
    refine g_if_ne_t h (pc := 8) (tgt := 13) dX3_all_8 (by decide) (by decide) ?_
    obtain ⟨k, hk, rfl⟩ := isIn_of (by omega) hp
    have tk : tN (nI k) = k := nI_clamp (by omega)
    refine g_iload_n h (pc := 13) dX3_all_13 2 rfl ?_
    have e0 : ∀ q, allP ns nk d (nI k) q = sw q [d.1 9 0 k, d.1 10 0 k, sumI (fun s => d.1 7 s k) ns, nI (d.2.2.1.countP (duc (-1) (nI k) 0)) + nI (d.2.2.1.countP (duc (-1) (nI k) 3)), nI (d.2.2.1.countP (duc (-1) (nI k) 1)) + nI (d.2.1.countP (fitB (-1) (-1) 2 (nI k))), nI (d.2.2.1.countP (duc (-1) (nI k) 2)), d.1 11 0 k, d.1 12 0 k, d.1 13 0 k] := by
      intro q
      unfold allP
      rw [hp, if_neg (by decide), tk]
    cases hsw : isIn wh 9 with
    | false =>
      refine g_tblOut h (pc := 14) (tgt := 175) dX3_all_14 (isIn_out hsw rfl) (by decide) ?_
      refine g_iconst h (pc := 175) (v := (-1)) dX3_all_175 (by decide) ?_
      exact hret _ dX3_all_176 rfl (by rw [e0]; exact (sw_out hsw).symm)
    | true =>
      obtain ⟨j9, hj9, rfl⟩ := isIn_of (by omega) hsw
      rcases (show j9 = 0 ∨ j9 = 1 ∨ j9 = 2 ∨ j9 = 3 ∨ j9 = 4 ∨ j9 = 5 ∨ j9 = 6 ∨ j9 = 7 ∨ j9 = 8 by omega) with rfl | rfl | rfl | rfl | rfl | rfl | rfl | rfl | rfl
      · refine g_tblIn h (pc := 14) (tgt := 64) dX3_all_14 (by decide) (by decide) (off := 50) (by decide) (by decide) ?_
        refine g_aload_n h (pc := 64) dX3_all_64 0 rfl ?_
        refine g_get h (pc := 65) dX3_all_65 iX3_all_3 0 rfl rfl 0 (by decide) fX3_all_10 rfl ?_
        refine g_get h (pc := 68) dX3_all_68 iX3_all_0 1 rfl rfl 3 (by decide) fX3_all_91 rfl ?_
        refine g_iload_n h (pc := 71) dX3_all_71 1 rfl ?_
        refine g_iald h (pc := 72) (v := d.1 9 0 k) dX3_all_72 5 rfl (vp_in_nI (by omega) (by omega)) (by rw [nI_clamp (by omega)]) ?_
        exact hret _ dX3_all_73 rfl (by rw [e0]; exact (sw_in (j := 0) (Nat.le_of_ble_eq_true rfl) (Nat.le_of_ble_eq_true rfl) rfl).symm)
      · refine g_tblIn h (pc := 14) (tgt := 74) dX3_all_14 (by decide) (by decide) (off := 60) (by decide) (by decide) ?_
        refine g_aload_n h (pc := 74) dX3_all_74 0 rfl ?_
        refine g_get h (pc := 75) dX3_all_75 iX3_all_3 0 rfl rfl 0 (by decide) fX3_all_10 rfl ?_
        refine g_get h (pc := 78) dX3_all_78 iX3_all_0 1 rfl rfl 4 (by decide) fX3_all_105 rfl ?_
        refine g_iload_n h (pc := 81) dX3_all_81 1 rfl ?_
        refine g_iald h (pc := 82) (v := d.1 10 0 k) dX3_all_82 6 rfl (vp_in_nI (by omega) (by omega)) (by rw [nI_clamp (by omega)]) ?_
        exact hret _ dX3_all_83 rfl (by rw [e0]; exact (sw_in (j := 1) (Nat.le_of_ble_eq_true rfl) (Nat.le_of_ble_eq_true rfl) rfl).symm)
      · refine g_tblIn h (pc := 14) (tgt := 84) dX3_all_14 (by decide) (by decide) (off := 70) (by decide) (by decide) ?_
        refine g_aload_n h (pc := 84) dX3_all_84 0 rfl ?_
        refine g_iload_n h (pc := 85) dX3_all_85 1 rfl ?_
        refine g_callR h (pc := 86) (As := [.int (nI k)]) (st := []) dX3_all_86 (c_goods (gL C) (gD C) cI cO a u Z d hRC ns nk hz k hk) [0, 1, 2, 3, 4, 5, 6, 7, 8, 9, 10, 11, 12, 13, 14, 15, 16, 17, 18, 19, 20, 21, 22, 23, 24, 25, 26, 27, 28, 29, 30, 31, 32, 33, 34, 35, 36, 37, 38, 39, 40, 41, 42, 43, 44, 45] rfl (by decide) gX3_all_X3_goodOnShelves rfl (q0 := 0) rfl rfl (show nPar yX3_goodOnShelves RX3 1 = true by decide +kernel) ⟨Nat.le_of_ble_eq_true rfl, Nat.le_of_ble_eq_true rfl⟩ rfl (Nat.le_of_ble_eq_true rfl) ⟨Nat.zero_le _, Nat.zero_le _⟩ (fun r hr => ?_)
        subst hr
        exact hret _ dX3_all_89 rfl (by rw [e0]; exact (sw_in (j := 2) (Nat.le_of_ble_eq_true rfl) (Nat.le_of_ble_eq_true rfl) rfl).symm)
      · refine g_tblIn h (pc := 14) (tgt := 90) dX3_all_14 (by decide) (by decide) (off := 76) (by decide) (by decide) ?_
        refine g_aload_n h (pc := 90) dX3_all_90 0 rfl ?_
        refine g_get h (pc := 91) dX3_all_91 iX3_all_3 0 rfl rfl 7 (by decide) fX3_all_45 rfl ?_
        refine g_iconst h (pc := 94) (v := (-1)) dX3_all_94 (by decide) ?_
        refine g_iload_n h (pc := 95) dX3_all_95 1 rfl ?_
        refine g_iconst h (pc := 96) (v := 0) dX3_all_96 (by decide) ?_
        refine g_iconst h (pc := 97) (v := (-1)) dX3_all_97 (by decide) ?_
        refine g_callR h (pc := 98) (As := [.int (-1), .int (nI k), .int 0, .int (-1)]) (st := []) dX3_all_98 (c_tally (gL C) (gD C) cI cO (lb (a 44) u.2.1) d.2.2.2.2 u.2.2.2.2 (d.2.2.1.map ce) hRC.2.1 (-1) (nI k) 0 (-1)) [44, 45] rfl (by decide) gX3_all_X1_tally rfl (q0 := 0) rfl rfl (show nPar yX1_tally RX1 4 = true by decide +kernel) ⟨Nat.le_of_ble_eq_true rfl, Nat.le_of_ble_eq_true rfl⟩ rfl (Nat.le_of_ble_eq_true rfl) ⟨Nat.zero_le _, Nat.zero_le _⟩ (fun r hr => ?_)
        subst hr
        refine g_aload_n h (pc := 101) dX3_all_101 0 rfl ?_
        refine g_get h (pc := 102) dX3_all_102 iX3_all_3 0 rfl rfl 7 (by decide) fX3_all_45 rfl ?_
        refine g_iconst h (pc := 105) (v := (-1)) dX3_all_105 (by decide) ?_
        refine g_iload_n h (pc := 106) dX3_all_106 1 rfl ?_
        refine g_iconst h (pc := 107) (v := 1) dX3_all_107 (by decide) ?_
        refine g_iconst h (pc := 108) (v := (-1)) dX3_all_108 (by decide) ?_
        refine g_callR h (pc := 109) (As := [.int (-1), .int (nI k), .int 1, .int (-1)]) (st := [.int (nI ((d.2.2.1.map ce).countP (fitB (-1) (nI k) 0 (-1))))]) dX3_all_109 (c_tally (gL C) (gD C) cI cO (lb (a 44) u.2.1) d.2.2.2.2 u.2.2.2.2 (d.2.2.1.map ce) hRC.2.1 (-1) (nI k) 1 (-1)) [44, 45] rfl (by decide) gX3_all_X1_tally rfl (q0 := 0) rfl rfl (show nPar yX1_tally RX1 4 = true by decide +kernel) ⟨Nat.le_of_ble_eq_true rfl, Nat.le_of_ble_eq_true rfl⟩ rfl (Nat.le_of_ble_eq_true rfl) ⟨Nat.zero_le _, Nat.zero_le _⟩ (fun r hr => ?_)
        subst hr
        refine g_iadd h (pc := 112) dX3_all_112  ?_
        have t1 := tallyU (s := -1) (k := nI k) (so := 0) (by decide) hU
        have t2 := tallyU (s := -1) (k := nI k) (so := 3) (by decide) hU
        rw [show cso 0 = 0 by decide] at t1
        rw [show cso 3 = 1 by decide] at t2
        exact hret _ dX3_all_113 rfl (by rw [e0, t1, t2]; exact (sw_in (j := 3) (Nat.le_of_ble_eq_true rfl) (Nat.le_of_ble_eq_true rfl) rfl).symm)
      · refine g_tblIn h (pc := 14) (tgt := 114) dX3_all_14 (by decide) (by decide) (off := 100) (by decide) (by decide) ?_
        refine g_aload_n h (pc := 114) dX3_all_114 0 rfl ?_
        refine g_get h (pc := 115) dX3_all_115 iX3_all_3 0 rfl rfl 7 (by decide) fX3_all_45 rfl ?_
        refine g_iconst h (pc := 118) (v := (-1)) dX3_all_118 (by decide) ?_
        refine g_iload_n h (pc := 119) dX3_all_119 1 rfl ?_
        refine g_iconst h (pc := 120) (v := 2) dX3_all_120 (by decide) ?_
        refine g_iconst h (pc := 121) (v := (-1)) dX3_all_121 (by decide) ?_
        refine g_callR h (pc := 122) (As := [.int (-1), .int (nI k), .int 2, .int (-1)]) (st := []) dX3_all_122 (c_tally (gL C) (gD C) cI cO (lb (a 44) u.2.1) d.2.2.2.2 u.2.2.2.2 (d.2.2.1.map ce) hRC.2.1 (-1) (nI k) 2 (-1)) [44, 45] rfl (by decide) gX3_all_X1_tally rfl (q0 := 0) rfl rfl (show nPar yX1_tally RX1 4 = true by decide +kernel) ⟨Nat.le_of_ble_eq_true rfl, Nat.le_of_ble_eq_true rfl⟩ rfl (Nat.le_of_ble_eq_true rfl) ⟨Nat.zero_le _, Nat.zero_le _⟩ (fun r hr => ?_)
        subst hr
        refine g_aload_n h (pc := 125) dX3_all_125 0 rfl ?_
        refine g_iconst h (pc := 126) (v := (-1)) dX3_all_126 (by decide) ?_
        refine g_iload_n h (pc := 127) dX3_all_127 1 rfl ?_
        refine g_callR h (pc := 128) (As := [.int (-1), .int (nI k)]) (st := [.int (nI ((d.2.2.1.map ce).countP (fitB (-1) (nI k) 2 (-1))))]) dX3_all_128 (c_mwait (gL C) (gD C) cI cO a u Z d hRC ns nk hz (-1) (nI k)) [0, 1, 2, 3, 4, 5, 6, 7, 8, 9, 10, 11, 12, 13, 14, 15, 16, 17, 18, 19, 20, 21, 22, 23, 24, 25, 26, 27, 28, 29, 30, 31, 32, 33, 34, 35, 36, 37, 38, 39, 40, 41, 42, 43, 44, 45] rfl (by decide) gX3_all_X3_mendsThatWait rfl (q0 := 0) rfl rfl (show nPar yX3_mendsThatWait RX3 2 = true by decide +kernel) ⟨Nat.le_of_ble_eq_true rfl, Nat.le_of_ble_eq_true rfl⟩ rfl (Nat.le_of_ble_eq_true rfl) ⟨Nat.zero_le _, Nat.zero_le _⟩ (fun r hr => ?_)
        subst hr
        refine g_iadd h (pc := 131) dX3_all_131  ?_
        have t1 := tallyU (s := -1) (k := nI k) (so := 1) (by decide) hU
        rw [show cso 1 = 2 by decide] at t1
        exact hret _ dX3_all_132 rfl (by rw [e0, t1]; exact (sw_in (j := 4) (Nat.le_of_ble_eq_true rfl) (Nat.le_of_ble_eq_true rfl) rfl).symm)
      · refine g_tblIn h (pc := 14) (tgt := 133) dX3_all_14 (by decide) (by decide) (off := 119) (by decide) (by decide) ?_
        refine g_aload_n h (pc := 133) dX3_all_133 0 rfl ?_
        refine g_get h (pc := 134) dX3_all_134 iX3_all_3 0 rfl rfl 7 (by decide) fX3_all_45 rfl ?_
        refine g_iconst h (pc := 137) (v := (-1)) dX3_all_137 (by decide) ?_
        refine g_iload_n h (pc := 138) dX3_all_138 1 rfl ?_
        refine g_iconst h (pc := 139) (v := 3) dX3_all_139 (by decide) ?_
        refine g_iconst h (pc := 140) (v := (-1)) dX3_all_140 (by decide) ?_
        refine g_callR h (pc := 141) (As := [.int (-1), .int (nI k), .int 3, .int (-1)]) (st := []) dX3_all_141 (c_tally (gL C) (gD C) cI cO (lb (a 44) u.2.1) d.2.2.2.2 u.2.2.2.2 (d.2.2.1.map ce) hRC.2.1 (-1) (nI k) 3 (-1)) [44, 45] rfl (by decide) gX3_all_X1_tally rfl (q0 := 0) rfl rfl (show nPar yX1_tally RX1 4 = true by decide +kernel) ⟨Nat.le_of_ble_eq_true rfl, Nat.le_of_ble_eq_true rfl⟩ rfl (Nat.le_of_ble_eq_true rfl) ⟨Nat.zero_le _, Nat.zero_le _⟩ (fun r hr => ?_)
        subst hr
        have t1 := tallyU (s := -1) (k := nI k) (so := 2) (by decide) hU
        rw [show cso 2 = 3 by decide] at t1
        exact hret _ dX3_all_144 rfl (by rw [e0, t1]; exact (sw_in (j := 5) (Nat.le_of_ble_eq_true rfl) (Nat.le_of_ble_eq_true rfl) rfl).symm)
      · refine g_tblIn h (pc := 14) (tgt := 145) dX3_all_14 (by decide) (by decide) (off := 131) (by decide) (by decide) ?_
        refine g_aload_n h (pc := 145) dX3_all_145 0 rfl ?_
        refine g_get h (pc := 146) dX3_all_146 iX3_all_3 0 rfl rfl 0 (by decide) fX3_all_10 rfl ?_
        refine g_get h (pc := 149) dX3_all_149 iX3_all_0 1 rfl rfl 5 (by decide) fX3_all_145 rfl ?_
        refine g_iload_n h (pc := 152) dX3_all_152 1 rfl ?_
        refine g_iald h (pc := 153) (v := d.1 11 0 k) dX3_all_153 7 rfl (vp_in_nI (by omega) (by omega)) (by rw [nI_clamp (by omega)]) ?_
        exact hret _ dX3_all_154 rfl (by rw [e0]; exact (sw_in (j := 6) (Nat.le_of_ble_eq_true rfl) (Nat.le_of_ble_eq_true rfl) rfl).symm)
      · refine g_tblIn h (pc := 14) (tgt := 155) dX3_all_14 (by decide) (by decide) (off := 141) (by decide) (by decide) ?_
        refine g_aload_n h (pc := 155) dX3_all_155 0 rfl ?_
        refine g_get h (pc := 156) dX3_all_156 iX3_all_3 0 rfl rfl 0 (by decide) fX3_all_10 rfl ?_
        refine g_get h (pc := 159) dX3_all_159 iX3_all_0 1 rfl rfl 6 (by decide) fX3_all_148 rfl ?_
        refine g_iload_n h (pc := 162) dX3_all_162 1 rfl ?_
        refine g_iald h (pc := 163) (v := d.1 12 0 k) dX3_all_163 8 rfl (vp_in_nI (by omega) (by omega)) (by rw [nI_clamp (by omega)]) ?_
        exact hret _ dX3_all_164 rfl (by rw [e0]; exact (sw_in (j := 7) (Nat.le_of_ble_eq_true rfl) (Nat.le_of_ble_eq_true rfl) rfl).symm)
      · refine g_tblIn h (pc := 14) (tgt := 165) dX3_all_14 (by decide) (by decide) (off := 151) (by decide) (by decide) ?_
        refine g_aload_n h (pc := 165) dX3_all_165 0 rfl ?_
        refine g_get h (pc := 166) dX3_all_166 iX3_all_3 0 rfl rfl 0 (by decide) fX3_all_10 rfl ?_
        refine g_get h (pc := 169) dX3_all_169 iX3_all_0 1 rfl rfl 7 (by decide) fX3_all_102 rfl ?_
        refine g_iload_n h (pc := 172) dX3_all_172 1 rfl ?_
        refine g_iald h (pc := 173) (v := d.1 13 0 k) dX3_all_173 9 rfl (vp_in_nI (by omega) (by omega)) (by rw [nI_clamp (by omega)]) ?_
        exact hret _ dX3_all_174 rfl (by rw [e0]; exact (sw_in (j := 8) (Nat.le_of_ble_eq_true rfl) (Nat.le_of_ble_eq_true rfl) rfl).symm)

theorem iX3_field_3 : ∀ w ∈ wsX30, w ∈ wsX3_field := by decide +kernel
theorem fX3_field_19 : Cond.fieldLink RX3 19 "SpareShelves" "tree" "LSpareShelves$Tree;" ∈ wsX3_field := by decide +kernel
theorem iX3_field_2 : ∀ w ∈ wsX20, w ∈ wsX3_field := by decide +kernel
theorem fX3_field_77 : Cond.fieldLink RX3 77 "SpareShelves$Tree" "up" "[I" ∈ wsX3_field := by decide +kernel
theorem fX3_field_80 : Cond.fieldLink RX3 80 "SpareShelves$Tree" "way" "[I" ∈ wsX3_field := by decide +kernel
theorem fX3_field_41 : Cond.fieldLink RX3 41 "SpareShelves" "asks" "LSpareShelves$Line;" ∈ wsX3_field := by decide +kernel
theorem fX3_field_31 : Cond.fieldLink RX3 31 "SpareShelves" "stood" "[I" ∈ wsX3_field := by decide +kernel
set_option maxHeartbeats 4000000 in
set_option maxRecDepth 100000 in
theorem c_field (l : Launch) (D : va_G) (cI cO : ClassId) (a : Nat → Nat) (u : UX) (Z : Sg) (d : Dy) (hRC : RC d u) (ns nk : Nat) (hz : Zv ns nk Z) (hlA : d.2.1.length ≤ 20000) (x wh : Int32) : CRc l yX3_field wsX3_field 2 60 D cI cO a u Z d [.int x, .int wh] (fieldP ns Z d x wh) := by
  unfold CRc
  refine CR.of (cc := cX3_field) (maxL := 3) (rt := .int) (by decide) rfl (Nat.le_of_ble_eq_true rfl) ?_
  intro C hgL hgD h hret
  have hn8 := hz.n8
  have hk8 := hz.k8
  refine g_aload_n h (pc := 0) dX3_field_0 0 rfl ?_
  refine g_get h (pc := 1) dX3_field_1 iX3_field_3 0 rfl rfl 1 (by decide) fX3_field_19 rfl ?_
  refine g_iload_n h (pc := 4) dX3_field_4 1 rfl ?_
  refine g_callR h (pc := 5) (As := [.int x]) (st := []) dX3_field_5 (c_thas (gL C) (gD C) cI cO (fun i => a (10 + i)) Z ns hz.n8 hz.ns x) [10, 11, 12, 13, 14, 15, 16, 17, 18, 19, 20, 21] rfl (by decide) gX3_field_X2_has rfl (q0 := 0) rfl rfl (show nPar yX2_has RX2 1 = true by decide +kernel) ⟨Nat.le_of_ble_eq_true rfl, Nat.le_of_ble_eq_true rfl⟩ rfl (Nat.le_of_ble_eq_true rfl) ⟨Nat.zero_le _, Nat.zero_le _⟩ (fun r hr => ?_)
  subst hr
  cases hp : isIn x ns with
  | false =>
    refine g_topi (y := 0) rfl ?_
    refine g_if_ne_f h (pc := 8) (tgt := 13) dX3_field_8 (by decide) rfl ?_
    refine g_iconst h (pc := 11) (v := (-1)) dX3_field_11 (by decide) ?_
    exact hret _ dX3_field_12 rfl (by unfold fieldP; rw [if_pos hp])
  | true =>
    refine g_topi (y := 1) rfl ?_
    refine g_if_ne_t h (pc := 8) (tgt := 13) dX3_field_8 (by decide) (by decide) ?_
    obtain ⟨s, hs, rfl⟩ := isIn_of (by omega) hp
    have ts : tN (nI s) = s := nI_clamp (by omega)
    refine g_iload_n h (pc := 13) dX3_field_13 2 rfl ?_
    have e0 : ∀ q, fieldP ns Z d (nI s) q = sw q [Z 3 0 s, Z 4 0 s, nI (d.2.1.countP (fitB (nI s) (-1) 0 (-1))), d.1 5 0 s, oc 3 (nth (fitB (nI s) (-1) 0 (-1)) d.2.1 0)] := by
      intro q
      unfold fieldP
      rw [hp, if_neg (by decide), ts]
    cases hsw : isIn wh 5 with
    | false =>
      refine g_tblOut h (pc := 14) (tgt := 107) dX3_field_14 (isIn_out hsw rfl) (by decide) ?_
      refine g_iconst h (pc := 107) (v := (-1)) dX3_field_107 (by decide) ?_
      exact hret _ dX3_field_108 rfl (by rw [e0]; exact (sw_out hsw).symm)
    | true =>
      obtain ⟨j9, hj9, rfl⟩ := isIn_of (by omega) hsw
      rcases (show j9 = 0 ∨ j9 = 1 ∨ j9 = 2 ∨ j9 = 3 ∨ j9 = 4 by omega) with rfl | rfl | rfl | rfl | rfl
      · refine g_tblIn h (pc := 14) (tgt := 48) dX3_field_14 (by decide) (by decide) (off := 34) (by decide) (by decide) ?_
        refine g_aload_n h (pc := 48) dX3_field_48 0 rfl ?_
        refine g_get h (pc := 49) dX3_field_49 iX3_field_3 0 rfl rfl 1 (by decide) fX3_field_19 rfl ?_
        refine g_get h (pc := 52) dX3_field_52 iX3_field_2 10 rfl rfl 0 (by decide) fX3_field_77 rfl ?_
        refine g_iload_n h (pc := 55) dX3_field_55 1 rfl ?_
        refine g_iald h (pc := 56) (v := Z 3 0 s) dX3_field_56 11 rfl (vp_in_nI (by omega) (by omega)) (by rw [nI_clamp (by omega)]) ?_
        exact hret _ dX3_field_57 rfl (by rw [e0]; exact (sw_in (j := 0) (Nat.le_of_ble_eq_true rfl) (Nat.le_of_ble_eq_true rfl) rfl).symm)
      · refine g_tblIn h (pc := 14) (tgt := 58) dX3_field_14 (by decide) (by decide) (off := 44) (by decide) (by decide) ?_
        refine g_aload_n h (pc := 58) dX3_field_58 0 rfl ?_
        refine g_get h (pc := 59) dX3_field_59 iX3_field_3 0 rfl rfl 1 (by decide) fX3_field_19 rfl ?_
        refine g_get h (pc := 62) dX3_field_62 iX3_field_2 10 rfl rfl 1 (by decide) fX3_field_80 rfl ?_
        refine g_iload_n h (pc := 65) dX3_field_65 1 rfl ?_
        refine g_iald h (pc := 66) (v := Z 4 0 s) dX3_field_66 12 rfl (vp_in_nI (by omega) (by omega)) (by rw [nI_clamp (by omega)]) ?_
        exact hret _ dX3_field_67 rfl (by rw [e0]; exact (sw_in (j := 1) (Nat.le_of_ble_eq_true rfl) (Nat.le_of_ble_eq_true rfl) rfl).symm)
      · refine g_tblIn h (pc := 14) (tgt := 68) dX3_field_14 (by decide) (by decide) (off := 54) (by decide) (by decide) ?_
        refine g_aload_n h (pc := 68) dX3_field_68 0 rfl ?_
        refine g_get h (pc := 69) dX3_field_69 iX3_field_3 0 rfl rfl 6 (by decide) fX3_field_41 rfl ?_
        refine g_iload_n h (pc := 72) dX3_field_72 1 rfl ?_
        refine g_iconst h (pc := 73) (v := (-1)) dX3_field_73 (by decide) ?_
        refine g_iconst h (pc := 74) (v := 0) dX3_field_74 (by decide) ?_
        refine g_iconst h (pc := 75) (v := (-1)) dX3_field_75 (by decide) ?_
        refine g_callR h (pc := 76) (As := [.int (nI s), .int (-1), .int 0, .int (-1)]) (st := []) dX3_field_76 (c_tally (gL C) (gD C) cI cO (lb (a 42) u.1) d.2.2.2.1 u.2.2.2.1 d.2.1 hRC.1 (nI s) (-1) 0 (-1)) [42, 43] rfl (by decide) gX3_field_X1_tally rfl (q0 := 0) rfl rfl (show nPar yX1_tally RX1 4 = true by decide +kernel) ⟨Nat.le_of_ble_eq_true rfl, Nat.le_of_ble_eq_true rfl⟩ rfl (Nat.le_of_ble_eq_true rfl) ⟨Nat.zero_le _, Nat.zero_le _⟩ (fun r hr => ?_)
        subst hr
        exact hret _ dX3_field_79 rfl (by rw [e0]; exact (sw_in (j := 2) (Nat.le_of_ble_eq_true rfl) (Nat.le_of_ble_eq_true rfl) rfl).symm)
      · refine g_tblIn h (pc := 14) (tgt := 80) dX3_field_14 (by decide) (by decide) (off := 66) (by decide) (by decide) ?_
        refine g_aload_n h (pc := 80) dX3_field_80 0 rfl ?_
        refine g_get h (pc := 81) dX3_field_81 iX3_field_3 0 rfl rfl 4 (by decide) fX3_field_31 rfl ?_
        refine g_iload_n h (pc := 84) dX3_field_84 1 rfl ?_
        refine g_iald h (pc := 85) (v := d.1 5 0 s) dX3_field_85 40 rfl (vp_in_nI (by omega) (by omega)) (by rw [nI_clamp (by omega)]) ?_
        exact hret _ dX3_field_86 rfl (by rw [e0]; exact (sw_in (j := 3) (Nat.le_of_ble_eq_true rfl) (Nat.le_of_ble_eq_true rfl) rfl).symm)
      · refine g_tblIn h (pc := 14) (tgt := 87) dX3_field_14 (by decide) (by decide) (off := 73) (by decide) (by decide) ?_
        refine g_aload_n h (pc := 87) dX3_field_87 0 rfl ?_
        refine g_get h (pc := 88) dX3_field_88 iX3_field_3 0 rfl rfl 6 (by decide) fX3_field_41 rfl ?_
        refine g_aload_n h (pc := 91) dX3_field_91 0 rfl ?_
        refine g_get h (pc := 92) dX3_field_92 iX3_field_3 0 rfl rfl 6 (by decide) fX3_field_41 rfl ?_
        refine g_iload_n h (pc := 95) dX3_field_95 1 rfl ?_
        refine g_iconst h (pc := 96) (v := (-1)) dX3_field_96 (by decide) ?_
        refine g_iconst h (pc := 97) (v := 0) dX3_field_97 (by decide) ?_
        refine g_iconst h (pc := 98) (v := 0) dX3_field_98 (by decide) ?_
        refine g_callR h (pc := 99) (As := [.int (nI s), .int (-1), .int 0, .int 0]) (st := [.ref (a 42)]) dX3_field_99 (c_find (gL C) (gD C) cI cO (lb (a 42) u.1) d.2.2.2.1 u.2.2.2.1 d.2.1 hRC.1 (nI s) (-1) 0 0) [42, 43] rfl (by decide) gX3_field_X1_find rfl (q0 := 0) rfl rfl (show nPar yX1_find RX1 4 = true by decide +kernel) ⟨Nat.le_of_ble_eq_true rfl, Nat.le_of_ble_eq_true rfl⟩ rfl (Nat.le_of_ble_eq_true rfl) ⟨Nat.zero_le _, Nat.zero_le _⟩ (fun r hr => ?_)
        subst hr
        rcases fnd_nth (fitB (nI s) (-1) 0 (-1)) d.2.1 0 0 with ⟨f1, f2⟩ | ⟨i2, e, f1, f2, f3⟩
        · rw [f1]
          refine g_iconst h (pc := 102) (v := 3) dX3_field_102 (by decide) ?_
          refine g_callR h (pc := 103) (As := [.int (-1), .int 3]) (st := []) dX3_field_103 (c_readN (gL C) (gD C) cI cO (lb (a 42) u.1) d.2.2.2.1 u.2.2.2.1 (nI d.2.1.length) 3) [42, 43] rfl (by decide) gX3_field_X1_read rfl (q0 := 0) rfl rfl (show nPar yX1_read RX1 2 = true by decide +kernel) ⟨Nat.le_of_ble_eq_true rfl, Nat.le_of_ble_eq_true rfl⟩ rfl (Nat.le_of_ble_eq_true rfl) ⟨Nat.zero_le _, Nat.zero_le _⟩ (fun r hr => ?_)
          subst hr
          exact hret _ dX3_field_106 rfl (by rw [e0, f2]; exact (sw_in (j := 4) (Nat.le_of_ble_eq_true rfl) (Nat.le_of_ble_eq_true rfl) rfl).symm)
        · rw [f1, Nat.zero_add]
          refine g_iconst h (pc := 102) (v := 3) dX3_field_102 (by decide) ?_
          refine g_callR h (pc := 103) (As := [.int (nI i2), .int 3]) (st := []) dX3_field_103 (c_read (gL C) (gD C) cI cO (lb (a 42) u.1) d.2.2.2.1 u.2.2.2.1 d.2.1 hRC.1 i2 e f2 3 (by decide) _ 3 rfl rfl) [42, 43] rfl (by decide) gX3_field_X1_read rfl (q0 := 0) rfl rfl (show nPar yX1_read RX1 2 = true by decide +kernel) ⟨Nat.le_of_ble_eq_true rfl, Nat.le_of_ble_eq_true rfl⟩ rfl (Nat.le_of_ble_eq_true rfl) ⟨Nat.zero_le _, Nat.zero_le _⟩ (fun r hr => ?_)
          subst hr
          exact hret _ dX3_field_106 rfl (by rw [e0, f3]; exact (sw_in (j := 4) (Nat.le_of_ble_eq_true rfl) (Nat.le_of_ble_eq_true rfl) rfl).symm)
end
section
/-! flows in pure words -/
theorem sumI_cong {f g : Nat → Int32} : ∀ {n : Nat}, (∀ i, i < n → f i = g i) → sumI f n = sumI g n
  | 0, _ => rfl
  | n + 1, h => by rw [sumI, sumI, sumI_cong (fun i hi => h i (by omega)), h n (by omega)]
theorem sumI_front (f : Nat → Int32) : ∀ n : Nat, sumI f (n + 1) = f 0 + sumI (fun i => f (i + 1)) n
  | 0 => by
    show 0 + f 0 = f 0 + 0
    rw [Int32.zero_add, Int32.add_zero]
  | n + 1 => by
    rw [sumI, sumI_front f n, sumI, Int32.add_assoc]
theorem sumI_rev (f : Nat → Int32) : ∀ n : Nat, sumI (fun i => f (n - 1 - i)) n = sumI f n
  | 0 => rfl
  | n + 1 => by
    rw [sumI_front, sumI]
    have h1 : sumI (fun i => f (n + 1 - 1 - (i + 1))) n = sumI (fun i => f (n - 1 - i)) n := sumI_cong (fun i hi => by congr 1; omega)
    rw [h1, sumI_rev f n, Int32.add_comm]
    congr 1
/-- what the shelf y hands on to x, if its own flow is v -/
def hnd (Z : Sg) (k x y : Nat) (v : Int32) : Int32 := if Z 3 0 y = nI x ∧ Z 6 y k = 0 then v else 0
/-- the flow of k at x, out of ns shelves (n: fuel) -/
def flw (Z : Sg) (ns k : Nat) : Nat → Nat → Int32
  | 0, _ => 0
  | n + 1, x => Z 8 x k + sumI (fun i => hnd Z k x (x + 1 + i) (flw Z ns k n (x + 1 + i))) (ns - 1 - x)
theorem flw_st (Z : Sg) (ns k : Nat) : ∀ (j x n m : Nat), ns - x ≤ j → ns - x ≤ n → ns - x ≤ m → 1 ≤ n → 1 ≤ m → flw Z ns k n x = flw Z ns k m x
  | j, x, 0, m, _, _, _, h, _ => absurd h (by omega)
  | j, x, n + 1, 0, _, _, _, _, h => absurd h (by omega)
  | 0, x, n + 1, m + 1, h1, h2, h3, _, _ => by
    rw [flw, flw, show ns - 1 - x = 0 by omega]
    rfl
  | j + 1, x, n + 1, m + 1, h1, h2, h3, _, _ => by
    rw [flw, flw]
    congr 1
    apply sumI_cong
    intro i hi
    congr 1
    exact flw_st Z ns k j (x + 1 + i) n m (by omega) (by omega) (by omega) (by omega) (by omega)
def flowF (Z : Sg) (ns k x : Nat) : Int32 := flw Z ns k 8 x
theorem flowF_eq (Z : Sg) {ns k x : Nat} (hn : ns ≤ 8) : flowF Z ns k x = Z 8 x k + sumI (fun i => hnd Z k x (x + 1 + i) (flowF Z ns k (x + 1 + i))) (ns - 1 - x) := by
  unfold flowF
  rw [show flw Z ns k 8 x = Z 8 x k + sumI (fun i => hnd Z k x (x + 1 + i) (flw Z ns k 7 (x + 1 + i))) (ns - 1 - x) from rfl]
  exact congrArg (fun v => Z 8 x k + v) (sumI_cong (fun i hi => congrArg (hnd Z k x (x + 1 + i)) (flw_st Z ns k 8 (x + 1 + i) 7 8 (by omega) (by omega) (by omega) (by omega) (by omega))))
/-- the flows behind the last j shelves -/
def prt (Z : Sg) (ns k j x : Nat) : Int32 := Z 8 x k + sumI (fun i => hnd Z k x (ns - 1 - i) (flowF Z ns k (ns - 1 - i))) j
theorem prt_0 (Z : Sg) (ns k x : Nat) : prt Z ns k 0 x = Z 8 x k := by
  unfold prt
  rw [sumI, Int32.add_zero]
theorem prt_s (Z : Sg) (ns k j x : Nat) : prt Z ns k (j + 1) x = prt Z ns k j x + hnd Z k x (ns - 1 - j) (flowF Z ns k (ns - 1 - j)) := by
  unfold prt
  rw [sumI, Int32.add_assoc]
theorem prt_e (Z : Sg) {ns k x : Nat} (hn : ns ≤ 8) (hx : x < ns) : prt Z ns k (ns - 1 - x) x = flowF Z ns k x := by
  rw [flowF_eq Z hn]
  unfold prt
  congr 1
  rw [← sumI_rev (fun i => hnd Z k x (x + 1 + i) (flowF Z ns k (x + 1 + i)))]
  apply sumI_cong
  intro i hi
  show _ = hnd Z k x (x + 1 + (ns - 1 - x - 1 - i)) _
  rw [show x + 1 + (ns - 1 - x - 1 - i) = ns - 1 - i by omega]
def pipeF (Z : Sg) (ns k s : Nat) : Int32 := flowF Z ns k s * (if 0 < Z 6 s k then Z 6 s k else Z 4 0 s)
def wantF (Z : Sg) (d : Dy) (ns k s : Nat) : Int32 := if 0 < pipeF Z ns k s - 1000 * d.1 7 s k then pipeF Z ns k s - 1000 * d.1 7 s k else 0
def pipeP (ns nk : Nat) (Z : Sg) (d : Dy) (s k w : Int32) : Int32 := if (isIn s ns && isIn k nk) = false then -1 else sw w [flowF Z ns (tN k) (tN s), pipeF Z ns (tN k) (tN s), wantF Z d ns (tN k) (tN s), Z 8 (tN s) (tN k)]
/-- choosing: the best so far, none or a shelf and a kind -/
def bW (Z : Sg) (d : Dy) (ns : Nat) (b : Option (Nat × Nat)) : Int64 := match b with
  | none => 0
  | some q => (wantF Z d ns q.2 q.1).toInt64
def bP (Z : Sg) (b : Option (Nat × Nat)) : Int64 := match b with
  | none => 1
  | some q => (Z 0 0 q.2).toInt64
def chs (Z : Sg) (d : Dy) (ns : Nat) (b : Option (Nat × Nat)) (s k : Nat) : Option (Nat × Nat) := if bW Z d ns b * (Z 0 0 k).toInt64 < (wantF Z d ns k s).toInt64 * bP Z b then some (s, k) else b
def chK (Z : Sg) (d : Dy) (ns s : Nat) : Nat → Option (Nat × Nat) → Option (Nat × Nat)
  | 0, b => b
  | j + 1, b => chs Z d ns (chK Z d ns s j b) s j
def chS (Z : Sg) (d : Dy) (ns nk : Nat) : Nat → Option (Nat × Nat)
  | 0 => none
  | j + 1 => chK Z d ns j nk (chS Z d ns nk j)
def chooseP (ns nk : Nat) (Z : Sg) (d : Dy) : RZD := match chS Z d ns nk ns with
  | none => (-1, Z, d)
  | some q => if 200 ≤ d.1 9 0 q.2 then (-4, Z, d) else (nI (8 * q.1 + q.2), Z, lands Z (inc d 9 q.2) q.1 q.2)
theorem chK_in {Z : Sg} {d : Dy} {ns nk s : Nat} : ∀ (j : Nat) (b : Option (Nat × Nat)), j ≤ nk → s < ns → (∀ q, b = some q → q.1 < ns ∧ q.2 < nk) → ∀ q, chK Z d ns s j b = some q → q.1 < ns ∧ q.2 < nk
  | 0, b, _, _, hb, q, h => hb q h
  | j + 1, b, hj, hs, hb, q, h => by
    rw [chK] at h
    unfold chs at h
    split at h
    · cases h
      exact ⟨hs, by show j < nk; omega⟩
    · exact chK_in j b (by omega) hs hb q h
theorem chS_in {Z : Sg} {d : Dy} {ns nk : Nat} : ∀ (j : Nat), j ≤ ns → ∀ q, chS Z d ns nk j = some q → q.1 < ns ∧ q.2 < nk
  | 0, _, q, h => by cases h
  | j + 1, hj, q, h => chK_in nk _ (Nat.le_refl _) (by omega) (chS_in j (by omega)) q h
end
section
theorem iX3_flowOf_3 : ∀ w ∈ wsX30, w ∈ wsX3_flowOf := by decide +kernel
theorem fX3_flowOf_35 : Cond.fieldLink RX3 35 "SpareShelves" "flows" "[I" ∈ wsX3_flowOf := by decide +kernel
theorem fX3_flowOf_19 : Cond.fieldLink RX3 19 "SpareShelves" "tree" "LSpareShelves$Tree;" ∈ wsX3_flowOf := by decide +kernel
theorem iX3_flowOf_2 : ∀ w ∈ wsX20, w ∈ wsX3_flowOf := by decide +kernel
theorem fX3_flowOf_72 : Cond.fieldLink RX3 72 "SpareShelves$Tree" "mendDays" "[[I" ∈ wsX3_flowOf := by decide +kernel
theorem fX3_flowOf_77 : Cond.fieldLink RX3 77 "SpareShelves$Tree" "up" "[I" ∈ wsX3_flowOf := by decide +kernel
theorem fX3_flowOf_76 : Cond.fieldLink RX3 76 "SpareShelves$Tree" "size" "I" ∈ wsX3_flowOf := by decide +kernel
theorem fX3_flowOf_28 : Cond.fieldLink RX3 28 "SpareShelves" "rates" "[[I" ∈ wsX3_flowOf := by decide +kernel
set_option maxHeartbeats 4000000 in
set_option maxRecDepth 100000 in
theorem c_flow (l : Launch) (D : va_G) (cI cO : ClassId) (a : Nat → Nat) (u : UX) (Z : Sg) (d : Dy) (hRC : RC d u) (ns nk : Nat) (hz : Zv ns nk Z) (s k : Nat) (hs : s < ns) (hk : k < nk) : CIc l yX3_flowOf wsX3_flowOf 0 0 D cI cO a u Z d [.int (nI s), .int (nI k)] (flowF Z ns k s) Z d := by
  unfold CIc
  refine CI.of (cc := cX3_flowOf) (maxL := 4) (rt := .int) (by decide) rfl (Nat.le_of_ble_eq_true rfl) ?_
  intro C hgL hgD hw h hret
  have hn8 := hz.n8
  have hk8 := hz.k8
  refine g_iconst h (pc := 0) (v := 0) dX3_flowOf_0 (by decide) ?_
  refine g_istore_n h (pc := 1) dX3_flowOf_1 (by decide) rfl ?_
  have l2 : ∀ (m i : Nat) (fl : Nat → Int32), s ≤ i → i < ns → i = s + m → (∀ x, x < ns → fl x = prt Z ns k (ns - 1 - i) x) → GG C 4 (cw cI cO a (u.1, u.2.1, fl, u.2.2.2.1, u.2.2.2.2) Z d) 0 0 43 [(0, .ref (a 0)), (1, .int (nI s)), (2, .int (nI k)), (3, .int (nI i))] [] := by
    intro m
    induction m with
    | zero =>
      intro i fl h1 h2 h3 hf
      refine g_iload_n h (pc := 43) dX3_flowOf_43 3 rfl ?_
      refine g_iload_n h (pc := 44) dX3_flowOf_44 1 rfl ?_
      refine g_icmp_le_t h (pc := 45) (tgt := 91) dX3_flowOf_45 (by decide) (nI_le (by omega) (by omega)) ?_
      refine g_aload_n h (pc := 91) dX3_flowOf_91 0 rfl ?_
      refine g_get h (pc := 92) dX3_flowOf_92 iX3_flowOf_3 0 rfl rfl 5 (by decide) fX3_flowOf_35 rfl ?_
      refine g_iload_n h (pc := 95) dX3_flowOf_95 1 rfl ?_
      refine g_iald h (pc := 96) (v := flowF Z ns k s) dX3_flowOf_96 41 rfl (vp_in_nI (by omega) (by omega)) (by rw [nI_clamp (by omega)]; show fl s = _; rw [hf s hs, show i = s by omega, prt_e Z hz.n8 hs]) ?_
      exact hret _ (u.1, u.2.1, fl, u.2.2.2.1, u.2.2.2.2) dX3_flowOf_97 rfl ⟨rfl, hRC⟩ rfl (Nat.zero_le _) (Nat.zero_le _)
    | succ m ih =>
      intro i fl h1 h2 h3 hf
      have hi1 : 1 ≤ i := by omega
      have hup := hz.up hi1 h2
      have hlt := hz.lt hi1 h2
      have hj : ns - 1 - (i - 1) = (ns - 1 - i) + 1 := by omega
      have hii : ns - 1 - (ns - 1 - i) = i := by omega
      have hpi : fl i = flowF Z ns k i := by rw [hf i h2, prt_e Z hz.n8 h2]
      have hd : nI i + Int32.ofInt (-1) = nI (i - 1) := by
        obtain ⟨i0, rfl⟩ : ∃ i0, i = i0 + 1 := ⟨i - 1, by omega⟩
        exact pk_m1 i0
      refine g_iload_n h (pc := 43) dX3_flowOf_43 3 rfl ?_
      refine g_iload_n h (pc := 44) dX3_flowOf_44 1 rfl ?_
      refine g_icmp_le_f h (pc := 45) (tgt := 91) dX3_flowOf_45 (by decide) (nI_ge (by omega) (by omega)) ?_
      refine g_aload_n h (pc := 48) dX3_flowOf_48 0 rfl ?_
      refine g_get h (pc := 49) dX3_flowOf_49 iX3_flowOf_3 0 rfl rfl 1 (by decide) fX3_flowOf_19 rfl ?_
      refine g_get h (pc := 52) dX3_flowOf_52 iX3_flowOf_2 10 rfl rfl 2 (by decide) fX3_flowOf_72 rfl ?_
      refine g_iload_n h (pc := 55) dX3_flowOf_55 3 rfl ?_
      refine g_aald h (pc := 56) (v := a (10 + (4 + i))) dX3_flowOf_56 13 rfl (vp_in_nI (by omega) (by omega)) (by rw [nI_clamp (by omega)]) ?_
      refine g_iload_n h (pc := 57) dX3_flowOf_57 2 rfl ?_
      refine g_iald h (pc := 58) (v := Z 6 i k) dX3_flowOf_58 (10 + (4 + i)) (cw_m cI cO a (u.1, u.2.1, fl, u.2.2.2.1, u.2.2.2.2) Z d (by omega)) (vp_in_nI (by omega) (by omega)) (by rw [nI_clamp (by omega)]) ?_
      refine g_if_ne h (pc := 59) (tgt := 85) dX3_flowOf_59 (by decide) (fun c2 => ?_) (fun c2 => ?_)
      · refine g_iinc h (pc := 85) dX3_flowOf_85 3 rfl hd (by decide) rfl ?_
        refine g_goto h (pc := 88) (tgt := 43) dX3_flowOf_88 (by decide) ?_
        exact ih (i - 1) fl (by omega) (by omega) (by omega) (fun y hy => by rw [hf y hy, hj, prt_s, hii]; unfold hnd; rw [if_neg (fun q => c2 q.2), Int32.add_zero])
      · refine g_aload_n h (pc := 62) dX3_flowOf_62 0 rfl ?_
        refine g_get h (pc := 63) dX3_flowOf_63 iX3_flowOf_3 0 rfl rfl 5 (by decide) fX3_flowOf_35 rfl ?_
        refine g_aload_n h (pc := 66) dX3_flowOf_66 0 rfl ?_
        refine g_get h (pc := 67) dX3_flowOf_67 iX3_flowOf_3 0 rfl rfl 1 (by decide) fX3_flowOf_19 rfl ?_
        refine g_get h (pc := 70) dX3_flowOf_70 iX3_flowOf_2 10 rfl rfl 0 (by decide) fX3_flowOf_77 rfl ?_
        refine g_iload_n h (pc := 73) dX3_flowOf_73 3 rfl ?_
        refine g_iald h (pc := 74) (v := nI (upx Z i)) dX3_flowOf_74 11 rfl (vp_in_nI (by omega) (by omega)) (by rw [nI_clamp (by omega)]; exact hup) ?_
        refine g_dup2 h (pc := 75) dX3_flowOf_75 rfl rfl ?_
        refine g_iald h (pc := 76) (v := fl (upx Z i)) dX3_flowOf_76 41 rfl (vp_in_nI (by omega) (by omega)) (by rw [nI_clamp (by omega)]) ?_
        refine g_aload_n h (pc := 77) dX3_flowOf_77 0 rfl ?_
        refine g_get h (pc := 78) dX3_flowOf_78 iX3_flowOf_3 0 rfl rfl 5 (by decide) fX3_flowOf_35 rfl ?_
        refine g_iload_n h (pc := 81) dX3_flowOf_81 3 rfl ?_
        refine g_iald h (pc := 82) (v := fl i) dX3_flowOf_82 41 rfl (vp_in_nI (by omega) (by omega)) (by rw [nI_clamp (by omega)]) ?_
        refine g_iadd h (pc := 83) dX3_flowOf_83  ?_
        refine g_iast h hw (pc := 84) (ws' := cw cI cO a (u.1, u.2.1, upd fl (upx Z i) (fl (upx Z i) + fl i), u.2.2.2.1, u.2.2.2.2) Z d) dX3_flowOf_84 41 rfl (vp_in_nI (by omega) (by omega)) (by rw [nI_clamp (by omega)]; rfl) ?_
        refine g_iinc h (pc := 85) dX3_flowOf_85 3 rfl hd (by decide) rfl ?_
        refine g_goto h (pc := 88) (tgt := 43) dX3_flowOf_88 (by decide) ?_
        refine ih (i - 1) _ (by omega) (by omega) (by omega) (fun y hy => ?_)
        rw [hj, prt_s, hii]
        unfold hnd
        by_cases hy2 : y = upx Z i
        · subst hy2
          rw [pk_us, hf _ hy, hpi, if_pos ⟨hup, c2⟩]
        · rw [pk_un hy2, hf y hy, if_neg (fun q => hy2 ((nI_eq (by omega) (by omega)).mp (q.1.symm.trans hup))), Int32.add_zero]
  suffices loop : ∀ (m i : Nat) (fl : Nat → Int32), i + m = ns → (∀ x, x < i → fl x = Z 8 x k) → GG C 4 (cw cI cO a (u.1, u.2.1, fl, u.2.2.2.1, u.2.2.2.2) Z d) 0 0 2 [(0, .ref (a 0)), (1, .int (nI s)), (2, .int (nI k)), (3, .int (nI i))] [] from loop ns 0 u.2.2.1 (by omega) (fun x hx => absurd hx (by omega))
  intro m
  induction m with
  | zero =>
    intro i fl h1 hf
    refine g_iload_n h (pc := 2) dX3_flowOf_2 3 rfl ?_
    refine g_aload_n h (pc := 3) dX3_flowOf_3 0 rfl ?_
    refine g_get h (pc := 4) dX3_flowOf_4 iX3_flowOf_3 0 rfl rfl 1 (by decide) fX3_flowOf_19 rfl ?_
    refine g_get h (pc := 7) dX3_flowOf_7 iX3_flowOf_2 10 rfl rfl 3 (by decide) fX3_flowOf_76 rfl ?_
    refine g_topi hz.ns ?_
    refine g_icmp_ge_t h (pc := 10) (tgt := 33) dX3_flowOf_10 (by decide) (nI_le (by omega) (by omega)) ?_
    refine g_aload_n h (pc := 33) dX3_flowOf_33 0 rfl ?_
    refine g_get h (pc := 34) dX3_flowOf_34 iX3_flowOf_3 0 rfl rfl 1 (by decide) fX3_flowOf_19 rfl ?_
    refine g_get h (pc := 37) dX3_flowOf_37 iX3_flowOf_2 10 rfl rfl 3 (by decide) fX3_flowOf_76 rfl ?_
    refine g_topi hz.ns ?_
    refine g_iconst h (pc := 40) (v := 1) dX3_flowOf_40 (by decide) ?_
    refine g_isub h (pc := 41) dX3_flowOf_41  ?_
    refine g_topi (y := nI (ns - 1)) (by rw [show (1 : Int32) = nI 1 from rfl, pk_sub (by omega)]) ?_
    refine g_istore_n h (pc := 42) dX3_flowOf_42 (by decide) rfl ?_
    exact l2 (ns - 1 - s) (ns - 1) fl (by omega) (by omega) (by omega) (fun y hy => by rw [hf y (by omega), show ns - 1 - (ns - 1) = 0 by omega, prt_0])
  | succ m ih =>
    intro i fl h1 hf
    refine g_iload_n h (pc := 2) dX3_flowOf_2 3 rfl ?_
    refine g_aload_n h (pc := 3) dX3_flowOf_3 0 rfl ?_
    refine g_get h (pc := 4) dX3_flowOf_4 iX3_flowOf_3 0 rfl rfl 1 (by decide) fX3_flowOf_19 rfl ?_
    refine g_get h (pc := 7) dX3_flowOf_7 iX3_flowOf_2 10 rfl rfl 3 (by decide) fX3_flowOf_76 rfl ?_
    refine g_topi hz.ns ?_
    refine g_icmp_ge_f h (pc := 10) (tgt := 33) dX3_flowOf_10 (by decide) (nI_ge (by omega) (by omega)) ?_
    refine g_aload_n h (pc := 13) dX3_flowOf_13 0 rfl ?_
    refine g_get h (pc := 14) dX3_flowOf_14 iX3_flowOf_3 0 rfl rfl 5 (by decide) fX3_flowOf_35 rfl ?_
    refine g_iload_n h (pc := 17) dX3_flowOf_17 3 rfl ?_
    refine g_aload_n h (pc := 18) dX3_flowOf_18 0 rfl ?_
    refine g_get h (pc := 19) dX3_flowOf_19 iX3_flowOf_3 0 rfl rfl 3 (by decide) fX3_flowOf_28 rfl ?_
    refine g_iload_n h (pc := 22) dX3_flowOf_22 3 rfl ?_
    refine g_aald h (pc := 23) (v := a (32 + i)) dX3_flowOf_23 31 rfl (vp_in_nI (by omega) (by omega)) (by rw [nI_clamp (by omega)]) ?_
    refine g_iload_n h (pc := 24) dX3_flowOf_24 2 rfl ?_
    refine g_iald h (pc := 25) (v := Z 8 i k) dX3_flowOf_25 (32 + i) (cw_r cI cO a (u.1, u.2.1, fl, u.2.2.2.1, u.2.2.2.2) Z d (by omega)) (vp_in_nI (by omega) (by omega)) (by rw [nI_clamp (by omega)]) ?_
    refine g_iast h hw (pc := 26) (ws' := cw cI cO a (u.1, u.2.1, upd fl i (Z 8 i k), u.2.2.2.1, u.2.2.2.2) Z d) dX3_flowOf_26 41 rfl (vp_in_nI (by omega) (by omega)) (by rw [nI_clamp (by omega)]; rfl) ?_
    refine g_iinc h (pc := 27) dX3_flowOf_27 3 rfl (nI_1 i) (by decide) rfl ?_
    refine g_goto h (pc := 30) (tgt := 2) dX3_flowOf_30 (by decide) ?_
    refine ih (i + 1) _ (by omega) (fun y hy => ?_)
    by_cases hy2 : y = i
    · subst hy2
      exact pk_us
    · rw [pk_un hy2, hf y (by omega)]

theorem iX3_pipeOf_3 : ∀ w ∈ wsX30, w ∈ wsX3_pipeOf := by decide +kernel
theorem fX3_pipeOf_19 : Cond.fieldLink RX3 19 "SpareShelves" "tree" "LSpareShelves$Tree;" ∈ wsX3_pipeOf := by decide +kernel
theorem iX3_pipeOf_2 : ∀ w ∈ wsX20, w ∈ wsX3_pipeOf := by decide +kernel
theorem fX3_pipeOf_72 : Cond.fieldLink RX3 72 "SpareShelves$Tree" "mendDays" "[[I" ∈ wsX3_pipeOf := by decide +kernel
theorem fX3_pipeOf_80 : Cond.fieldLink RX3 80 "SpareShelves$Tree" "way" "[I" ∈ wsX3_pipeOf := by decide +kernel
set_option maxHeartbeats 4000000 in
set_option maxRecDepth 100000 in
theorem c_pipeOf (l : Launch) (D : va_G) (cI cO : ClassId) (a : Nat → Nat) (u : UX) (Z : Sg) (d : Dy) (hRC : RC d u) (ns nk : Nat) (hz : Zv ns nk Z) (s k : Nat) (hs : s < ns) (hk : k < nk) : CIc l yX3_pipeOf wsX3_pipeOf 1 30 D cI cO a u Z d [.int (nI s), .int (nI k)] (pipeF Z ns k s) Z d := by
  unfold CIc
  refine CI.of (cc := cX3_pipeOf) (maxL := 4) (rt := .int) (by decide) rfl (Nat.le_of_ble_eq_true rfl) ?_
  intro C hgL hgD hw h hret
  have hn8 := hz.n8
  have hk8 := hz.k8
  refine g_aload_n h (pc := 0) dX3_pipeOf_0 0 rfl ?_
  refine g_get h (pc := 1) dX3_pipeOf_1 iX3_pipeOf_3 0 rfl rfl 1 (by decide) fX3_pipeOf_19 rfl ?_
  refine g_get h (pc := 4) dX3_pipeOf_4 iX3_pipeOf_2 10 rfl rfl 2 (by decide) fX3_pipeOf_72 rfl ?_
  refine g_iload_n h (pc := 7) dX3_pipeOf_7 1 rfl ?_
  refine g_aald h (pc := 8) (v := a (10 + (4 + s))) dX3_pipeOf_8 13 rfl (vp_in_nI (by omega) (by omega)) (by rw [nI_clamp (by omega)]) ?_
  refine g_iload_n h (pc := 9) dX3_pipeOf_9 2 rfl ?_
  refine g_iald h (pc := 10) (v := Z 6 s k) dX3_pipeOf_10 (10 + (4 + s)) (cw_m cI cO a u Z d (by omega)) (vp_in_nI (by omega) (by omega)) (by rw [nI_clamp (by omega)]) ?_
  refine g_istore_n h (pc := 11) dX3_pipeOf_11 (by decide) rfl ?_
  refine g_aload_n h (pc := 12) dX3_pipeOf_12 0 rfl ?_
  refine g_iload_n h (pc := 13) dX3_pipeOf_13 1 rfl ?_
  refine g_iload_n h (pc := 14) dX3_pipeOf_14 2 rfl ?_
  refine g_callI h (pc := 15) (As := [.int (nI s), .int (nI k)]) (st := []) dX3_pipeOf_15 (c_flow (gL C) (gD C) cI cO a u Z d hRC ns nk hz s k hs hk) hw gX3_pipeOf_X3_flowOf rfl (q0 := 0) rfl rfl (show nPar yX3_flowOf RX3 2 = true by decide +kernel) ⟨Nat.le_of_ble_eq_true rfl, Nat.le_of_ble_eq_true rfl⟩ rfl (Nat.le_of_ble_eq_true rfl) ⟨by show 0 + (cp d - cp d) ≤ cp d - cp d; omega, by show 0 + 2 * (cp d - cp d) ≤ 2 * (cp d - cp d); omega⟩ (fun r u2 hR2 => ?_)
  obtain ⟨rfl, hR2⟩ := hR2
  refine g_iload_n h (pc := 18) dX3_pipeOf_18 3 rfl ?_
  refine g_wid (k' := cp d - cp d) (n' := 2 * (cp d - cp d)) (by omega) (by omega) ?_
  refine g_if_le h (pc := 19) (tgt := 26) dX3_pipeOf_19 (by decide) (fun c1 => ?_) (fun c1 => ?_)
  · refine g_aload_n h (pc := 26) dX3_pipeOf_26 0 rfl ?_
    refine g_get h (pc := 27) dX3_pipeOf_27 iX3_pipeOf_3 0 rfl rfl 1 (by decide) fX3_pipeOf_19 rfl ?_
    refine g_get h (pc := 30) dX3_pipeOf_30 iX3_pipeOf_2 10 rfl rfl 1 (by decide) fX3_pipeOf_80 rfl ?_
    refine g_iload_n h (pc := 33) dX3_pipeOf_33 1 rfl ?_
    refine g_iald h (pc := 34) (v := Z 4 0 s) dX3_pipeOf_34 12 rfl (vp_in_nI (by omega) (by omega)) (by rw [nI_clamp (by omega)]) ?_
    refine g_imul h (pc := 35) dX3_pipeOf_35  ?_
    exact hret _ u2 dX3_pipeOf_36 rfl ⟨by unfold pipeF; rw [if_neg (Int32.not_lt.mpr c1)], hR2⟩ rfl (Nat.le_refl _) (Nat.le_refl _)
  · refine g_iload_n h (pc := 22) dX3_pipeOf_22 3 rfl ?_
    refine g_goto h (pc := 23) (tgt := 35) dX3_pipeOf_23 (by decide) ?_
    refine g_imul h (pc := 35) dX3_pipeOf_35  ?_
    exact hret _ u2 dX3_pipeOf_36 rfl ⟨by unfold pipeF; rw [if_pos (Int32.not_le.mp c1)], hR2⟩ rfl (Nat.le_refl _) (Nat.le_refl _)

theorem iX3_wantOf_3 : ∀ w ∈ wsX30, w ∈ wsX3_wantOf := by decide +kernel
theorem fX3_wantOf_25 : Cond.fieldLink RX3 25 "SpareShelves" "good" "[[I" ∈ wsX3_wantOf := by decide +kernel
theorem mX3_wantOf_1 : Cond.methodLink RX3 184 Lib.Math.max.name ∈ wsX3_wantOf := by decide +kernel
theorem mX3_wantOf_2 : Cond.static Lib.Math.max.name ∈ wsX3_wantOf := by decide +kernel
theorem mX3_wantOf_3 : Cond.initialized "java/lang/Math" ∈ wsX3_wantOf := by decide +kernel
theorem mX3_wantOf_4 : Cond.code Lib.Math.max.name Lib.Math.max.code 2 (some .int) ∈ wsX3_wantOf := by decide +kernel
set_option maxHeartbeats 4000000 in
set_option maxRecDepth 100000 in
theorem c_wantOf (l : Launch) (D : va_G) (cI cO : ClassId) (a : Nat → Nat) (u : UX) (Z : Sg) (d : Dy) (hRC : RC d u) (ns nk : Nat) (hz : Zv ns nk Z) (s k : Nat) (hs : s < ns) (hk : k < nk) : CIc l yX3_wantOf wsX3_wantOf 2 55 D cI cO a u Z d [.int (nI s), .int (nI k)] (wantF Z d ns k s) Z d := by
  unfold CIc
  refine CI.of (cc := cX3_wantOf) (maxL := 3) (rt := .int) (by decide) rfl (Nat.le_of_ble_eq_true rfl) ?_
  intro C hgL hgD hw h hret
  have hn8 := hz.n8
  have hk8 := hz.k8
  refine g_iconst h (pc := 0) (v := 0) dX3_wantOf_0 (by decide) ?_
  refine g_aload_n h (pc := 1) dX3_wantOf_1 0 rfl ?_
  refine g_iload_n h (pc := 2) dX3_wantOf_2 1 rfl ?_
  refine g_iload_n h (pc := 3) dX3_wantOf_3 2 rfl ?_
  refine g_callI h (pc := 4) (As := [.int (nI s), .int (nI k)]) (st := [.int 0]) dX3_wantOf_4 (c_pipeOf (gL C) (gD C) cI cO a u Z d hRC ns nk hz s k hs hk) hw gX3_wantOf_X3_pipeOf rfl (q0 := 0) rfl rfl (show nPar yX3_pipeOf RX3 2 = true by decide +kernel) ⟨Nat.le_of_ble_eq_true rfl, Nat.le_of_ble_eq_true rfl⟩ rfl (Nat.le_of_ble_eq_true rfl) ⟨by show 0 + (cp d - cp d) ≤ cp d - cp d; omega, by show 0 + 2 * (cp d - cp d) ≤ 2 * (cp d - cp d); omega⟩ (fun r u2 hR2 => ?_)
  obtain ⟨rfl, hR2⟩ := hR2
  refine g_wid (k' := cp d - cp d) (n' := 2 * (cp d - cp d)) (by omega) (by omega) ?_
  refine g_sipush h (pc := 7) (v := 1000) dX3_wantOf_7 (by decide) ?_
  refine g_aload_n h (pc := 10) dX3_wantOf_10 0 rfl ?_
  refine g_get h (pc := 11) dX3_wantOf_11 iX3_wantOf_3 0 rfl rfl 2 (by decide) fX3_wantOf_25 rfl ?_
  refine g_iload_n h (pc := 14) dX3_wantOf_14 1 rfl ?_
  refine g_aald h (pc := 15) (v := a (23 + s)) dX3_wantOf_15 22 rfl (vp_in_nI (by omega) (by omega)) (by rw [nI_clamp (by omega)]) ?_
  refine g_iload_n h (pc := 16) dX3_wantOf_16 2 rfl ?_
  refine g_iald h (pc := 17) (v := d.1 7 s k) dX3_wantOf_17 (23 + s) (cw_g cI cO a u2 Z d (by omega)) (vp_in_nI (by omega) (by omega)) (by rw [nI_clamp (by omega)]) ?_
  refine g_imul h (pc := 18) dX3_wantOf_18  ?_
  refine g_isub h (pc := 19) dX3_wantOf_19  ?_
  refine g_max h (pc := 20) dX3_wantOf_20 mX3_wantOf_1 mX3_wantOf_2 mX3_wantOf_3 mX3_wantOf_4 (Nat.le_of_ble_eq_true rfl) (Nat.le_of_ble_eq_true rfl) (Nat.le_refl _) (Nat.le_refl _) ?_
  exact hret _ u2 dX3_wantOf_23 rfl ⟨rfl, hR2⟩ rfl (Nat.le_refl _) (Nat.le_refl _)

theorem iX3_pipe_3 : ∀ w ∈ wsX30, w ∈ wsX3_pipe := by decide +kernel
theorem fX3_pipe_28 : Cond.fieldLink RX3 28 "SpareShelves" "rates" "[[I" ∈ wsX3_pipe := by decide +kernel
set_option maxHeartbeats 4000000 in
set_option maxRecDepth 100000 in
theorem c_pipe (l : Launch) (D : va_G) (cI cO : ClassId) (a : Nat → Nat) (u : UX) (Z : Sg) (d : Dy) (hRC : RC d u) (ns nk : Nat) (hz : Zv ns nk Z) (x y wh : Int32) : CIc l yX3_pipe wsX3_pipe 3 80 D cI cO a u Z d [.int x, .int y, .int wh] (pipeP ns nk Z d x y wh) Z d := by
  unfold CIc
  refine CI.of (cc := cX3_pipe) (maxL := 4) (rt := .int) (by decide) rfl (Nat.le_of_ble_eq_true rfl) ?_
  intro C hgL hgD hw h hret
  have hn8 := hz.n8
  have hk8 := hz.k8
  cases hp : (isIn x ns && isIn y nk) with
  | false =>
    refine g_aload_n h (pc := 0) dX3_pipe_0 0 rfl ?_
    refine g_iload_n h (pc := 1) dX3_pipe_1 1 rfl ?_
    refine g_iload_n h (pc := 2) dX3_pipe_2 2 rfl ?_
    refine g_callR h (pc := 3) (As := [.int x, .int y]) (st := []) dX3_pipe_3 (c_noplace (gL C) (gD C) cI cO a u Z d hRC ns nk hz x y) [0, 1, 2, 3, 4, 5, 6, 7, 8, 9, 10, 11, 12, 13, 14, 15, 16, 17, 18, 19, 20, 21, 22, 23, 24, 25, 26, 27, 28, 29, 30, 31, 32, 33, 34, 35, 36, 37, 38, 39, 40, 41, 42, 43, 44, 45] rfl (by decide) gX3_pipe_X3_isNoPlace rfl (q0 := 0) rfl rfl (show nPar yX3_isNoPlace RX3 2 = true by decide +kernel) ⟨Nat.le_of_ble_eq_true rfl, Nat.le_of_ble_eq_true rfl⟩ rfl (Nat.le_of_ble_eq_true rfl) ⟨Nat.zero_le _, Nat.zero_le _⟩ (fun r hr => ?_)
    subst hr
    rw [hp]
    refine g_topi (y := 1) rfl ?_
    refine g_if_eq_f h (pc := 6) (tgt := 11) dX3_pipe_6 (by decide) (by decide) ?_
    refine g_iconst h (pc := 9) (v := (-1)) dX3_pipe_9 (by decide) ?_
    exact hret _ u dX3_pipe_10 rfl ⟨by unfold pipeP; rw [if_pos hp], hRC⟩ rfl (Nat.zero_le _) (Nat.zero_le _)
  | true =>
    refine g_aload_n h (pc := 0) dX3_pipe_0 0 rfl ?_
    refine g_iload_n h (pc := 1) dX3_pipe_1 1 rfl ?_
    refine g_iload_n h (pc := 2) dX3_pipe_2 2 rfl ?_
    refine g_callR h (pc := 3) (As := [.int x, .int y]) (st := []) dX3_pipe_3 (c_noplace (gL C) (gD C) cI cO a u Z d hRC ns nk hz x y) [0, 1, 2, 3, 4, 5, 6, 7, 8, 9, 10, 11, 12, 13, 14, 15, 16, 17, 18, 19, 20, 21, 22, 23, 24, 25, 26, 27, 28, 29, 30, 31, 32, 33, 34, 35, 36, 37, 38, 39, 40, 41, 42, 43, 44, 45] rfl (by decide) gX3_pipe_X3_isNoPlace rfl (q0 := 0) rfl rfl (show nPar yX3_isNoPlace RX3 2 = true by decide +kernel) ⟨Nat.le_of_ble_eq_true rfl, Nat.le_of_ble_eq_true rfl⟩ rfl (Nat.le_of_ble_eq_true rfl) ⟨Nat.zero_le _, Nat.zero_le _⟩ (fun r hr => ?_)
    subst hr
    rw [hp]
    refine g_topi (y := 0) rfl ?_
    refine g_if_eq_t h (pc := 6) (tgt := 11) dX3_pipe_6 (by decide) rfl ?_
    have hpp := Bool.and_eq_true_iff.mp hp
    obtain ⟨s, hs, rfl⟩ := isIn_of (by omega) hpp.1
    obtain ⟨k, hk, rfl⟩ := isIn_of (by omega) hpp.2
    have ts : tN (nI s) = s := nI_clamp (by omega)
    have tk : tN (nI k) = k := nI_clamp (by omega)
    refine g_iload_n h (pc := 11) dX3_pipe_11 3 rfl ?_
    have e0 : ∀ q, pipeP ns nk Z d (nI s) (nI k) q = sw q [flowF Z ns k s, pipeF Z ns k s, wantF Z d ns k s, Z 8 s k] := by
      intro q
      unfold pipeP
      rw [hp, if_neg (by decide), ts, tk]
    cases hsw : isIn wh 4 with
    | false =>
      refine g_tblOut h (pc := 12) (tgt := 74) dX3_pipe_12 (isIn_out hsw rfl) (by decide) ?_
      refine g_iconst h (pc := 74) (v := (-1)) dX3_pipe_74 (by decide) ?_
      exact hret _ u dX3_pipe_75 rfl ⟨by rw [e0]; exact (sw_out hsw).symm, hRC⟩ rfl (Nat.zero_le _) (Nat.zero_le _)
    | true =>
      obtain ⟨j9, hj9, rfl⟩ := isIn_of (by omega) hsw
      rcases (show j9 = 0 ∨ j9 = 1 ∨ j9 = 2 ∨ j9 = 3 by omega) with rfl | rfl | rfl | rfl
      · refine g_tblIn h (pc := 12) (tgt := 44) dX3_pipe_12 (by decide) (by decide) (off := 32) (by decide) (by decide) ?_
        refine g_aload_n h (pc := 44) dX3_pipe_44 0 rfl ?_
        refine g_iload_n h (pc := 45) dX3_pipe_45 1 rfl ?_
        refine g_iload_n h (pc := 46) dX3_pipe_46 2 rfl ?_
        refine g_callI h (pc := 47) (As := [.int (nI s), .int (nI k)]) (st := []) dX3_pipe_47 (c_flow (gL C) (gD C) cI cO a u Z d hRC ns nk hz s k hs hk) hw gX3_pipe_X3_flowOf rfl (q0 := 0) rfl rfl (show nPar yX3_flowOf RX3 2 = true by decide +kernel) ⟨Nat.le_of_ble_eq_true rfl, Nat.le_of_ble_eq_true rfl⟩ rfl (Nat.le_of_ble_eq_true rfl) ⟨by show 0 + (cp d - cp d) ≤ cp d - cp d; omega, by show 0 + 2 * (cp d - cp d) ≤ 2 * (cp d - cp d); omega⟩ (fun r u2 hR2 => ?_)
        obtain ⟨rfl, hR2⟩ := hR2
        refine g_wid (k' := cp d - cp d) (n' := 2 * (cp d - cp d)) (by omega) (by omega) ?_
        exact hret _ u2 dX3_pipe_50 rfl ⟨by rw [e0]; exact (sw_in (j := 0) (Nat.le_of_ble_eq_true rfl) (Nat.le_of_ble_eq_true rfl) rfl).symm, hR2⟩ rfl (Nat.le_refl _) (Nat.le_refl _)
      · refine g_tblIn h (pc := 12) (tgt := 51) dX3_pipe_12 (by decide) (by decide) (off := 39) (by decide) (by decide) ?_
        refine g_aload_n h (pc := 51) dX3_pipe_51 0 rfl ?_
        refine g_iload_n h (pc := 52) dX3_pipe_52 1 rfl ?_
        refine g_iload_n h (pc := 53) dX3_pipe_53 2 rfl ?_
        refine g_callI h (pc := 54) (As := [.int (nI s), .int (nI k)]) (st := []) dX3_pipe_54 (c_pipeOf (gL C) (gD C) cI cO a u Z d hRC ns nk hz s k hs hk) hw gX3_pipe_X3_pipeOf rfl (q0 := 0) rfl rfl (show nPar yX3_pipeOf RX3 2 = true by decide +kernel) ⟨Nat.le_of_ble_eq_true rfl, Nat.le_of_ble_eq_true rfl⟩ rfl (Nat.le_of_ble_eq_true rfl) ⟨by show 0 + (cp d - cp d) ≤ cp d - cp d; omega, by show 0 + 2 * (cp d - cp d) ≤ 2 * (cp d - cp d); omega⟩ (fun r u2 hR2 => ?_)
        obtain ⟨rfl, hR2⟩ := hR2
        refine g_wid (k' := cp d - cp d) (n' := 2 * (cp d - cp d)) (by omega) (by omega) ?_
        exact hret _ u2 dX3_pipe_57 rfl ⟨by rw [e0]; exact (sw_in (j := 1) (Nat.le_of_ble_eq_true rfl) (Nat.le_of_ble_eq_true rfl) rfl).symm, hR2⟩ rfl (Nat.le_refl _) (Nat.le_refl _)
      · refine g_tblIn h (pc := 12) (tgt := 58) dX3_pipe_12 (by decide) (by decide) (off := 46) (by decide) (by decide) ?_
        refine g_aload_n h (pc := 58) dX3_pipe_58 0 rfl ?_
        refine g_iload_n h (pc := 59) dX3_pipe_59 1 rfl ?_
        refine g_iload_n h (pc := 60) dX3_pipe_60 2 rfl ?_
        refine g_callI h (pc := 61) (As := [.int (nI s), .int (nI k)]) (st := []) dX3_pipe_61 (c_wantOf (gL C) (gD C) cI cO a u Z d hRC ns nk hz s k hs hk) hw gX3_pipe_X3_wantOf rfl (q0 := 0) rfl rfl (show nPar yX3_wantOf RX3 2 = true by decide +kernel) ⟨Nat.le_of_ble_eq_true rfl, Nat.le_of_ble_eq_true rfl⟩ rfl (Nat.le_of_ble_eq_true rfl) ⟨by show 0 + (cp d - cp d) ≤ cp d - cp d; omega, by show 0 + 2 * (cp d - cp d) ≤ 2 * (cp d - cp d); omega⟩ (fun r u2 hR2 => ?_)
        obtain ⟨rfl, hR2⟩ := hR2
        refine g_wid (k' := cp d - cp d) (n' := 2 * (cp d - cp d)) (by omega) (by omega) ?_
        exact hret _ u2 dX3_pipe_64 rfl ⟨by rw [e0]; exact (sw_in (j := 2) (Nat.le_of_ble_eq_true rfl) (Nat.le_of_ble_eq_true rfl) rfl).symm, hR2⟩ rfl (Nat.le_refl _) (Nat.le_refl _)
      · refine g_tblIn h (pc := 12) (tgt := 65) dX3_pipe_12 (by decide) (by decide) (off := 53) (by decide) (by decide) ?_
        refine g_aload_n h (pc := 65) dX3_pipe_65 0 rfl ?_
        refine g_get h (pc := 66) dX3_pipe_66 iX3_pipe_3 0 rfl rfl 3 (by decide) fX3_pipe_28 rfl ?_
        refine g_iload_n h (pc := 69) dX3_pipe_69 1 rfl ?_
        refine g_aald h (pc := 70) (v := a (32 + s)) dX3_pipe_70 31 rfl (vp_in_nI (by omega) (by omega)) (by rw [nI_clamp (by omega)]) ?_
        refine g_iload_n h (pc := 71) dX3_pipe_71 2 rfl ?_
        refine g_iald h (pc := 72) (v := Z 8 s k) dX3_pipe_72 (32 + s) (cw_r cI cO a u Z d (by omega)) (vp_in_nI (by omega) (by omega)) (by rw [nI_clamp (by omega)]) ?_
        exact hret _ u dX3_pipe_73 rfl ⟨by rw [e0]; exact (sw_in (j := 3) (Nat.le_of_ble_eq_true rfl) (Nat.le_of_ble_eq_true rfl) rfl).symm, hRC⟩ rfl (Nat.zero_le _) (Nat.zero_le _)

theorem iX3_choose_3 : ∀ w ∈ wsX30, w ∈ wsX3_choose := by decide +kernel
theorem fX3_choose_10 : Cond.fieldLink RX3 10 "SpareShelves" "kinds" "LSpareShelves$Kinds;" ∈ wsX3_choose := by decide +kernel
theorem iX3_choose_0 : ∀ w ∈ wsX00, w ∈ wsX3_choose := by decide +kernel
theorem fX3_choose_91 : Cond.fieldLink RX3 91 "SpareShelves$Kinds" "bought" "[I" ∈ wsX3_choose := by decide +kernel
theorem fX3_choose_19 : Cond.fieldLink RX3 19 "SpareShelves" "tree" "LSpareShelves$Tree;" ∈ wsX3_choose := by decide +kernel
theorem iX3_choose_2 : ∀ w ∈ wsX20, w ∈ wsX3_choose := by decide +kernel
theorem fX3_choose_76 : Cond.fieldLink RX3 76 "SpareShelves$Tree" "size" "I" ∈ wsX3_choose := by decide +kernel
theorem fX3_choose_60 : Cond.fieldLink RX3 60 "SpareShelves$Kinds" "size" "I" ∈ wsX3_choose := by decide +kernel
theorem fX3_choose_63 : Cond.fieldLink RX3 63 "SpareShelves$Kinds" "price" "[I" ∈ wsX3_choose := by decide +kernel
set_option maxHeartbeats 4000000 in
set_option maxRecDepth 100000 in
def bS (b : Option (Nat × Nat)) : Int32 := match b with
  | none => -1
  | some q => nI q.1
def bK (b : Option (Nat × Nat)) : Int32 := match b with
  | none => -1
  | some q => nI q.2
theorem lg_le {x y : Int64} : lg_cmp x y ≤ 0 ↔ ¬ y < x := by
  unfold lg_cmp
  by_cases h1 : x < y
  · have h2 : ¬ y < x := Int64.not_lt.mpr (Int64.le_of_lt h1)
    simp [h1, h2]
    split <;> decide
  · by_cases h2 : y < x
    · simp [h1, h2]
    · simp [h1, h2]
      split <;> decide
set_option maxHeartbeats 800000 in
set_option maxRecDepth 100000 in
theorem c_choose (l : Launch) (D : va_G) (cI cO : ClassId) (a : Nat → Nat) (u : UX) (Z : Sg) (d : Dy) (hRC : RC d u) (ns nk : Nat) (hz : Zv ns nk Z) (t : Nat) (hzx : Zx ns nk t Z) (hd : Dv ns nk Z (t + 1) d) (hph : Ph d ≤ 20000) : CIc l yX3_choose wsX3_choose 7 250 D cI cO a u Z d [] (chooseP ns nk Z d).1 (chooseP ns nk Z d).2.1 (chooseP ns nk Z d).2.2 := by
  unfold CIc
  refine CI.of (cc := cX3_choose) (maxL := 13) (rt := .int) (by decide) rfl (Nat.le_of_ble_eq_true rfl) ?_
  intro C hgL hgD hw h hret
  have hn8 := hz.n8
  have hk8 := hz.k8
  have hcp : cp d ≤ cp (chooseP ns nk Z d).2.2 := by
    unfold chooseP
    split
    · exact Nat.le_refl _
    · split
      · exact Nat.le_refl _
      · exact cpl_lands Z (inc d 9 _) _ _
  refine g_iconst h (pc := 0) (v := (-1)) dX3_choose_0 (by decide) ?_
  refine g_istore_n h (pc := 1) dX3_choose_1 (by decide) rfl ?_
  refine g_iconst h (pc := 2) (v := (-1)) dX3_choose_2 (by decide) ?_
  refine g_istore_n h (pc := 3) dX3_choose_3 (by decide) rfl ?_
  refine g_lconst h (pc := 4) (v := 0) dX3_choose_4 (by decide) ?_
  refine g_lstore_n h (pc := 5) dX3_choose_5 (by decide) rfl ?_
  refine g_lconst h (pc := 6) (v := 1) dX3_choose_6 (by decide) ?_
  refine g_lstore h (pc := 7) dX3_choose_7 (by decide) rfl ?_
  refine g_iconst h (pc := 9) (v := 0) dX3_choose_9 (by decide) ?_
  refine g_istore h (pc := 10) dX3_choose_10 (by decide) rfl ?_
  have fin : ∀ (u2 : UX), RC d u2 → ∀ lv, lv_pick lv [0, 1, 2] = [(0, .ref (a 0)), (1, .int (bS (chS Z d ns nk ns))), (2, .int (bK (chS Z d ns nk ns)))] → GG C 13 (cw cI cO a u2 Z d) 0 0 101 lv [] := by
    intro u2 hR2 lv hlv
    refine g_lvp [0, 1, 2] hlv ?_
    cases hb : chS Z d ns nk ns with
    | none =>
      have e1 : (chooseP ns nk Z d) = (-1, Z, d) := by unfold chooseP; rw [hb]
      rw [e1] at hret
      refine g_aload_n h (pc := 101) dX3_choose_101 0 rfl ?_
      refine g_iload_n h (pc := 102) dX3_choose_102 1 rfl ?_
      refine g_iload_n h (pc := 103) dX3_choose_103 2 rfl ?_
      refine g_callR h (pc := 104) (As := [.int (-1), .int (-1)]) (st := []) dX3_choose_104 (c_noplace (gL C) (gD C) cI cO a u2 Z d hR2 ns nk hz (-1) (-1)) [0, 1, 2, 3, 4, 5, 6, 7, 8, 9, 10, 11, 12, 13, 14, 15, 16, 17, 18, 19, 20, 21, 22, 23, 24, 25, 26, 27, 28, 29, 30, 31, 32, 33, 34, 35, 36, 37, 38, 39, 40, 41, 42, 43, 44, 45] rfl (by decide) gX3_choose_X3_isNoPlace rfl (q0 := 0) rfl rfl (show nPar yX3_isNoPlace RX3 2 = true by decide +kernel) ⟨Nat.le_of_ble_eq_true rfl, Nat.le_of_ble_eq_true rfl⟩ rfl (Nat.le_of_ble_eq_true rfl) ⟨Nat.zero_le _, Nat.zero_le _⟩ (fun r hr => ?_)
      subst hr
      rw [show (isIn (-1) ns && isIn (-1) nk) = false by rw [isIn_f1 (by decide)]; rfl]
      refine g_topi (y := 1) rfl ?_
      refine g_if_eq_f h (pc := 107) (tgt := 112) dX3_choose_107 (by decide) (by decide) ?_
      refine g_iconst h (pc := 110) (v := (-1)) dX3_choose_110 (by decide) ?_
      exact hret _ u2 dX3_choose_111 rfl ⟨rfl, hR2⟩ rfl (Nat.zero_le _) (Nat.zero_le _)
    | some q =>
      obtain ⟨s, k⟩ := q
      obtain ⟨hs, hk⟩ := chS_in ns (Nat.le_refl _) (s, k) hb
      replace hs : s < ns := hs
      replace hk : k < nk := hk
      show GG C 13 (cw cI cO a u2 Z d) 0 0 101 [(0, .ref (a 0)), (1, .int (nI s)), (2, .int (nI k))] []
      refine g_aload_n h (pc := 101) dX3_choose_101 0 rfl ?_
      refine g_iload_n h (pc := 102) dX3_choose_102 1 rfl ?_
      refine g_iload_n h (pc := 103) dX3_choose_103 2 rfl ?_
      refine g_callR h (pc := 104) (As := [.int (nI s), .int (nI k)]) (st := []) dX3_choose_104 (c_noplace (gL C) (gD C) cI cO a u2 Z d hR2 ns nk hz (nI s) (nI k)) [0, 1, 2, 3, 4, 5, 6, 7, 8, 9, 10, 11, 12, 13, 14, 15, 16, 17, 18, 19, 20, 21, 22, 23, 24, 25, 26, 27, 28, 29, 30, 31, 32, 33, 34, 35, 36, 37, 38, 39, 40, 41, 42, 43, 44, 45] rfl (by decide) gX3_choose_X3_isNoPlace rfl (q0 := 0) rfl rfl (show nPar yX3_isNoPlace RX3 2 = true by decide +kernel) ⟨Nat.le_of_ble_eq_true rfl, Nat.le_of_ble_eq_true rfl⟩ rfl (Nat.le_of_ble_eq_true rfl) ⟨Nat.zero_le _, Nat.zero_le _⟩ (fun r hr => ?_)
      subst hr
      rw [show (isIn (nI s) ns && isIn (nI k) nk) = true by rw [isIn_nI hs (by omega), isIn_nI hk (by omega)]; rfl]
      refine g_topi (y := 0) rfl ?_
      refine g_if_eq_t h (pc := 107) (tgt := 112) dX3_choose_107 (by decide) rfl ?_
      refine g_aload_n h (pc := 112) dX3_choose_112 0 rfl ?_
      refine g_get h (pc := 113) dX3_choose_113 iX3_choose_3 0 rfl rfl 0 (by decide) fX3_choose_10 rfl ?_
      refine g_get h (pc := 116) dX3_choose_116 iX3_choose_0 1 rfl rfl 3 (by decide) fX3_choose_91 rfl ?_
      refine g_iload_n h (pc := 119) dX3_choose_119 2 rfl ?_
      refine g_iald h (pc := 120) (v := d.1 9 0 k) dX3_choose_120 5 rfl (vp_in_nI (by omega) (by omega)) (by rw [nI_clamp (by omega)]) ?_
      refine g_sipush h (pc := 121) (v := 200) dX3_choose_121 (by decide) ?_
      by_cases h2 : 200 ≤ d.1 9 0 k
      · have e1 : (chooseP ns nk Z d) = (-4, Z, d) := by unfold chooseP; rw [hb]; exact if_pos h2
        rw [e1] at hret
        refine g_icmp_lt_f h (pc := 124) (tgt := 130) dX3_choose_124 (by decide) (Int32.not_lt.mpr h2) ?_
        refine g_bipush h (pc := 127) (v := (-4)) dX3_choose_127 (by decide) ?_
        exact hret _ u2 dX3_choose_129 rfl ⟨rfl, hR2⟩ rfl (Nat.zero_le _) (Nat.zero_le _)
      · have e1 : (chooseP ns nk Z d) = (nI (8 * s + k), Z, lands Z (inc d 9 k) s k) := by unfold chooseP; rw [hb]; exact if_neg h2
        have ef : cp (chooseP ns nk Z d).2.2 = cp (lands Z (inc d 9 k) s k) := by rw [e1]
        have e5 : cp (inc d 9 k) = cp d := rfl
        have e6 : sz (inc d 9 k) = sz d := rfl
        have e7 := Ph_sz d
        rw [e1] at hret
        refine g_icmp_lt_t h (pc := 124) (tgt := 130) dX3_choose_124 (by decide) (Int32.not_le.mp h2) ?_
        refine g_aload_n h (pc := 130) dX3_choose_130 0 rfl ?_
        refine g_get h (pc := 131) dX3_choose_131 iX3_choose_3 0 rfl rfl 0 (by decide) fX3_choose_10 rfl ?_
        refine g_get h (pc := 134) dX3_choose_134 iX3_choose_0 1 rfl rfl 3 (by decide) fX3_choose_91 rfl ?_
        refine g_iload_n h (pc := 137) dX3_choose_137 2 rfl ?_
        refine g_dup2 h (pc := 138) dX3_choose_138 rfl rfl ?_
        refine g_iald h (pc := 139) (v := d.1 9 0 k) dX3_choose_139 5 rfl (vp_in_nI (by omega) (by omega)) (by rw [nI_clamp (by omega)]) ?_
        refine g_iconst h (pc := 140) (v := 1) dX3_choose_140 (by decide) ?_
        refine g_iadd h (pc := 141) dX3_choose_141  ?_
        refine g_iast h hw (pc := 142) (ws' := cw cI cO a u2 Z (inc d 9 k)) dX3_choose_142 5 rfl (vp_in_nI (by omega) (by omega)) (by rw [nI_clamp (by omega)]; rfl) ?_
        refine g_aload_n h (pc := 143) dX3_choose_143 0 rfl ?_
        refine g_iload_n h (pc := 144) dX3_choose_144 1 rfl ?_
        refine g_iload_n h (pc := 145) dX3_choose_145 2 rfl ?_
        refine g_callV h (pc := 146) (As := [.int (nI s), .int (nI k)]) (st := []) dX3_choose_146 (c_lands (gL C) (gD C) cI cO a u2 Z (inc d 9 k) hR2 ns nk hz (by omega) hd.1 s k hs hk) hw gX3_choose_X3_lands rfl (q0 := 0) rfl rfl (show nPar yX3_lands RX3 2 = true by decide +kernel) ⟨Nat.le_of_ble_eq_true rfl, Nat.le_of_ble_eq_true rfl⟩ rfl (Nat.le_of_ble_eq_true rfl) ⟨by show _ ≤ cp (chooseP ns nk Z d).2.2 - cp d; omega, by show _ ≤ 2 * (cp (chooseP ns nk Z d).2.2 - cp d); omega⟩ (fun u3 hR3 => ?_)
        refine g_bipush h (pc := 149) (v := 8) dX3_choose_149 (by decide) ?_
        refine g_iload_n h (pc := 151) dX3_choose_151 1 rfl ?_
        refine g_imul h (pc := 152) dX3_choose_152  ?_
        refine g_topi (y := nI (8 * s)) (by rw [show (8 : Int32) = nI 8 from rfl, pk_mul]) ?_
        refine g_iload_n h (pc := 153) dX3_choose_153 2 rfl ?_
        refine g_iadd h (pc := 154) dX3_choose_154  ?_
        refine g_topi (nI_add _ _) ?_
        exact hret _ u3 dX3_choose_155 rfl ⟨rfl, hR3⟩ rfl (by show _ ≤ cp (lands Z (inc d 9 k) s k) - cp d; omega) (by show _ ≤ 2 * (cp (lands Z (inc d 9 k) s k) - cp d); omega)
  suffices loop : ∀ (m i : Nat) (u2 : UX), i + m = ns → RC d u2 → GG C 13 (cw cI cO a u2 Z d) 0 0 12 [(0, .ref (a 0)), (1, .int (bS (chS Z d ns nk i))), (2, .int (bK (chS Z d ns nk i))), (3, .long (bW Z d ns (chS Z d ns nk i))), (5, .long (bP Z (chS Z d ns nk i))), (7, .int (nI i))] [] from loop ns 0 u (by omega) hRC
  intro m
  induction m with
  | zero =>
    intro i u2 h1 hR2
    refine g_iload h (pc := 12) dX3_choose_12 5 rfl ?_
    refine g_aload_n h (pc := 14) dX3_choose_14 0 rfl ?_
    refine g_get h (pc := 15) dX3_choose_15 iX3_choose_3 0 rfl rfl 1 (by decide) fX3_choose_19 rfl ?_
    refine g_get h (pc := 18) dX3_choose_18 iX3_choose_2 10 rfl rfl 3 (by decide) fX3_choose_76 rfl ?_
    refine g_topi hz.ns ?_
    refine g_icmp_ge_t h (pc := 21) (tgt := 101) dX3_choose_21 (by decide) (nI_le (by omega) (by omega)) ?_
    rw [show i = ns by omega]
    exact fin u2 hR2 _ rfl
  | succ m ih =>
    intro i u2 h1 hR2
    refine g_iload h (pc := 12) dX3_choose_12 5 rfl ?_
    refine g_aload_n h (pc := 14) dX3_choose_14 0 rfl ?_
    refine g_get h (pc := 15) dX3_choose_15 iX3_choose_3 0 rfl rfl 1 (by decide) fX3_choose_19 rfl ?_
    refine g_get h (pc := 18) dX3_choose_18 iX3_choose_2 10 rfl rfl 3 (by decide) fX3_choose_76 rfl ?_
    refine g_topi hz.ns ?_
    refine g_icmp_ge_f h (pc := 21) (tgt := 101) dX3_choose_21 (by decide) (nI_ge (by omega) (by omega)) ?_
    refine g_iconst h (pc := 24) (v := 0) dX3_choose_24 (by decide) ?_
    refine g_istore h (pc := 25) dX3_choose_25 (by decide) rfl ?_
    suffices inner : ∀ (m2 j : Nat) (u3 : UX), j + m2 = nk → RC d u3 → GG C 13 (cw cI cO a u3 Z d) 0 0 27 [(0, .ref (a 0)), (1, .int (bS (chK Z d ns i j (chS Z d ns nk i)))), (2, .int (bK (chK Z d ns i j (chS Z d ns nk i)))), (3, .long (bW Z d ns (chK Z d ns i j (chS Z d ns nk i)))), (5, .long (bP Z (chK Z d ns i j (chS Z d ns nk i)))), (7, .int (nI i)), (8, .int (nI j))] [] from inner nk 0 u2 (by omega) hR2
    intro m2
    induction m2 with
    | zero =>
      intro j u3 h3 hR3
      refine g_iload h (pc := 27) dX3_choose_27 6 rfl ?_
      refine g_aload_n h (pc := 29) dX3_choose_29 0 rfl ?_
      refine g_get h (pc := 30) dX3_choose_30 iX3_choose_3 0 rfl rfl 0 (by decide) fX3_choose_10 rfl ?_
      refine g_get h (pc := 33) dX3_choose_33 iX3_choose_0 1 rfl rfl 8 (by decide) fX3_choose_60 rfl ?_
      refine g_topi hz.nk ?_
      refine g_icmp_ge_t h (pc := 36) (tgt := 95) dX3_choose_36 (by decide) (nI_le (by omega) (by omega)) ?_
      have h9 := ih (i + 1) u3 (by omega) hR3
      rw [chS] at h9
      rw [show j = nk by omega]
      refine g_iinc h (pc := 95) dX3_choose_95 5 rfl (nI_1 i) (by decide) rfl ?_
      refine g_goto h (pc := 98) (tgt := 12) dX3_choose_98 (by decide) ?_
      refine g_lvp [0, 1, 2, 3, 4, 5] rfl ?_
      exact h9
    | succ m2 ih2 =>
      intro j u3 h3 hR3
      refine g_iload h (pc := 27) dX3_choose_27 6 rfl ?_
      refine g_aload_n h (pc := 29) dX3_choose_29 0 rfl ?_
      refine g_get h (pc := 30) dX3_choose_30 iX3_choose_3 0 rfl rfl 0 (by decide) fX3_choose_10 rfl ?_
      refine g_get h (pc := 33) dX3_choose_33 iX3_choose_0 1 rfl rfl 8 (by decide) fX3_choose_60 rfl ?_
      refine g_topi hz.nk ?_
      refine g_icmp_ge_f h (pc := 36) (tgt := 95) dX3_choose_36 (by decide) (nI_ge (by omega) (by omega)) ?_
      refine g_aload_n h (pc := 39) dX3_choose_39 0 rfl ?_
      refine g_iload h (pc := 40) dX3_choose_40 5 rfl ?_
      refine g_iload h (pc := 42) dX3_choose_42 6 rfl ?_
      refine g_callI h (pc := 44) (As := [.int (nI i), .int (nI j)]) (st := []) dX3_choose_44 (c_wantOf (gL C) (gD C) cI cO a u3 Z d hR3 ns nk hz i j (by omega) (by omega)) hw gX3_choose_X3_wantOf rfl (q0 := 0) rfl rfl (show nPar yX3_wantOf RX3 2 = true by decide +kernel) ⟨Nat.le_of_ble_eq_true rfl, Nat.le_of_ble_eq_true rfl⟩ rfl (Nat.le_of_ble_eq_true rfl) ⟨by show 0 + (cp d - cp d) ≤ _; omega, by show 0 + 2 * (cp d - cp d) ≤ _; omega⟩ (fun r u4 hR4 => ?_)
      obtain ⟨rfl, hR4⟩ := hR4
      refine g_wid (k' := 0) (n' := 0) (by omega) (by omega) ?_
      have h9 := fun u5 h => ih2 (j + 1) u5 (by omega) h
      rw [chK] at h9
      generalize hB : (chK Z d ns i j (chS Z d ns nk i)) = B at h9 ⊢
      refine g_i2l h (pc := 47) dX3_choose_47  ?_
      refine g_lstore h (pc := 48) dX3_choose_48 (by decide) rfl ?_
      refine g_lv (lv' := [(0, .ref (a 0)), (1, .int (bS B)), (2, .int (bK B)), (3, .long (bW Z d ns B)), (5, .long (bP Z B)), (7, .int (nI i)), (8, .int (nI j)), (9, .long (wantF Z d ns j i).toInt64)]) rfl ?_
      refine g_aload_n h (pc := 50) dX3_choose_50 0 rfl ?_
      refine g_get h (pc := 51) dX3_choose_51 iX3_choose_3 0 rfl rfl 0 (by decide) fX3_choose_10 rfl ?_
      refine g_get h (pc := 54) dX3_choose_54 iX3_choose_0 1 rfl rfl 0 (by decide) fX3_choose_63 rfl ?_
      refine g_iload h (pc := 57) dX3_choose_57 6 rfl ?_
      refine g_iald h (pc := 59) (v := Z 0 0 j) dX3_choose_59 2 rfl (vp_in_nI (by omega) (by omega)) (by rw [nI_clamp (by omega)]) ?_
      refine g_i2l h (pc := 60) dX3_choose_60  ?_
      refine g_lstore h (pc := 61) dX3_choose_61 (by decide) rfl ?_
      refine g_lv (lv' := [(0, .ref (a 0)), (1, .int (bS B)), (2, .int (bK B)), (3, .long (bW Z d ns B)), (5, .long (bP Z B)), (7, .int (nI i)), (8, .int (nI j)), (9, .long (wantF Z d ns j i).toInt64), (11, .long (Z 0 0 j).toInt64)]) rfl ?_
      refine g_lload h (pc := 63) dX3_choose_63 7 rfl ?_
      refine g_lload h (pc := 65) dX3_choose_65 4 rfl ?_
      refine g_lmul h (pc := 67) dX3_choose_67  ?_
      refine g_lload_n h (pc := 68) dX3_choose_68 3 rfl ?_
      refine g_lload h (pc := 69) dX3_choose_69 8 rfl ?_
      refine g_lmul h (pc := 71) dX3_choose_71  ?_
      refine g_lcmp h (pc := 72) dX3_choose_72  ?_
      refine g_if_le h (pc := 73) (tgt := 89) dX3_choose_73 (by decide) (fun c7 => ?_) (fun c7 => ?_)
      · have e9 : chs Z d ns B i j = B := if_neg (lg_le.mp c7)
        rw [e9] at h9
        refine g_iinc h (pc := 89) dX3_choose_89 6 rfl (nI_1 j) (by decide) rfl ?_
        refine g_goto h (pc := 92) (tgt := 27) dX3_choose_92 (by decide) ?_
        refine g_lvp [0, 1, 2, 3, 4, 5, 6] rfl ?_
        exact h9 u4 hR4
      · have e9 : chs Z d ns B i j = some (i, j) := if_pos (Classical.not_not.mp (fun q => c7 (lg_le.mpr q)))
        rw [e9] at h9
        dsimp only [bS, bK, bW, bP] at h9
        refine g_iload h (pc := 76) dX3_choose_76 5 rfl ?_
        refine g_istore_n h (pc := 78) dX3_choose_78 (by decide) rfl ?_
        refine g_lv (lv' := [(0, .ref (a 0)), (1, .int (nI i)), (2, .int (bK B)), (3, .long (bW Z d ns B)), (5, .long (bP Z B)), (7, .int (nI i)), (8, .int (nI j)), (9, .long (wantF Z d ns j i).toInt64), (11, .long (Z 0 0 j).toInt64)]) rfl ?_
        refine g_iload h (pc := 79) dX3_choose_79 6 rfl ?_
        refine g_istore_n h (pc := 81) dX3_choose_81 (by decide) rfl ?_
        refine g_lv (lv' := [(0, .ref (a 0)), (1, .int (nI i)), (2, .int (nI j)), (3, .long (bW Z d ns B)), (5, .long (bP Z B)), (7, .int (nI i)), (8, .int (nI j)), (9, .long (wantF Z d ns j i).toInt64), (11, .long (Z 0 0 j).toInt64)]) rfl ?_
        refine g_lload h (pc := 82) dX3_choose_82 7 rfl ?_
        refine g_lstore_n h (pc := 84) dX3_choose_84 (by decide) rfl ?_
        refine g_lv (lv' := [(0, .ref (a 0)), (1, .int (nI i)), (2, .int (nI j)), (3, .long (wantF Z d ns j i).toInt64), (5, .long (bP Z B)), (7, .int (nI i)), (8, .int (nI j)), (9, .long (wantF Z d ns j i).toInt64), (11, .long (Z 0 0 j).toInt64)]) rfl ?_
        refine g_lload h (pc := 85) dX3_choose_85 8 rfl ?_
        refine g_lstore h (pc := 87) dX3_choose_87 (by decide) rfl ?_
        refine g_lv (lv' := [(0, .ref (a 0)), (1, .int (nI i)), (2, .int (nI j)), (3, .long (wantF Z d ns j i).toInt64), (5, .long (Z 0 0 j).toInt64), (7, .int (nI i)), (8, .int (nI j)), (9, .long (wantF Z d ns j i).toInt64), (11, .long (Z 0 0 j).toInt64)]) rfl ?_
        refine g_iinc h (pc := 89) dX3_choose_89 6 rfl (nI_1 j) (by decide) rfl ?_
        refine g_lv (lv' := [(0, .ref (a 0)), (1, .int (nI i)), (2, .int (nI j)), (3, .long (wantF Z d ns j i).toInt64), (5, .long (Z 0 0 j).toInt64), (7, .int (nI i)), (8, .int (nI (j + 1))), (9, .long (wantF Z d ns j i).toInt64), (11, .long (Z 0 0 j).toInt64)]) rfl ?_
        refine g_goto h (pc := 92) (tgt := 27) dX3_choose_92 (by decide) ?_
        refine g_lvp [0, 1, 2, 3, 4, 5, 6] rfl ?_
        exact h9 u4 hR4
end
