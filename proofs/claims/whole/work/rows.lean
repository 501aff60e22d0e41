section
-- ===== PART A: goes FIRST, ahead of the names: the tables' words, and 'selects' of the private methods out of them =====
/-- a private method of a class that the tables say can be made, by its rows of tables_1 -/
def lw_okq (q : MethodName × Nat) : Prop := (q.1.cls ≠ "java/lang/invoke/MethodHandle" ∧ q.1.cls ≠ "java/lang/invoke/VarHandle") ∧ Cond.instantiable q.1.cls q.2 ∈ tables_1 ∧ Cond.privateMethod q.1 ∈ tables_1 ∧ Cond.instanceMethod q.1 ∈ tables_1
theorem lw_p0 : lw_okq (⟨"Cardhouse$Offers", "canGive", "(II)Z"⟩, 7) := ⟨⟨by decide +kernel, by decide +kernel⟩, List.mem_of_getElem? (i := 116) (by decide +kernel), List.mem_of_getElem? (i := 214) (by decide +kernel), List.mem_of_getElem? (i := 215) (by decide +kernel)⟩
theorem lw_p1 : lw_okq (⟨"Cardhouse$Offers", "canFollow", "(II)Z"⟩, 7) := ⟨⟨by decide +kernel, by decide +kernel⟩, List.mem_of_getElem? (i := 116) (by decide +kernel), List.mem_of_getElem? (i := 218) (by decide +kernel), List.mem_of_getElem? (i := 219) (by decide +kernel)⟩
theorem lw_p2 : lw_okq (⟨"java/lang/Throwable", "fillInStackTrace", "(I)Ljava/lang/Throwable;"⟩, 6) := ⟨⟨by decide +kernel, by decide +kernel⟩, List.mem_of_getElem? (i := 276) (by decide +kernel), List.mem_of_getElem? (i := 274) (by decide +kernel), List.mem_of_getElem? (i := 275) (by decide +kernel)⟩
theorem lw_p3 : lw_okq (⟨"Cardhouse", "needDeck", "(I)V"⟩, 7) := ⟨⟨by decide +kernel, by decide +kernel⟩, List.mem_of_getElem? (i := 17) (by decide +kernel), List.mem_of_getElem? (i := 412) (by decide +kernel), List.mem_of_getElem? (i := 413) (by decide +kernel)⟩
theorem lw_p4 : lw_okq (⟨"Cardhouse", "needCard", "(I)V"⟩, 7) := ⟨⟨by decide +kernel, by decide +kernel⟩, List.mem_of_getElem? (i := 17) (by decide +kernel), List.mem_of_getElem? (i := 417) (by decide +kernel), List.mem_of_getElem? (i := 418) (by decide +kernel)⟩
theorem lw_p5 : lw_okq (⟨"Cardhouse", "needPlace", "(II)V"⟩, 7) := ⟨⟨by decide +kernel, by decide +kernel⟩, List.mem_of_getElem? (i := 17) (by decide +kernel), List.mem_of_getElem? (i := 440) (by decide +kernel), List.mem_of_getElem? (i := 441) (by decide +kernel)⟩
theorem lw_p6 : lw_okq (⟨"Cardhouse", "needAllowed", "(I)V"⟩, 7) := ⟨⟨by decide +kernel, by decide +kernel⟩, List.mem_of_getElem? (i := 17) (by decide +kernel), List.mem_of_getElem? (i := 461) (by decide +kernel), List.mem_of_getElem? (i := 462) (by decide +kernel)⟩
theorem lw_p7 : lw_okq (⟨"Cardhouse", "playRound", "(I)V"⟩, 7) := ⟨⟨by decide +kernel, by decide +kernel⟩, List.mem_of_getElem? (i := 17) (by decide +kernel), List.mem_of_getElem? (i := 479) (by decide +kernel), List.mem_of_getElem? (i := 480) (by decide +kernel)⟩
theorem lw_p8 : lw_okq (⟨"Cardhouse", "giveWins", "(I)V"⟩, 7) := ⟨⟨by decide +kernel, by decide +kernel⟩, List.mem_of_getElem? (i := 17) (by decide +kernel), List.mem_of_getElem? (i := 487) (by decide +kernel), List.mem_of_getElem? (i := 488) (by decide +kernel)⟩
theorem lw_p9 : lw_okq (⟨"Cardhouse", "needOffer", "(I)V"⟩, 7) := ⟨⟨by decide +kernel, by decide +kernel⟩, List.mem_of_getElem? (i := 17) (by decide +kernel), List.mem_of_getElem? (i := 517) (by decide +kernel), List.mem_of_getElem? (i := 518) (by decide +kernel)⟩
theorem lw_p10 : lw_okq (⟨"CardhouseModel", "goes", "(ZZZ)Z"⟩, 23) := ⟨⟨by decide +kernel, by decide +kernel⟩, List.mem_of_getElem? (i := 611) (by decide +kernel), List.mem_of_getElem? (i := 701) (by decide +kernel), List.mem_of_getElem? (i := 702) (by decide +kernel)⟩
theorem lw_p11 : lw_okq (⟨"CardhouseModel", "manyAllowed", "()I"⟩, 23) := ⟨⟨by decide +kernel, by decide +kernel⟩, List.mem_of_getElem? (i := 611) (by decide +kernel), List.mem_of_getElem? (i := 709) (by decide +kernel), List.mem_of_getElem? (i := 710) (by decide +kernel)⟩
theorem lw_p12 : lw_okq (⟨"CardhouseModel", "allows", "(I)Z"⟩, 23) := ⟨⟨by decide +kernel, by decide +kernel⟩, List.mem_of_getElem? (i := 611) (by decide +kernel), List.mem_of_getElem? (i := 713) (by decide +kernel), List.mem_of_getElem? (i := 714) (by decide +kernel)⟩
theorem lw_p13 : lw_okq (⟨"CardhouseModel", "kindAt", "(II)I"⟩, 23) := ⟨⟨by decide +kernel, by decide +kernel⟩, List.mem_of_getElem? (i := 611) (by decide +kernel), List.mem_of_getElem? (i := 717) (by decide +kernel), List.mem_of_getElem? (i := 718) (by decide +kernel)⟩
theorem lw_p14 : lw_okq (⟨"CardhouseModel", "manyOf", "(II)I"⟩, 23) := ⟨⟨by decide +kernel, by decide +kernel⟩, List.mem_of_getElem? (i := 611) (by decide +kernel), List.mem_of_getElem? (i := 721) (by decide +kernel), List.mem_of_getElem? (i := 722) (by decide +kernel)⟩
theorem lw_p15 : lw_okq (⟨"CardhouseModel", "isDeck", "(I)Z"⟩, 23) := ⟨⟨by decide +kernel, by decide +kernel⟩, List.mem_of_getElem? (i := 611) (by decide +kernel), List.mem_of_getElem? (i := 744) (by decide +kernel), List.mem_of_getElem? (i := 745) (by decide +kernel)⟩
def lw_privs_1 : List (MethodName × Nat) := [(⟨"Cardhouse$Offers", "canGive", "(II)Z"⟩, 7), (⟨"Cardhouse$Offers", "canFollow", "(II)Z"⟩, 7), (⟨"java/lang/Throwable", "fillInStackTrace", "(I)Ljava/lang/Throwable;"⟩, 6), (⟨"Cardhouse", "needDeck", "(I)V"⟩, 7), (⟨"Cardhouse", "needCard", "(I)V"⟩, 7), (⟨"Cardhouse", "needPlace", "(II)V"⟩, 7), (⟨"Cardhouse", "needAllowed", "(I)V"⟩, 7), (⟨"Cardhouse", "playRound", "(I)V"⟩, 7), (⟨"Cardhouse", "giveWins", "(I)V"⟩, 7), (⟨"Cardhouse", "needOffer", "(I)V"⟩, 7), (⟨"CardhouseModel", "goes", "(ZZZ)Z"⟩, 23), (⟨"CardhouseModel", "manyAllowed", "()I"⟩, 23), (⟨"CardhouseModel", "allows", "(I)Z"⟩, 23), (⟨"CardhouseModel", "kindAt", "(II)I"⟩, 23), (⟨"CardhouseModel", "manyOf", "(II)I"⟩, 23), (⟨"CardhouseModel", "isDeck", "(I)Z"⟩, 23)]
theorem lw_r1 : ∀ q ∈ lw_privs_1, lw_okq q := List.forall_mem_cons.mpr ⟨lw_p0, List.forall_mem_cons.mpr ⟨lw_p1, List.forall_mem_cons.mpr ⟨lw_p2, List.forall_mem_cons.mpr ⟨lw_p3, List.forall_mem_cons.mpr ⟨lw_p4, List.forall_mem_cons.mpr ⟨lw_p5, List.forall_mem_cons.mpr ⟨lw_p6, List.forall_mem_cons.mpr ⟨lw_p7, List.forall_mem_cons.mpr ⟨lw_p8, List.forall_mem_cons.mpr ⟨lw_p9, List.forall_mem_cons.mpr ⟨lw_p10, List.forall_mem_cons.mpr ⟨lw_p11, List.forall_mem_cons.mpr ⟨lw_p12, List.forall_mem_cons.mpr ⟨lw_p13, List.forall_mem_cons.mpr ⟨lw_p14, List.forall_mem_cons.mpr ⟨lw_p15, fun _ h => absurd h List.not_mem_nil⟩⟩⟩⟩⟩⟩⟩⟩⟩⟩⟩⟩⟩⟩⟩⟩
theorem lw_p16 : lw_okq (⟨"CardhouseModel", "isCard", "(I)Z"⟩, 23) := ⟨⟨by decide +kernel, by decide +kernel⟩, List.mem_of_getElem? (i := 611) (by decide +kernel), List.mem_of_getElem? (i := 748) (by decide +kernel), List.mem_of_getElem? (i := 749) (by decide +kernel)⟩
theorem lw_p17 : lw_okq (⟨"CardhouseModel", "isIn", "(II)Z"⟩, 23) := ⟨⟨by decide +kernel, by decide +kernel⟩, List.mem_of_getElem? (i := 611) (by decide +kernel), List.mem_of_getElem? (i := 752) (by decide +kernel), List.mem_of_getElem? (i := 753) (by decide +kernel)⟩
theorem lw_p18 : lw_okq (⟨"CardhouseModel", "shuffles", "(III)V"⟩, 23) := ⟨⟨by decide +kernel, by decide +kernel⟩, List.mem_of_getElem? (i := 611) (by decide +kernel), List.mem_of_getElem? (i := 764) (by decide +kernel), List.mem_of_getElem? (i := 765) (by decide +kernel)⟩
theorem lw_p19 : lw_okq (⟨"CardhouseModel", "effect", "(IIZ)I"⟩, 23) := ⟨⟨by decide +kernel, by decide +kernel⟩, List.mem_of_getElem? (i := 611) (by decide +kernel), List.mem_of_getElem? (i := 772) (by decide +kernel), List.mem_of_getElem? (i := 773) (by decide +kernel)⟩
theorem lw_p20 : lw_okq (⟨"CardhouseModel", "wonBy", "(I)V"⟩, 23) := ⟨⟨by decide +kernel, by decide +kernel⟩, List.mem_of_getElem? (i := 611) (by decide +kernel), List.mem_of_getElem? (i := 776) (by decide +kernel), List.mem_of_getElem? (i := 777) (by decide +kernel)⟩
theorem lw_p21 : lw_okq (⟨"CardhouseModel", "opens", "(I)Z"⟩, 23) := ⟨⟨by decide +kernel, by decide +kernel⟩, List.mem_of_getElem? (i := 611) (by decide +kernel), List.mem_of_getElem? (i := 784) (by decide +kernel), List.mem_of_getElem? (i := 785) (by decide +kernel)⟩
theorem lw_p22 : lw_okq (⟨"CardhouseModel", "isOffer", "(I)Z"⟩, 23) := ⟨⟨by decide +kernel, by decide +kernel⟩, List.mem_of_getElem? (i := 611) (by decide +kernel), List.mem_of_getElem? (i := 792) (by decide +kernel), List.mem_of_getElem? (i := 793) (by decide +kernel)⟩
theorem lw_p23 : lw_okq (⟨"CardhouseModel", "first", "()I"⟩, 23) := ⟨⟨by decide +kernel, by decide +kernel⟩, List.mem_of_getElem? (i := 611) (by decide +kernel), List.mem_of_getElem? (i := 800) (by decide +kernel), List.mem_of_getElem? (i := 801) (by decide +kernel)⟩
theorem lw_p24 : lw_okq (⟨"CardhouseModel", "hasRing", "(I)Z"⟩, 23) := ⟨⟨by decide +kernel, by decide +kernel⟩, List.mem_of_getElem? (i := 611) (by decide +kernel), List.mem_of_getElem? (i := 804) (by decide +kernel), List.mem_of_getElem? (i := 805) (by decide +kernel)⟩
theorem lw_p25 : lw_okq (⟨"CardhouseModel", "fits", "(II)Z"⟩, 23) := ⟨⟨by decide +kernel, by decide +kernel⟩, List.mem_of_getElem? (i := 611) (by decide +kernel), List.mem_of_getElem? (i := 808) (by decide +kernel), List.mem_of_getElem? (i := 809) (by decide +kernel)⟩
theorem lw_p26 : lw_okq (⟨"CardhouseModel", "gives", "(II)Z"⟩, 23) := ⟨⟨by decide +kernel, by decide +kernel⟩, List.mem_of_getElem? (i := 611) (by decide +kernel), List.mem_of_getElem? (i := 812) (by decide +kernel), List.mem_of_getElem? (i := 813) (by decide +kernel)⟩
theorem lw_p27 : lw_okq (⟨"CardhouseModel", "told", "(I)I"⟩, 23) := ⟨⟨by decide +kernel, by decide +kernel⟩, List.mem_of_getElem? (i := 611) (by decide +kernel), List.mem_of_getElem? (i := 820) (by decide +kernel), List.mem_of_getElem? (i := 821) (by decide +kernel)⟩
theorem lw_p28 : lw_okq (⟨"CardhouseModel", "ordersOf", "(III)I"⟩, 23) := ⟨⟨by decide +kernel, by decide +kernel⟩, List.mem_of_getElem? (i := 611) (by decide +kernel), List.mem_of_getElem? (i := 856) (by decide +kernel), List.mem_of_getElem? (i := 857) (by decide +kernel)⟩
def lw_privs_2 : List (MethodName × Nat) := [(⟨"CardhouseModel", "isCard", "(I)Z"⟩, 23), (⟨"CardhouseModel", "isIn", "(II)Z"⟩, 23), (⟨"CardhouseModel", "shuffles", "(III)V"⟩, 23), (⟨"CardhouseModel", "effect", "(IIZ)I"⟩, 23), (⟨"CardhouseModel", "wonBy", "(I)V"⟩, 23), (⟨"CardhouseModel", "opens", "(I)Z"⟩, 23), (⟨"CardhouseModel", "isOffer", "(I)Z"⟩, 23), (⟨"CardhouseModel", "first", "()I"⟩, 23), (⟨"CardhouseModel", "hasRing", "(I)Z"⟩, 23), (⟨"CardhouseModel", "fits", "(II)Z"⟩, 23), (⟨"CardhouseModel", "gives", "(II)Z"⟩, 23), (⟨"CardhouseModel", "told", "(I)I"⟩, 23), (⟨"CardhouseModel", "ordersOf", "(III)I"⟩, 23)]
theorem lw_r2 : ∀ q ∈ lw_privs_2, lw_okq q := List.forall_mem_cons.mpr ⟨lw_p16, List.forall_mem_cons.mpr ⟨lw_p17, List.forall_mem_cons.mpr ⟨lw_p18, List.forall_mem_cons.mpr ⟨lw_p19, List.forall_mem_cons.mpr ⟨lw_p20, List.forall_mem_cons.mpr ⟨lw_p21, List.forall_mem_cons.mpr ⟨lw_p22, List.forall_mem_cons.mpr ⟨lw_p23, List.forall_mem_cons.mpr ⟨lw_p24, List.forall_mem_cons.mpr ⟨lw_p25, List.forall_mem_cons.mpr ⟨lw_p26, List.forall_mem_cons.mpr ⟨lw_p27, List.forall_mem_cons.mpr ⟨lw_p28, fun _ h => absurd h List.not_mem_nil⟩⟩⟩⟩⟩⟩⟩⟩⟩⟩⟩⟩⟩
def lw_privs : List (MethodName × Nat) := lw_privs_1 ++ (lw_privs_2)
def lw_tbl : List Cond := k2_sels lw_privs ++ tables_1
theorem lw_privs_ok : ∀ q ∈ lw_privs, lw_okq q := by
  show ∀ q ∈ lw_privs_1 ++ (lw_privs_2), lw_okq q
  exact List.forall_mem_append.mpr ⟨lw_r1, lw_r2⟩
-- ===== end of PART A; then your names; then what follows =====
end
section
/-! ===== BEGIN words of one list among another's, by their places ===== -/
theorem goodIn_r {big : List Cond} (ws : List Cond) (ps : List Nat) (hp : ws = ps.filterMap (fun i => big[i]?)) (h : ws.all goodWord = true) : GoodIn big ws := by
  intro w hw
  have h1 := List.all_eq_true.mp h w hw
  rw [hp] at hw
  obtain ⟨i, -, hi⟩ := List.mem_filterMap.mp hw
  have hm : w ∈ big := by first | exact List.mem_of_getElem? hi | exact List.getElem?_mem hi
  exact ⟨hm, good_of_word h1⟩
theorem goodIn_app {big a b : List Cond} (ha : GoodIn big a) (hb : GoodIn big b) : GoodIn big (a ++ b) := fun w h => (List.mem_append.mp h).elim (ha w) (hb w)
theorem goodIn_ca {big a b : List Cond} {c : Cond} (ha : GoodIn big (c :: a)) (hb : GoodIn big b) : GoodIn big (c :: (a ++ b)) := fun w h => (List.mem_cons.mp h).elim (fun e => ha w (List.mem_cons.mpr (Or.inl e))) (fun h => (List.mem_append.mp h).elim (fun h => ha w (List.mem_cons.mpr (Or.inr h))) (hb w))
theorem goodIn_sub {big ws : List Cond} (hm : ∀ w ∈ ws, w ∈ big) (h : ws.all goodWord = true) : GoodIn big ws := fun w hw => ⟨hm w hw, good_of_word (List.all_eq_true.mp h w hw)⟩
/-! ===== END ===== -/

/-- an array over a row type: what the tables say of 'new T[n][m]' -/
def va_AOA (t : FieldType) (U : State) : Prop := (Cond.arrayOver (.array t)).before #[] U = true
theorem va_AOA.of {t : FieldType} {A : Array Value} {U : State} (h : (Cond.arrayOver (.array t)).before A U = true) : va_AOA t U := h
theorem va_AOA.use {t : FieldType} {A : Array Value} {U : State} (h : va_AOA t U) : (Cond.arrayOver (.array t)).before A U = true := h
theorem va_AOA.moved {t : FieldType} {u U : State} (hvm : u.vm.Alike U.vm) (h : va_AOA t u) : va_AOA t U := arrayOver_alikeB hvm h
/-! ===== BEGIN new T[n][m]: the outer array a place, the inner ones among the pooled ===== -/
/-- f, but v at every address of l -/
def vr_up {α : Type} (f : Nat → α) (l : List Nat) (v : α) : Nat → α := fun a => if a ∈ l then v else f a
theorem vr_up_in {α : Type} {f : Nat → α} {l : List Nat} {v : α} {a : Nat} (h : a ∈ l) : vr_up f l v a = v := if_pos h
theorem vr_up_ne {α : Type} {f : Nat → α} {l : List Nat} {v : α} {a : Nat} (h : a ∉ l) : vr_up f l v a = f a := if_neg h
theorem vr_rows {L l : List Nat} {f : Nat → va_E} {e : va_E} (h : ∀ a, a ∈ l → a ∉ L) : va_pl L f ++ l.map (fun a => (a, e)) = va_pl (L ++ l) (vr_up f l e) := by
  unfold va_pl
  rw [List.map_append]
  congr 1
  · apply List.map_congr_left
    intro a ha
    rw [vr_up_ne (fun q => h a q ha)]
  · apply List.map_congr_left
    intro a ha
    rw [vr_up_in ha]
theorem vr_lay {X rows : va_W} {x : Nat × va_E} {pl : va_W} {D : va_G} {cl : List vw_C} {H : Heap} (hP : va_P D cl (((X ++ pl) ++ [x]) ++ rows) H) : va_P D cl ((X ++ [x]) ++ (pl ++ rows)) H := by
  rw [List.append_assoc (X ++ pl)] at hP
  have h := va_P.swap hP
  rw [← List.append_assoc X] at h
  have h2 := va_P.swap h
  rw [List.append_assoc (X ++ [x])] at h2
  exact h2
theorem vr_layD {X rows : va_W} {x : Nat × va_E} {pl : va_W} {A : Nat → Prop} (hD : va_D A (((X ++ pl) ++ [x]) ++ rows)) : va_D A ((X ++ [x]) ++ (pl ++ rows)) := by
  rw [List.append_assoc (X ++ pl)] at hD
  have h := va_D.swap hD
  rw [← List.append_assoc X] at h
  have h2 := va_D.swap h
  rw [List.append_assoc (X ++ [x])] at h2
  exact h2
theorem vr_outer (c : ClassId) (N h0 : Nat) : ∀ i : Nat, Jvm.Free.Multi.outerC c N h0 i = arrV c N (fun j => va_rf (if j < i then some (h0 + 1 + j) else none))
  | 0 => by
    show ({ cls := c, slots := Array.replicate N .null, vm := .none } : Cell) = _
    rw [arrV_new]
    refine congrArg (arrV c N) (funext fun j => ?_)
    simp [va_rf]
  | i + 1 => by
    show (Jvm.Free.Multi.outerC c N h0 i).setSlot i (.ref (h0 + 1 + i)) = _
    rw [vr_outer c N h0 i, arrV_store]
    refine congrArg (arrV c N) (funext fun j => ?_)
    by_cases e : j = i
    · subst e
      simp [updV, va_rf]
    · by_cases h : j < i
      · simp [updV, e, h, Nat.lt_succ_of_lt h]
      · simp [updV, e, h, show ¬ j < i + 1 by omega]
section VGM
variable {p : Program} {l : Launch} {e : Env} {R : Room} {s : State} {m : MethodId} {args : Array Value} {below : List Frame} {meth : Method} {c : Code} {H : Heap} {locs : List Loc} {cells slots : Nat} {Q : State → Prop}
variable {cc : ByteArray} {pc : Nat} {ls : Array Slot} {rest : List Value} {D : va_G} {cl : List vw_C} {A : Nat → Prop} {a : Nat} {tys : List (ClassId × FieldType)} {ws : va_W} {H0 : Heap}
theorem va_mna {X : va_W} {L : List Nat} {f : Nat → va_E} {cc : ByteArray} (hexec : p.tables.exec = Jvm.exec) (hb : c.code = cc) {own : String} {index : Nat} {ty : FieldType} {cy : ClassId} (hown : s.vm.findClass own = some m.cls) (hclink : (Cond.classLink own index ("[" ++ (FieldType.array ty).toString)).before args s = true) (hover : va_AOA ty s) (harr : (Cond.arrayClass ty).before args s = true) (hcy : s.vm.findClass (FieldType.array ty).toString = some cy)
    (hK : va_K D cl tys s) (hP : va_P D cl (X ++ va_pl L f) H) (hD : va_D A (X ++ va_pl L f)) (hS : va_S A H0 H locs) (hA : ∀ q, H0.size ≤ q → A q) {n k : Int32} {N' K' : Nat} {z : vp_A} (hn : ¬ n < 0) (hk : ¬ k < 0) (hN : n.toNatClampNeg = N') (hM : k.toNatClampNeg = K')
    (hb1 : N' * 4 ≤ 536870912) (hb2 : K' * componentBytes ty ≤ 536870912) (hb3 : K' ≤ 536870912) (hdf : fits ty (defaultValue ty) = true) (hdd : (defaultValue ty).isDefault = true) (hcells : cells + (1 + N') ≤ R.cells) (hslots : slots + (N' + N' * K') ≤ R.slots) (hz : ∀ c : ClassId, Jvm.Free.Multi.innerC c K' (defaultValue ty) = vp_cell c z) (hdg : decode cc pc = .ok (.multianewarray index 2, 4))
    (kk : ∀ (q : Nat) (r : Nat → Nat) (cA : ClassId) (H1 : Heap), (∀ i j : Nat, i < N' → j < N' → r i = r j → i = j) → (∀ i : Nat, i < N' → r i ∉ L) → va_K D cl (tys ++ [(cA, .array ty)]) s →
      va_P D cl ((X ++ [(q, .inl (cA, N', .inr (.inr (.inr (.inr (fun i => if i < N' then some (r i) else none))))))]) ++ va_pl (L ++ (List.range N').map r) (vr_up f ((List.range N').map r) (.inl (cy, z)))) H1 → va_D A ((X ++ [(q, .inl (cA, N', .inr (.inr (.inr (.inr (fun i => if i < N' then some (r i) else none))))))]) ++ va_pl (L ++ (List.range N').map r) (vr_up f ((List.range N').map r) (.inl (cy, z)))) → va_S A H0 H1 locs →
      W p l e R s m args below meth c H1 locs (cells + 1 + N') (slots + N' + N' * K') Q (F0 m (pc + 4) ls (.ref q :: rest))) : W p l e R s m args below meth c H locs cells slots Q (F0 m pc ls (.int k :: .int n :: rest)) := by
  subst hN
  subst hM
  intro T hT Xs
  obtain ⟨vm₁, cA, comp, -, fA, fC, hO, -, X', step⟩ := Xs.multianewarray2F hexec hown hclink (va_AOA.use hover) harr (g := F0 m pc ls (.int k :: .int n :: rest)) rfl (by rw [hb]; exact hdg) rfl hn hk hb1 hb2 hb3 hdf hdd hcells hslots
  have ec : some cy = some comp := hcy.symm.trans fC
  cases ec
  generalize hF : Jvm.Free.Multi.fill (T.setVm vm₁) cA cy n.toNatClampNeg k.toNatClampNeg (defaultValue ty) n.toNatClampNeg = F at X' step
  have hTh : (T.setVm vm₁).heap = H := hT
  obtain ⟨f1, f2, -, -⟩ := Jvm.Free.Multi.fill_facts (T.setVm vm₁) cA cy n.toNatClampNeg k.toNatClampNeg (defaultValue ty) n.toNatClampNeg
  rw [hF, hTh] at f1 f2
  have hold : ∀ x : Nat, x < H.size → F.heap[x]? = H[x]? := fun x hx => by
    have := Jvm.Free.Multi.fill_old (T.setVm vm₁) cA cy n.toNatClampNeg k.toNatClampNeg (defaultValue ty) (a := x) (by rw [hTh]; exact hx) n.toNatClampNeg
    rw [hF, hTh] at this
    exact this
  have hrow : ∀ j : Nat, j < n.toNatClampNeg → F.heap[H.size + 1 + j]? = some (vp_cell cy z) := fun j hj => by
    have := Jvm.Free.Multi.fill_inner (T.setVm vm₁) cA cy n.toNatClampNeg k.toNatClampNeg (defaultValue ty) n.toNatClampNeg j hj
    rw [hF, hTh, hz] at this
    exact this
  have hout : Jvm.Free.Multi.outerC cA n.toNatClampNeg H.size n.toNatClampNeg = vp_cell cA (n.toNatClampNeg, .inr (.inr (.inr (.inr (fun i => if i < n.toNatClampNeg then some (H.size + 1 + i) else none))))) := by
    rw [vp_cell_q]
    exact vr_outer cA n.toNatClampNeg H.size n.toNatClampNeg
  rw [hout] at f2
  have hlt : ∀ a, a ∈ L → a < H.size := fun a ha => by
    obtain ⟨k9, hk9⟩ := va_pl_get (X := X) (f := f) ha
    exact (hP k9 _ hk9).lt
  have hnl : ∀ i : Nat, i < n.toNatClampNeg → H.size + 1 + i ∉ L := fun i _ h => by
    have := hlt _ h
    omega
  have hnm : ∀ a, a ∈ (List.range n.toNatClampNeg).map (fun i => H.size + 1 + i) → a ∉ L := fun a ha h => by
    obtain ⟨i, -, rfl⟩ := List.mem_map.mp ha
    have := hlt _ h
    omega
  have hP0 : va_P D cl (X ++ va_pl L f) F.heap := hP.kept (fun k9 x hx => hold x.1 ((hP k9 x hx).lt))
  have hP1 : va_P D cl ((X ++ va_pl L f) ++ [(H.size, .inl (cA, n.toNatClampNeg, .inr (.inr (.inr (.inr (fun i => if i < n.toNatClampNeg then some (H.size + 1 + i) else none))))))]) F.heap := hP0.app (fun k9 x hx => by
    have h0 : k9 < 1 := (List.getElem?_eq_some_iff.mp hx).1
    rw [show k9 = 0 by omega] at hx
    cases hx
    exact f2)
  have hP2 : va_P D cl (((X ++ va_pl L f) ++ [(H.size, .inl (cA, n.toNatClampNeg, .inr (.inr (.inr (.inr (fun i => if i < n.toNatClampNeg then some (H.size + 1 + i) else none))))))]) ++ ((List.range n.toNatClampNeg).map (fun i => H.size + 1 + i)).map (fun a => (a, .inl (cy, z)))) F.heap := hP1.app (fun k9 x hx => by
    obtain ⟨a, ha, rfl⟩ := List.mem_map.mp (List.mem_of_getElem? hx)
    obtain ⟨i, hi, rfl⟩ := List.mem_map.mp ha
    exact hrow i (List.mem_range.mp hi))
  have hD2 : va_D A (((X ++ va_pl L f) ++ [(H.size, .inl (cA, n.toNatClampNeg, .inr (.inr (.inr (.inr (fun i => if i < n.toNatClampNeg then some (H.size + 1 + i) else none))))))]) ++ ((List.range n.toNatClampNeg).map (fun i => H.size + 1 + i)).map (fun a => (a, .inl (cy, z)))) := by
    have hD1 := hD.push (e := .inl (cA, n.toNatClampNeg, .inr (.inr (.inr (.inr (fun i => if i < n.toNatClampNeg then some (H.size + 1 + i) else none)))))) hP rfl (hA _ hS.1)
    generalize hW1 : (X ++ va_pl L f) ++ [(H.size, .inl (cA, n.toNatClampNeg, .inr (.inr (.inr (.inr (fun i => if i < n.toNatClampNeg then some (H.size + 1 + i) else none))))))] = W1 at hD1 hP1 ⊢
    have hle : ∀ (k9 : Nat) (x : Nat × va_E), W1[k9]? = some x → x.1 ≤ H.size := fun k9 x hx => by
      rw [← hW1] at hx
      by_cases hl : k9 < (X ++ va_pl L f).length
      · rw [List.getElem?_append_left hl] at hx
        exact Nat.le_of_lt ((hP k9 x hx).lt)
      · rw [List.getElem?_append_right (by omega)] at hx
        have h0 : k9 - (X ++ va_pl L f).length < 1 := (List.getElem?_eq_some_iff.mp hx).1
        rw [show k9 - (X ++ va_pl L f).length = 0 by omega] at hx
        cases hx
        exact Nat.le_refl _
    have hr : ∀ (k9 : Nat) (x : Nat × va_E), (((List.range n.toNatClampNeg).map (fun i => H.size + 1 + i)).map (fun a => ((a, .inl (cy, z)) : Nat × va_E)))[k9]? = some x → x.1 = H.size + 1 + k9 := fun k9 x hx => by
      rw [List.getElem?_map, List.getElem?_map] at hx
      by_cases h9 : k9 < n.toNatClampNeg
      · rw [List.getElem?_range h9] at hx
        cases hx
        rfl
      · have hn0 : (List.range n.toNatClampNeg)[k9]? = none := List.getElem?_eq_none (by rw [List.length_range]; omega)
        rw [hn0] at hx
        cases hx
    refine ⟨fun i j x y hi hj hxy => ?_, fun k9 x hx => ?_⟩
    · by_cases h1 : i < W1.length <;> by_cases h2 : j < W1.length
      · rw [List.getElem?_append_left h1] at hi
        rw [List.getElem?_append_left h2] at hj
        exact hD1.1 i j x y hi hj hxy
      · rw [List.getElem?_append_left h1] at hi
        rw [List.getElem?_append_right (by omega)] at hj
        have := hle _ _ hi
        have := hr _ _ hj
        omega
      · rw [List.getElem?_append_right (by omega)] at hi
        rw [List.getElem?_append_left h2] at hj
        have := hle _ _ hj
        have := hr _ _ hi
        omega
      · rw [List.getElem?_append_right (by omega)] at hi hj
        have := hr _ _ hi
        have := hr _ _ hj
        omega
    · by_cases h1 : k9 < W1.length
      · rw [List.getElem?_append_left h1] at hx
        exact hD1.2 k9 x hx
      · rw [List.getElem?_append_right (by omega)] at hx
        have := hr _ _ hx
        exact hA _ (by have := hS.1; omega)
  have hAr : ArrOfT s cA (.array ty) := fun N9 z9 => by
    obtain ⟨-, k9, hk9, cm9, hkk9⟩ := (hO 0 0 0).1
    exact ⟨(fun q hq => by cases hq), k9, hk9, cm9, hkk9⟩
  have hK2 : va_K D cl (tys ++ [(cA, .array ty)]) s := ⟨hK.1, fun k9 x hx => by
    by_cases hl : k9 < tys.length
    · rw [List.getElem?_append_left hl] at hx
      exact hK.2 k9 x hx
    · rw [List.getElem?_append_right (by omega)] at hx
      have h0 : k9 - tys.length < 1 := (List.getElem?_eq_some_iff.mp hx).1
      rw [show k9 - tys.length = 0 by omega] at hx
      cases hx
      exact ⟨hAr, fA⟩⟩
  obtain ⟨t, a1, b1⟩ := kk H.size (fun i => H.size + 1 + i) cA F.heap (fun i j _ _ h => by have h9 : H.size + 1 + i = H.size + 1 + j := h; omega) hnl hK2 (by rw [← vr_rows hnm]; exact vr_lay hP2) (by rw [← vr_rows hnm]; exact vr_layD hD2) ⟨by rw [f1]; have := hS.1; omega, fun x h1 h2 => (hold x (Nat.lt_of_lt_of_le h1 hS.1)).trans (hS.2.1 x h1 h2), hS.2.2⟩ F rfl X'
  refine ⟨t, step t ?_, b1⟩
  have e : T.heap.size = H.size := by rw [hT]
  rw [e]
  exact a1
end VGM
/-! ===== END ===== -/

/-! ===== BEGIN exceptions that leave a method, and their catching by the caller (launches without stack traces) ===== -/
section VXA
/-! The laws vx_back, vx_callV, vx_callS, vx_callSW, vx_throw0, vx_throwS follow proofs of the library, with one case more: JvmDerived/Free/Laws.lean (Back.of_free), Shelf42/LK1.lean (callV, callS), Shelf/KitTraced.lean (throwNew0V, throwNewS). -/
/-- where a method has thrown q: the class by its name, the cell, what was written, the world -/
def vx_T (XC : String → State → State → Prop) (st : State) (q : Addr) (t : State) (mc ms : Nat) (free : Addr → Prop) : Prop :=
  ∃ (E : String) (ce : Cell) (L : List Loc), XC E st t ∧ t.heap[q]? = some ce ∧ ce.vm = .none ∧ st.vm.findClass E = some ce.cls ∧ st.WarmedH t.vm ∧ st.sameButNew ({ t with vm := st.vm } : State) L mc ms ∧ ∀ z ∈ L, free z.base
def vx_Q (Qc : Array Value → State → Outcome → State → Prop) (XC : String → State → State → Prop) (mc ms : Nat) (free : Addr → Prop) : Array Value → State → Outcome → State → Prop := fun a st o t =>
  (Qc a st o t ∧ ∃ L, FrameEnd st o t L mc ms ∧ ∀ q ∈ L, free q.base) ∨ ∃ q, o = .threw q ∧ vx_T XC st q t mc ms free
/-- a callee that returns or throws -/
def vx_Met (l : Launch) (y : MethodName) (ws : List Cond) (rm : Room) (Pc : Array Value → State → Prop) (Qc : Array Value → State → Outcome → State → Prop) (XC : String → State → State → Prop) (mc ms : Nat) (free : Addr → Prop) : Prop :=
  MetFree l y (headSpec ws rm) Pc (fun _ _ _ _ _ => True) (vx_Q Qc XC mc ms free)
def vx_Post (XC : String → State → State → Prop) (mc ms : Nat) (free : Addr → Prop) : Pt → Array Value → Addr → Pt → Prop := fun A a q B =>
  ∃ (g : JFrame) (mk : MethodId) (t : State) (L : List Loc) (E : String) (ce : Cell), B.U.heap = t.heap ∧ B.U.vm = t.vm ∧ XC E (A.U.calling g mk a) t ∧ t.heap[q]? = some ce ∧ ce.vm = .none ∧ A.U.vm.findClass E = some ce.cls ∧ B.locs = A.locs ++ L ∧ (∀ z ∈ L, free z.base) ∧ B.cells = A.cells + mc ∧ B.slots = A.slots + ms
def vx_Back (l : Launch) (R : Room) (p : Program) (e : Env) (below : List Frame) (s : State) (sargs : Array Value) (y : MethodName) (len W9 : Nat)
    (Pre : Pt → Array Value → Prop) (Post : Pt → Array Value → Option Value → Pt → Prop) (PostX : Pt → Array Value → Addr → Pt → Prop) : Prop :=
  ∀ (m : MethodId) (meth : Method) (c : Code) (A : Pt) (g : JFrame) (ig : Instr) (mk : MethodId) (a : Array Value),
    Stand p l e R s m sargs below meth c A.U A.locs A.cells A.slots → g.method = m → g.locals.size = c.maxLocals → decode c.code g.pc = .ok (ig, len) →
    2 * g.monitorRoom + (g.stack.map fun v => v.category).sum ≤ W9 → A.U.methodNamed? y = some mk → Pre A a →
    (∃ (v : Option Value) (B : Pt), Stand p l e R s m sargs below meth c B.U B.locs B.cells B.slots ∧ Post A a v B ∧
      Steps p.tables e below (doInvoke e (A.U.setTop g) [] mk a).1 (B.U.setTop { g with pc := g.pc + len, stack := v.toList ++ g.stack })) ∨
    (∃ (q : Addr) (B : Pt), Stand p l e R s m sargs below meth c B.U B.locs B.cells B.slots ∧ PostX A a q B ∧
      Steps p.tables e below (doInvoke e (A.U.setTop g) [] mk a).1 ((B.U.setTop g).pushFrame (.throwing q)))
section Payer
variable {l : Launch} {R : Room} {p : Program} {e : Env} {below : List Frame} {s : State} {sargs : Array Value} {y : MethodName} {len W9 : Nat}
theorem vx_back {ws : List Cond} {rm : Room} {Pc : Array Value → State → Prop} {Qc : Array Value → State → Outcome → State → Prop} {XC : String → State → State → Prop} {mc ms : Nat} {free : Addr → Prop} {bytes : ByteArray} {maxL : Nat} {ret : Option FieldType}
    (hM : vx_Met l y ws rm Pc Qc XC mc ms free) (hblind : FrameBlind Pc) (hrc : rm.cells = mc) (hrs : rm.slots = ms)
    (hframes : rm.frames + 1 ≤ R.frames) (hlocals : W9 + (maxL + 11) + rm.locals ≤ R.locals)
    (hws : ∀ w ∈ ws, ∀ a' U, s.WarmedH U.vm → w.before a' U = true) (hcode : Cond.code y bytes maxL ret ∈ ws) (hinit : ∀ a' U, s.WarmedH U.vm → (Cond.initialized y.cls).before a' U = true) :
    vx_Back l R p e below s sargs y len W9 (PreOf R mc ms Pc) (PostOf Qc mc ms free) (vx_Post XC mc ms free) := by
  intro m meth c A g ig mk a X hg hsize hdg hW hn hp
  have h1 : (headSpec ws rm).pre.before a A.U = true := atoms_intro fun w hw => hws w hw _ _ X.warmed
  have h2 : (Cond.code y bytes maxL ret).before a A.U = true := hws _ hcode _ _ X.warmed
  have h3 : (Cond.initialized y.cls).before a A.U = true := hinit _ _ X.warmed
  have h4 : A.cells + (headSpec ws rm).room.cells ≤ R.cells := by rw [show (headSpec ws rm).room.cells = mc from hrc]; exact hp.1
  have h5 : A.slots + (headSpec ws rm).room.slots ≤ R.slots := by rw [show (headSpec ws rm).room.slots = ms from hrs]; exact hp.2.1
  have hPc : Pc a (A.U.calling g mk a) := hblind _ _ _ _ hp.2.2
  obtain ⟨U, Ls, c0, s0⟩ := A
  dsimp only [Pt.U, Pt.locs, Pt.cells, Pt.slots] at h1 h2 h3 h4 h5 X hn hPc ⊢
  obtain ⟨methY, cY, hmY, hcY, -, hlY, -, -, -, -⟩ := Cond.code_spec hn h2
  obtain ⟨kY, hkY, -⟩ := className_of_methodNamed hn
  have hinitY : kY.init = .initialized := Cond.initialized_spec (findClass_of_methodNamed hn) hkY h3
  have h : At U g.method c below := by rw [hg]; exact X.here
  have hlocals9 : W9 + (maxL + 11) + (headSpec ws rm).room.locals ≤ R.locals := hlocals
  have happ : (headSpec ws rm).appliesLoose y e.platform (U.calling g mk a) = true :=
    Spec.appliesLoose_calling (g := g) h hdg hn hkY hinitY
      (X.room_calling (g := g) (R' := (headSpec ws rm).room) hsize hmY hcY hframes (by rw [hlY]; omega) h4 h5) h1
  obtain ⟨mid, hmid⟩ := h.above
  have hfr : (U.setTop g).frames = (.java g :: mid) ++ below := by rw [State.frames_setTop' g h.top, hmid]; rfl
  obtain ⟨o, s₂, hsteps, -, hend, hq⟩ := Steps.callFree hM p X.admits X.cas X.clock (acts := []) hfr happ hPc trivial
  have hq' : vx_Q Qc XC mc ms free a (U.calling g mk a) o s₂ := hq
  rw [State.frames_setTop' g h.top] at hend
  obtain ⟨g₀, hg0⟩ := Option.isSome_iff_exists.mp h.top
  obtain ⟨r, hr⟩ := State.topJava?_eq_some.mp hg0
  have hr' : (({ U with heap := s₂.heap, slotsUsed := s₂.slotsUsed } : State).setVm s₂.vm).frames = .java g₀ :: r := hr
  rcases hq' with ⟨hqc, L, hfe, hL⟩ | ⟨q, rfl, E, ce, L, hx, hce, hcv, hcl, hW₂, hsm, hL⟩
  · obtain ⟨⟨v, rfl⟩, hW₂, e2, q2, q3, q4, q5, q6⟩ := id hfe
    have e3 : s₂ = ({ (U.calling g mk a).setFrames s₂.frames with heap := s₂.heap, slotsUsed := s₂.slotsUsed } : State).setVm s₂.vm := by
      have : s₂ = ({ s₂ with vm := (U.calling g mk a).vm } : State).setVm s₂.vm := rfl
      rw [e2] at this
      exact this
    obtain ⟨c₂, i₂, len₂, hc₂, hd₂, hf₂⟩ := hend
    have hW' : U.WarmedH s₂.vm := hW₂
    have hcc : c₂ = c := by
      have h1 : s₂.code? g.method = U.code? g.method := by
        rw [State.code?_eq, State.code?_eq, hW'.alike.method?]
      exact Option.some.inj (hc₂.symm.trans (h1.trans h.code))
    subst hcc
    have hlen : len₂ = len := by rw [hdg] at hd₂; cases hd₂; rfl
    subst hlen
    have hs₂ : s₂ = (({ U with heap := s₂.heap, slotsUsed := s₂.slotsUsed } : State).setVm s₂.vm).setTop { g with pc := g.pc + len₂, stack := v.toList ++ g.stack } := by
      refine e3.trans ?_
      rw [hf₂, State.calling_eq h.top, State.setFrames_setFrames, State.setTop_of_frames _ hr', hr]
      rfl
    have hsame : U.sameButNew ({ U with heap := s₂.heap, slotsUsed := s₂.slotsUsed } : State) L mc ms := by
      refine ⟨?_, q2, q3, q4, q5, q6⟩
      obtain ⟨t, ht, -⟩ := State.frames_cons hr
      show ({ U with heap := s₂.heap, slotsUsed := s₂.slotsUsed } : State) = { U.setFrames U.frames with heap := s₂.heap, slotsUsed := s₂.slotsUsed }
      rw [State.setFrames_self ht]
    subst hg
    refine Or.inl ⟨v, ⟨(({ U with heap := s₂.heap, slotsUsed := s₂.slotsUsed } : State).setVm s₂.vm), Ls ++ L, c0 + mc, s0 + ms⟩,
      ⟨X.admits, X.cas, X.clock, X.frames, X.room, X.hears, X.method, X.code, (X.here.setHeapUsed s₂.heap s₂.slotsUsed).setVm hW'.alike, X.tail, State.WarmedH.trans X.warmed hW', X.limits, X.bytes, X.same.trans (hsame.setVm s.vm)⟩,
      ⟨g, mk, s₂, L, rfl, rfl, hqc, rfl, hL, rfl, rfl⟩, ?_⟩
    show Steps p.tables e below _ ((({ U with heap := s₂.heap, slotsUsed := s₂.slotsUsed } : State).setVm s₂.vm).setTop { g with pc := g.pc + len₂, stack := v.toList ++ g.stack })
    rw [← hs₂]
    exact hsteps
  · obtain ⟨e2, q2, q3, q4, q5, q6⟩ := id hsm
    have e3 : s₂ = ({ (U.calling g mk a).setFrames s₂.frames with heap := s₂.heap, slotsUsed := s₂.slotsUsed } : State).setVm s₂.vm := by
      have : s₂ = ({ s₂ with vm := (U.calling g mk a).vm } : State).setVm s₂.vm := rfl
      rw [e2] at this
      exact this
    have hf₂ : s₂.frames = .throwing q :: .java g :: U.frames.tail := hend
    have hW' : U.WarmedH s₂.vm := hW₂
    have hs₂ : s₂ = ((({ U with heap := s₂.heap, slotsUsed := s₂.slotsUsed } : State).setVm s₂.vm).setTop g).pushFrame (.throwing q) := by
      refine e3.trans ?_
      rw [hf₂, State.calling_eq h.top, State.setFrames_setFrames, State.pushFrame, State.frames_setTop _ hr', State.setTop_of_frames _ hr', State.setFrames_setFrames, hr]
      rfl
    have hsame : U.sameButNew ({ U with heap := s₂.heap, slotsUsed := s₂.slotsUsed } : State) L mc ms := by
      refine ⟨?_, q2, q3, q4, q5, q6⟩
      obtain ⟨t, ht, -⟩ := State.frames_cons hr
      show ({ U with heap := s₂.heap, slotsUsed := s₂.slotsUsed } : State) = { U.setFrames U.frames with heap := s₂.heap, slotsUsed := s₂.slotsUsed }
      rw [State.setFrames_self ht]
    subst hg
    refine Or.inr ⟨q, ⟨(({ U with heap := s₂.heap, slotsUsed := s₂.slotsUsed } : State).setVm s₂.vm), Ls ++ L, c0 + mc, s0 + ms⟩,
      ⟨X.admits, X.cas, X.clock, X.frames, X.room, X.hears, X.method, X.code, (X.here.setHeapUsed s₂.heap s₂.slotsUsed).setVm hW'.alike, X.tail, State.WarmedH.trans X.warmed hW', X.limits, X.bytes, X.same.trans (hsame.setVm s.vm)⟩,
      ⟨g, mk, s₂, L, E, ce, rfl, rfl, hx, hce, hcv, hcl, rfl, hL, rfl, rfl⟩, ?_⟩
    show Steps p.tables e below _ (((({ U with heap := s₂.heap, slotsUsed := s₂.slotsUsed } : State).setVm s₂.vm).setTop g).pushFrame (.throwing q))
    rw [← hs₂]
    exact hsteps
end Payer
section Calls
variable {p : Program} {l : Launch} {e : Env} {R : Room} {s : State} {m : MethodId} {args : Array Value} {below : List Frame} {meth : Method} {c : Code} {T : State} {locs : List Loc} {cells slots : Nat}
theorem vx_callV (X : Stand p l e R s m args below meth c T locs cells slots) (hexec : p.tables.exec = Jvm.exec) {own C : String} {index : Nat} {y : MethodName} {bytes : ByteArray} {maxL : Nat} {ret : Option FieldType}
    (hown : s.vm.findClass own = some m.cls) (hlink : (Cond.methodLink own index y).before args s = true) (hinst : (Cond.instanceMethod y).before args s = true) (hsel : (Cond.selects C y y).before args s = true)
    (hcode : (Cond.code y bytes maxL ret).before args s = true) (hy : y.cls ≠ "java/lang/invoke/MethodHandle" ∧ y.cls ≠ "java/lang/invoke/VarHandle")
    {W9 : Nat} {Pre : Pt → Array Value → Prop} {Post : Pt → Array Value → Option Value → Pt → Prop} {PostX : Pt → Array Value → Addr → Pt → Prop} (hK : vx_Back l R p e below s args y 3 W9 Pre Post PostX)
    {b : Addr} {cellB : Cell} (hcell : T.heap[b]? = some cellB) (hobj : cellB.vm.isStatics = false) (hcls : s.vm.findClass C = some cellB.cls)
    {g : JFrame} (hg : g.method = m) (hsize : g.locals.size = c.maxLocals) {argsL rest : List Value} (hlen : ∀ sig, parseMethodDescriptor y.desc = some sig → argsL.length = sig.parameters.length)
    (hstack : g.stack = argsL.reverse ++ .ref b :: rest) (hW : 2 * g.monitorRoom + (rest.map fun v => v.category).sum ≤ W9) (hdg : decode c.code g.pc = .ok (.invokevirtual index, 3))
    (hpre : ∀ vm₁, s.WarmedH vm₁ → Pre ⟨T.setVm vm₁, locs, cells, slots⟩ (Value.ref b :: argsL).toArray) :
    (∃ (v : Option Value) (vm₁ : Vm) (B : Pt), s.WarmedH vm₁ ∧ Stand p l e R s m args below meth c B.U B.locs B.cells B.slots ∧ Post ⟨T.setVm vm₁, locs, cells, slots⟩ (Value.ref b :: argsL).toArray v B ∧
      ∀ target, Steps p.tables e below (B.U.setTop { g with pc := g.pc + 3, stack := v.toList ++ rest }) target → Steps p.tables e below (T.setTop g) target) ∨
    (∃ (q : Addr) (vm₁ : Vm) (B : Pt), s.WarmedH vm₁ ∧ Stand p l e R s m args below meth c B.U B.locs B.cells B.slots ∧ PostX ⟨T.setVm vm₁, locs, cells, slots⟩ (Value.ref b :: argsL).toArray q B ∧
      Steps p.tables e below (T.setTop g) ((B.U.setTop { g with stack := rest }).pushFrame (.throwing q))) := by
  obtain ⟨mk, methM, hnamed, hmethM, hstM, habM⟩ := Cond.instanceMethod_spec hinst
  obtain ⟨methM', cM, hmethM', -, -, -, -, -, -, hsigM⟩ := Cond.code_spec hnamed hcode
  cases hmethM.symm.trans hmethM'
  obtain ⟨c2, r2, m2, q1, q2, q3, q4, kP, hkP, hkPi⟩ := Cond.selects_spec hsel
  cases hcls.symm.trans q1
  cases (State.methodFound?_of_named hnamed hy).symm.trans q2
  cases hnamed.symm.trans q3
  have hselP : selectMethod e.platform s.vm cellB.cls mk = .method mk := by rw [Launch.admits_selectMethod X.admits]; exact q4
  obtain ⟨vm₁, X₁, hstep₁⟩ := X.invokevirtual hexec hown hlink hnamed hmethM hstM hkP hkPi hy (a := b) (cell := cellB) hcell
    (fun z h => by rw [h] at hobj; cases hobj) hselP hmethM habM hkP hkPi (g := g) hg (argsL := argsL) (rest := rest) (hlen _ hsigM) hstack hdg
  rcases hK m meth c ⟨T.setVm vm₁, locs, cells, slots⟩ { g with stack := rest } (.invokevirtual index) mk (Value.ref b :: argsL).toArray X₁ hg hsize hdg hW (X₁.named hnamed) (hpre vm₁ X₁.warmed) with ⟨v, B, X', hpost, hsteps⟩ | ⟨q, B, X', hpost, hsteps⟩
  · exact Or.inl ⟨v, vm₁, B, X₁.warmed, X', hpost, fun target h => hstep₁ _ fun acts => by rw [doInvoke_state]; exact hsteps.trans h⟩
  · exact Or.inr ⟨q, vm₁, B, X₁.warmed, X', hpost, hstep₁ _ fun acts => by rw [doInvoke_state]; exact hsteps⟩
theorem vx_callS (X : Stand p l e R s m args below meth c T locs cells slots) (hexec : p.tables.exec = Jvm.exec) {own : String} {index : Nat} {y : MethodName} {bytes : ByteArray} {maxL : Nat} {ret : Option FieldType}
    (hown : s.vm.findClass own = some m.cls) (hlink : (Cond.methodLink own index y).before args s = true) (hstat : (Cond.static y).before args s = true) (hinit : (Cond.initialized y.cls).before args s = true)
    (hcode : (Cond.code y bytes maxL ret).before args s = true) (hy : y.cls ≠ "java/lang/invoke/MethodHandle" ∧ y.cls ≠ "java/lang/invoke/VarHandle")
    {W9 : Nat} {Pre : Pt → Array Value → Prop} {Post : Pt → Array Value → Option Value → Pt → Prop} {PostX : Pt → Array Value → Addr → Pt → Prop} (hK : vx_Back l R p e below s args y 3 W9 Pre Post PostX)
    {g : JFrame} (hg : g.method = m) (hsize : g.locals.size = c.maxLocals) {argsL rest : List Value} (hlen : ∀ sig, parseMethodDescriptor y.desc = some sig → argsL.length = sig.parameters.length)
    (hstack : g.stack = argsL.reverse ++ rest) (hW : 2 * g.monitorRoom + (rest.map fun v => v.category).sum ≤ W9) (hdg : decode c.code g.pc = .ok (.invokestatic index, 3))
    (hpre : ∀ vm₁, s.WarmedH vm₁ → Pre ⟨T.setVm vm₁, locs, cells, slots⟩ argsL.toArray) :
    (∃ (v : Option Value) (vm₁ : Vm) (B : Pt), s.WarmedH vm₁ ∧ Stand p l e R s m args below meth c B.U B.locs B.cells B.slots ∧ Post ⟨T.setVm vm₁, locs, cells, slots⟩ argsL.toArray v B ∧
      ∀ target, Steps p.tables e below (B.U.setTop { g with pc := g.pc + 3, stack := v.toList ++ rest }) target → Steps p.tables e below (T.setTop g) target) ∨
    (∃ (q : Addr) (vm₁ : Vm) (B : Pt), s.WarmedH vm₁ ∧ Stand p l e R s m args below meth c B.U B.locs B.cells B.slots ∧ PostX ⟨T.setVm vm₁, locs, cells, slots⟩ argsL.toArray q B ∧
      Steps p.tables e below (T.setTop g) ((B.U.setTop { g with stack := rest }).pushFrame (.throwing q))) := by
  obtain ⟨mk, hnamed⟩ := Cond.code_named hcode
  obtain ⟨methM, cM, hmethM, -, -, -, -, -, -, hsigM⟩ := Cond.code_spec hnamed hcode
  have hstatic : methM.isStatic = true := Cond.static_spec hnamed hmethM hstat
  obtain ⟨kP, hkP, -⟩ := className_of_methodNamed hnamed
  have hinitP : kP.init = .initialized := Cond.initialized_spec (findClass_of_methodNamed hnamed) hkP hinit
  obtain ⟨vm₁, X₁, hstep₁⟩ := X.invokestatic hexec hown hlink hnamed hmethM hstatic hkP hinitP hy (g := g) hg (argsL := argsL) (rest := rest) (hlen _ hsigM) hstack hdg
  rcases hK m meth c ⟨T.setVm vm₁, locs, cells, slots⟩ { g with stack := rest } (.invokestatic index) mk argsL.toArray X₁ hg hsize hdg hW (X₁.named hnamed) (hpre vm₁ X₁.warmed) with ⟨v, B, X', hpost, hsteps⟩ | ⟨q, B, X', hpost, hsteps⟩
  · exact Or.inl ⟨v, vm₁, B, X₁.warmed, X', hpost, fun target h => hstep₁ _ fun acts => by rw [doInvoke_state]; exact hsteps.trans h⟩
  · exact Or.inr ⟨q, vm₁, B, X₁.warmed, X', hpost, hstep₁ _ fun acts => by rw [doInvoke_state]; exact hsteps⟩
end Calls
theorem vx_cls {s : State} {T : State} {vm₁ : Vm} {E : String} {k : ClassId} (hW : s.WarmedH vm₁) (h : (T.setVm vm₁).vm.findClass E = some k) : s.vm.findClass E = some k := by
  have h1 : vm₁.findClass E = some k := h
  rw [hW.alike.findClass] at h1
  exact h1
/-- the method's frame g, with q thrown over it -/
def vx_W (p : Program) (l : Launch) (e : Env) (R : Room) (s : State) (m : MethodId) (args : Array Value) (below : List Frame) (meth : Method) (c : Code) (H : Heap) (locs : List Loc) (cells slots : Nat) (Q : State → Prop) (g : JFrame) (q : Addr) : Prop :=
  ∀ T : State, T.heap = H → Stand p l e R s m args below meth c T locs cells slots → ∃ t, Steps p.tables e below ((T.setTop g).pushFrame (.throwing q)) t ∧ Q t
def vx_Run (p : Program) (l : Launch) (e : Env) (R : Room) (s : State) (m : MethodId) (args : Array Value) (below : List Frame) (meth : Method) (c : Code) (H : Heap) (locs : List Loc) (cells slots mc ms : Nat) (g : JFrame) (rest : List Value) (Qa : State → Outcome → State → Prop) (XC : String → State → State → Prop) (free : Addr → Prop) : Prop :=
  ∀ T : State, T.heap = H → Stand p l e R s m args below meth c T locs cells slots →
    (∃ (v : Option Value) (st₀ t T' : State) (L : List Loc), st₀.heap = H ∧ Stand p l e R s m args below meth c T' (locs ++ L) (cells + mc) (slots + ms) ∧ (∀ q ∈ L, free q.base) ∧ T'.heap = t.heap ∧ T'.vm = t.vm ∧ Qa st₀ (.returned v) t ∧
      Goes p e below T g T' { g with pc := g.pc + 3, stack := v.toList ++ rest }) ∨
    (∃ (q : Addr) (st₀ t T' : State) (L : List Loc) (E : String) (ce : Cell), st₀.heap = H ∧ Stand p l e R s m args below meth c T' (locs ++ L) (cells + mc) (slots + ms) ∧ (∀ z ∈ L, free z.base) ∧ T'.heap = t.heap ∧ T'.vm = t.vm ∧ XC E st₀ t ∧ t.heap[q]? = some ce ∧ ce.vm = .none ∧ s.vm.findClass E = some ce.cls ∧
      Steps p.tables e below (T.setTop g) ((T'.setTop { g with stack := rest }).pushFrame (.throwing q)))
def vx_X {S : Type} (px : S → Prop) (B : String → S → State → Prop) (A : Nat → Prop) : String → State → State → Prop := fun E st t => ∃ u : S, px u ∧ B E u t ∧ va_F A st t
section Runs
variable {p : Program} {l : Launch} {e : Env} {R : Room} {s : State} {m : MethodId} {args : Array Value} {below : List Frame} {meth : Method} {c : Code} {H : Heap} {locs : List Loc} {cells slots : Nat}
variable {y : MethodName} {bytes cc : ByteArray} {maxL nL mc ms n index : Nat} {ret : Option FieldType} {ws : List Cond} {rm : Room} {Pc : Array Value → State → Prop} {Qc : Array Value → State → Outcome → State → Prop} {XC : String → State → State → Prop} {free : Addr → Prop} {Ts : List Cond} {own C : String} {b : Addr} {As rest : List Value} {g : JFrame}
theorem vx_callBack (cb : CallB R s args own index y bytes maxL ret ws rm mc ms n) (hM : vx_Met l y ws rm Pc Qc XC mc ms free) (hbl : FrameBlind Pc) : vx_Back l R p e below s args y 3 8 (PreOf R mc ms Pc) (PostOf Qc mc ms free) (vx_Post XC mc ms free) := by
  obtain ⟨hrc, hrs, hfr, hlo, hws, hcw, -, hini, -⟩ := cb
  exact vx_back (bytes := bytes) (maxL := maxL) (ret := ret) hM hbl hrc hrs hfr hlo hws hcw (fun a' U hW => word_at hW (Or.inl (by first | rfl | simp [Cond.onTables, Cond.keeps, Cond.steady])) hini)
theorem vx_runV (S : CallFix p m c cc nL s args Ts own) (hM : vx_Met l y ws rm Pc Qc XC mc ms free) (cw : CallW R s args own C index y bytes maxL ret ws rm mc ms n) (hp : PreV s H C b Pc As)
    (hg : g.method = m) (hn : As.length = n) (hsize : g.locals.size = nL) (hstack : g.stack = As.reverse ++ .ref b :: rest) (hW : 2 * g.monitorRoom + (rest.map fun v => v.category).sum ≤ 8) (hdg : decode cc g.pc = .ok (.invokevirtual index, 3)) (hf : cells + mc ≤ R.cells ∧ slots + ms ≤ R.slots) :
    vx_Run p l e R s m args below meth c H locs cells slots mc ms g rest (Qc (Value.ref b :: As).toArray) XC free := by
  have hK : vx_Back l R p e below s args y 3 8 (PreOf R mc ms Pc) (PostOf Qc mc ms free) (vx_Post XC mc ms free) := vx_callBack cw.1 hM hp.1
  obtain ⟨⟨-, -, -, -, -, -, hcode, -, hy, hlen, hl⟩, hin, hse⟩ := cw
  obtain ⟨hx, hb, hml, ho, -⟩ := S
  obtain ⟨-, ⟨cellB, hcB, hoB, hclB⟩, hPc⟩ := hp
  intro T hT X
  rcases vx_callV X hx (C := C) (bytes := bytes) (maxL := maxL) (ret := ret) ho hl hin hse hcode hy hK (by rw [hT]; exact hcB) hoB hclB hg (hsize.trans hml.symm) (argsL := As) (rest := rest) (fun sig h => hn.trans (hlen sig h)) hstack hW (by rw [hb]; exact hdg)
    (fun vm₁ hW₁ => ⟨hf.1, hf.2, hPc (T.setVm vm₁) hT hW₁⟩) with ⟨v, vm₁, ⟨U', l2, c2, s2⟩, hW₁, X', ⟨g', mk, t, L, e1, e2, hq, h1, hL, h2, h3⟩, st⟩ | ⟨q, vm₁, ⟨U', l2, c2, s2⟩, hW₁, X', ⟨g', mk, t, L, E, ce, e1, e2, hq, hce, hcv, hcl, h1, hL, h2, h3⟩, st⟩
  · dsimp only [Pt.U, Pt.locs, Pt.cells, Pt.slots] at X' e1 e2 h1 h2 h3 st
    subst h1; subst h2; subst h3
    exact Or.inl ⟨v, (T.setVm vm₁).calling g' mk (Value.ref b :: As).toArray, t, U', L, hT, X', hL, e1, e2, hq, st⟩
  · dsimp only [Pt.U, Pt.locs, Pt.cells, Pt.slots] at X' e1 e2 h1 h2 h3 st hcl
    subst h1; subst h2; subst h3
    exact Or.inr ⟨q, (T.setVm vm₁).calling g' mk (Value.ref b :: As).toArray, t, U', L, E, ce, hT, X', hL, e1, e2, hq, hce, hcv, vx_cls hW₁ hcl, st⟩
theorem vx_runS (S : CallFix p m c cc nL s args Ts own) (hM : vx_Met l y ws rm Pc Qc XC mc ms free) (cw : CallB R s args own index y bytes maxL ret ws rm mc ms n ∧ (Cond.static y).before args s = true) (hp : PreS s H Pc As)
    (hg : g.method = m) (hn : As.length = n) (hsize : g.locals.size = nL) (hstack : g.stack = As.reverse ++ rest) (hW : 2 * g.monitorRoom + (rest.map fun v => v.category).sum ≤ 8) (hdg : decode cc g.pc = .ok (.invokestatic index, 3)) (hf : cells + mc ≤ R.cells ∧ slots + ms ≤ R.slots) :
    vx_Run p l e R s m args below meth c H locs cells slots mc ms g rest (Qc As.toArray) XC free := by
  have hK : vx_Back l R p e below s args y 3 8 (PreOf R mc ms Pc) (PostOf Qc mc ms free) (vx_Post XC mc ms free) := vx_callBack cw.1 hM hp.1
  obtain ⟨⟨-, -, -, -, -, -, hcode, hini, hy, hlen, hl⟩, hstt⟩ := cw
  obtain ⟨hx, hb, hml, ho, -⟩ := S
  intro T hT X
  rcases vx_callS X hx (bytes := bytes) (maxL := maxL) (ret := ret) ho hl hstt hini hcode hy hK hg (hsize.trans hml.symm) (argsL := As) (rest := rest) (fun sig h => hn.trans (hlen sig h)) hstack hW (by rw [hb]; exact hdg)
    (fun vm₁ hW₁ => ⟨hf.1, hf.2, hp.2 (T.setVm vm₁) hT hW₁⟩) with ⟨v, vm₁, ⟨U', l2, c2, s2⟩, hW₁, X', ⟨g', mk, t, L, e1, e2, hq, h1, hL, h2, h3⟩, st⟩ | ⟨q, vm₁, ⟨U', l2, c2, s2⟩, hW₁, X', ⟨g', mk, t, L, E, ce, e1, e2, hq, hce, hcv, hcl, h1, hL, h2, h3⟩, st⟩
  · dsimp only [Pt.U, Pt.locs, Pt.cells, Pt.slots] at X' e1 e2 h1 h2 h3 st
    subst h1; subst h2; subst h3
    exact Or.inl ⟨v, (T.setVm vm₁).calling g' mk As.toArray, t, U', L, hT, X', hL, e1, e2, hq, st⟩
  · dsimp only [Pt.U, Pt.locs, Pt.cells, Pt.slots] at X' e1 e2 h1 h2 h3 st hcl
    subst h1; subst h2; subst h3
    exact Or.inr ⟨q, (T.setVm vm₁).calling g' mk As.toArray, t, U', L, E, ce, hT, X', hL, e1, e2, hq, hce, hcv, vx_cls hW₁ hcl, st⟩
end Runs
section Rows
variable {p : Program} {l : Launch} {e : Env} {R : Room} {s : State} {m : MethodId} {args : Array Value} {below : List Frame} {meth : Method} {c : Code} {H : Heap} {locs : List Loc} {cells slots : Nat} {Q : State → Prop}
variable {mc ms : Nat} {free : Addr → Prop} {A0 A1 : Nat → Prop} {H0 : Heap} {a : Array Value} {pc : Nat} {ls : Array Slot} {st0 rest : List Value}
theorem vx_keep {st₀ t T' : State} {L : List Loc} (h0 : st₀.heap = H) (e1 : T'.heap = t.heap) (hS : va_S A0 H0 H locs) (hA : ∀ q, q < H.size → A1 q → A0 q) (hf : ∀ q, free q → A0 q) (hL : ∀ q ∈ L, free q.base) (hF : va_F A1 st₀ t) :
    H.size ≤ T'.heap.size ∧ (∀ q : Nat, q < H.size → ¬ A1 q → T'.heap[q]? = H[q]?) ∧ va_S A0 H0 T'.heap (locs ++ L) := by
  obtain ⟨hz, hk⟩ := hF
  rw [h0] at hz hk
  exact ⟨by rw [e1]; exact hz, fun q h1 h2 => by rw [e1]; exact hk q h1 h2,
    ⟨Nat.le_trans hS.1 (by rw [e1]; exact hz), fun q h1 h2 => by rw [e1, hk q (Nat.lt_of_lt_of_le h1 hS.1) (fun z => h2 (hA q (Nat.lt_of_lt_of_le h1 hS.1) z))]; exact hS.2.1 q h1 h2, fun q hq => by
      rcases List.mem_append.mp hq with h | h
      · exact hS.2.2 q h
      · exact hf _ (hL q h)⟩⟩
theorem vx_calli {S SX : Type} {post : Int32 → S → Prop} {px : SX → Prop} {B : S → State → Prop} {BX : String → SX → State → Prop} {AX : Nat → Prop} (hr : vx_Run p l e R s m args below meth c H locs cells slots mc ms (F0 m pc ls st0) rest (va_Qi post B A1 a) (vx_X px BX AX) free) (hS : va_S A0 H0 H locs) (hA : ∀ q, q < H.size → A1 q → A0 q) (hf : ∀ q, free q → A0 q) (hAX : ∀ q, q < H.size → AX q → A0 q)
    (kx : ∀ (E : String) (ce : Cell) (q9 : Addr) (u : SX) (t : State) (H1 : Heap) (locs1 : List Loc), t.heap = H1 → s.vm.Alike t.vm → px u → BX E u t → H.size ≤ H1.size → (∀ q : Nat, q < H.size → ¬ AX q → H1[q]? = H[q]?) → va_S A0 H0 H1 locs1 → H1[q9]? = some ce → ce.vm = .none → s.vm.findClass E = some ce.cls → vx_W p l e R s m args below meth c H1 locs1 (cells + mc) (slots + ms) Q (F0 m pc ls rest) q9)
    (kk : ∀ (r : Int32) (u : S) (t : State) (H1 : Heap) (locs1 : List Loc), t.heap = H1 → s.vm.Alike t.vm → post r u → B u t → H.size ≤ H1.size → (∀ q : Nat, q < H.size → ¬ A1 q → H1[q]? = H[q]?) → va_S A0 H0 H1 locs1 → W p l e R s m args below meth c H1 locs1 (cells + mc) (slots + ms) Q (F0 m (pc + 3) ls (.int r :: rest))) : W p l e R s m args below meth c H locs cells slots Q (F0 m pc ls st0) := by
  intro T hT X
  rcases hr T hT X with ⟨v, st₀, t, T', L, h0, X', hL, e1, e2, ⟨⟨r, u, hv, hp, hb⟩, hF⟩, st⟩ | ⟨q, st₀, t, T', L, E, ce, h0, X', hL, e1, e2, ⟨u, hp, hb, hF⟩, hce, hcv, hcl, st⟩
  · cases hv
    obtain ⟨k1, k2, k3⟩ := vx_keep h0 e1 hS hA hf hL hF
    obtain ⟨t2, a1, b1⟩ := kk r u t T'.heap (locs ++ L) e1.symm (by rw [← e2]; exact X'.warmed.alike) hp hb k1 k2 k3 T' rfl X'
    exact ⟨t2, st t2 a1, b1⟩
  · obtain ⟨k1, k2, k3⟩ := vx_keep h0 e1 hS hAX hf hL hF
    obtain ⟨t2, a1, b1⟩ := kx E ce q u t T'.heap (locs ++ L) e1.symm (by rw [← e2]; exact X'.warmed.alike) hp hb k1 k2 k3 (by rw [e1]; exact hce) hcv hcl T' rfl X'
    exact ⟨t2, st.trans a1, b1⟩
theorem vx_calll {S SX : Type} {post : Int64 → S → Prop} {px : SX → Prop} {B : S → State → Prop} {BX : String → SX → State → Prop} {AX : Nat → Prop} (hr : vx_Run p l e R s m args below meth c H locs cells slots mc ms (F0 m pc ls st0) rest (va_Ql post B A1 a) (vx_X px BX AX) free) (hS : va_S A0 H0 H locs) (hA : ∀ q, q < H.size → A1 q → A0 q) (hf : ∀ q, free q → A0 q) (hAX : ∀ q, q < H.size → AX q → A0 q)
    (kx : ∀ (E : String) (ce : Cell) (q9 : Addr) (u : SX) (t : State) (H1 : Heap) (locs1 : List Loc), t.heap = H1 → s.vm.Alike t.vm → px u → BX E u t → H.size ≤ H1.size → (∀ q : Nat, q < H.size → ¬ AX q → H1[q]? = H[q]?) → va_S A0 H0 H1 locs1 → H1[q9]? = some ce → ce.vm = .none → s.vm.findClass E = some ce.cls → vx_W p l e R s m args below meth c H1 locs1 (cells + mc) (slots + ms) Q (F0 m pc ls rest) q9)
    (kk : ∀ (r : Int64) (u : S) (t : State) (H1 : Heap) (locs1 : List Loc), t.heap = H1 → s.vm.Alike t.vm → post r u → B u t → H.size ≤ H1.size → (∀ q : Nat, q < H.size → ¬ A1 q → H1[q]? = H[q]?) → va_S A0 H0 H1 locs1 → W p l e R s m args below meth c H1 locs1 (cells + mc) (slots + ms) Q (F0 m (pc + 3) ls (.long r :: rest))) : W p l e R s m args below meth c H locs cells slots Q (F0 m pc ls st0) := by
  intro T hT X
  rcases hr T hT X with ⟨v, st₀, t, T', L, h0, X', hL, e1, e2, ⟨⟨r, u, hv, hp, hb⟩, hF⟩, st⟩ | ⟨q, st₀, t, T', L, E, ce, h0, X', hL, e1, e2, ⟨u, hp, hb, hF⟩, hce, hcv, hcl, st⟩
  · cases hv
    obtain ⟨k1, k2, k3⟩ := vx_keep h0 e1 hS hA hf hL hF
    obtain ⟨t2, a1, b1⟩ := kk r u t T'.heap (locs ++ L) e1.symm (by rw [← e2]; exact X'.warmed.alike) hp hb k1 k2 k3 T' rfl X'
    exact ⟨t2, st t2 a1, b1⟩
  · obtain ⟨k1, k2, k3⟩ := vx_keep h0 e1 hS hAX hf hL hF
    obtain ⟨t2, a1, b1⟩ := kx E ce q u t T'.heap (locs ++ L) e1.symm (by rw [← e2]; exact X'.warmed.alike) hp hb k1 k2 k3 (by rw [e1]; exact hce) hcv hcl T' rfl X'
    exact ⟨t2, st.trans a1, b1⟩
theorem vx_callf {S SX : Type} {post : UInt32 → S → Prop} {px : SX → Prop} {B : S → State → Prop} {BX : String → SX → State → Prop} {AX : Nat → Prop} (hr : vx_Run p l e R s m args below meth c H locs cells slots mc ms (F0 m pc ls st0) rest (va_Qf post B A1 a) (vx_X px BX AX) free) (hS : va_S A0 H0 H locs) (hA : ∀ q, q < H.size → A1 q → A0 q) (hf : ∀ q, free q → A0 q) (hAX : ∀ q, q < H.size → AX q → A0 q)
    (kx : ∀ (E : String) (ce : Cell) (q9 : Addr) (u : SX) (t : State) (H1 : Heap) (locs1 : List Loc), t.heap = H1 → s.vm.Alike t.vm → px u → BX E u t → H.size ≤ H1.size → (∀ q : Nat, q < H.size → ¬ AX q → H1[q]? = H[q]?) → va_S A0 H0 H1 locs1 → H1[q9]? = some ce → ce.vm = .none → s.vm.findClass E = some ce.cls → vx_W p l e R s m args below meth c H1 locs1 (cells + mc) (slots + ms) Q (F0 m pc ls rest) q9)
    (kk : ∀ (r : UInt32) (u : S) (t : State) (H1 : Heap) (locs1 : List Loc), t.heap = H1 → s.vm.Alike t.vm → post r u → B u t → H.size ≤ H1.size → (∀ q : Nat, q < H.size → ¬ A1 q → H1[q]? = H[q]?) → va_S A0 H0 H1 locs1 → W p l e R s m args below meth c H1 locs1 (cells + mc) (slots + ms) Q (F0 m (pc + 3) ls (.float r :: rest))) : W p l e R s m args below meth c H locs cells slots Q (F0 m pc ls st0) := by
  intro T hT X
  rcases hr T hT X with ⟨v, st₀, t, T', L, h0, X', hL, e1, e2, ⟨⟨r, u, hv, hp, hb⟩, hF⟩, st⟩ | ⟨q, st₀, t, T', L, E, ce, h0, X', hL, e1, e2, ⟨u, hp, hb, hF⟩, hce, hcv, hcl, st⟩
  · cases hv
    obtain ⟨k1, k2, k3⟩ := vx_keep h0 e1 hS hA hf hL hF
    obtain ⟨t2, a1, b1⟩ := kk r u t T'.heap (locs ++ L) e1.symm (by rw [← e2]; exact X'.warmed.alike) hp hb k1 k2 k3 T' rfl X'
    exact ⟨t2, st t2 a1, b1⟩
  · obtain ⟨k1, k2, k3⟩ := vx_keep h0 e1 hS hAX hf hL hF
    obtain ⟨t2, a1, b1⟩ := kx E ce q u t T'.heap (locs ++ L) e1.symm (by rw [← e2]; exact X'.warmed.alike) hp hb k1 k2 k3 (by rw [e1]; exact hce) hcv hcl T' rfl X'
    exact ⟨t2, st.trans a1, b1⟩
theorem vx_calld {S SX : Type} {post : UInt64 → S → Prop} {px : SX → Prop} {B : S → State → Prop} {BX : String → SX → State → Prop} {AX : Nat → Prop} (hr : vx_Run p l e R s m args below meth c H locs cells slots mc ms (F0 m pc ls st0) rest (va_Qd post B A1 a) (vx_X px BX AX) free) (hS : va_S A0 H0 H locs) (hA : ∀ q, q < H.size → A1 q → A0 q) (hf : ∀ q, free q → A0 q) (hAX : ∀ q, q < H.size → AX q → A0 q)
    (kx : ∀ (E : String) (ce : Cell) (q9 : Addr) (u : SX) (t : State) (H1 : Heap) (locs1 : List Loc), t.heap = H1 → s.vm.Alike t.vm → px u → BX E u t → H.size ≤ H1.size → (∀ q : Nat, q < H.size → ¬ AX q → H1[q]? = H[q]?) → va_S A0 H0 H1 locs1 → H1[q9]? = some ce → ce.vm = .none → s.vm.findClass E = some ce.cls → vx_W p l e R s m args below meth c H1 locs1 (cells + mc) (slots + ms) Q (F0 m pc ls rest) q9)
    (kk : ∀ (r : UInt64) (u : S) (t : State) (H1 : Heap) (locs1 : List Loc), t.heap = H1 → s.vm.Alike t.vm → post r u → B u t → H.size ≤ H1.size → (∀ q : Nat, q < H.size → ¬ A1 q → H1[q]? = H[q]?) → va_S A0 H0 H1 locs1 → W p l e R s m args below meth c H1 locs1 (cells + mc) (slots + ms) Q (F0 m (pc + 3) ls (.double r :: rest))) : W p l e R s m args below meth c H locs cells slots Q (F0 m pc ls st0) := by
  intro T hT X
  rcases hr T hT X with ⟨v, st₀, t, T', L, h0, X', hL, e1, e2, ⟨⟨r, u, hv, hp, hb⟩, hF⟩, st⟩ | ⟨q, st₀, t, T', L, E, ce, h0, X', hL, e1, e2, ⟨u, hp, hb, hF⟩, hce, hcv, hcl, st⟩
  · cases hv
    obtain ⟨k1, k2, k3⟩ := vx_keep h0 e1 hS hA hf hL hF
    obtain ⟨t2, a1, b1⟩ := kk r u t T'.heap (locs ++ L) e1.symm (by rw [← e2]; exact X'.warmed.alike) hp hb k1 k2 k3 T' rfl X'
    exact ⟨t2, st t2 a1, b1⟩
  · obtain ⟨k1, k2, k3⟩ := vx_keep h0 e1 hS hAX hf hL hF
    obtain ⟨t2, a1, b1⟩ := kx E ce q u t T'.heap (locs ++ L) e1.symm (by rw [← e2]; exact X'.warmed.alike) hp hb k1 k2 k3 (by rw [e1]; exact hce) hcv hcl T' rfl X'
    exact ⟨t2, st.trans a1, b1⟩
theorem vx_callv {S SX : Type} {post : S → Prop} {px : SX → Prop} {B : S → State → Prop} {BX : String → SX → State → Prop} {AX : Nat → Prop} (hr : vx_Run p l e R s m args below meth c H locs cells slots mc ms (F0 m pc ls st0) rest (va_Qv post B A1 a) (vx_X px BX AX) free) (hS : va_S A0 H0 H locs) (hA : ∀ q, q < H.size → A1 q → A0 q) (hf : ∀ q, free q → A0 q) (hAX : ∀ q, q < H.size → AX q → A0 q)
    (kx : ∀ (E : String) (ce : Cell) (q9 : Addr) (u : SX) (t : State) (H1 : Heap) (locs1 : List Loc), t.heap = H1 → s.vm.Alike t.vm → px u → BX E u t → H.size ≤ H1.size → (∀ q : Nat, q < H.size → ¬ AX q → H1[q]? = H[q]?) → va_S A0 H0 H1 locs1 → H1[q9]? = some ce → ce.vm = .none → s.vm.findClass E = some ce.cls → vx_W p l e R s m args below meth c H1 locs1 (cells + mc) (slots + ms) Q (F0 m pc ls rest) q9)
    (kk : ∀ (u : S) (t : State) (H1 : Heap) (locs1 : List Loc), t.heap = H1 → s.vm.Alike t.vm → post u → B u t → H.size ≤ H1.size → (∀ q : Nat, q < H.size → ¬ A1 q → H1[q]? = H[q]?) → va_S A0 H0 H1 locs1 → W p l e R s m args below meth c H1 locs1 (cells + mc) (slots + ms) Q (F0 m (pc + 3) ls (rest))) : W p l e R s m args below meth c H locs cells slots Q (F0 m pc ls st0) := by
  intro T hT X
  rcases hr T hT X with ⟨v, st₀, t, T', L, h0, X', hL, e1, e2, ⟨⟨u, hv, hp, hb⟩, hF⟩, st⟩ | ⟨q, st₀, t, T', L, E, ce, h0, X', hL, e1, e2, ⟨u, hp, hb, hF⟩, hce, hcv, hcl, st⟩
  · cases hv
    obtain ⟨k1, k2, k3⟩ := vx_keep h0 e1 hS hA hf hL hF
    obtain ⟨t2, a1, b1⟩ := kk u t T'.heap (locs ++ L) e1.symm (by rw [← e2]; exact X'.warmed.alike) hp hb k1 k2 k3 T' rfl X'
    exact ⟨t2, st t2 a1, b1⟩
  · obtain ⟨k1, k2, k3⟩ := vx_keep h0 e1 hS hAX hf hL hF
    obtain ⟨t2, a1, b1⟩ := kx E ce q u t T'.heap (locs ++ L) e1.symm (by rw [← e2]; exact X'.warmed.alike) hp hb k1 k2 k3 (by rw [e1]; exact hce) hcv hcl T' rfl X'
    exact ⟨t2, st.trans a1, b1⟩
/-- caught by the row x of this method's table; the rows ahead don't take it -/
theorem vx_catch {own name : String} {E : String} {ce : Cell} {q : Addr} (hown : s.vm.findClass own = some m.cls) (pre : List ExceptionTableEntry) (x : ExceptionTableEntry) (suf : List ExceptionTableEntry) (hsplit : c.exceptionTable.toList = pre ++ x :: suf)
    (hpass : ∀ z ∈ pre, covers z pc = false ∨ (z.catchType ≠ 0 ∧ ∃ nm : String, (Cond.classLink own z.catchType nm).before args s = true ∧ va_Nc E nm s)) (hx : covers x pc = true) (h0 : x.catchType ≠ 0)
    (hlink : (Cond.classLink own x.catchType name).before args s = true) (hcast : (Cond.castable E name).before args s = true) (hcell : H[q]? = some ce) (hv : ce.vm = .none) (hcl : s.vm.findClass E = some ce.cls)
    (kk : W p l e R s m args below meth c H locs cells slots Q (F0 m x.handlerPc ls [.ref q])) : vx_W p l e R s m args below meth c H locs cells slots Q (F0 m pc ls rest) q := by
  intro T hT X
  have hpl : e.platform.magicAccessors = ({} : Platform).magicAccessors := by rw [X.admits.platform]
  obtain ⟨c3, c4, hc3, hc4, hasg⟩ := Cond.castable_spec hcast
  cases Option.some.inj (hc3.symm.trans hcl)
  obtain ⟨c5, hc5, hcl5⟩ := Cond.classLink_spec hown hlink e.platform hpl
  cases Option.some.inj (hc4.symm.trans hc5)
  obtain ⟨vm', X', st⟩ := X.thenCaughtThrough q (g := F0 m pc ls rest) rfl (Steps.refl _) (by rw [hT]; exact hcell) (by rw [hv]; rfl) (by obtain ⟨k9, h9, -⟩ := Vm.findClass_spec hcl; exact ⟨k9, h9⟩) pre x suf hsplit
    (fun z hz => by
      rcases hpass z hz with h | ⟨hz0, nm, hl1, hn1⟩
      · exact Or.inl h
      · obtain ⟨c6, hc6, hcl6⟩ := Cond.classLink_spec hown hl1 e.platform hpl
        obtain ⟨a8, b8, h1, h2, h3⟩ := hn1
        cases Option.some.inj (h1.symm.trans hcl)
        cases Option.some.inj (h2.symm.trans hc6)
        exact Or.inr ⟨hz0, _, hcl6, h3⟩) hx (Or.inr ⟨h0, c4, hcl5, hasg⟩)
  obtain ⟨t, a1, b1⟩ := kk (T.setVm vm') hT X'
  exact ⟨t, st.trans a1, b1⟩
end Rows
section Ends
variable {p : Program} {l : Launch} {e : Env} {R : Room} {s : State} {m : MethodId} {args : Array Value} {below : List Frame} {meth : Method} {c : Code} {H : Heap} {locs : List Loc} {cells slots : Nat} {Q : State → Prop}
variable {mc ms : Nat} {free : Addr → Prop} {A0 A1 : Nat → Prop} {H0 : Heap} {a : Array Value} {ls : Array Slot} {st0 rest : List Value}
variable {Qc : Array Value → State → Outcome → State → Prop} {XC : String → State → State → Prop}
/-- what a body that may throw owes at its end -/
def vx_MQ (below : List Frame) (Qc : Array Value → State → Outcome → State → Prop) (XC : String → State → State → Prop) (a : Array Value) (s : State) (mc ms : Nat) (free : Addr → Prop) : State → Prop := fun t =>
  ∃ o, t.status = .running ∧ Ended t below o ∧ vx_Q Qc XC mc ms free a s o t
theorem vx_ret {g : JFrame} {mc ms : Nat} (k : W p l e R s m args below meth c H locs cells slots (MQ below Qc args s mc ms free) g) : W p l e R s m args below meth c H locs cells slots (vx_MQ below Qc XC args s mc ms free) g := by
  intro T hT X
  obtain ⟨t, a1, o, b1, b2, b3, b4⟩ := k T hT X
  exact ⟨t, a1, o, b1, b2, Or.inl ⟨b3, b4⟩⟩
/-- not caught here: it goes on to the caller -/
theorem vx_widen {g : JFrame} {q : Addr} {k n : Nat} (h1 : cells ≤ k) (h2 : slots ≤ n) (kk : vx_W p l e R s m args below meth c H locs k n Q g q) : vx_W p l e R s m args below meth c H locs cells slots Q g q := fun T hT X => kk T hT (stand_widen X h1 h2)
theorem vx_out {pc : Nat} {E : String} {ce : Cell} {q : Addr} {mc ms : Nat} (hout : ∀ x ∈ c.exceptionTable.toList, covers x pc = false) (hlocks : meth.locks = false) (hcell : H[q]? = some ce) (hv : ce.vm = .none) (hcl : s.vm.findClass E = some ce.cls)
    (hx : ∀ t : State, t.heap = H → s.vm.Alike t.vm → XC E s t) (hf : ∀ z ∈ locs, free z.base) (hc : cells ≤ mc) (hs : slots ≤ ms) :
    vx_W p l e R s m args below meth c H locs cells slots (vx_MQ below Qc XC args s mc ms free) (F0 m pc ls rest) q := by
  intro T hT X
  obtain ⟨st1, hrun, hend, hW, hsm⟩ := X.leaveThrown q (g := F0 m pc ls rest) rfl rfl rfl hout hlocks
  have hcell9 : (T.setFrames (.throwing q :: below)).heap[q]? = some ce := by
    show T.heap[q]? = some ce
    rw [hT]; exact hcell
  exact ⟨_, st1, .threw q, hrun, hend, Or.inr ⟨q, rfl, E, ce, locs, hx _ hT hW.alike, hcell9, hv, hcl, hW, hsm.mono hc hs, hf⟩⟩
theorem vx_frame {U : State} {k n : Nat} (h : s.sameButNew ({ U with vm := s.vm } : State) locs k n) : s.heap.size ≤ U.heap.size ∧ ∀ q : Nat, q < s.heap.size → (∀ z ∈ locs, z.base ≠ q) → U.heap[q]? = s.heap[q]? := by
  obtain ⟨-, h2, -, -, -, h6⟩ := h
  refine ⟨h2, fun q hq hz => ?_⟩
  obtain ⟨c9, e1, e2, e3, e4⟩ := h6 q _ (Array.getElem?_eq_getElem hq)
  have hs : c9.slots = (s.heap[q]).slots := Array.ext_getElem? fun i => e4 i fun hm => hz _ hm rfl
  have h9 : c9 = s.heap[q] := by
    rw [hs] at e2
    exact e2
  have e5 : U.heap[q]? = some c9 := e1
  rw [e5, h9, Array.getElem?_eq_getElem hq]
/-- the words of a throw but the four that speak of the heap -/
def vx_no (w : Cond) : Bool := decide (w ≠ .isRef (.static Bundle.tN "UNASSIGNED_STACK" Bundle.steD)) && decide (w ≠ .isRef (.static Bundle.tN "SUPPRESSED_SENTINEL" Bundle.listD)) && decide (w ≠ .laysStatic Bundle.tN "UNASSIGNED_STACK" Bundle.steD) && decide (w ≠ .laysStatic Bundle.tN "SUPPRESSED_SENTINEL" Bundle.listD)
def vx_at0 (own : String) (ic : Nat) (X : String) (names : List String) : List Cond := (Bundle.ownAtoms0 own ic X names).filter vx_no
def vx_atS (own : String) (ic : Nat) (X : String) (names : List String) : List Cond := (Bundle.ownAtoms own ic X names).filter vx_no
/-- a word that the tables alone decide, or a good one -/
def vx_ot (w : Cond) : Bool := w.onTables || goodWord w
theorem vx_ot_at {args a' : Array Value} {s U : State} {w : Cond} (hW : s.WarmedH U.vm) (hvm : s.vm = U.vm) (hg : vx_ot w = true) (h : w.before args s = true) : w.before a' U = true := by
  simp only [vx_ot, Bool.or_eq_true] at hg
  rcases hg with hg | hg
  · exact va_tabs hg hvm h
  · exact word_at hW (good_of_word hg) h
/-- a list's words: the good ones out of the method's own list, the others by premises of their own -/
theorem vx_hat {args : Array Value} {s : State} {L B : List Cond} (h1 : ∀ w ∈ L.filter goodWord, w.before args s = true) (h2 : ∀ w ∈ L.filter (fun w => !goodWord w), w ∈ B) (h3 : ∀ w ∈ B, w.before args s = true) : ∀ w ∈ L, w.before args s = true := by
  intro w hw
  by_cases g : goodWord w = true
  · exact h1 w (List.mem_filter.mpr ⟨hw, g⟩)
  · refine h3 w (h2 w (List.mem_filter.mpr ⟨hw, ?_⟩))
    show (!goodWord w) = true
    cases hgw : goodWord w
    · rfl
    · exact absurd hgw g
theorem vx_c {args : Array Value} {s : State} {w : Cond} {B : List Cond} (h : w.before args s = true) (t : ∀ w ∈ B, w.before args s = true) : ∀ w' ∈ w :: B, w'.before args s = true := fun w' h' => (List.mem_cons.mp h').elim (fun e => by rw [e]; exact h) (t w')
theorem vx_n {args : Array Value} {s : State} : ∀ w ∈ ([] : List Cond), w.before args s = true := fun _ h => nomatch h
theorem vx_own {args : Array Value} {s : State} {L : List Cond} (h1 : ∀ w ∈ L.filter vx_no, w.before args s = true)
    (hU : (Cond.isRef (.static Bundle.tN "UNASSIGNED_STACK" Bundle.steD)).before args s = true) (hN : (Cond.isRef (.static Bundle.tN "SUPPRESSED_SENTINEL" Bundle.listD)).before args s = true)
    (lU : (Cond.laysStatic Bundle.tN "UNASSIGNED_STACK" Bundle.steD).before args s = true) (lN : (Cond.laysStatic Bundle.tN "SUPPRESSED_SENTINEL" Bundle.listD).before args s = true) : ∀ w ∈ L, w.before args s = true := by
  intro w hw
  by_cases e1 : w = .isRef (.static Bundle.tN "UNASSIGNED_STACK" Bundle.steD)
  · rw [e1]; exact hU
  · by_cases e2 : w = .isRef (.static Bundle.tN "SUPPRESSED_SENTINEL" Bundle.listD)
    · rw [e2]; exact hN
    · by_cases e3 : w = .laysStatic Bundle.tN "UNASSIGNED_STACK" Bundle.steD
      · rw [e3]; exact lU
      · by_cases e4 : w = .laysStatic Bundle.tN "SUPPRESSED_SENTINEL" Bundle.listD
        · rw [e4]; exact lN
        · exact h1 w (List.mem_filter.mpr ⟨hw, by unfold vx_no; rw [decide_eq_true e1, decide_eq_true e2, decide_eq_true e3, decide_eq_true e4]; rfl⟩)
/-- where a static field lies, its class's statics cell in H -/
def vx_L (C n d : String) (A : Nat → Prop) (U : State) (H : Heap) : Prop := ∃ (c : ClassId) (k : Class) (i : Nat) (f : Field) (a : Nat) (cell : Cell), U.vm.findClass C = some c ∧ U.fieldFound? C n d = some (c, k, i, f) ∧ f.isStatic = true ∧ k.statics = some a ∧ H[a]? = some cell ∧ cell.vm.isStatics = true ∧ cell.cls = c ∧ f.slot < cell.slots.size ∧ k.staticTypes[f.slot]? = some f.type ∧ ¬ A a
theorem vx_L.moved {C n d : String} {A : Nat → Prop} {u U : State} {H : Heap} (hvm : u.vm.Alike U.vm) (h : vx_L C n d A u H) : vx_L C n d A U H := by
  obtain ⟨c, k, i, f, a, cell, h1, h2, h3, h4, h5, h6, h7, h8, h9, h10⟩ := h
  obtain ⟨k', hi', he⟩ := State.fieldFound?_setVm hvm h2
  exact ⟨c, k', i, f, a, cell, by rw [hvm.findClass]; exact h1, hi', h3, by rw [he]; exact h4, h5, h6, h7, h8, by rw [he]; exact h9, h10⟩
theorem vx_L.kept {C n d : String} {A : Nat → Prop} {U : State} {H H1 : Heap} (h : vx_L C n d A U H) (hq : ∀ a : Nat, a < H.size → ¬ A a → H1[a]? = H[a]?) : vx_L C n d A U H1 := by
  obtain ⟨c, k, i, f, a, cell, h1, h2, h3, h4, h5, h6, h7, h8, h9, h10⟩ := h
  exact ⟨c, k, i, f, a, cell, h1, h2, h3, h4, by rw [hq a (Array.getElem?_eq_some_iff.mp h5).1 h10]; exact h5, h6, h7, h8, h9, h10⟩
theorem vx_L.narrow {C n d : String} {A B : Nat → Prop} {U : State} {H : Heap} (h : vx_L C n d A U H) (hAB : ∀ q, B q → A q) : vx_L C n d B U H := by
  obtain ⟨c, k, i, f, a, cell, h1, h2, h3, h4, h5, h6, h7, h8, h9, h10⟩ := h
  exact ⟨c, k, i, f, a, cell, h1, h2, h3, h4, h5, h6, h7, h8, h9, fun z => h10 (hAB _ z)⟩
theorem vx_L.word {C n d : String} {A : Nat → Prop} {s : State} {args : Array Value} (h : vx_L C n d A s s.heap) : (Cond.laysStatic C n d).before args s = true := by
  obtain ⟨c, k, i, f, a, cell, h1, h2, h3, h4, h5, h6, h7, h8, h9, -⟩ := h
  show (Cond.laysStatic C n d).holds args s none s [] = true
  exact Cond.laysStatic_of h1 h2 h3 h4 h5 h6 h7 h8 h9
/-- .. and what it holds: null or some reference -/
def vx_Zq (C n d : String) (A : Nat → Prop) (U : State) (H : Heap) : Prop := va_Zq C n d A U H ∧ vx_L C n d A U H
theorem vx_Zq.moved {C n d : String} {A : Nat → Prop} {u U : State} {H : Heap} (hvm : u.vm.Alike U.vm) (h : vx_Zq C n d A u H) : vx_Zq C n d A U H := ⟨va_Zq.moved hvm h.1, vx_L.moved hvm h.2⟩
theorem vx_Zq.kept {C n d : String} {A : Nat → Prop} {U : State} {H H1 : Heap} (h : vx_Zq C n d A U H) (hq : ∀ a : Nat, a < H.size → ¬ A a → H1[a]? = H[a]?) : vx_Zq C n d A U H1 := ⟨va_Zq.kept h.1 hq, vx_L.kept h.2 hq⟩
theorem vx_Zq.narrow {C n d : String} {A B : Nat → Prop} {U : State} {H : Heap} (h : vx_Zq C n d A U H) (hAB : ∀ q, B q → A q) : vx_Zq C n d B U H := ⟨va_Zq.narrow h.1 hAB, vx_L.narrow h.2 hAB⟩
theorem vx_Zqof {args : Array Value} {s : State} {C n d : String} {A : Nat → Prop} (hl : (Cond.laysStatic C n d).before args s = true) (hini : (Cond.initialized C).before args s = true) (h : (Cond.isRef (.static C n d)).before args s = true) (hA : ∀ a : Nat, a < s.heap.size → ¬ A a) : vx_Zq C n d A s s.heap := by
  refine ⟨va_Zqof hl hini h hA, ?_⟩
  obtain ⟨c, k, i, f, a, cell, h1, h2, h3, h4, h5, h6, h7, h8, h9⟩ := Cond.laysStatic_spec hl
  exact ⟨c, k, i, f, a, cell, h1, h2, h3, h4, h5, h6, h7, h8, h9, hA a (Array.getElem?_eq_some_iff.mp h5).1⟩
theorem vx_isRef {C n d : String} {v : Value} {A : Nat → Prop} {s : State} {args : Array Value} (h : va_Z C n d v A s s.heap) (hv : v.isRef = true) : (Cond.isRef (.static C n d)).before args s = true := by
  obtain ⟨cf, kf, fi, f, a, cell, h1, h2, h3, h4, h5, h6, h7, -⟩ := h
  have he : (Term.static C n d).eval args s none [] s = some v := by
    simp [Term.eval, State.fieldNamed?, h1, h2, h4, h5, h6, h7]
  simp only [Cond.before, Cond.holds, Cond.value, he]
  cases v <;> simp_all [Value.isRef]
theorem vx_isRefq {C n d : String} {A : Nat → Prop} {s : State} {args : Array Value} (h : va_Zq C n d A s s.heap) : (Cond.isRef (.static C n d)).before args s = true := by
  rcases h with h | ⟨t, h⟩
  · exact vx_isRef h rfl
  · exact vx_isRef h rfl
/-- the same frame, seen from here: as if the method were called anew in this heap -/
theorem vx_rebase {T : State} (X : Stand p l e R s m args below meth c T locs cells slots) {R' : Room} (hf : R'.frames ≤ R.frames) (hl : R'.locals ≤ R.locals) (hc : cells + R'.cells ≤ R.cells) (hs : slots + R'.slots ≤ R.slots) :
    Stand p l e R' ((T.setVm s.vm).setFrames (.invoking m args :: below)) m args below meth c T [] 0 0 := by
  have htop : (T.setVm s.vm).topJava?.isSome := X.here.top
  have hF : ((T.setVm s.vm).setFrames (.invoking m args :: below)).frames = .invoking m args :: below := State.frames_setFrames _ (State.cur_lt_of_top htop)
  obtain ⟨g₀, hg0⟩ := Option.isSome_iff_exists.mp htop
  obtain ⟨r, hr⟩ := State.topJava?_eq_some.mp hg0
  have hl9 : e.platform.stackLimits (T.setVm s.vm).me = e.platform.stackLimits s.me := X.limits
  have hb9 : (T.setVm s.vm).me.stackBytes = s.me.stackBytes := X.bytes
  refine ⟨X.admits, X.cas, X.clock, hF, ?_, X.hears, X.method, X.code, X.here, X.tail, X.warmed, ?_, ?_, ?_⟩
  · have h := X.room
    have hU : ((T.setVm s.vm).setFrames (.invoking m args :: below)).localsInUse = s.localsInUse := by
      rw [State.localsInUse_invoking hF (meth := meth) (c := c) X.method X.code, State.localsInUse_invoking X.frames X.method X.code]
    simp only [State.hasRoom, Bool.and_eq_true, decide_eq_true_eq] at h ⊢
    obtain ⟨⟨⟨⟨h1, h2, h3, h4, h5, h6⟩, h7⟩, h8⟩, h9⟩ := h
    rw [X.frames, List.length_cons] at h2 h3
    have q1 := X.heapSize
    have q2 := X.used
    simp only [hF, hU, List.length_cons, State.stackLimits_setFrames, State.stackBytes_setFrames, hl9, hb9]
    refine ⟨⟨⟨⟨by omega, by omega, by omega, by omega, by omega, h6⟩, ?_⟩, ?_⟩, X.book⟩
    · show T.heap.size + R'.cells ≤ e.platform.maxCells
      omega
    · show T.slotsUsed + R'.slots ≤ e.platform.maxSlots
      omega
  · rw [State.stackLimits_setFrames]; rfl
  · rw [State.stackBytes_setFrames]; rfl
  · refine ⟨?_, Nat.le_refl _, Nat.le_refl _, ?_, ?_, fun a c9 h9 => ⟨c9, h9, rfl, rfl, fun _ _ => rfl⟩⟩
    · obtain ⟨t, ht, -⟩ := State.frames_cons hr
      show T.setVm s.vm = { ((T.setVm s.vm).setFrames (.invoking m args :: below)).setFrames (T.setVm s.vm).frames with heap := T.heap, slotsUsed := T.slotsUsed }
      rw [State.setFrames_setFrames, State.setFrames_self ht]
      rfl
    · show T.slotsUsed = T.slotsUsed + ((T.heap.toList.drop T.heap.size).map (·.slots.size)).sum
      rw [List.drop_eq_nil_of_le (Nat.le_of_eq Array.length_toList)]
      rfl
    · show ((T.heap.toList.drop T.heap.size).map (·.slots.size)).sum ≤ 0
      rw [List.drop_eq_nil_of_le (Nat.le_of_eq Array.length_toList)]
      exact Nat.le_refl _
/-- 'throw new E()': new; dup; invokespecial; athrow -/
theorem vx_throw0 {cc : ByteArray} {pc : Nat} (hexec : p.tables.exec = Jvm.exec) (hb : c.code = cc) (hl : l.stackTraces = false) {own cls : String} {names : List String} {ik ic mc ms : Nat} {A : Nat → Prop}
    (hown : s.vm.findClass own = some m.cls) (hcls : Bundle.fit cls = true) (hnames : ∀ n ∈ names, Bundle.fit n = true)
    (hk : (Cond.classLink own ik cls).before args s = true) (hini : (Cond.initialized cls).before args s = true) (hat : ∀ w ∈ vx_at0 own ic cls names, w.before args s = true)
    (hgood : ∀ w ∈ Cond.classLink own ik cls :: Cond.initialized cls :: vx_at0 own ic cls names, vx_ot w = true)
    (hU : vx_Zq Bundle.tN "UNASSIGNED_STACK" Bundle.steD A s s.heap) (hN : vx_Zq Bundle.tN "SUPPRESSED_SENTINEL" Bundle.listD A s s.heap) (hS : va_S A s.heap H locs) (hsize : ls.size = c.maxLocals)
    (d0 : decode cc pc = .ok (.new ik, 3)) (d3 : decode cc (pc + 3) = .ok (.dup, 1)) (d4 : decode cc (pc + 4) = .ok (.invokespecial ic, 3)) (d7 : decode cc (pc + 7) = .ok (.athrow, 1))
    (hout : ∀ x ∈ c.exceptionTable.toList, covers x (pc + 7) = false)
    (hRframes : names.length + 3 < R.frames) (hRlocals : (rest.map fun v => v.category).sum + (13 * (names.length + 1) + 42) ≤ R.locals) (hRcells : cells + 1 ≤ R.cells) (hRslots : slots + 6 ≤ R.slots) (hlocks : meth.locks = false)
    (hx : ∀ t : State, s.vm.Alike t.vm → H.size ≤ t.heap.size → (∀ q : Nat, q < H.size → t.heap[q]? = H[q]?) → XC cls s t)
    (hf : ∀ z ∈ locs, free z.base) (hc : cells + 1 ≤ mc) (hs : slots + 6 ≤ ms) :
    W p l e R s m args below meth c H locs cells slots (vx_MQ below Qc XC args s mc ms free) (F0 m pc ls rest) := by
  intro T hT X
  have htr : e.platform.stackTraces = false := (show e.platform.stackTraces = l.stackTraces by rw [X.admits.platform]).trans hl
  have Y := vx_rebase X (R' := { frames := R.frames, locals := R.locals, cells := 1, slots := 6 }) (Nat.le_refl _) (Nat.le_refl _) hRcells hRslots
  obtain ⟨s', hA⟩ : ∃ z, z = (T.setVm s.vm).setFrames (.invoking m args :: below) := ⟨_, rfl⟩
  rw [← hA] at Y
  have hvm : s'.vm = s.vm := by rw [hA]; rfl
  have hhp : s'.heap = H := by rw [hA]; exact hT
  have hW0 : s.WarmedH s'.vm := by rw [hvm]; exact State.WarmedH.refl s
  have hat' : ∀ w ∈ vx_at0 own ic cls names, w.before args s' = true := fun w hw => vx_ot_at hW0 hvm.symm (hgood w (List.mem_cons_of_mem _ (List.mem_cons_of_mem _ hw))) (hat w hw)
  have hk' : (Cond.classLink own ik cls).before args s' = true := vx_ot_at hW0 hvm.symm (hgood _ List.mem_cons_self) hk
  have hini' : (Cond.initialized cls).before args s' = true := vx_ot_at hW0 hvm.symm (hgood _ (List.mem_cons_of_mem _ List.mem_cons_self)) hini
  have hU' : vx_Zq Bundle.tN "UNASSIGNED_STACK" Bundle.steD A s' s'.heap := by rw [hhp]; exact vx_Zq.moved hW0.alike (hU.kept hS.2.1)
  have hN' : vx_Zq Bundle.tN "SUPPRESSED_SENTINEL" Bundle.listD A s' s'.heap := by rw [hhp]; exact vx_Zq.moved hW0.alike (hN.kept hS.2.1)
  have h : ∀ w ∈ Bundle.ownAtoms0 own ic cls names, w.before args s' = true := vx_own hat' (vx_isRefq hU'.1) (vx_isRefq hN'.1) hU'.2.word hN'.2.word
  have hown' : s'.vm.findClass own = some m.cls := by rw [hvm]; exact hown
  have hins : (Cond.instantiable cls 6).before args s' = true := h _ (by simp [Bundle.ownAtoms0])
  obtain ⟨vm₁, cX, kX, hfX, hkX, -, -, X₁, st1⟩ := Y.newCold hexec (own := own) (C := cls) (index := ik) (n := 6) hown' hk' hins hini'
    (g := F0 m pc ls rest) rfl (by rw [hb]; exact d0) (Nat.le_refl _) (Nat.le_refl _)
  generalize hT1 : (T.setVm vm₁).pushCell { cls := cX, slots := kX.instanceTypes.map defaultValue, vm := .none } = T1 at X₁ st1
  have hcat : (Value.ref T.heap.size).category = 1 := rfl
  have hcellA : T1.heap[T.heap.size]? = some (freshCell cX kX) := by rw [← hT1]; exact State.heap_pushCell_size _ _
  have d3' : decode c.code (pc + 3) = .ok (.dup, 1) := by rw [hb]; exact d3
  obtain ⟨U, hsteps, hrun, hend, hW, hsame, ce, hce, hO⟩ := X₁.ctorThrow0 hexec htr (own := own) (cls := cls) (names := names) (ic := ic) hown' hcls hnames h (fun x hx => nomatch hx) hfX hkX hcellA (by rw [hhp, hT]; exact Nat.le_refl _)
    (g := { method := m, pc := pc + 4, locals := ls, stack := .ref T.heap.size :: .ref T.heap.size :: rest, locked := none }) rfl hsize rfl rfl (rest := rest) rfl
    (by rw [hb]; exact d4) (by rw [hb]; exact d7) hout hRframes (by simp only [List.map_cons, List.sum_cons, hcat]; omega) hlocks
  obtain ⟨f1, f2⟩ := vx_frame hsame
  rw [hhp] at f1 f2
  have hWs : s.WarmedH U.vm := State.WarmedH.trans hW0 hW
  have hcl : s.vm.findClass cls = some ce.cls := by
    have h9 := hO.cls
    rw [hvm] at h9
    exact h9
  have hall : s.sameButNew ({ U with vm := s.vm } : State) locs mc ms := by
    subst hA
    obtain ⟨e1, e2⟩ := hsame
    rw [State.setFrames_setFrames] at e1
    have h2 : (T.setVm s.vm).sameButNew ({ U with vm := s.vm } : State) [] (0 + 1) (0 + 6) := ⟨e1, e2⟩
    have h3 := X.same.trans h2
    rw [List.append_nil] at h3
    exact h3.mono hc hs
  refine ⟨U, ?_, .threw T.heap.size, hrun, hend, Or.inr ⟨T.heap.size, rfl, cls, ce, locs, hx U hWs.alike f1 (fun q hq => f2 q hq (fun z hz => nomatch hz)), hce, hO.vm, hcl, hWs, hall, hf⟩⟩
  refine st1 _ ?_
  show Steps p.tables e below (T1.setTop { method := m, pc := pc + 3, locals := ls, stack := .ref T.heap.size :: rest, locked := none }) _
  jvm_step X₁.here [X₁.here.top, hexec, d3', Value.category]
  exact hsteps
/-- 'throw new E("text")': new; dup; ldc; invokespecial; athrow -/
theorem vx_throwS {cc : ByteArray} {pc : Nat} (hexec : p.tables.exec = Jvm.exec) (hb : c.code = cc) (hl : l.stackTraces = false) {own cls text : String} {names : List String} {ik is ic mc ms sa : Nat} {A : Nat → Prop}
    (hown : s.vm.findClass own = some m.cls) (hcls : Bundle.fit cls = true) (hnames : ∀ n ∈ names, Bundle.fit n = true)
    (hk : (Cond.classLink own ik cls).before args s = true) (hini : (Cond.initialized cls).before args s = true) (hstr : vk_R own is text sa s) (hat : ∀ w ∈ vx_atS own ic cls names, w.before args s = true)
    (hgood : ∀ w ∈ Cond.classLink own ik cls :: Cond.initialized cls :: vx_atS own ic cls names, vx_ot w = true)
    (hU : vx_Zq Bundle.tN "UNASSIGNED_STACK" Bundle.steD A s s.heap) (hN : vx_Zq Bundle.tN "SUPPRESSED_SENTINEL" Bundle.listD A s s.heap) (hS : va_S A s.heap H locs) (hsize : ls.size = c.maxLocals)
    (d0 : decode cc pc = .ok (.new ik, 3)) (d3 : decode cc (pc + 3) = .ok (.dup, 1)) (d4 : decode cc (pc + 4) = .ok (.ldc is, 2)) (d6 : decode cc (pc + 6) = .ok (.invokespecial ic, 3)) (d9 : decode cc (pc + 9) = .ok (.athrow, 1))
    (hout : ∀ x ∈ c.exceptionTable.toList, covers x (pc + 9) = false)
    (hRframes : names.length + 3 < R.frames) (hRlocals : (rest.map fun v => v.category).sum + (13 * (names.length + 1) + 43) ≤ R.locals) (hRcells : cells + 1 ≤ R.cells) (hRslots : slots + 6 ≤ R.slots) (hlocks : meth.locks = false)
    (hx : ∀ t : State, s.vm.Alike t.vm → H.size ≤ t.heap.size → (∀ q : Nat, q < H.size → t.heap[q]? = H[q]?) → XC cls s t)
    (hf : ∀ z ∈ locs, free z.base) (hc : cells + 1 ≤ mc) (hs : slots + 6 ≤ ms) :
    W p l e R s m args below meth c H locs cells slots (vx_MQ below Qc XC args s mc ms free) (F0 m pc ls rest) := by
  intro T hT X
  have htr : e.platform.stackTraces = false := (show e.platform.stackTraces = l.stackTraces by rw [X.admits.platform]).trans hl
  have Y := vx_rebase X (R' := { frames := R.frames, locals := R.locals, cells := 1, slots := 6 }) (Nat.le_refl _) (Nat.le_refl _) hRcells hRslots
  obtain ⟨s', hA⟩ : ∃ z, z = (T.setVm s.vm).setFrames (.invoking m args :: below) := ⟨_, rfl⟩
  rw [← hA] at Y
  have hvm : s'.vm = s.vm := by rw [hA]; rfl
  have hhp : s'.heap = H := by rw [hA]; exact hT
  have hW0 : s.WarmedH s'.vm := by rw [hvm]; exact State.WarmedH.refl s
  have hat' : ∀ w ∈ vx_atS own ic cls names, w.before args s' = true := fun w hw => vx_ot_at hW0 hvm.symm (hgood w (List.mem_cons_of_mem _ (List.mem_cons_of_mem _ hw))) (hat w hw)
  have hk' : (Cond.classLink own ik cls).before args s' = true := vx_ot_at hW0 hvm.symm (hgood _ List.mem_cons_self) hk
  have hini' : (Cond.initialized cls).before args s' = true := vx_ot_at hW0 hvm.symm (hgood _ (List.mem_cons_of_mem _ List.mem_cons_self)) hini
  have hU' : vx_Zq Bundle.tN "UNASSIGNED_STACK" Bundle.steD A s' s'.heap := by rw [hhp]; exact vx_Zq.moved hW0.alike (hU.kept hS.2.1)
  have hN' : vx_Zq Bundle.tN "SUPPRESSED_SENTINEL" Bundle.listD A s' s'.heap := by rw [hhp]; exact vx_Zq.moved hW0.alike (hN.kept hS.2.1)
  have h : ∀ w ∈ Bundle.ownAtoms own ic cls names, w.before args s' = true := vx_own hat' (vx_isRefq hU'.1) (vx_isRefq hN'.1) hU'.2.word hN'.2.word
  have hown' : s'.vm.findClass own = some m.cls := by rw [hvm]; exact hown
  have hins : (Cond.instantiable cls 6).before args s' = true := h _ (by simp [Bundle.ownAtoms])
  obtain ⟨vm₁, cX, kX, hfX, hkX, -, -, X₁, st1⟩ := Y.newCold hexec (own := own) (C := cls) (index := ik) (n := 6) hown' hk' hins hini'
    (g := F0 m pc ls rest) rfl (by rw [hb]; exact d0) (Nat.le_refl _) (Nat.le_refl _)
  generalize hT1 : (T.setVm vm₁).pushCell { cls := cX, slots := kX.instanceTypes.map defaultValue, vm := .none } = T1 at X₁ st1
  have hcat : (Value.ref T.heap.size).category = 1 := rfl
  have hcellA : T1.heap[T.heap.size]? = some (freshCell cX kX) := by rw [← hT1]; exact State.heap_pushCell_size _ _
  have d3' : decode c.code (pc + 3) = .ok (.dup, 1) := by rw [hb]; exact d3
  have d4' : decode c.code (pc + 4) = .ok (.ldc is, 2) := by rw [hb]; exact d4
  have hstr' : vk_R own is text sa s' := vk_R.warm hW0 hstr
  obtain ⟨U, hsteps, hrun, hend, hW, hsame, ce, hce, hO⟩ := X₁.ctorThrowS hexec htr (own := own) (cls := cls) (names := names) (ic := ic) hown' hcls hnames h (fun x hx => nomatch hx) hfX hkX hcellA (by rw [hhp, hT]; exact Nat.le_refl _) (msg := .ref sa) rfl
    (g := { method := m, pc := pc + 6, locals := ls, stack := .ref sa :: .ref T.heap.size :: .ref T.heap.size :: rest, locked := none }) rfl hsize rfl rfl (rest := rest) rfl
    (by rw [hb]; exact d6) (by rw [hb]; exact d9) hout hRframes (by simp only [List.map_cons, List.sum_cons, hcat]; omega) hlocks
  obtain ⟨f1, f2⟩ := vx_frame hsame
  rw [hhp] at f1 f2
  have hWs : s.WarmedH U.vm := State.WarmedH.trans hW0 hW
  have hcl : s.vm.findClass cls = some ce.cls := by
    have h9 := hO.cls
    rw [hvm] at h9
    exact h9
  have hall : s.sameButNew ({ U with vm := s.vm } : State) locs mc ms := by
    subst hA
    obtain ⟨e1, e2⟩ := hsame
    rw [State.setFrames_setFrames] at e1
    have h2 : (T.setVm s.vm).sameButNew ({ U with vm := s.vm } : State) [] (0 + 1) (0 + 6) := ⟨e1, e2⟩
    have h3 := X.same.trans h2
    rw [List.append_nil] at h3
    exact h3.mono hc hs
  refine ⟨U, ?_, .threw T.heap.size, hrun, hend, Or.inr ⟨T.heap.size, rfl, cls, ce, locs, hx U hWs.alike f1 (fun q hq => f2 q hq (fun z hz => nomatch hz)), hce, hO.vm, hcl, hWs, hall, hf⟩⟩
  refine st1 _ ?_
  show Steps p.tables e below (T1.setTop { method := m, pc := pc + 3, locals := ls, stack := .ref T.heap.size :: rest, locked := none }) _
  jvm_step X₁.here [X₁.here.top, hexec, d3', Value.category]
  exact X₁.ldcString hexec (own := own) (text := text) (index := is) (a := sa) hown' hstr'.1 hstr'.2
    (g := { method := m, pc := pc + 4, locals := ls, stack := .ref T.heap.size :: .ref T.heap.size :: rest, locked := none }) rfl d4' _ hsteps
/-- 'throw new E("text")', the text by a wide index -/
theorem vx_throwSW {cc : ByteArray} {pc : Nat} (hexec : p.tables.exec = Jvm.exec) (hb : c.code = cc) (hl : l.stackTraces = false) {own cls text : String} {names : List String} {ik is ic mc ms sa : Nat} {A : Nat → Prop}
    (hown : s.vm.findClass own = some m.cls) (hcls : Bundle.fit cls = true) (hnames : ∀ n ∈ names, Bundle.fit n = true)
    (hk : (Cond.classLink own ik cls).before args s = true) (hini : (Cond.initialized cls).before args s = true) (hstr : vk_R own is text sa s) (hat : ∀ w ∈ vx_atS own ic cls names, w.before args s = true)
    (hgood : ∀ w ∈ Cond.classLink own ik cls :: Cond.initialized cls :: vx_atS own ic cls names, vx_ot w = true)
    (hU : vx_Zq Bundle.tN "UNASSIGNED_STACK" Bundle.steD A s s.heap) (hN : vx_Zq Bundle.tN "SUPPRESSED_SENTINEL" Bundle.listD A s s.heap) (hS : va_S A s.heap H locs) (hsize : ls.size = c.maxLocals)
    (d0 : decode cc pc = .ok (.new ik, 3)) (d3 : decode cc (pc + 3) = .ok (.dup, 1)) (d4 : decode cc (pc + 4) = .ok (.ldc_w is, 3)) (d7 : decode cc (pc + 7) = .ok (.invokespecial ic, 3)) (d10 : decode cc (pc + 10) = .ok (.athrow, 1))
    (hout : ∀ x ∈ c.exceptionTable.toList, covers x (pc + 10) = false)
    (hRframes : names.length + 3 < R.frames) (hRlocals : (rest.map fun v => v.category).sum + (13 * (names.length + 1) + 43) ≤ R.locals) (hRcells : cells + 1 ≤ R.cells) (hRslots : slots + 6 ≤ R.slots) (hlocks : meth.locks = false)
    (hx : ∀ t : State, s.vm.Alike t.vm → H.size ≤ t.heap.size → (∀ q : Nat, q < H.size → t.heap[q]? = H[q]?) → XC cls s t)
    (hf : ∀ z ∈ locs, free z.base) (hc : cells + 1 ≤ mc) (hs : slots + 6 ≤ ms) :
    W p l e R s m args below meth c H locs cells slots (vx_MQ below Qc XC args s mc ms free) (F0 m pc ls rest) := by
  intro T hT X
  have htr : e.platform.stackTraces = false := (show e.platform.stackTraces = l.stackTraces by rw [X.admits.platform]).trans hl
  have Y := vx_rebase X (R' := { frames := R.frames, locals := R.locals, cells := 1, slots := 6 }) (Nat.le_refl _) (Nat.le_refl _) hRcells hRslots
  obtain ⟨s', hA⟩ : ∃ z, z = (T.setVm s.vm).setFrames (.invoking m args :: below) := ⟨_, rfl⟩
  rw [← hA] at Y
  have hvm : s'.vm = s.vm := by rw [hA]; rfl
  have hhp : s'.heap = H := by rw [hA]; exact hT
  have hW0 : s.WarmedH s'.vm := by rw [hvm]; exact State.WarmedH.refl s
  have hat' : ∀ w ∈ vx_atS own ic cls names, w.before args s' = true := fun w hw => vx_ot_at hW0 hvm.symm (hgood w (List.mem_cons_of_mem _ (List.mem_cons_of_mem _ hw))) (hat w hw)
  have hk' : (Cond.classLink own ik cls).before args s' = true := vx_ot_at hW0 hvm.symm (hgood _ List.mem_cons_self) hk
  have hini' : (Cond.initialized cls).before args s' = true := vx_ot_at hW0 hvm.symm (hgood _ (List.mem_cons_of_mem _ List.mem_cons_self)) hini
  have hU' : vx_Zq Bundle.tN "UNASSIGNED_STACK" Bundle.steD A s' s'.heap := by rw [hhp]; exact vx_Zq.moved hW0.alike (hU.kept hS.2.1)
  have hN' : vx_Zq Bundle.tN "SUPPRESSED_SENTINEL" Bundle.listD A s' s'.heap := by rw [hhp]; exact vx_Zq.moved hW0.alike (hN.kept hS.2.1)
  have h : ∀ w ∈ Bundle.ownAtoms own ic cls names, w.before args s' = true := vx_own hat' (vx_isRefq hU'.1) (vx_isRefq hN'.1) hU'.2.word hN'.2.word
  have hown' : s'.vm.findClass own = some m.cls := by rw [hvm]; exact hown
  have hins : (Cond.instantiable cls 6).before args s' = true := h _ (by simp [Bundle.ownAtoms])
  obtain ⟨vm₁, cX, kX, hfX, hkX, -, -, X₁, st1⟩ := Y.newCold hexec (own := own) (C := cls) (index := ik) (n := 6) hown' hk' hins hini'
    (g := F0 m pc ls rest) rfl (by rw [hb]; exact d0) (Nat.le_refl _) (Nat.le_refl _)
  generalize hT1 : (T.setVm vm₁).pushCell { cls := cX, slots := kX.instanceTypes.map defaultValue, vm := .none } = T1 at X₁ st1
  have hcat : (Value.ref T.heap.size).category = 1 := rfl
  have hcellA : T1.heap[T.heap.size]? = some (freshCell cX kX) := by rw [← hT1]; exact State.heap_pushCell_size _ _
  have d3' : decode c.code (pc + 3) = .ok (.dup, 1) := by rw [hb]; exact d3
  have d4' : decode c.code (pc + 4) = .ok (.ldc_w is, 3) := by rw [hb]; exact d4
  have hstr' : vk_R own is text sa s' := vk_R.warm hW0 hstr
  obtain ⟨U, hsteps, hrun, hend, hW, hsame, ce, hce, hO⟩ := X₁.ctorThrowS hexec htr (own := own) (cls := cls) (names := names) (ic := ic) hown' hcls hnames h (fun x hx => nomatch hx) hfX hkX hcellA (by rw [hhp, hT]; exact Nat.le_refl _) (msg := .ref sa) rfl
    (g := { method := m, pc := pc + 7, locals := ls, stack := .ref sa :: .ref T.heap.size :: .ref T.heap.size :: rest, locked := none }) rfl hsize rfl rfl (rest := rest) rfl
    (by rw [hb]; exact d7) (by rw [hb]; exact d10) hout hRframes (by simp only [List.map_cons, List.sum_cons, hcat]; omega) hlocks
  obtain ⟨f1, f2⟩ := vx_frame hsame
  rw [hhp] at f1 f2
  have hWs : s.WarmedH U.vm := State.WarmedH.trans hW0 hW
  have hcl : s.vm.findClass cls = some ce.cls := by
    have h9 := hO.cls
    rw [hvm] at h9
    exact h9
  have hall : s.sameButNew ({ U with vm := s.vm } : State) locs mc ms := by
    subst hA
    obtain ⟨e1, e2⟩ := hsame
    rw [State.setFrames_setFrames] at e1
    have h2 : (T.setVm s.vm).sameButNew ({ U with vm := s.vm } : State) [] (0 + 1) (0 + 6) := ⟨e1, e2⟩
    have h3 := X.same.trans h2
    rw [List.append_nil] at h3
    exact h3.mono hc hs
  refine ⟨U, ?_, .threw T.heap.size, hrun, hend, Or.inr ⟨T.heap.size, rfl, cls, ce, locs, hx U hWs.alike f1 (fun q hq => f2 q hq (fun z hz => nomatch hz)), hce, hO.vm, hcl, hWs, hall, hf⟩⟩
  refine st1 _ ?_
  show Steps p.tables e below (T1.setTop { method := m, pc := pc + 3, locals := ls, stack := .ref T.heap.size :: rest, locked := none }) _
  jvm_step X₁.here [X₁.here.top, hexec, d3', Value.category]
  exact X₁.ldcStringW hexec (own := own) (text := text) (index := is) (a := sa) hown' hstr'.1 hstr'.2
    (g := { method := m, pc := pc + 4, locals := ls, stack := .ref T.heap.size :: .ref T.heap.size :: rest, locked := none }) rfl d4' _ hsteps
end Ends
section Bodies
variable {l : Launch}
theorem vx_ofW {y : MethodName} {ws ws' : List Cond} {rm : Room} {Pc : Array Value → State → Prop} {Qc : Array Value → State → Outcome → State → Prop} {XC : String → State → State → Prop} {mc ms : Nat} {free : Addr → Prop} {cc : ByteArray} {maxL : Nat} {ret : Option FieldType}
    (hy : plainName y.cls = true) (hw : ws = Cond.code y cc maxL ret :: ws')
    (body : ∀ p e s m args below meth c s₁, BodyLoose p l y (headSpec ws rm) cc maxL ret e s m args below meth c s₁ → c.maxLocals = maxL → (∀ x ∈ c.exceptionTable.toList, False) → Pc args s →
      W p l e (headSpec ws rm).room s m args below meth c s.heap [] 0 0 (vx_MQ below Qc XC args s mc ms free) (entryFrame m args maxL)) : vx_Met l y ws rm Pc Qc XC mc ms free := by
  refine MetFree.of_bodyS (code := cc) (maxLocals := maxL) (ret := ret) hy ?_ ?_
  · intro args s m h hn
    obtain ⟨meth, c, h1, h2, h3, h4, h5, h6, -, -⟩ := Cond.code_spec hn (atoms_spec (ws := ws) h _ (by rw [hw]; exact List.mem_cons_self))
    exact ⟨meth, c, h1, h2, h3, h4, h5, h6⟩
  · intro p e s m args below meth c s₁ B hml hP _
    have hh0 : s₁.heap = s.heap := by rw [B.state]; rfl
    have ht : ∀ x ∈ c.exceptionTable.toList, False := by
      obtain ⟨meth9, c9, h1, h2, -, -, -, -, h7, -⟩ := Cond.code_spec B.named (atoms_spec (ws := ws) B.pre _ (by rw [hw]; exact List.mem_cons_self))
      cases Option.some.inj (h1.symm.trans B.method)
      cases Option.some.inj (h2.symm.trans (Stand.of_body B).code)
      intro x hx
      rw [Array.isEmpty_iff.mp h7] at hx
      cases hx
    obtain ⟨t, a1, o, b1, b2, b3⟩ := body p e s m args below meth c s₁ B hml ht hP s₁ hh0 (Stand.of_body B)
    exact ⟨t, o, a1, b1, b2, b3⟩
/-- the table of a body with handlers -/
theorem vx_table {p : Program} {x y : MethodName} {S : Spec} {cc bytes : ByteArray} {maxL maxL' : Nat} {ret ret' : Option FieldType} {e : Env} {s s₁ : State} {m : MethodId} {args : Array Value} {below : List Frame} {meth : Method} {c : Code} {hh : List (Nat × Nat × Nat × Nat)}
    (B : BodyLoose p l y S cc maxL ret e s m args below meth c s₁) (h : (Cond.codeWith y bytes maxL' ret' hh).before args s = true) : c.exceptionTable.toList = tableOf hh := by
  obtain ⟨m9, meth9, c9, hn9, h1, h2, -, -, h6, -⟩ := Cond.codeWith_spec h
  cases Option.some.inj (hn9.symm.trans B.named)
  cases Option.some.inj (h1.symm.trans B.method)
  cases Option.some.inj (h2.symm.trans (Stand.of_body B).code)
  rw [← h6, table_eq]
end Bodies
end VXA
/-! ===== END ===== -/
/-! ===== BEGIN a static call of a method with an exception table ===== -/
section VXS
variable {p : Program} {l : Launch} {e : Env} {R : Room} {s : State} {m : MethodId} {args : Array Value} {below : List Frame} {meth : Method} {c : Code} {T : State} {H : Heap} {locs : List Loc} {cells slots : Nat}
abbrev vx_CSW (R : Room) (s : State) (args : Array Value) (own : String) (index : Nat) (y : MethodName) (bytes : ByteArray) (maxL : Nat) (ret : Option FieldType) (hh : List (Nat × Nat × Nat × Nat)) (ws : List Cond) (rm : Room) (mc ms n : Nat) : Prop :=
  (rm.cells = mc ∧ rm.slots = ms ∧ rm.frames + 1 ≤ R.frames ∧ 8 + (maxL + 11) + rm.locals ≤ R.locals ∧ (∀ w ∈ ws, ∀ (a' : Array Value) (U : State), s.WarmedH U.vm → w.before a' U = true) ∧ Cond.codeWith y bytes maxL ret hh ∈ ws) ∧
  (Cond.codeWith y bytes maxL ret hh).before args s = true ∧ (Cond.initialized y.cls).before args s = true ∧ (y.cls ≠ "java/lang/invoke/MethodHandle" ∧ y.cls ≠ "java/lang/invoke/VarHandle") ∧
  (∀ sig, parseMethodDescriptor y.desc = some sig → n = sig.parameters.length) ∧ (Cond.methodLink own index y).before args s = true ∧ (Cond.static y).before args s = true
theorem vx_cwSW {own : String} {index maxL mc ms : Nat} {y : MethodName} {bytes : ByteArray} {ret : Option FieldType} {hh : List (Nat × Nat × Nat × Nat)} {Ts ws ws' : List Cond} {rm : Room} (n : Nat) (ht : ∀ w ∈ Ts, w.before args s = true) (hT : GoodIn Ts (va_wsS own index y ws)) (hw : ws = Cond.codeWith y bytes maxL ret hh :: ws') (hrc : rm.cells = mc) (hrs : rm.slots = ms)
    (hd : y.cls ≠ "java/lang/invoke/MethodHandle" ∧ y.cls ≠ "java/lang/invoke/VarHandle" ∧ (parseMethodDescriptor y.desc).map (fun d => d.parameters.length) = some n) (hR : rm.frames + 1 ≤ R.frames ∧ 8 + (maxL + 11) + rm.locals ≤ R.locals) :
    vx_CSW R s args own index y bytes maxL ret hh ws rm mc ms n := by
  have ok : ∀ w ∈ va_wsS own index y ws, w.before args s = true := fun w h => ht w (hT w h).1
  have hG : GoodIn Ts ws := fun w h => hT w (by unfold va_wsS; exact List.mem_append_right _ h)
  have hc : Cond.codeWith y bytes maxL ret hh ∈ ws := by rw [hw]; exact List.mem_cons_self
  refine ⟨⟨hrc, hrs, hR.1, hR.2, pay_in ht hG, hc⟩, ht _ (hG _ hc).1, ok _ (by simp [va_wsS]), ⟨hd.1, hd.2.1⟩, fun sig h => ?_, ok _ (by simp [va_wsS]), ok _ (by simp [va_wsS])⟩
  have h2 := hd.2.2
  rw [h] at h2
  exact (Option.some.inj h2).symm
theorem vx_callSW (X : Stand p l e R s m args below meth c T locs cells slots) (hexec : p.tables.exec = Jvm.exec) {own : String} {index : Nat} {y : MethodName} {bytes : ByteArray} {maxL : Nat} {ret : Option FieldType} {hh : List (Nat × Nat × Nat × Nat)}
    (hown : s.vm.findClass own = some m.cls) (hlink : (Cond.methodLink own index y).before args s = true) (hstat : (Cond.static y).before args s = true) (hinit : (Cond.initialized y.cls).before args s = true)
    (hcode : (Cond.codeWith y bytes maxL ret hh).before args s = true) (hy : y.cls ≠ "java/lang/invoke/MethodHandle" ∧ y.cls ≠ "java/lang/invoke/VarHandle")
    {W9 : Nat} {Pre : Pt → Array Value → Prop} {Post : Pt → Array Value → Option Value → Pt → Prop} (hK : Back l R p e below s args y 3 W9 Pre Post)
    {g : JFrame} (hg : g.method = m) (hsize : g.locals.size = c.maxLocals) {argsL rest : List Value} (hlen : ∀ sig, parseMethodDescriptor y.desc = some sig → argsL.length = sig.parameters.length)
    (hstack : g.stack = argsL.reverse ++ rest) (hW : 2 * g.monitorRoom + (rest.map fun v => v.category).sum ≤ W9) (hdg : decode c.code g.pc = .ok (.invokestatic index, 3))
    (hpre : ∀ vm₁, s.WarmedH vm₁ → Pre ⟨T.setVm vm₁, locs, cells, slots⟩ argsL.toArray) :
    ∃ (v : Option Value) (vm₁ : Vm) (B : Pt), s.WarmedH vm₁ ∧ Stand p l e R s m args below meth c B.U B.locs B.cells B.slots ∧ Post ⟨T.setVm vm₁, locs, cells, slots⟩ argsL.toArray v B ∧
      ∀ target, Steps p.tables e below (B.U.setTop { g with pc := g.pc + 3, stack := v.toList ++ rest }) target → Steps p.tables e below (T.setTop g) target := by
  obtain ⟨mk, methM, cM, hnamed, hmethM, -, -, -, -, -, -, hsigM⟩ := Cond.codeWith_spec hcode
  have hstatic : methM.isStatic = true := Cond.static_spec hnamed hmethM hstat
  obtain ⟨kP, hkP, -⟩ := className_of_methodNamed hnamed
  have hinitP : kP.init = .initialized := Cond.initialized_spec (findClass_of_methodNamed hnamed) hkP hinit
  obtain ⟨vm₁, X₁, hstep₁⟩ := X.invokestatic hexec hown hlink hnamed hmethM hstatic hkP hinitP hy (g := g) hg (argsL := argsL) (rest := rest) (hlen _ hsigM) hstack hdg
  obtain ⟨v, B, X', hpost, hsteps⟩ := hK m meth c ⟨T.setVm vm₁, locs, cells, slots⟩ { g with stack := rest } (.invokestatic index) mk argsL.toArray X₁ hg hsize hdg hW (X₁.named hnamed) (hpre vm₁ X₁.warmed)
  exact ⟨v, vm₁, B, X₁.warmed, X', hpost, fun target h => hstep₁ _ fun acts => by rw [doInvoke_state]; exact hsteps.trans h⟩
theorem vx_runSW {y : MethodName} {bytes cc : ByteArray} {maxL nL mc ms n index : Nat} {ret : Option FieldType} {hh : List (Nat × Nat × Nat × Nat)} {ws : List Cond} {rm : Room} {Pc : Array Value → State → Prop} {Qc : Array Value → State → Outcome → State → Prop} {free : Addr → Prop} {Ts : List Cond} {own : String} {As rest : List Value} {g : JFrame}
    (S : CallFix p m c cc nL s args Ts own) (hM : Met l y ws rm Pc Qc mc ms free) (cw : vx_CSW R s args own index y bytes maxL ret hh ws rm mc ms n) (hp : PreS s H Pc As)
    (hg : g.method = m) (hn : As.length = n) (hsize : g.locals.size = nL) (hstack : g.stack = As.reverse ++ rest) (hW : 2 * g.monitorRoom + (rest.map fun v => v.category).sum ≤ 8) (hdg : decode cc g.pc = .ok (.invokestatic index, 3)) (hf : cells + mc ≤ R.cells ∧ slots + ms ≤ R.slots) :
    va_Run p l e R s m args below meth c H locs cells slots mc ms g rest (Qc As.toArray) (free) := by
  obtain ⟨⟨hrc, hrs, hfr, hlo, hws, hcw⟩, hcode, hini, hy, hlen, hl, hstt⟩ := cw
  have hK : Back l R p e below s args y 3 8 (PreOf R mc ms Pc) (PostOf Qc mc ms free) := va_backW (hh := hh) (bytes := bytes) (maxL := maxL) (ret := ret) hM hp.1 hrc hrs hfr hlo hws hcw (fun a' U hW => word_at hW (Or.inl (by first | rfl | simp [Cond.onTables, Cond.keeps, Cond.steady])) hini)
  obtain ⟨hx, hb, hml, ho, -⟩ := S
  intro T hT X
  obtain ⟨v, vm₁, ⟨U', l2, c2, s2⟩, hW₁, X', ⟨g', mk, t, L, e1, e2, hq, h1, hL, h2, h3⟩, st⟩ := vx_callSW X hx (hh := hh) (bytes := bytes) (maxL := maxL) (ret := ret) ho hl hstt hini hcode hy hK hg (hsize.trans hml.symm) (argsL := As) (rest := rest) (fun sig h => hn.trans (hlen sig h)) hstack hW (by rw [hb]; exact hdg)
    (fun vm₁ hW₁ => ⟨hf.1, hf.2, hp.2 (T.setVm vm₁) hT hW₁⟩)
  dsimp only [Pt.U, Pt.locs, Pt.cells, Pt.slots] at X' e1 e2 h1 h2 h3 st
  subst h1; subst h2; subst h3
  exact ⟨v, (T.setVm vm₁).calling g' mk As.toArray, t, U', L, hT, X', hL, e1, e2, hq, st⟩
/-- not caught here, past rows that name other classes: it goes on to the caller -/
theorem vx_outP {p : Program} {l : Launch} {e : Env} {R : Room} {s : State} {m : MethodId} {args : Array Value} {below : List Frame} {meth : Method} {c : Code} {H : Heap} {locs : List Loc} {cells slots : Nat} {free : Addr → Prop} {ls : Array Slot} {rest : List Value} {Qc : Array Value → State → Outcome → State → Prop} {XC : String → State → State → Prop}
    {pc : Nat} {own E : String} {ce : Cell} {q : Addr} {mc ms : Nat} (hown : s.vm.findClass own = some m.cls) (hlocks : meth.locks = false)
    (hpass : ∀ z ∈ c.exceptionTable.toList, covers z pc = false ∨ (z.catchType ≠ 0 ∧ ∃ nm : String, (Cond.classLink own z.catchType nm).before args s = true ∧ va_Nc E nm s)) (hcell : H[q]? = some ce) (hv : ce.vm = .none) (hcl : s.vm.findClass E = some ce.cls)
    (hx : ∀ t : State, t.heap = H → s.vm.Alike t.vm → XC E s t) (hf : ∀ z ∈ locs, free z.base) (hc : cells ≤ mc) (hs : slots ≤ ms) :
    vx_W p l e R s m args below meth c H locs cells slots (vx_MQ below Qc XC args s mc ms free) (F0 m pc ls rest) q := by
  intro T hT X
  have hpl : e.platform.magicAccessors = ({} : Platform).magicAccessors := by rw [X.admits.platform]
  obtain ⟨vm', hW', X', st⟩ := X.outThrough hlocks q (g := F0 m pc ls rest) rfl rfl rfl (cell := ce) (by rw [hT]; exact hcell) (by rw [hv]; rfl)
    (by obtain ⟨k9, h9, -⟩ := Vm.findClass_spec hcl; exact ⟨k9, h9⟩) (fun z hz => by
      rcases hpass z hz with h | ⟨hz0, nm, hl1, hn1⟩
      · exact Or.inl h
      · obtain ⟨c6, hc6, hcl6⟩ := Cond.classLink_spec hown hl1 e.platform hpl
        obtain ⟨a8, b8, h1, h2, h3⟩ := hn1
        cases Option.some.inj (h1.symm.trans hcl)
        cases Option.some.inj (h2.symm.trans hc6)
        exact Or.inr ⟨hz0, _, hcl6, h3⟩)
  obtain ⟨g₀, hfr⟩ := X'.frames_eq
  have hcell9 : ((T.setVm vm').setFrames (.throwing q :: below)).heap[q]? = some ce := by
    show T.heap[q]? = some ce
    rw [hT]; exact hcell
  have hend : Ended ((T.setVm vm').setFrames (.throwing q :: below)) below (.threw q) := State.frames_setFrames _ (State.cur_lt_of_frames hfr)
  refine ⟨(T.setVm vm').setFrames (.throwing q :: below), ?_, .threw q, X'.here.running, hend, Or.inr ⟨q, rfl, E, ce, locs, hx _ hT (X'.ends _).1.alike, hcell9, hv, hcl, (X'.ends _).1, (X'.ends _).2.mono hc hs, hf⟩⟩
  rw [X.pushThrowing_eq]
  exact st
/-- a thing of a world lies in the heap -/
theorem vx_lt {D : va_G} {cl : List vw_C} {ws : va_W} {H1 : Heap} (h : va_P D cl ws H1) {k : Nat} {q : Nat × va_E} (hk : ws[k]? = some q) : q.1 < H1.size := (h k q hk).lt
end VXS
/-! ===== END ===== -/
/-! ===== BEGIN methods with a table of their own: called by a name, returning or throwing ===== -/
section VXH
/-! vx_backW, vx_callVX, vx_callSX, vx_callVW, vx_runVW, vx_runVX, vx_runSX, vx_ofWH follow the same proofs as their sisters above (Free/Laws.lean, Shelf42/LK1.lean); vx_outP calls Shelf42/NT130.lean (outThrough). -/
section
variable {l : Launch} {R : Room} {p : Program} {e : Env} {below : List Frame} {s : State} {sargs : Array Value} {y : MethodName} {len W9 : Nat}
theorem vx_backW {ws : List Cond} {rm : Room} {Pc : Array Value → State → Prop} {Qc : Array Value → State → Outcome → State → Prop} {XC : String → State → State → Prop} {mc ms : Nat} {free : Addr → Prop} {bytes : ByteArray} {maxL : Nat} {ret : Option FieldType} {hh : List (Nat × Nat × Nat × Nat)}
    (hM : vx_Met l y ws rm Pc Qc XC mc ms free) (hblind : FrameBlind Pc) (hrc : rm.cells = mc) (hrs : rm.slots = ms)
    (hframes : rm.frames + 1 ≤ R.frames) (hlocals : W9 + (maxL + 11) + rm.locals ≤ R.locals)
    (hws : ∀ w ∈ ws, ∀ a' U, s.WarmedH U.vm → w.before a' U = true) (hcode : Cond.codeWith y bytes maxL ret hh ∈ ws) (hinit : ∀ a' U, s.WarmedH U.vm → (Cond.initialized y.cls).before a' U = true) :
    vx_Back l R p e below s sargs y len W9 (PreOf R mc ms Pc) (PostOf Qc mc ms free) (vx_Post XC mc ms free) := by
  intro m meth c A g ig mk a X hg hsize hdg hW hn hp
  have h1 : (headSpec ws rm).pre.before a A.U = true := atoms_intro fun w hw => hws w hw _ _ X.warmed
  have h2 : (Cond.codeWith y bytes maxL ret hh).before a A.U = true := hws _ hcode _ _ X.warmed
  have h3 : (Cond.initialized y.cls).before a A.U = true := hinit _ _ X.warmed
  have h4 : A.cells + (headSpec ws rm).room.cells ≤ R.cells := by rw [show (headSpec ws rm).room.cells = mc from hrc]; exact hp.1
  have h5 : A.slots + (headSpec ws rm).room.slots ≤ R.slots := by rw [show (headSpec ws rm).room.slots = ms from hrs]; exact hp.2.1
  have hPc : Pc a (A.U.calling g mk a) := hblind _ _ _ _ hp.2.2
  obtain ⟨U, Ls, c0, s0⟩ := A
  dsimp only [Pt.U, Pt.locs, Pt.cells, Pt.slots] at h1 h2 h3 h4 h5 X hn hPc ⊢
  obtain ⟨m9, methY, cY, hn9, hmY, hcY, -, hlY, -⟩ := Cond.codeWith_spec h2
  cases Option.some.inj (hn9.symm.trans hn)
  obtain ⟨kY, hkY, -⟩ := className_of_methodNamed hn
  have hinitY : kY.init = .initialized := Cond.initialized_spec (findClass_of_methodNamed hn) hkY h3
  have h : At U g.method c below := by rw [hg]; exact X.here
  have hlocals9 : W9 + (maxL + 11) + (headSpec ws rm).room.locals ≤ R.locals := hlocals
  have happ : (headSpec ws rm).appliesLoose y e.platform (U.calling g mk a) = true :=
    Spec.appliesLoose_calling (g := g) h hdg hn hkY hinitY
      (X.room_calling (g := g) (R' := (headSpec ws rm).room) hsize hmY hcY hframes (by rw [hlY]; omega) h4 h5) h1
  obtain ⟨mid, hmid⟩ := h.above
  have hfr : (U.setTop g).frames = (.java g :: mid) ++ below := by rw [State.frames_setTop' g h.top, hmid]; rfl
  obtain ⟨o, s₂, hsteps, -, hend, hq⟩ := Steps.callFree hM p X.admits X.cas X.clock (acts := []) hfr happ hPc trivial
  have hq' : vx_Q Qc XC mc ms free a (U.calling g mk a) o s₂ := hq
  rw [State.frames_setTop' g h.top] at hend
  obtain ⟨g₀, hg0⟩ := Option.isSome_iff_exists.mp h.top
  obtain ⟨r, hr⟩ := State.topJava?_eq_some.mp hg0
  have hr' : (({ U with heap := s₂.heap, slotsUsed := s₂.slotsUsed } : State).setVm s₂.vm).frames = .java g₀ :: r := hr
  rcases hq' with ⟨hqc, L, hfe, hL⟩ | ⟨q, rfl, E, ce, L, hx, hce, hcv, hcl, hW₂, hsm, hL⟩
  · obtain ⟨⟨v, rfl⟩, hW₂, e2, q2, q3, q4, q5, q6⟩ := id hfe
    have e3 : s₂ = ({ (U.calling g mk a).setFrames s₂.frames with heap := s₂.heap, slotsUsed := s₂.slotsUsed } : State).setVm s₂.vm := by
      have : s₂ = ({ s₂ with vm := (U.calling g mk a).vm } : State).setVm s₂.vm := rfl
      rw [e2] at this
      exact this
    obtain ⟨c₂, i₂, len₂, hc₂, hd₂, hf₂⟩ := hend
    have hW' : U.WarmedH s₂.vm := hW₂
    have hcc : c₂ = c := by
      have h1 : s₂.code? g.method = U.code? g.method := by
        rw [State.code?_eq, State.code?_eq, hW'.alike.method?]
      exact Option.some.inj (hc₂.symm.trans (h1.trans h.code))
    subst hcc
    have hlen : len₂ = len := by rw [hdg] at hd₂; cases hd₂; rfl
    subst hlen
    have hs₂ : s₂ = (({ U with heap := s₂.heap, slotsUsed := s₂.slotsUsed } : State).setVm s₂.vm).setTop { g with pc := g.pc + len₂, stack := v.toList ++ g.stack } := by
      refine e3.trans ?_
      rw [hf₂, State.calling_eq h.top, State.setFrames_setFrames, State.setTop_of_frames _ hr', hr]
      rfl
    have hsame : U.sameButNew ({ U with heap := s₂.heap, slotsUsed := s₂.slotsUsed } : State) L mc ms := by
      refine ⟨?_, q2, q3, q4, q5, q6⟩
      obtain ⟨t, ht, -⟩ := State.frames_cons hr
      show ({ U with heap := s₂.heap, slotsUsed := s₂.slotsUsed } : State) = { U.setFrames U.frames with heap := s₂.heap, slotsUsed := s₂.slotsUsed }
      rw [State.setFrames_self ht]
    subst hg
    refine Or.inl ⟨v, ⟨(({ U with heap := s₂.heap, slotsUsed := s₂.slotsUsed } : State).setVm s₂.vm), Ls ++ L, c0 + mc, s0 + ms⟩,
      ⟨X.admits, X.cas, X.clock, X.frames, X.room, X.hears, X.method, X.code, (X.here.setHeapUsed s₂.heap s₂.slotsUsed).setVm hW'.alike, X.tail, State.WarmedH.trans X.warmed hW', X.limits, X.bytes, X.same.trans (hsame.setVm s.vm)⟩,
      ⟨g, mk, s₂, L, rfl, rfl, hqc, rfl, hL, rfl, rfl⟩, ?_⟩
    show Steps p.tables e below _ ((({ U with heap := s₂.heap, slotsUsed := s₂.slotsUsed } : State).setVm s₂.vm).setTop { g with pc := g.pc + len₂, stack := v.toList ++ g.stack })
    rw [← hs₂]
    exact hsteps
  · obtain ⟨e2, q2, q3, q4, q5, q6⟩ := id hsm
    have e3 : s₂ = ({ (U.calling g mk a).setFrames s₂.frames with heap := s₂.heap, slotsUsed := s₂.slotsUsed } : State).setVm s₂.vm := by
      have : s₂ = ({ s₂ with vm := (U.calling g mk a).vm } : State).setVm s₂.vm := rfl
      rw [e2] at this
      exact this
    have hf₂ : s₂.frames = .throwing q :: .java g :: U.frames.tail := hend
    have hW' : U.WarmedH s₂.vm := hW₂
    have hs₂ : s₂ = ((({ U with heap := s₂.heap, slotsUsed := s₂.slotsUsed } : State).setVm s₂.vm).setTop g).pushFrame (.throwing q) := by
      refine e3.trans ?_
      rw [hf₂, State.calling_eq h.top, State.setFrames_setFrames, State.pushFrame, State.frames_setTop _ hr', State.setTop_of_frames _ hr', State.setFrames_setFrames, hr]
      rfl
    have hsame : U.sameButNew ({ U with heap := s₂.heap, slotsUsed := s₂.slotsUsed } : State) L mc ms := by
      refine ⟨?_, q2, q3, q4, q5, q6⟩
      obtain ⟨t, ht, -⟩ := State.frames_cons hr
      show ({ U with heap := s₂.heap, slotsUsed := s₂.slotsUsed } : State) = { U.setFrames U.frames with heap := s₂.heap, slotsUsed := s₂.slotsUsed }
      rw [State.setFrames_self ht]
    subst hg
    refine Or.inr ⟨q, ⟨(({ U with heap := s₂.heap, slotsUsed := s₂.slotsUsed } : State).setVm s₂.vm), Ls ++ L, c0 + mc, s0 + ms⟩,
      ⟨X.admits, X.cas, X.clock, X.frames, X.room, X.hears, X.method, X.code, (X.here.setHeapUsed s₂.heap s₂.slotsUsed).setVm hW'.alike, X.tail, State.WarmedH.trans X.warmed hW', X.limits, X.bytes, X.same.trans (hsame.setVm s.vm)⟩,
      ⟨g, mk, s₂, L, E, ce, rfl, rfl, hx, hce, hcv, hcl, rfl, hL, rfl, rfl⟩, ?_⟩
    show Steps p.tables e below _ (((({ U with heap := s₂.heap, slotsUsed := s₂.slotsUsed } : State).setVm s₂.vm).setTop g).pushFrame (.throwing q))
    rw [← hs₂]
    exact hsteps
end
variable {p : Program} {l : Launch} {e : Env} {R : Room} {s : State} {m : MethodId} {args : Array Value} {below : List Frame} {meth : Method} {c : Code} {T : State} {H : Heap} {locs : List Loc} {cells slots : Nat}
theorem vx_callVX (X : Stand p l e R s m args below meth c T locs cells slots) (hexec : p.tables.exec = Jvm.exec) {own C : String} {index : Nat} {y : MethodName} {bytes : ByteArray} {maxL : Nat} {ret : Option FieldType} {hh : List (Nat × Nat × Nat × Nat)}
    (hown : s.vm.findClass own = some m.cls) (hlink : (Cond.methodLink own index y).before args s = true) (hinst : (Cond.instanceMethod y).before args s = true) (hsel : (Cond.selects C y y).before args s = true)
    (hcode : (Cond.codeWith y bytes maxL ret hh).before args s = true) (hy : y.cls ≠ "java/lang/invoke/MethodHandle" ∧ y.cls ≠ "java/lang/invoke/VarHandle")
    {W9 : Nat} {Pre : Pt → Array Value → Prop} {Post : Pt → Array Value → Option Value → Pt → Prop} {PostX : Pt → Array Value → Addr → Pt → Prop} (hK : vx_Back l R p e below s args y 3 W9 Pre Post PostX)
    {b : Addr} {cellB : Cell} (hcell : T.heap[b]? = some cellB) (hobj : cellB.vm.isStatics = false) (hcls : s.vm.findClass C = some cellB.cls)
    {g : JFrame} (hg : g.method = m) (hsize : g.locals.size = c.maxLocals) {argsL rest : List Value} (hlen : ∀ sig, parseMethodDescriptor y.desc = some sig → argsL.length = sig.parameters.length)
    (hstack : g.stack = argsL.reverse ++ .ref b :: rest) (hW : 2 * g.monitorRoom + (rest.map fun v => v.category).sum ≤ W9) (hdg : decode c.code g.pc = .ok (.invokevirtual index, 3))
    (hpre : ∀ vm₁, s.WarmedH vm₁ → Pre ⟨T.setVm vm₁, locs, cells, slots⟩ (Value.ref b :: argsL).toArray) :
    (∃ (v : Option Value) (vm₁ : Vm) (B : Pt), s.WarmedH vm₁ ∧ Stand p l e R s m args below meth c B.U B.locs B.cells B.slots ∧ Post ⟨T.setVm vm₁, locs, cells, slots⟩ (Value.ref b :: argsL).toArray v B ∧
      ∀ target, Steps p.tables e below (B.U.setTop { g with pc := g.pc + 3, stack := v.toList ++ rest }) target → Steps p.tables e below (T.setTop g) target) ∨
    (∃ (q : Addr) (vm₁ : Vm) (B : Pt), s.WarmedH vm₁ ∧ Stand p l e R s m args below meth c B.U B.locs B.cells B.slots ∧ PostX ⟨T.setVm vm₁, locs, cells, slots⟩ (Value.ref b :: argsL).toArray q B ∧
      Steps p.tables e below (T.setTop g) ((B.U.setTop { g with stack := rest }).pushFrame (.throwing q))) := by
  obtain ⟨mk, methM, hnamed, hmethM, hstM, habM⟩ := Cond.instanceMethod_spec hinst
  obtain ⟨m8, methM', cM, hn8, hmethM', -, -, -, -, -, -, hsigM⟩ := Cond.codeWith_spec hcode
  cases Option.some.inj (hn8.symm.trans hnamed)
  cases hmethM.symm.trans hmethM'
  obtain ⟨c2, r2, m2, q1, q2, q3, q4, kP, hkP, hkPi⟩ := Cond.selects_spec hsel
  cases hcls.symm.trans q1
  cases (State.methodFound?_of_named hnamed hy).symm.trans q2
  cases hnamed.symm.trans q3
  have hselP : selectMethod e.platform s.vm cellB.cls mk = .method mk := by rw [Launch.admits_selectMethod X.admits]; exact q4
  obtain ⟨vm₁, X₁, hstep₁⟩ := X.invokevirtual hexec hown hlink hnamed hmethM hstM hkP hkPi hy (a := b) (cell := cellB) hcell
    (fun z h => by rw [h] at hobj; cases hobj) hselP hmethM habM hkP hkPi (g := g) hg (argsL := argsL) (rest := rest) (hlen _ hsigM) hstack hdg
  rcases hK m meth c ⟨T.setVm vm₁, locs, cells, slots⟩ { g with stack := rest } (.invokevirtual index) mk (Value.ref b :: argsL).toArray X₁ hg hsize hdg hW (X₁.named hnamed) (hpre vm₁ X₁.warmed) with ⟨v, B, X', hpost, hsteps⟩ | ⟨q, B, X', hpost, hsteps⟩
  · exact Or.inl ⟨v, vm₁, B, X₁.warmed, X', hpost, fun target h => hstep₁ _ fun acts => by rw [doInvoke_state]; exact hsteps.trans h⟩
  · exact Or.inr ⟨q, vm₁, B, X₁.warmed, X', hpost, hstep₁ _ fun acts => by rw [doInvoke_state]; exact hsteps⟩
theorem vx_callSX (X : Stand p l e R s m args below meth c T locs cells slots) (hexec : p.tables.exec = Jvm.exec) {own : String} {index : Nat} {y : MethodName} {bytes : ByteArray} {maxL : Nat} {ret : Option FieldType} {hh : List (Nat × Nat × Nat × Nat)}
    (hown : s.vm.findClass own = some m.cls) (hlink : (Cond.methodLink own index y).before args s = true) (hstat : (Cond.static y).before args s = true) (hinit : (Cond.initialized y.cls).before args s = true)
    (hcode : (Cond.codeWith y bytes maxL ret hh).before args s = true) (hy : y.cls ≠ "java/lang/invoke/MethodHandle" ∧ y.cls ≠ "java/lang/invoke/VarHandle")
    {W9 : Nat} {Pre : Pt → Array Value → Prop} {Post : Pt → Array Value → Option Value → Pt → Prop} {PostX : Pt → Array Value → Addr → Pt → Prop} (hK : vx_Back l R p e below s args y 3 W9 Pre Post PostX)
    {g : JFrame} (hg : g.method = m) (hsize : g.locals.size = c.maxLocals) {argsL rest : List Value} (hlen : ∀ sig, parseMethodDescriptor y.desc = some sig → argsL.length = sig.parameters.length)
    (hstack : g.stack = argsL.reverse ++ rest) (hW : 2 * g.monitorRoom + (rest.map fun v => v.category).sum ≤ W9) (hdg : decode c.code g.pc = .ok (.invokestatic index, 3))
    (hpre : ∀ vm₁, s.WarmedH vm₁ → Pre ⟨T.setVm vm₁, locs, cells, slots⟩ argsL.toArray) :
    (∃ (v : Option Value) (vm₁ : Vm) (B : Pt), s.WarmedH vm₁ ∧ Stand p l e R s m args below meth c B.U B.locs B.cells B.slots ∧ Post ⟨T.setVm vm₁, locs, cells, slots⟩ argsL.toArray v B ∧
      ∀ target, Steps p.tables e below (B.U.setTop { g with pc := g.pc + 3, stack := v.toList ++ rest }) target → Steps p.tables e below (T.setTop g) target) ∨
    (∃ (q : Addr) (vm₁ : Vm) (B : Pt), s.WarmedH vm₁ ∧ Stand p l e R s m args below meth c B.U B.locs B.cells B.slots ∧ PostX ⟨T.setVm vm₁, locs, cells, slots⟩ argsL.toArray q B ∧
      Steps p.tables e below (T.setTop g) ((B.U.setTop { g with stack := rest }).pushFrame (.throwing q))) := by
  obtain ⟨mk, methM, cM, hnamed, hmethM, -, -, -, -, -, -, hsigM⟩ := Cond.codeWith_spec hcode
  have hstatic : methM.isStatic = true := Cond.static_spec hnamed hmethM hstat
  obtain ⟨kP, hkP, -⟩ := className_of_methodNamed hnamed
  have hinitP : kP.init = .initialized := Cond.initialized_spec (findClass_of_methodNamed hnamed) hkP hinit
  obtain ⟨vm₁, X₁, hstep₁⟩ := X.invokestatic hexec hown hlink hnamed hmethM hstatic hkP hinitP hy (g := g) hg (argsL := argsL) (rest := rest) (hlen _ hsigM) hstack hdg
  rcases hK m meth c ⟨T.setVm vm₁, locs, cells, slots⟩ { g with stack := rest } (.invokestatic index) mk argsL.toArray X₁ hg hsize hdg hW (X₁.named hnamed) (hpre vm₁ X₁.warmed) with ⟨v, B, X', hpost, hsteps⟩ | ⟨q, B, X', hpost, hsteps⟩
  · exact Or.inl ⟨v, vm₁, B, X₁.warmed, X', hpost, fun target h => hstep₁ _ fun acts => by rw [doInvoke_state]; exact hsteps.trans h⟩
  · exact Or.inr ⟨q, vm₁, B, X₁.warmed, X', hpost, hstep₁ _ fun acts => by rw [doInvoke_state]; exact hsteps⟩
theorem vx_callVW (X : Stand p l e R s m args below meth c T locs cells slots) (hexec : p.tables.exec = Jvm.exec) {own C : String} {index : Nat} {y : MethodName} {bytes : ByteArray} {maxL : Nat} {ret : Option FieldType} {hh : List (Nat × Nat × Nat × Nat)}
    (hown : s.vm.findClass own = some m.cls) (hlink : (Cond.methodLink own index y).before args s = true) (hinst : (Cond.instanceMethod y).before args s = true) (hsel : (Cond.selects C y y).before args s = true)
    (hcode : (Cond.codeWith y bytes maxL ret hh).before args s = true) (hy : y.cls ≠ "java/lang/invoke/MethodHandle" ∧ y.cls ≠ "java/lang/invoke/VarHandle")
    {W9 : Nat} {Pre : Pt → Array Value → Prop} {Post : Pt → Array Value → Option Value → Pt → Prop} (hK : Back l R p e below s args y 3 W9 Pre Post)
    {b : Addr} {cellB : Cell} (hcell : T.heap[b]? = some cellB) (hobj : cellB.vm.isStatics = false) (hcls : s.vm.findClass C = some cellB.cls)
    {g : JFrame} (hg : g.method = m) (hsize : g.locals.size = c.maxLocals) {argsL rest : List Value} (hlen : ∀ sig, parseMethodDescriptor y.desc = some sig → argsL.length = sig.parameters.length)
    (hstack : g.stack = argsL.reverse ++ .ref b :: rest) (hW : 2 * g.monitorRoom + (rest.map fun v => v.category).sum ≤ W9) (hdg : decode c.code g.pc = .ok (.invokevirtual index, 3))
    (hpre : ∀ vm₁, s.WarmedH vm₁ → Pre ⟨T.setVm vm₁, locs, cells, slots⟩ (Value.ref b :: argsL).toArray) :
    ∃ (v : Option Value) (vm₁ : Vm) (B : Pt), s.WarmedH vm₁ ∧ Stand p l e R s m args below meth c B.U B.locs B.cells B.slots ∧ Post ⟨T.setVm vm₁, locs, cells, slots⟩ (Value.ref b :: argsL).toArray v B ∧
      ∀ target, Steps p.tables e below (B.U.setTop { g with pc := g.pc + 3, stack := v.toList ++ rest }) target → Steps p.tables e below (T.setTop g) target := by
  obtain ⟨mk, methM, hnamed, hmethM, hstM, habM⟩ := Cond.instanceMethod_spec hinst
  obtain ⟨m8, methM', cM, hn8, hmethM', -, -, -, -, -, -, hsigM⟩ := Cond.codeWith_spec hcode
  cases Option.some.inj (hn8.symm.trans hnamed)
  cases hmethM.symm.trans hmethM'
  obtain ⟨c2, r2, m2, q1, q2, q3, q4, kP, hkP, hkPi⟩ := Cond.selects_spec hsel
  cases hcls.symm.trans q1
  cases (State.methodFound?_of_named hnamed hy).symm.trans q2
  cases hnamed.symm.trans q3
  have hselP : selectMethod e.platform s.vm cellB.cls mk = .method mk := by rw [Launch.admits_selectMethod X.admits]; exact q4
  obtain ⟨vm₁, X₁, hstep₁⟩ := X.invokevirtual hexec hown hlink hnamed hmethM hstM hkP hkPi hy (a := b) (cell := cellB) hcell
    (fun z h => by rw [h] at hobj; cases hobj) hselP hmethM habM hkP hkPi (g := g) hg (argsL := argsL) (rest := rest) (hlen _ hsigM) hstack hdg
  obtain ⟨v, B, X', hpost, hsteps⟩ := hK m meth c ⟨T.setVm vm₁, locs, cells, slots⟩ { g with stack := rest } (.invokevirtual index) mk (Value.ref b :: argsL).toArray X₁ hg hsize hdg hW (X₁.named hnamed) (hpre vm₁ X₁.warmed)
  exact ⟨v, vm₁, B, X₁.warmed, X', hpost, fun target h => hstep₁ _ fun acts => by rw [doInvoke_state]; exact hsteps.trans h⟩
abbrev vx_CVW (R : Room) (s : State) (args : Array Value) (own C : String) (index : Nat) (y : MethodName) (bytes : ByteArray) (maxL : Nat) (ret : Option FieldType) (hh : List (Nat × Nat × Nat × Nat)) (ws : List Cond) (rm : Room) (mc ms n : Nat) : Prop :=
  (rm.cells = mc ∧ rm.slots = ms ∧ rm.frames + 1 ≤ R.frames ∧ 8 + (maxL + 11) + rm.locals ≤ R.locals ∧ (∀ w ∈ ws, ∀ (a' : Array Value) (U : State), s.WarmedH U.vm → w.before a' U = true) ∧ Cond.codeWith y bytes maxL ret hh ∈ ws) ∧
  (Cond.codeWith y bytes maxL ret hh).before args s = true ∧ (Cond.initialized y.cls).before args s = true ∧ (y.cls ≠ "java/lang/invoke/MethodHandle" ∧ y.cls ≠ "java/lang/invoke/VarHandle") ∧
  (∀ sig, parseMethodDescriptor y.desc = some sig → n = sig.parameters.length) ∧ (Cond.methodLink own index y).before args s = true ∧ (Cond.instanceMethod y).before args s = true ∧ (Cond.selects C y y).before args s = true
theorem vx_cwVW {own C : String} {index maxL mc ms : Nat} {y : MethodName} {bytes : ByteArray} {ret : Option FieldType} {hh : List (Nat × Nat × Nat × Nat)} {Ts ws ws' : List Cond} {rm : Room} (n : Nat) (ht : ∀ w ∈ Ts, w.before args s = true) (hT : GoodIn Ts (wsV own index C y ws)) (hw : ws = Cond.codeWith y bytes maxL ret hh :: ws') (hrc : rm.cells = mc) (hrs : rm.slots = ms)
    (hd : y.cls = C ∧ y.cls ≠ "java/lang/invoke/MethodHandle" ∧ y.cls ≠ "java/lang/invoke/VarHandle" ∧ (parseMethodDescriptor y.desc).map (fun d => d.parameters.length) = some n) (hR : rm.frames + 1 ≤ R.frames ∧ 8 + (maxL + 11) + rm.locals ≤ R.locals) :
    vx_CVW R s args own C index y bytes maxL ret hh ws rm mc ms n := by
  obtain ⟨hC, hd⟩ := hd
  subst hC
  have ok : ∀ w ∈ wsV own index y.cls y ws, w.before args s = true := fun w h => ht w (hT w h).1
  have hG : GoodIn Ts ws := fun w h => hT w (by unfold wsV; exact List.mem_append_right _ h)
  have hc : Cond.codeWith y bytes maxL ret hh ∈ ws := by rw [hw]; exact List.mem_cons_self
  refine ⟨⟨hrc, hrs, hR.1, hR.2, pay_in ht hG, hc⟩, ht _ (hG _ hc).1, ok _ (by simp [wsV]), ⟨hd.1, hd.2.1⟩, fun sig h => ?_, ok _ (by simp [wsV]), ok _ (by simp [wsV]), ok _ (by simp [wsV])⟩
  have h2 := hd.2.2
  rw [h] at h2
  exact (Option.some.inj h2).symm
theorem vx_runVW {y : MethodName} {bytes cc : ByteArray} {maxL nL mc ms n index : Nat} {ret : Option FieldType} {hh : List (Nat × Nat × Nat × Nat)} {ws : List Cond} {rm : Room} {Pc : Array Value → State → Prop} {Qc : Array Value → State → Outcome → State → Prop} {free : Addr → Prop} {Ts : List Cond} {own C : String} {b : Addr} {As rest : List Value} {g : JFrame}
    (S : CallFix p m c cc nL s args Ts own) (hM : Met l y ws rm Pc Qc mc ms free) (cw : vx_CVW R s args own C index y bytes maxL ret hh ws rm mc ms n) (hp : PreV s H C b Pc As)
    (hg : g.method = m) (hn : As.length = n) (hsize : g.locals.size = nL) (hstack : g.stack = As.reverse ++ .ref b :: rest) (hW : 2 * g.monitorRoom + (rest.map fun v => v.category).sum ≤ 8) (hdg : decode cc g.pc = .ok (.invokevirtual index, 3)) (hf : cells + mc ≤ R.cells ∧ slots + ms ≤ R.slots) :
    va_Run p l e R s m args below meth c H locs cells slots mc ms g rest (Qc (Value.ref b :: As).toArray) free := by
  obtain ⟨⟨hrc, hrs, hfr, hlo, hws, hcw⟩, hcode, hini, hy, hlen, hl, hin, hse⟩ := cw
  have hK : Back l R p e below s args y 3 8 (PreOf R mc ms Pc) (PostOf Qc mc ms free) := va_backW (hh := hh) (bytes := bytes) (maxL := maxL) (ret := ret) hM hp.1 hrc hrs hfr hlo hws hcw (fun a' U hW => word_at hW (Or.inl (by first | rfl | simp [Cond.onTables, Cond.keeps, Cond.steady])) hini)
  obtain ⟨hx, hb, hml, ho, -⟩ := S
  obtain ⟨-, ⟨cellB, hcB, hoB, hclB⟩, hPc⟩ := hp
  intro T hT X
  obtain ⟨v, vm₁, ⟨U', l2, c2, s2⟩, hW₁, X', ⟨g', mk, t, L, e1, e2, hq, h1, hL, h2, h3⟩, st⟩ := vx_callVW X hx (C := C) (hh := hh) (bytes := bytes) (maxL := maxL) (ret := ret) ho hl hin hse hcode hy hK (by rw [hT]; exact hcB) hoB hclB hg (hsize.trans hml.symm) (argsL := As) (rest := rest) (fun sig h => hn.trans (hlen sig h)) hstack hW (by rw [hb]; exact hdg)
    (fun vm₁ hW₁ => ⟨hf.1, hf.2, hPc (T.setVm vm₁) hT hW₁⟩)
  dsimp only [Pt.U, Pt.locs, Pt.cells, Pt.slots] at X' e1 e2 h1 h2 h3 st
  subst h1; subst h2; subst h3
  exact ⟨v, (T.setVm vm₁).calling g' mk (Value.ref b :: As).toArray, t, U', L, hT, X', hL, e1, e2, hq, st⟩
section
variable {y : MethodName} {bytes cc : ByteArray} {maxL nL mc ms n index : Nat} {ret : Option FieldType} {ws : List Cond} {rm : Room} {Pc : Array Value → State → Prop} {Qc : Array Value → State → Outcome → State → Prop} {XC : String → State → State → Prop} {free : Addr → Prop} {Ts : List Cond} {own C : String} {b : Addr} {As rest : List Value} {g : JFrame}
theorem vx_runVX {hh : List (Nat × Nat × Nat × Nat)} (S : CallFix p m c cc nL s args Ts own) (hM : vx_Met l y ws rm Pc Qc XC mc ms free) (cw : vx_CVW R s args own C index y bytes maxL ret hh ws rm mc ms n) (hp : PreV s H C b Pc As)
    (hg : g.method = m) (hn : As.length = n) (hsize : g.locals.size = nL) (hstack : g.stack = As.reverse ++ .ref b :: rest) (hW : 2 * g.monitorRoom + (rest.map fun v => v.category).sum ≤ 8) (hdg : decode cc g.pc = .ok (.invokevirtual index, 3)) (hf : cells + mc ≤ R.cells ∧ slots + ms ≤ R.slots) :
    vx_Run p l e R s m args below meth c H locs cells slots mc ms g rest (Qc (Value.ref b :: As).toArray) XC free := by
  obtain ⟨⟨hrc, hrs, hfr, hlo, hws, hcw⟩, hcode, hini, hy, hlen, hl, hin, hse⟩ := cw
  have hK : vx_Back l R p e below s args y 3 8 (PreOf R mc ms Pc) (PostOf Qc mc ms free) (vx_Post XC mc ms free) := vx_backW (hh := hh) (bytes := bytes) (maxL := maxL) (ret := ret) hM hp.1 hrc hrs hfr hlo hws hcw (fun a' U hW => word_at hW (Or.inl (by first | rfl | simp [Cond.onTables, Cond.keeps, Cond.steady])) hini)
  obtain ⟨hx, hb, hml, ho, -⟩ := S
  obtain ⟨-, ⟨cellB, hcB, hoB, hclB⟩, hPc⟩ := hp
  intro T hT X
  rcases vx_callVX X hx (C := C) (hh := hh) (bytes := bytes) (maxL := maxL) (ret := ret) ho hl hin hse hcode hy hK (by rw [hT]; exact hcB) hoB hclB hg (hsize.trans hml.symm) (argsL := As) (rest := rest) (fun sig h => hn.trans (hlen sig h)) hstack hW (by rw [hb]; exact hdg)
    (fun vm₁ hW₁ => ⟨hf.1, hf.2, hPc (T.setVm vm₁) hT hW₁⟩) with ⟨v, vm₁, ⟨U', l2, c2, s2⟩, hW₁, X', ⟨g', mk, t, L, e1, e2, hq, h1, hL, h2, h3⟩, st⟩ | ⟨q, vm₁, ⟨U', l2, c2, s2⟩, hW₁, X', ⟨g', mk, t, L, E, ce, e1, e2, hq, hce, hcv, hcl, h1, hL, h2, h3⟩, st⟩
  · dsimp only [Pt.U, Pt.locs, Pt.cells, Pt.slots] at X' e1 e2 h1 h2 h3 st
    subst h1; subst h2; subst h3
    exact Or.inl ⟨v, (T.setVm vm₁).calling g' mk (Value.ref b :: As).toArray, t, U', L, hT, X', hL, e1, e2, hq, st⟩
  · dsimp only [Pt.U, Pt.locs, Pt.cells, Pt.slots] at X' e1 e2 h1 h2 h3 st hcl
    subst h1; subst h2; subst h3
    exact Or.inr ⟨q, (T.setVm vm₁).calling g' mk (Value.ref b :: As).toArray, t, U', L, E, ce, hT, X', hL, e1, e2, hq, hce, hcv, vx_cls hW₁ hcl, st⟩
theorem vx_runSX {hh : List (Nat × Nat × Nat × Nat)} (S : CallFix p m c cc nL s args Ts own) (hM : vx_Met l y ws rm Pc Qc XC mc ms free) (cw : vx_CSW R s args own index y bytes maxL ret hh ws rm mc ms n) (hp : PreS s H Pc As)
    (hg : g.method = m) (hn : As.length = n) (hsize : g.locals.size = nL) (hstack : g.stack = As.reverse ++ rest) (hW : 2 * g.monitorRoom + (rest.map fun v => v.category).sum ≤ 8) (hdg : decode cc g.pc = .ok (.invokestatic index, 3)) (hf : cells + mc ≤ R.cells ∧ slots + ms ≤ R.slots) :
    vx_Run p l e R s m args below meth c H locs cells slots mc ms g rest (Qc As.toArray) XC free := by
  obtain ⟨⟨hrc, hrs, hfr, hlo, hws, hcw⟩, hcode, hini, hy, hlen, hl, hstt⟩ := cw
  have hK : vx_Back l R p e below s args y 3 8 (PreOf R mc ms Pc) (PostOf Qc mc ms free) (vx_Post XC mc ms free) := vx_backW (hh := hh) (bytes := bytes) (maxL := maxL) (ret := ret) hM hp.1 hrc hrs hfr hlo hws hcw (fun a' U hW => word_at hW (Or.inl (by first | rfl | simp [Cond.onTables, Cond.keeps, Cond.steady])) hini)
  obtain ⟨hx, hb, hml, ho, -⟩ := S
  intro T hT X
  rcases vx_callSX X hx (hh := hh) (bytes := bytes) (maxL := maxL) (ret := ret) ho hl hstt hini hcode hy hK hg (hsize.trans hml.symm) (argsL := As) (rest := rest) (fun sig h => hn.trans (hlen sig h)) hstack hW (by rw [hb]; exact hdg)
    (fun vm₁ hW₁ => ⟨hf.1, hf.2, hp.2 (T.setVm vm₁) hT hW₁⟩) with ⟨v, vm₁, ⟨U', l2, c2, s2⟩, hW₁, X', ⟨g', mk, t, L, e1, e2, hq, h1, hL, h2, h3⟩, st⟩ | ⟨q, vm₁, ⟨U', l2, c2, s2⟩, hW₁, X', ⟨g', mk, t, L, E, ce, e1, e2, hq, hce, hcv, hcl, h1, hL, h2, h3⟩, st⟩
  · dsimp only [Pt.U, Pt.locs, Pt.cells, Pt.slots] at X' e1 e2 h1 h2 h3 st
    subst h1; subst h2; subst h3
    exact Or.inl ⟨v, (T.setVm vm₁).calling g' mk As.toArray, t, U', L, hT, X', hL, e1, e2, hq, st⟩
  · dsimp only [Pt.U, Pt.locs, Pt.cells, Pt.slots] at X' e1 e2 h1 h2 h3 st hcl
    subst h1; subst h2; subst h3
    exact Or.inr ⟨q, (T.setVm vm₁).calling g' mk As.toArray, t, U', L, E, ce, hT, X', hL, e1, e2, hq, hce, hcv, vx_cls hW₁ hcl, st⟩
end
end VXH
theorem vx_ofWH {l : Launch} {y : MethodName} {ws ws' : List Cond} {rm : Room} {Pc : Array Value → State → Prop} {Qc : Array Value → State → Outcome → State → Prop} {XC : String → State → State → Prop} {mc ms : Nat} {free : Addr → Prop} {cc : ByteArray} {maxL : Nat} {ret : Option FieldType} {hh : List (Nat × Nat × Nat × Nat)}
    (hy : plainName y.cls = true) (hw : ws = Cond.codeWith y cc maxL ret hh :: ws')
    (body : ∀ p e s m args below meth c s₁, BodyLoose p l y (headSpec ws rm) cc maxL ret e s m args below meth c s₁ → c.maxLocals = maxL → Pc args s →
      W p l e (headSpec ws rm).room s m args below meth c s.heap [] 0 0 (vx_MQ below Qc XC args s mc ms free) (entryFrame m args maxL)) : vx_Met l y ws rm Pc Qc XC mc ms free := by
  refine MetFree.of_bodyS (code := cc) (maxLocals := maxL) (ret := ret) hy ?_ ?_
  · intro args s m h hn
    obtain ⟨m9, meth, c, hn9, h1, h2, h3, h4, -, h5, h6, -⟩ := Cond.codeWith_spec (atoms_spec (ws := ws) h _ (by rw [hw]; exact List.mem_cons_self))
    cases hn.symm.trans hn9
    exact ⟨meth, c, h1, h2, h3, h4, h5, h6⟩
  · intro p e s m args below meth c s₁ B hml hP _
    have hh0 : s₁.heap = s.heap := by rw [B.state]; rfl
    obtain ⟨t, a1, o, b1, b2, b3⟩ := body p e s m args below meth c s₁ B hml hP s₁ hh0 (Stand.of_body B)
    exact ⟨t, o, a1, b1, b2, b3⟩
/-! ===== END ===== -/
end
section
/-! ===== BEGIN printed: names, fields, word lists, decode rows ===== -/
def RX0 : String := "Cardhouse$Decks"
def TX0 : u_T := fun k => match k with
  | 0 => ("Cardhouse$Decks", "owner", "[I", true)
  | 1 => ("Cardhouse$Decks", "size", "[I", true)
  | 2 => ("Cardhouse$Decks", "cards", "[[I", true)
  | 3 => ("Cardhouse$Decks", "count", "I", false)
  | 4 => ("Cardhouse$Decks", "formatSize", "I", false)
  | _ => ("Cardhouse$Decks", "formatMost", "I", false)
def tyX0 : Nat → FieldType := fun k => match k with
  | 0 => .array .int
  | 1 => .array .int
  | 2 => .array (.array .int)
  | 3 => .int
  | 4 => .int
  | _ => .int
abbrev wsX00 : List Cond := u_ws RX0 TX0 6
theorem nmX0 : ∀ a, a < 6 → ∀ b, b < 6 → a ≠ b → (TX0 a).2.1 ≠ (TX0 b).2.1 := by decide +kernel
theorem tyX0_ok : ∀ k, k < 6 → parseFieldDescriptor (TX0 k).2.2.1 = some (tyX0 k) := by decide +kernel
abbrev cX0_init : ByteArray := prog_2_method_1_code
def yX0_init : MethodName := ⟨RX0, "<init>", "()V"⟩
abbrev cX0_append : ByteArray := prog_2_method_2_code
def yX0_append : MethodName := ⟨RX0, "append", "(I)I"⟩
abbrev cX0_holds : ByteArray := prog_2_method_3_code
def yX0_holds : MethodName := ⟨RX0, "holds", "(II)Z"⟩
abbrev cX0_putBehind : ByteArray := prog_2_method_4_code
def yX0_putBehind : MethodName := ⟨RX0, "putBehind", "(II)I"⟩
abbrev cX0_takeOut : ByteArray := prog_2_method_5_code
def yX0_takeOut : MethodName := ⟨RX0, "takeOut", "(II)I"⟩
abbrev cX0_placesOf : ByteArray := prog_2_method_6_code
def yX0_placesOf : MethodName := ⟨RX0, "placesOf", "(IILCardhouse$Prints;)I"⟩
abbrev cX0_countOf : ByteArray := prog_2_method_7_code
def yX0_countOf : MethodName := ⟨RX0, "countOf", "(IILCardhouse$Prints;)I"⟩
abbrev cX0_fitsFormat : ByteArray := prog_2_method_8_code
def yX0_fitsFormat : MethodName := ⟨RX0, "fitsFormat", "(ILCardhouse$Kinds;LCardhouse$Prints;)Z"⟩
abbrev cX0_countFitting : ByteArray := prog_2_method_9_code
def yX0_countFitting : MethodName := ⟨RX0, "countFitting", "(LCardhouse$Kinds;LCardhouse$Prints;)I"⟩
def RX1 : String := "Cardhouse$Kinds"
def TX1 : u_T := fun k => match k with
  | 0 => ("Cardhouse$Kinds", "power", "[I", true)
  | 1 => ("Cardhouse$Kinds", "trigger", "[I", true)
  | 2 => ("Cardhouse$Kinds", "isBanned", "[Z", true)
  | 3 => ("Cardhouse$Kinds", "copies", "[I", true)
  | _ => ("Cardhouse$Kinds", "wins", "[I", true)
def tyX1 : Nat → FieldType := fun k => match k with
  | 0 => .array .int
  | 1 => .array .int
  | 2 => .array .boolean
  | 3 => .array .int
  | _ => .array .int
abbrev wsX10 : List Cond := u_ws RX1 TX1 5
theorem nmX1 : ∀ a, a < 5 → ∀ b, b < 5 → a ≠ b → (TX1 a).2.1 ≠ (TX1 b).2.1 := by decide +kernel
theorem tyX1_ok : ∀ k, k < 5 → parseFieldDescriptor (TX1 k).2.2.1 = some (tyX1 k) := by decide +kernel
abbrev cX1_init : ByteArray := prog_3_method_1_code
def yX1_init : MethodName := ⟨RX1, "<init>", "()V"⟩
def RX2 : String := "Cardhouse$Offers"
def TX2 : u_T := fun k => match k with
  | 0 => ("Cardhouse$Offers", "card", "[I", true)
  | 1 => ("Cardhouse$Offers", "given", "[I", true)
  | 2 => ("Cardhouse$Offers", "wanted", "[I", true)
  | 3 => ("Cardhouse$Offers", "collector", "[I", true)
  | 4 => ("Cardhouse$Offers", "isLive", "[Z", true)
  | 5 => ("Cardhouse$Offers", "ring", "[I", true)
  | _ => ("Cardhouse$Offers", "count", "I", false)
def tyX2 : Nat → FieldType := fun k => match k with
  | 0 => .array .int
  | 1 => .array .int
  | 2 => .array .int
  | 3 => .array .int
  | 4 => .array .boolean
  | 5 => .array .int
  | _ => .int
abbrev wsX20 : List Cond := u_ws RX2 TX2 7
theorem nmX2 : ∀ a, a < 7 → ∀ b, b < 7 → a ≠ b → (TX2 a).2.1 ≠ (TX2 b).2.1 := by decide +kernel
theorem tyX2_ok : ∀ k, k < 7 → parseFieldDescriptor (TX2 k).2.2.1 = some (tyX2 k) := by decide +kernel
abbrev cX2_init : ByteArray := prog_4_method_1_code
def yX2_init : MethodName := ⟨RX2, "<init>", "()V"⟩
abbrev cX2_append : ByteArray := prog_4_method_2_code
def yX2_append : MethodName := ⟨RX2, "append", "(IILCardhouse$Prints;)I"⟩
abbrev cX2_hasLive : ByteArray := prog_4_method_3_code
def yX2_hasLive : MethodName := ⟨RX2, "hasLive", "(I)Z"⟩
abbrev cX2_findRing : ByteArray := prog_4_method_4_code
def yX2_findRing : MethodName := ⟨RX2, "findRing", "()I"⟩
abbrev cX2_closes : ByteArray := prog_4_method_5_code
def yX2_closes : MethodName := ⟨RX2, "closes", "(LCardhouse$Offers;II)Z"⟩
abbrev cX2_canFollow : ByteArray := prog_4_method_6_code
def yX2_canFollow : MethodName := ⟨RX2, "canFollow", "(II)Z"⟩
abbrev cX2_canGive : ByteArray := prog_4_method_7_code
def yX2_canGive : MethodName := ⟨RX2, "canGive", "(II)Z"⟩
def RX3 : String := "Cardhouse$Pile"
def TX3 : u_T := fun k => match k with
  | _ => ("Cardhouse$Pile", "cards", "[I", true)
def tyX3 : Nat → FieldType := fun k => match k with
  | _ => .array .int
abbrev wsX30 : List Cond := u_ws RX3 TX3 1
theorem nmX3 : ∀ a, a < 1 → ∀ b, b < 1 → a ≠ b → (TX3 a).2.1 ≠ (TX3 b).2.1 := by decide +kernel
theorem tyX3_ok : ∀ k, k < 1 → parseFieldDescriptor (TX3 k).2.2.1 = some (tyX3 k) := by decide +kernel
abbrev cX3_init : ByteArray := prog_5_method_1_code
def yX3_init : MethodName := ⟨RX3, "<init>", "()V"⟩
abbrev cX3_shuffle : ByteArray := prog_5_method_2_code
def yX3_shuffle : MethodName := ⟨RX3, "shuffle", "(LCardhouse$Decks;II)V"⟩
def RX4 : String := "Cardhouse$Prints"
def TX4 : u_T := fun k => match k with
  | 0 => ("Cardhouse$Prints", "kind", "[I", true)
  | 1 => ("Cardhouse$Prints", "number", "[I", true)
  | 2 => ("Cardhouse$Prints", "collector", "[I", true)
  | _ => ("Cardhouse$Prints", "count", "I", false)
def tyX4 : Nat → FieldType := fun k => match k with
  | 0 => .array .int
  | 1 => .array .int
  | 2 => .array .int
  | _ => .int
abbrev wsX40 : List Cond := u_ws RX4 TX4 4
theorem nmX4 : ∀ a, a < 4 → ∀ b, b < 4 → a ≠ b → (TX4 a).2.1 ≠ (TX4 b).2.1 := by decide +kernel
theorem tyX4_ok : ∀ k, k < 4 → parseFieldDescriptor (TX4 k).2.2.1 = some (tyX4 k) := by decide +kernel
abbrev cX4_init : ByteArray := prog_6_method_1_code
def yX4_init : MethodName := ⟨RX4, "<init>", "()V"⟩
abbrev cX4_append : ByteArray := prog_6_method_2_code
def yX4_append : MethodName := ⟨RX4, "append", "(III)I"⟩
abbrev cX4_countOf : ByteArray := prog_6_method_3_code
def yX4_countOf : MethodName := ⟨RX4, "countOf", "(II)I"⟩
def RX5 : String := "Cardhouse$Side"
def TX5 : u_T := fun k => match k with
  | 0 => ("Cardhouse$Side", "pile", "LCardhouse$Pile;", true)
  | 1 => ("Cardhouse$Side", "points", "I", false)
  | _ => ("Cardhouse$Side", "ahead", "I", false)
def tyX5 : Nat → FieldType := fun k => match k with
  | 0 => .object "Cardhouse$Pile"
  | 1 => .int
  | _ => .int
abbrev wsX50 : List Cond := u_ws RX5 TX5 3
theorem nmX5 : ∀ a, a < 3 → ∀ b, b < 3 → a ≠ b → (TX5 a).2.1 ≠ (TX5 b).2.1 := by decide +kernel
theorem tyX5_ok : ∀ k, k < 3 → parseFieldDescriptor (TX5 k).2.2.1 = some (tyX5 k) := by decide +kernel
abbrev cX5_init : ByteArray := prog_7_method_1_code
def yX5_init : MethodName := ⟨RX5, "<init>", "()V"⟩
abbrev cX5_start : ByteArray := prog_7_method_2_code
def yX5_start : MethodName := ⟨RX5, "start", "(LCardhouse$Decks;II)V"⟩
abbrev cX5_endRound : ByteArray := prog_7_method_3_code
def yX5_endRound : MethodName := ⟨RX5, "endRound", "(ZII)V"⟩
def RX6 : String := "Cardhouse"
def TX6 : u_T := fun k => match k with
  | 0 => ("Cardhouse", "kinds", "LCardhouse$Kinds;", true)
  | 1 => ("Cardhouse", "prints", "LCardhouse$Prints;", true)
  | 2 => ("Cardhouse", "decks", "LCardhouse$Decks;", true)
  | 3 => ("Cardhouse", "offers", "LCardhouse$Offers;", true)
  | 4 => ("Cardhouse", "pile", "LCardhouse$Pile;", true)
  | 5 => ("Cardhouse", "firstSide", "LCardhouse$Side;", true)
  | _ => ("Cardhouse", "secondSide", "LCardhouse$Side;", true)
def tyX6 : Nat → FieldType := fun k => match k with
  | 0 => .object "Cardhouse$Kinds"
  | 1 => .object "Cardhouse$Prints"
  | 2 => .object "Cardhouse$Decks"
  | 3 => .object "Cardhouse$Offers"
  | 4 => .object "Cardhouse$Pile"
  | 5 => .object "Cardhouse$Side"
  | _ => .object "Cardhouse$Side"
abbrev wsX60 : List Cond := u_ws RX6 TX6 7
theorem nmX6 : ∀ a, a < 7 → ∀ b, b < 7 → a ≠ b → (TX6 a).2.1 ≠ (TX6 b).2.1 := by decide +kernel
theorem tyX6_ok : ∀ k, k < 7 → parseFieldDescriptor (TX6 k).2.2.1 = some (tyX6 k) := by decide +kernel
abbrev cX6_init : ByteArray := prog_1_method_1_code
def yX6_init : MethodName := ⟨RX6, "<init>", "()V"⟩
abbrev cX6_setKind : ByteArray := prog_1_method_2_code
def yX6_setKind : MethodName := ⟨RX6, "setKind", "(III)I"⟩
abbrev cX6_setFormat : ByteArray := prog_1_method_3_code
def yX6_setFormat : MethodName := ⟨RX6, "setFormat", "(II)I"⟩
abbrev cX6_ban : ByteArray := prog_1_method_4_code
def yX6_ban : MethodName := ⟨RX6, "ban", "(IZ)I"⟩
abbrev cX6_print : ByteArray := prog_1_method_5_code
def yX6_print : MethodName := ⟨RX6, "print", "(II)I"⟩
abbrev cX6_deck : ByteArray := prog_1_method_6_code
def yX6_deck : MethodName := ⟨RX6, "deck", "(I)I"⟩
abbrev cX6_add : ByteArray := prog_1_method_7_code
def yX6_add : MethodName := ⟨RX6, "add", "(II)I"⟩
abbrev cX6_cut : ByteArray := prog_1_method_8_code
def yX6_cut : MethodName := ⟨RX6, "cut", "(II)I"⟩
abbrev cX6_play : ByteArray := prog_1_method_9_code
def yX6_play : MethodName := ⟨RX6, "play", "(IIII)I"⟩
abbrev cX6_offer : ByteArray := prog_1_method_10_code
def yX6_offer : MethodName := ⟨RX6, "offer", "(II)I"⟩
abbrev cX6_takeBack : ByteArray := prog_1_method_11_code
def yX6_takeBack : MethodName := ⟨RX6, "takeBack", "(I)I"⟩
abbrev cX6_trade : ByteArray := prog_1_method_12_code
def yX6_trade : MethodName := ⟨RX6, "trade", "()I"⟩
abbrev cX6_cards : ByteArray := prog_1_method_13_code
def yX6_cards : MethodName := ⟨RX6, "cards", "()I"⟩
abbrev cX6_printOf : ByteArray := prog_1_method_14_code
def yX6_printOf : MethodName := ⟨RX6, "printOf", "(I)I"⟩
abbrev cX6_collectorOf : ByteArray := prog_1_method_15_code
def yX6_collectorOf : MethodName := ⟨RX6, "collectorOf", "(I)I"⟩
abbrev cX6_has : ByteArray := prog_1_method_16_code
def yX6_has : MethodName := ⟨RX6, "has", "(II)I"⟩
abbrev cX6_wins : ByteArray := prog_1_method_17_code
def yX6_wins : MethodName := ⟨RX6, "wins", "(I)I"⟩
abbrev cX6_price : ByteArray := prog_1_method_18_code
def yX6_price : MethodName := ⟨RX6, "price", "(I)I"⟩
abbrev cX6_isAllowed : ByteArray := prog_1_method_19_code
def yX6_isAllowed : MethodName := ⟨RX6, "isAllowed", "(I)Z"⟩
abbrev cX6_shuffled : ByteArray := prog_1_method_20_code
def yX6_shuffled : MethodName := ⟨RX6, "shuffled", "(III)I"⟩
abbrev cX6_orders : ByteArray := prog_1_method_21_code
def yX6_orders : MethodName := ⟨RX6, "orders", "(III)I"⟩
abbrev cX6_ordersByAll : ByteArray := prog_1_method_22_code
def yX6_ordersByAll : MethodName := ⟨RX6, "ordersByAll", "(III)I"⟩
abbrev cX6_isOpen : ByteArray := prog_1_method_23_code
def yX6_isOpen : MethodName := ⟨RX6, "isOpen", "(I)Z"⟩
abbrev cX6_ring : ByteArray := prog_1_method_24_code
def yX6_ring : MethodName := ⟨RX6, "ring", "(I)I"⟩
abbrev cX6_needKind : ByteArray := prog_1_method_25_code
def yX6_needKind : MethodName := ⟨RX6, "needKind", "(I)V"⟩
abbrev cX6_needCollector : ByteArray := prog_1_method_26_code
def yX6_needCollector : MethodName := ⟨RX6, "needCollector", "(I)V"⟩
abbrev cX6_needCard : ByteArray := prog_1_method_27_code
def yX6_needCard : MethodName := ⟨RX6, "needCard", "(I)V"⟩
abbrev cX6_needDeck : ByteArray := prog_1_method_28_code
def yX6_needDeck : MethodName := ⟨RX6, "needDeck", "(I)V"⟩
abbrev cX6_needPlace : ByteArray := prog_1_method_29_code
def yX6_needPlace : MethodName := ⟨RX6, "needPlace", "(II)V"⟩
abbrev cX6_needOffer : ByteArray := prog_1_method_30_code
def yX6_needOffer : MethodName := ⟨RX6, "needOffer", "(I)V"⟩
abbrev cX6_needRange : ByteArray := prog_1_method_31_code
def yX6_needRange : MethodName := ⟨RX6, "needRange", "(III)V"⟩
abbrev cX6_needSeed : ByteArray := prog_1_method_32_code
def yX6_needSeed : MethodName := ⟨RX6, "needSeed", "(I)V"⟩
abbrev cX6_needAllowed : ByteArray := prog_1_method_33_code
def yX6_needAllowed : MethodName := ⟨RX6, "needAllowed", "(I)V"⟩
abbrev cX6_playRound : ByteArray := prog_1_method_34_code
def yX6_playRound : MethodName := ⟨RX6, "playRound", "(I)V"⟩
abbrev cX6_giveWins : ByteArray := prog_1_method_35_code
def yX6_giveWins : MethodName := ⟨RX6, "giveWins", "(I)V"⟩
abbrev cX6_countOrders : ByteArray := prog_1_method_36_code
def yX6_countOrders : MethodName := ⟨RX6, "countOrders", "(IIIIIZ)I"⟩
def RX7 : String := "CardhouseModel"
def TX7 : u_T := fun k => match k with
  | 0 => ("CardhouseModel", "power", "[I", true)
  | 1 => ("CardhouseModel", "trigger", "[I", true)
  | 2 => ("CardhouseModel", "banned", "[Z", true)
  | 3 => ("CardhouseModel", "printed", "[I", true)
  | 4 => ("CardhouseModel", "wins", "[I", true)
  | 5 => ("CardhouseModel", "size", "I", false)
  | 6 => ("CardhouseModel", "most", "I", false)
  | 7 => ("CardhouseModel", "cards", "I", false)
  | 8 => ("CardhouseModel", "kind", "[I", true)
  | 9 => ("CardhouseModel", "number", "[I", true)
  | 10 => ("CardhouseModel", "collector", "[I", true)
  | 11 => ("CardhouseModel", "decks", "I", false)
  | 12 => ("CardhouseModel", "owner", "[I", true)
  | 13 => ("CardhouseModel", "many", "[I", true)
  | 14 => ("CardhouseModel", "card", "[I", true)
  | 15 => ("CardhouseModel", "row", "[I", true)
  | 16 => ("CardhouseModel", "offers", "I", false)
  | 17 => ("CardhouseModel", "offered", "[I", true)
  | 18 => ("CardhouseModel", "by", "[I", true)
  | 19 => ("CardhouseModel", "wanted", "[I", true)
  | 20 => ("CardhouseModel", "closed", "[Z", true)
  | 21 => ("CardhouseModel", "ring", "[I", true)
  | _ => ("CardhouseModel", "thrown", "I", false)
def tyX7 : Nat → FieldType := fun k => match k with
  | 0 => .array .int
  | 1 => .array .int
  | 2 => .array .boolean
  | 3 => .array .int
  | 4 => .array .int
  | 5 => .int
  | 6 => .int
  | 7 => .int
  | 8 => .array .int
  | 9 => .array .int
  | 10 => .array .int
  | 11 => .int
  | 12 => .array .int
  | 13 => .array .int
  | 14 => .array .int
  | 15 => .array .int
  | 16 => .int
  | 17 => .array .int
  | 18 => .array .int
  | 19 => .array .int
  | 20 => .array .boolean
  | 21 => .array .int
  | _ => .int
abbrev wsX70 : List Cond := u_ws RX7 TX7 23
theorem nmX7 : ∀ a, a < 23 → ∀ b, b < 23 → a ≠ b → (TX7 a).2.1 ≠ (TX7 b).2.1 := by decide +kernel
theorem tyX7_ok : ∀ k, k < 23 → parseFieldDescriptor (TX7 k).2.2.1 = some (tyX7 k) := by decide +kernel
abbrev cX7_init : ByteArray := prog_9_method_1_code
def yX7_init : MethodName := ⟨RX7, "<init>", "()V"⟩
abbrev cX7_thrown : ByteArray := prog_9_method_2_code
def yX7_thrown : MethodName := ⟨RX7, "thrown", "()I"⟩
abbrev cX7_in : ByteArray := prog_9_method_3_code
def yX7_in : MethodName := ⟨RX7, "in", "(III)Z"⟩
abbrev cX7_goes : ByteArray := prog_9_method_4_code
def yX7_goes : MethodName := ⟨RX7, "goes", "(ZZZ)Z"⟩
abbrev cX7_told : ByteArray := prog_9_method_5_code
def yX7_told : MethodName := ⟨RX7, "told", "(I)I"⟩
abbrev cX7_isKind : ByteArray := prog_9_method_6_code
def yX7_isKind : MethodName := ⟨RX7, "isKind", "(I)Z"⟩
abbrev cX7_isCollector : ByteArray := prog_9_method_7_code
def yX7_isCollector : MethodName := ⟨RX7, "isCollector", "(I)Z"⟩
abbrev cX7_isCard : ByteArray := prog_9_method_8_code
def yX7_isCard : MethodName := ⟨RX7, "isCard", "(I)Z"⟩
abbrev cX7_isDeck : ByteArray := prog_9_method_9_code
def yX7_isDeck : MethodName := ⟨RX7, "isDeck", "(I)Z"⟩
abbrev cX7_isOffer : ByteArray := prog_9_method_10_code
def yX7_isOffer : MethodName := ⟨RX7, "isOffer", "(I)Z"⟩
abbrev cX7_setKind : ByteArray := prog_9_method_11_code
def yX7_setKind : MethodName := ⟨RX7, "setKind", "(III)I"⟩
abbrev cX7_kindAt : ByteArray := prog_9_method_12_code
def yX7_kindAt : MethodName := ⟨RX7, "kindAt", "(II)I"⟩
abbrev cX7_manyOf : ByteArray := prog_9_method_13_code
def yX7_manyOf : MethodName := ⟨RX7, "manyOf", "(II)I"⟩
abbrev cX7_allows : ByteArray := prog_9_method_14_code
def yX7_allows : MethodName := ⟨RX7, "allows", "(I)Z"⟩
abbrev cX7_manyAllowed : ByteArray := prog_9_method_15_code
def yX7_manyAllowed : MethodName := ⟨RX7, "manyAllowed", "()I"⟩
abbrev cX7_setFormat : ByteArray := prog_9_method_16_code
def yX7_setFormat : MethodName := ⟨RX7, "setFormat", "(II)I"⟩
abbrev cX7_ban : ByteArray := prog_9_method_17_code
def yX7_ban : MethodName := ⟨RX7, "ban", "(IZ)I"⟩
abbrev cX7_print : ByteArray := prog_9_method_18_code
def yX7_print : MethodName := ⟨RX7, "print", "(II)I"⟩
abbrev cX7_deck : ByteArray := prog_9_method_19_code
def yX7_deck : MethodName := ⟨RX7, "deck", "(I)I"⟩
abbrev cX7_isIn : ByteArray := prog_9_method_20_code
def yX7_isIn : MethodName := ⟨RX7, "isIn", "(II)Z"⟩
abbrev cX7_add : ByteArray := prog_9_method_21_code
def yX7_add : MethodName := ⟨RX7, "add", "(II)I"⟩
abbrev cX7_cut : ByteArray := prog_9_method_22_code
def yX7_cut : MethodName := ⟨RX7, "cut", "(II)I"⟩
abbrev cX7_shuffles : ByteArray := prog_9_method_23_code
def yX7_shuffles : MethodName := ⟨RX7, "shuffles", "(III)V"⟩
abbrev cX7_effect : ByteArray := prog_9_method_24_code
def yX7_effect : MethodName := ⟨RX7, "effect", "(IIZ)I"⟩
abbrev cX7_wonBy : ByteArray := prog_9_method_25_code
def yX7_wonBy : MethodName := ⟨RX7, "wonBy", "(I)V"⟩
abbrev cX7_play : ByteArray := prog_9_method_26_code
def yX7_play : MethodName := ⟨RX7, "play", "(IIII)I"⟩
abbrev cX7_opens : ByteArray := prog_9_method_27_code
def yX7_opens : MethodName := ⟨RX7, "opens", "(I)Z"⟩
abbrev cX7_offer : ByteArray := prog_9_method_28_code
def yX7_offer : MethodName := ⟨RX7, "offer", "(II)I"⟩
abbrev cX7_takeBack : ByteArray := prog_9_method_29_code
def yX7_takeBack : MethodName := ⟨RX7, "takeBack", "(I)I"⟩
abbrev cX7_gives : ByteArray := prog_9_method_30_code
def yX7_gives : MethodName := ⟨RX7, "gives", "(II)Z"⟩
abbrev cX7_fits : ByteArray := prog_9_method_31_code
def yX7_fits : MethodName := ⟨RX7, "fits", "(II)Z"⟩
abbrev cX7_hasRing : ByteArray := prog_9_method_32_code
def yX7_hasRing : MethodName := ⟨RX7, "hasRing", "(I)Z"⟩
abbrev cX7_first : ByteArray := prog_9_method_33_code
def yX7_first : MethodName := ⟨RX7, "first", "()I"⟩
abbrev cX7_trade : ByteArray := prog_9_method_34_code
def yX7_trade : MethodName := ⟨RX7, "trade", "()I"⟩
abbrev cX7_cards : ByteArray := prog_9_method_35_code
def yX7_cards : MethodName := ⟨RX7, "cards", "()I"⟩
abbrev cX7_printOf : ByteArray := prog_9_method_36_code
def yX7_printOf : MethodName := ⟨RX7, "printOf", "(I)I"⟩
abbrev cX7_collectorOf : ByteArray := prog_9_method_37_code
def yX7_collectorOf : MethodName := ⟨RX7, "collectorOf", "(I)I"⟩
abbrev cX7_has : ByteArray := prog_9_method_38_code
def yX7_has : MethodName := ⟨RX7, "has", "(II)I"⟩
abbrev cX7_wins : ByteArray := prog_9_method_39_code
def yX7_wins : MethodName := ⟨RX7, "wins", "(I)I"⟩
abbrev cX7_price : ByteArray := prog_9_method_40_code
def yX7_price : MethodName := ⟨RX7, "price", "(I)I"⟩
abbrev cX7_isAllowed : ByteArray := prog_9_method_41_code
def yX7_isAllowed : MethodName := ⟨RX7, "isAllowed", "(I)Z"⟩
abbrev cX7_shuffled : ByteArray := prog_9_method_42_code
def yX7_shuffled : MethodName := ⟨RX7, "shuffled", "(III)I"⟩
abbrev cX7_ordersOf : ByteArray := prog_9_method_43_code
def yX7_ordersOf : MethodName := ⟨RX7, "ordersOf", "(III)I"⟩
abbrev cX7_orders : ByteArray := prog_9_method_44_code
def yX7_orders : MethodName := ⟨RX7, "orders", "(III)I"⟩
abbrev cX7_ordersByAll : ByteArray := prog_9_method_45_code
def yX7_ordersByAll : MethodName := ⟨RX7, "ordersByAll", "(III)I"⟩
abbrev cX7_isOpen : ByteArray := prog_9_method_46_code
def yX7_isOpen : MethodName := ⟨RX7, "isOpen", "(I)Z"⟩
abbrev cX7_ring : ByteArray := prog_9_method_47_code
def yX7_ring : MethodName := ⟨RX7, "ring", "(I)I"⟩
def RJ6 : String := "java/lang/Integer"
def TJ6 : u_T := fun k => match k with
  | _ => ("", "", "", false)
def tyJ6 : Nat → FieldType := fun k => match k with
  | _ => .int
abbrev wsJ60 : List Cond := u_ws RJ6 TJ6 0
theorem nmJ6 : ∀ a, a < 0 → ∀ b, b < 0 → a ≠ b → (TJ6 a).2.1 ≠ (TJ6 b).2.1 := by decide +kernel
theorem tyJ6_ok : ∀ k, k < 0 → parseFieldDescriptor (TJ6 k).2.2.1 = some (tyJ6 k) := by decide +kernel
abbrev cJ6_bitCount_0f7a4 : ByteArray := prog_14_method_49_code
def yJ6_bitCount_0f7a4 : MethodName := ⟨RJ6, "bitCount", "(I)I"⟩
def RJ0 : String := "java/lang/String"
def TJ0 : u_T := fun k => match k with
  | _ => ("", "", "", false)
def tyJ0 : Nat → FieldType := fun k => match k with
  | _ => .int
abbrev wsJ00 : List Cond := u_ws RJ0 TJ0 0
theorem nmJ0 : ∀ a, a < 0 → ∀ b, b < 0 → a ≠ b → (TJ0 a).2.1 ≠ (TJ0 b).2.1 := by decide +kernel
theorem tyJ0_ok : ∀ k, k < 0 → parseFieldDescriptor (TJ0 k).2.2.1 = some (tyJ0 k) := by decide +kernel
def RL : String := "CardhouseLaw"
abbrev cL_setKind : ByteArray := method_3_code
def yL_setKind : MethodName := ⟨RL, "setKind", "(LCardhouse;III[J)I"⟩
abbrev cL_setFormat : ByteArray := method_4_code
def yL_setFormat : MethodName := ⟨RL, "setFormat", "(LCardhouse;II[J)I"⟩
abbrev cL_ban : ByteArray := method_5_code
def yL_ban : MethodName := ⟨RL, "ban", "(LCardhouse;IZ[J)I"⟩
abbrev cL_print : ByteArray := method_6_code
def yL_print : MethodName := ⟨RL, "print", "(LCardhouse;II[J)I"⟩
abbrev cL_deck : ByteArray := method_7_code
def yL_deck : MethodName := ⟨RL, "deck", "(LCardhouse;I[J)I"⟩
abbrev cL_add : ByteArray := method_8_code
def yL_add : MethodName := ⟨RL, "add", "(LCardhouse;II[J)I"⟩
abbrev cL_cut : ByteArray := method_9_code
def yL_cut : MethodName := ⟨RL, "cut", "(LCardhouse;II[J)I"⟩
abbrev cL_play : ByteArray := method_10_code
def yL_play : MethodName := ⟨RL, "play", "(LCardhouse;IIII[J)I"⟩
abbrev cL_offer : ByteArray := method_11_code
def yL_offer : MethodName := ⟨RL, "offer", "(LCardhouse;II[J)I"⟩
abbrev cL_takeBack : ByteArray := method_12_code
def yL_takeBack : MethodName := ⟨RL, "takeBack", "(LCardhouse;I[J)I"⟩
abbrev cL_printOf : ByteArray := method_13_code
def yL_printOf : MethodName := ⟨RL, "printOf", "(LCardhouse;I[J)I"⟩
abbrev cL_collectorOf : ByteArray := method_14_code
def yL_collectorOf : MethodName := ⟨RL, "collectorOf", "(LCardhouse;I[J)I"⟩
abbrev cL_has : ByteArray := method_15_code
def yL_has : MethodName := ⟨RL, "has", "(LCardhouse;II[J)I"⟩
abbrev cL_wins : ByteArray := method_16_code
def yL_wins : MethodName := ⟨RL, "wins", "(LCardhouse;I[J)I"⟩
abbrev cL_price : ByteArray := method_17_code
def yL_price : MethodName := ⟨RL, "price", "(LCardhouse;I[J)I"⟩
abbrev cL_isAllowed : ByteArray := method_18_code
def yL_isAllowed : MethodName := ⟨RL, "isAllowed", "(LCardhouse;I[J)I"⟩
abbrev cL_shuffled : ByteArray := method_19_code
def yL_shuffled : MethodName := ⟨RL, "shuffled", "(LCardhouse;III[J)I"⟩
abbrev cL_orders : ByteArray := method_20_code
def yL_orders : MethodName := ⟨RL, "orders", "(LCardhouse;III[J)I"⟩
abbrev cL_ordersByAll : ByteArray := method_21_code
def yL_ordersByAll : MethodName := ⟨RL, "ordersByAll", "(LCardhouse;III[J)I"⟩
abbrev cL_isOpen : ByteArray := method_22_code
def yL_isOpen : MethodName := ⟨RL, "isOpen", "(LCardhouse;I[J)I"⟩
abbrev cL_ring : ByteArray := method_23_code
def yL_ring : MethodName := ⟨RL, "ring", "(LCardhouse;I[J)I"⟩
abbrev cL_law : ByteArray := code
def yL_law : MethodName := ⟨RL, "law", "([I)Z"⟩
def wsX0_init : List Cond := .code yX0_init cX0_init 1 none :: ([.methodLink RX0 3 objectInit, .instanceMethod objectInit, .code objectInit ⟨#[0xb1]⟩ 1 none, .arrayClass .int, .fieldLink RX0 9 "Cardhouse$Decks" "owner" "[I", .fieldLink RX0 15 "Cardhouse$Decks" "size" "[I", .classLink RX0 18 "[[I", .fieldLink RX0 20 "Cardhouse$Decks" "cards" "[[I", .fieldLink RX0 23 "Cardhouse$Decks" "formatSize" "I", .fieldLink RX0 27 "Cardhouse$Decks" "formatMost" "I"] ++ wsX00)
def wsX0_append : List Cond := .code yX0_append cX0_append 3 (some .int) :: ([.fieldLink RX0 30 "Cardhouse$Decks" "count" "I", .fieldLink RX0 9 "Cardhouse$Decks" "owner" "[I"] ++ wsX00)
def wsX0_holds : List Cond := .code yX0_holds cX0_holds 4 (some .boolean) :: ([.fieldLink RX0 15 "Cardhouse$Decks" "size" "[I", .fieldLink RX0 20 "Cardhouse$Decks" "cards" "[[I"] ++ wsX00)
def wsX0_putBehind : List Cond := .code yX0_putBehind cX0_putBehind 3 (some .int) :: ([.fieldLink RX0 20 "Cardhouse$Decks" "cards" "[[I", .fieldLink RX0 15 "Cardhouse$Decks" "size" "[I"] ++ wsX00)
def wsX0_takeOut : List Cond := .code yX0_takeOut cX0_takeOut 5 (some .int) :: ([.fieldLink RX0 20 "Cardhouse$Decks" "cards" "[[I", .fieldLink RX0 15 "Cardhouse$Decks" "size" "[I"] ++ wsX00)
def wsX0_placesOf : List Cond := .code yX0_placesOf cX0_placesOf 6 (some .int) :: ([.fieldLink RX0 15 "Cardhouse$Decks" "size" "[I", .fieldLink RX0 33 "Cardhouse$Prints" "kind" "[I", .fieldLink RX0 20 "Cardhouse$Decks" "cards" "[[I"] ++ wsX00 ++ wsX40)
def wsJ6_bitCount_0f7a4 : List Cond := .code yJ6_bitCount_0f7a4 cJ6_bitCount_0f7a4 1 (some .int) :: ([.constant RJ6 265 (1431655765), .constant RJ6 266 (858993459), .constant RJ6 267 (252645135)])
def wsX0_countOf : List Cond := .code yX0_countOf cX0_countOf 4 (some .int) :: ([.methodLink RX0 38 yX0_placesOf, .instanceMethod yX0_placesOf, .selects RX0 yX0_placesOf yX0_placesOf, .initialized RX0, .code yX0_placesOf cX0_placesOf 6 (some .int), .fieldLink RX0 15 "Cardhouse$Decks" "size" "[I", .fieldLink RX0 33 "Cardhouse$Prints" "kind" "[I", .fieldLink RX0 20 "Cardhouse$Decks" "cards" "[[I", .methodLink RX0 42 yJ6_bitCount_0f7a4, .static yJ6_bitCount_0f7a4, .initialized RJ6, .code yJ6_bitCount_0f7a4 cJ6_bitCount_0f7a4 1 (some .int), .constant RJ6 265 (1431655765), .constant RJ6 266 (858993459), .constant RJ6 267 (252645135)] ++ wsX00 ++ wsX40)
def wsX0_fitsFormat : List Cond := .code yX0_fitsFormat cX0_fitsFormat 7 (some .boolean) :: ([.fieldLink RX0 15 "Cardhouse$Decks" "size" "[I", .fieldLink RX0 23 "Cardhouse$Decks" "formatSize" "I", .fieldLink RX0 20 "Cardhouse$Decks" "cards" "[[I", .fieldLink RX0 33 "Cardhouse$Prints" "kind" "[I", .fieldLink RX0 48 "Cardhouse$Prints" "collector" "[I", .fieldLink RX0 9 "Cardhouse$Decks" "owner" "[I", .fieldLink RX0 51 "Cardhouse$Kinds" "isBanned" "[Z", .fieldLink RX0 27 "Cardhouse$Decks" "formatMost" "I", .methodLink RX0 57 yX0_countOf, .instanceMethod yX0_countOf, .selects RX0 yX0_countOf yX0_countOf, .initialized RX0, .code yX0_countOf cX0_countOf 4 (some .int), .methodLink RX0 38 yX0_placesOf, .instanceMethod yX0_placesOf, .selects RX0 yX0_placesOf yX0_placesOf, .code yX0_placesOf cX0_placesOf 6 (some .int), .methodLink RX0 42 yJ6_bitCount_0f7a4, .static yJ6_bitCount_0f7a4, .initialized RJ6, .code yJ6_bitCount_0f7a4 cJ6_bitCount_0f7a4 1 (some .int), .constant RJ6 265 (1431655765), .constant RJ6 266 (858993459), .constant RJ6 267 (252645135)] ++ wsX00 ++ wsX40 ++ wsX10)
def wsX0_countFitting_r1 : List Cond := [Cond.fieldLink RX0 30 "Cardhouse$Decks" "count" "I", Cond.methodLink RX0 60 yX0_fitsFormat, Cond.instanceMethod yX0_fitsFormat, Cond.selects RX0 yX0_fitsFormat yX0_fitsFormat, Cond.initialized RX0, Cond.code yX0_fitsFormat cX0_fitsFormat 7 (some .boolean), Cond.fieldLink RX0 15 "Cardhouse$Decks" "size" "[I", Cond.fieldLink RX0 23 "Cardhouse$Decks" "formatSize" "I", Cond.fieldLink RX0 20 "Cardhouse$Decks" "cards" "[[I", Cond.fieldLink RX0 33 "Cardhouse$Prints" "kind" "[I", Cond.fieldLink RX0 48 "Cardhouse$Prints" "collector" "[I", Cond.fieldLink RX0 9 "Cardhouse$Decks" "owner" "[I", Cond.fieldLink RX0 51 "Cardhouse$Kinds" "isBanned" "[Z", Cond.fieldLink RX0 27 "Cardhouse$Decks" "formatMost" "I", Cond.methodLink RX0 57 yX0_countOf, Cond.instanceMethod yX0_countOf, Cond.selects RX0 yX0_countOf yX0_countOf, Cond.code yX0_countOf cX0_countOf 4 (some .int), Cond.methodLink RX0 38 yX0_placesOf, Cond.instanceMethod yX0_placesOf, Cond.selects RX0 yX0_placesOf yX0_placesOf, Cond.code yX0_placesOf cX0_placesOf 6 (some .int), Cond.methodLink RX0 42 yJ6_bitCount_0f7a4, Cond.static yJ6_bitCount_0f7a4]
def wsX0_countFitting_r2 : List Cond := [Cond.initialized RJ6, Cond.code yJ6_bitCount_0f7a4 cJ6_bitCount_0f7a4 1 (some .int), Cond.constant RJ6 265 (1431655765), Cond.constant RJ6 266 (858993459), Cond.constant RJ6 267 (252645135)]
def wsX0_countFitting : List Cond := .code yX0_countFitting cX0_countFitting 5 (some .int) :: ((wsX0_countFitting_r1 ++ wsX0_countFitting_r2) ++ wsX00 ++ wsX40 ++ wsX10)
def wsX1_init : List Cond := .code yX1_init cX1_init 1 none :: ([.methodLink RX1 3 objectInit, .instanceMethod objectInit, .code objectInit ⟨#[0xb1]⟩ 1 none, .arrayClass .int, .fieldLink RX1 9 "Cardhouse$Kinds" "power" "[I", .fieldLink RX1 15 "Cardhouse$Kinds" "trigger" "[I", .arrayClass .boolean, .fieldLink RX1 18 "Cardhouse$Kinds" "isBanned" "[Z", .fieldLink RX1 22 "Cardhouse$Kinds" "copies" "[I", .fieldLink RX1 25 "Cardhouse$Kinds" "wins" "[I"] ++ wsX10)
def wsX2_init : List Cond := .code yX2_init cX2_init 1 none :: ([.methodLink RX2 3 objectInit, .instanceMethod objectInit, .code objectInit ⟨#[0xb1]⟩ 1 none, .arrayClass .int, .fieldLink RX2 9 "Cardhouse$Offers" "card" "[I", .fieldLink RX2 15 "Cardhouse$Offers" "given" "[I", .fieldLink RX2 18 "Cardhouse$Offers" "wanted" "[I", .fieldLink RX2 21 "Cardhouse$Offers" "collector" "[I", .arrayClass .boolean, .fieldLink RX2 24 "Cardhouse$Offers" "isLive" "[Z", .fieldLink RX2 28 "Cardhouse$Offers" "ring" "[I"] ++ wsX20)
def wsX2_append : List Cond := .code yX2_append cX2_append 5 (some .int) :: ([.fieldLink RX2 31 "Cardhouse$Offers" "count" "I", .fieldLink RX2 9 "Cardhouse$Offers" "card" "[I", .fieldLink RX2 15 "Cardhouse$Offers" "given" "[I", .fieldLink RX2 35 "Cardhouse$Prints" "kind" "[I", .fieldLink RX2 18 "Cardhouse$Offers" "wanted" "[I", .fieldLink RX2 21 "Cardhouse$Offers" "collector" "[I", .fieldLink RX2 40 "Cardhouse$Prints" "collector" "[I", .fieldLink RX2 24 "Cardhouse$Offers" "isLive" "[Z"] ++ wsX20 ++ wsX40)
def wsX2_hasLive : List Cond := .code yX2_hasLive cX2_hasLive 3 (some .boolean) :: ([.fieldLink RX2 31 "Cardhouse$Offers" "count" "I", .fieldLink RX2 24 "Cardhouse$Offers" "isLive" "[Z", .fieldLink RX2 9 "Cardhouse$Offers" "card" "[I"] ++ wsX20)
def wsX2_canGive : List Cond := .code yX2_canGive cX2_canGive 3 (some .boolean) :: ([.fieldLink RX2 15 "Cardhouse$Offers" "given" "[I", .fieldLink RX2 18 "Cardhouse$Offers" "wanted" "[I"] ++ wsX20)
def wsX2_canFollow : List Cond := .code yX2_canFollow cX2_canFollow 4 (some .boolean) :: ([.fieldLink RX2 24 "Cardhouse$Offers" "isLive" "[Z", .fieldLink RX2 28 "Cardhouse$Offers" "ring" "[I", .fieldLink RX2 21 "Cardhouse$Offers" "collector" "[I", .methodLink RX2 45 yX2_canGive, .instanceMethod yX2_canGive, .selects RX2 yX2_canGive yX2_canGive, .initialized RX2, .code yX2_canGive cX2_canGive 3 (some .boolean), .fieldLink RX2 15 "Cardhouse$Offers" "given" "[I", .fieldLink RX2 18 "Cardhouse$Offers" "wanted" "[I"] ++ wsX20)
def wsX2_closes : List Cond := .code yX2_closes cX2_closes 4 (some .boolean) :: ([.fieldLink RX2 28 "Cardhouse$Offers" "ring" "[I", .fieldLink RX2 31 "Cardhouse$Offers" "count" "I", .methodLink RX2 45 yX2_canGive, .instanceMethod yX2_canGive, .selects RX2 yX2_canGive yX2_canGive, .initialized RX2, .code yX2_canGive cX2_canGive 3 (some .boolean), .fieldLink RX2 15 "Cardhouse$Offers" "given" "[I", .fieldLink RX2 18 "Cardhouse$Offers" "wanted" "[I", .methodLink RX2 49 yX2_canFollow, .instanceMethod yX2_canFollow, .selects RX2 yX2_canFollow yX2_canFollow, .code yX2_canFollow cX2_canFollow 4 (some .boolean), .fieldLink RX2 24 "Cardhouse$Offers" "isLive" "[Z", .fieldLink RX2 21 "Cardhouse$Offers" "collector" "[I", .methodLink RX2 41 yX2_closes, .static yX2_closes] ++ wsX20)
def wsX2_findRing : List Cond := .code yX2_findRing cX2_findRing 3 (some .int) :: ([.fieldLink RX2 31 "Cardhouse$Offers" "count" "I", .fieldLink RX2 28 "Cardhouse$Offers" "ring" "[I", .fieldLink RX2 24 "Cardhouse$Offers" "isLive" "[Z", .methodLink RX2 41 yX2_closes, .static yX2_closes, .initialized RX2, .code yX2_closes cX2_closes 4 (some .boolean), .methodLink RX2 45 yX2_canGive, .instanceMethod yX2_canGive, .selects RX2 yX2_canGive yX2_canGive, .code yX2_canGive cX2_canGive 3 (some .boolean), .fieldLink RX2 15 "Cardhouse$Offers" "given" "[I", .fieldLink RX2 18 "Cardhouse$Offers" "wanted" "[I", .methodLink RX2 49 yX2_canFollow, .instanceMethod yX2_canFollow, .selects RX2 yX2_canFollow yX2_canFollow, .code yX2_canFollow cX2_canFollow 4 (some .boolean), .fieldLink RX2 21 "Cardhouse$Offers" "collector" "[I"] ++ wsX20)
def wsX3_init : List Cond := .code yX3_init cX3_init 1 none :: ([.methodLink RX3 3 objectInit, .instanceMethod objectInit, .code objectInit ⟨#[0xb1]⟩ 1 none, .arrayClass .int, .fieldLink RX3 9 "Cardhouse$Pile" "cards" "[I"] ++ wsX30)
def wsX3_shuffle : List Cond := .code yX3_shuffle cX3_shuffle 10 none :: ([.fieldLink RX3 15 "Cardhouse$Decks" "size" "[I", .fieldLink RX3 9 "Cardhouse$Pile" "cards" "[I", .fieldLink RX3 20 "Cardhouse$Decks" "cards" "[[I", .constantLong RX3 23 (1103515245), .constantLong RX3 25 (12345), .constantLong RX3 27 (2147483648), .constantLong RX3 29 (65536)] ++ wsX00 ++ wsX30)
def wsX4_init : List Cond := .code yX4_init cX4_init 1 none :: ([.methodLink RX4 3 objectInit, .instanceMethod objectInit, .code objectInit ⟨#[0xb1]⟩ 1 none, .arrayClass .int, .fieldLink RX4 9 "Cardhouse$Prints" "kind" "[I", .fieldLink RX4 15 "Cardhouse$Prints" "number" "[I", .fieldLink RX4 18 "Cardhouse$Prints" "collector" "[I"] ++ wsX40)
def wsX4_append : List Cond := .code yX4_append cX4_append 5 (some .int) :: ([.fieldLink RX4 21 "Cardhouse$Prints" "count" "I", .fieldLink RX4 9 "Cardhouse$Prints" "kind" "[I", .fieldLink RX4 15 "Cardhouse$Prints" "number" "[I", .fieldLink RX4 18 "Cardhouse$Prints" "collector" "[I"] ++ wsX40)
def wsX4_countOf : List Cond := .code yX4_countOf cX4_countOf 5 (some .int) :: ([.fieldLink RX4 21 "Cardhouse$Prints" "count" "I", .fieldLink RX4 18 "Cardhouse$Prints" "collector" "[I", .fieldLink RX4 9 "Cardhouse$Prints" "kind" "[I"] ++ wsX40)
def wsX5_init : List Cond := .code yX5_init cX5_init 1 none :: ([.methodLink RX5 3 objectInit, .instanceMethod objectInit, .code objectInit ⟨#[0xb1]⟩ 1 none, .classLink RX5 9 RX3, .instantiable RX3 1, .initialized RX3, .fieldLink RX5 12 "Cardhouse$Side" "pile" "LCardhouse$Pile;", .instanceMethod yX3_init, .code yX3_init cX3_init 1 none, .methodLink RX3 3 objectInit, .arrayClass .int, .fieldLink RX3 9 "Cardhouse$Pile" "cards" "[I"] ++ wsX30 ++ wsX50)
def wsX5_start : List Cond := .code yX5_start cX5_start 4 none :: ([.fieldLink RX5 12 "Cardhouse$Side" "pile" "LCardhouse$Pile;", .fieldLink RX5 22 "Cardhouse$Side" "points" "I", .fieldLink RX5 26 "Cardhouse$Side" "ahead" "I", .methodLink RX5 18 yX3_shuffle, .instanceMethod yX3_shuffle, .selects RX3 yX3_shuffle yX3_shuffle, .initialized RX3, .code yX3_shuffle cX3_shuffle 10 none, .fieldLink RX3 15 "Cardhouse$Decks" "size" "[I", .fieldLink RX3 9 "Cardhouse$Pile" "cards" "[I", .fieldLink RX3 20 "Cardhouse$Decks" "cards" "[[I", .constantLong RX3 23 (1103515245), .constantLong RX3 25 (12345), .constantLong RX3 27 (2147483648), .constantLong RX3 29 (65536)] ++ wsX50 ++ wsX00 ++ wsX30)
def wsX5_endRound : List Cond := .code yX5_endRound cX5_endRound 4 none :: ([.fieldLink RX5 26 "Cardhouse$Side" "ahead" "I", .fieldLink RX5 22 "Cardhouse$Side" "points" "I"] ++ wsX50)
def wsX6_init_r1 : List Cond := [Cond.methodLink RX6 1 objectInit, Cond.instanceMethod objectInit, Cond.code objectInit ⟨#[0xb1]⟩ 1 none, Cond.classLink RX6 7 RX1, Cond.instantiable RX1 5, Cond.initialized RX1, Cond.fieldLink RX6 10 "Cardhouse" "kinds" "LCardhouse$Kinds;", Cond.classLink RX6 16 RX4, Cond.instantiable RX4 4, Cond.initialized RX4, Cond.fieldLink RX6 19 "Cardhouse" "prints" "LCardhouse$Prints;", Cond.classLink RX6 23 RX0, Cond.instantiable RX0 6, Cond.initialized RX0, Cond.fieldLink RX6 26 "Cardhouse" "decks" "LCardhouse$Decks;", Cond.classLink RX6 30 RX2, Cond.instantiable RX2 7, Cond.initialized RX2, Cond.fieldLink RX6 33 "Cardhouse" "offers" "LCardhouse$Offers;", Cond.classLink RX6 37 RX3, Cond.instantiable RX3 1, Cond.initialized RX3, Cond.fieldLink RX6 40 "Cardhouse" "pile" "LCardhouse$Pile;", Cond.classLink RX6 44 RX5]
def wsX6_init_r2 : List Cond := [Cond.instantiable RX5 3, Cond.initialized RX5, Cond.fieldLink RX6 47 "Cardhouse" "firstSide" "LCardhouse$Side;", Cond.fieldLink RX6 51 "Cardhouse" "secondSide" "LCardhouse$Side;", Cond.instanceMethod yX1_init, Cond.code yX1_init cX1_init 1 none, Cond.methodLink RX1 3 objectInit, Cond.arrayClass .int, Cond.fieldLink RX1 9 "Cardhouse$Kinds" "power" "[I", Cond.fieldLink RX1 15 "Cardhouse$Kinds" "trigger" "[I", Cond.arrayClass .boolean, Cond.fieldLink RX1 18 "Cardhouse$Kinds" "isBanned" "[Z", Cond.fieldLink RX1 22 "Cardhouse$Kinds" "copies" "[I", Cond.fieldLink RX1 25 "Cardhouse$Kinds" "wins" "[I", Cond.instanceMethod yX4_init, Cond.code yX4_init cX4_init 1 none, Cond.methodLink RX4 3 objectInit, Cond.fieldLink RX4 9 "Cardhouse$Prints" "kind" "[I", Cond.fieldLink RX4 15 "Cardhouse$Prints" "number" "[I", Cond.fieldLink RX4 18 "Cardhouse$Prints" "collector" "[I", Cond.instanceMethod yX0_init, Cond.code yX0_init cX0_init 1 none, Cond.methodLink RX0 3 objectInit, Cond.fieldLink RX0 9 "Cardhouse$Decks" "owner" "[I"]
def wsX6_init_r3 : List Cond := [Cond.fieldLink RX0 15 "Cardhouse$Decks" "size" "[I", Cond.classLink RX0 18 "[[I", Cond.fieldLink RX0 20 "Cardhouse$Decks" "cards" "[[I", Cond.fieldLink RX0 23 "Cardhouse$Decks" "formatSize" "I", Cond.fieldLink RX0 27 "Cardhouse$Decks" "formatMost" "I", Cond.instanceMethod yX2_init, Cond.code yX2_init cX2_init 1 none, Cond.methodLink RX2 3 objectInit, Cond.fieldLink RX2 9 "Cardhouse$Offers" "card" "[I", Cond.fieldLink RX2 15 "Cardhouse$Offers" "given" "[I", Cond.fieldLink RX2 18 "Cardhouse$Offers" "wanted" "[I", Cond.fieldLink RX2 21 "Cardhouse$Offers" "collector" "[I", Cond.fieldLink RX2 24 "Cardhouse$Offers" "isLive" "[Z", Cond.fieldLink RX2 28 "Cardhouse$Offers" "ring" "[I", Cond.instanceMethod yX3_init, Cond.code yX3_init cX3_init 1 none, Cond.methodLink RX3 3 objectInit, Cond.fieldLink RX3 9 "Cardhouse$Pile" "cards" "[I", Cond.instanceMethod yX5_init, Cond.code yX5_init cX5_init 1 none, Cond.methodLink RX5 3 objectInit, Cond.classLink RX5 9 RX3, Cond.fieldLink RX5 12 "Cardhouse$Side" "pile" "LCardhouse$Pile;"]
def wsX6_init : List Cond := .code yX6_init cX6_init 1 none :: ((wsX6_init_r1 ++ (wsX6_init_r2 ++ wsX6_init_r3)) ++ wsX10 ++ wsX60 ++ wsX40 ++ wsX00 ++ wsX20 ++ wsX30 ++ wsX50)
def wsX6_needKind : List Cond := .code yX6_needKind cX6_needKind 1 none :: ([.classLink RX6 236 "java/lang/IndexOutOfBoundsException", .initialized "java/lang/IndexOutOfBoundsException"] ++ (vx_atS RX6 240 "java/lang/IndexOutOfBoundsException" ["java/lang/RuntimeException", "java/lang/Exception"]).filter goodWord)
def wsX6_needRange : List Cond := .code yX6_needRange cX6_needRange 3 none :: ([.classLink RX6 122 "java/lang/IllegalArgumentException", .initialized "java/lang/IllegalArgumentException"] ++ (vx_atS RX6 126 "java/lang/IllegalArgumentException" ["java/lang/RuntimeException", "java/lang/Exception"]).filter goodWord)
def wsX6_setKind : List Cond := .code yX6_setKind cX6_setKind 5 (some .int) :: ([.fieldLink RX6 10 "Cardhouse" "kinds" "LCardhouse$Kinds;", .fieldLink RX6 62 "Cardhouse$Kinds" "power" "[I", .fieldLink RX6 66 "Cardhouse$Kinds" "trigger" "[I", .methodLink RX6 54 yX6_needKind, .static yX6_needKind, .initialized RX6, .code yX6_needKind cX6_needKind 1 none, .classLink RX6 236 "java/lang/IndexOutOfBoundsException", .initialized "java/lang/IndexOutOfBoundsException", .methodLink RX6 58 yX6_needRange, .static yX6_needRange, .code yX6_needRange cX6_needRange 3 none, .classLink RX6 122 "java/lang/IllegalArgumentException", .initialized "java/lang/IllegalArgumentException"] ++ wsX60 ++ wsX10 ++ (vx_atS RX6 240 "java/lang/IndexOutOfBoundsException" ["java/lang/RuntimeException", "java/lang/Exception"]).filter goodWord ++ (vx_atS RX6 126 "java/lang/IllegalArgumentException" ["java/lang/RuntimeException", "java/lang/Exception"]).filter goodWord)
def wsX6_setFormat_r1 : List Cond := [Cond.fieldLink RX6 26 "Cardhouse" "decks" "LCardhouse$Decks;", Cond.fieldLink RX6 69 "Cardhouse$Decks" "formatSize" "I", Cond.fieldLink RX6 73 "Cardhouse$Decks" "formatMost" "I", Cond.fieldLink RX6 10 "Cardhouse" "kinds" "LCardhouse$Kinds;", Cond.fieldLink RX6 19 "Cardhouse" "prints" "LCardhouse$Prints;", Cond.methodLink RX6 58 yX6_needRange, Cond.static yX6_needRange, Cond.initialized RX6, Cond.code yX6_needRange cX6_needRange 3 none, Cond.classLink RX6 122 "java/lang/IllegalArgumentException", Cond.initialized "java/lang/IllegalArgumentException", Cond.methodLink RX6 76 yX0_countFitting, Cond.instanceMethod yX0_countFitting, Cond.selects RX0 yX0_countFitting yX0_countFitting, Cond.initialized RX0, Cond.code yX0_countFitting cX0_countFitting 5 (some .int), Cond.fieldLink RX0 30 "Cardhouse$Decks" "count" "I", Cond.methodLink RX0 60 yX0_fitsFormat, Cond.instanceMethod yX0_fitsFormat, Cond.selects RX0 yX0_fitsFormat yX0_fitsFormat, Cond.code yX0_fitsFormat cX0_fitsFormat 7 (some .boolean), Cond.fieldLink RX0 15 "Cardhouse$Decks" "size" "[I", Cond.fieldLink RX0 23 "Cardhouse$Decks" "formatSize" "I", Cond.fieldLink RX0 20 "Cardhouse$Decks" "cards" "[[I"]
def wsX6_setFormat_r2 : List Cond := [Cond.fieldLink RX0 33 "Cardhouse$Prints" "kind" "[I", Cond.fieldLink RX0 48 "Cardhouse$Prints" "collector" "[I", Cond.fieldLink RX0 9 "Cardhouse$Decks" "owner" "[I", Cond.fieldLink RX0 51 "Cardhouse$Kinds" "isBanned" "[Z", Cond.fieldLink RX0 27 "Cardhouse$Decks" "formatMost" "I", Cond.methodLink RX0 57 yX0_countOf, Cond.instanceMethod yX0_countOf, Cond.selects RX0 yX0_countOf yX0_countOf, Cond.code yX0_countOf cX0_countOf 4 (some .int), Cond.methodLink RX0 38 yX0_placesOf, Cond.instanceMethod yX0_placesOf, Cond.selects RX0 yX0_placesOf yX0_placesOf, Cond.code yX0_placesOf cX0_placesOf 6 (some .int), Cond.methodLink RX0 42 yJ6_bitCount_0f7a4, Cond.static yJ6_bitCount_0f7a4, Cond.initialized RJ6, Cond.code yJ6_bitCount_0f7a4 cJ6_bitCount_0f7a4 1 (some .int), Cond.constant RJ6 265 (1431655765), Cond.constant RJ6 266 (858993459), Cond.constant RJ6 267 (252645135)]
def wsX6_setFormat : List Cond := .code yX6_setFormat cX6_setFormat 3 (some .int) :: ((wsX6_setFormat_r1 ++ wsX6_setFormat_r2) ++ wsX60 ++ wsX00 ++ wsX40 ++ wsX10 ++ (vx_atS RX6 126 "java/lang/IllegalArgumentException" ["java/lang/RuntimeException", "java/lang/Exception"]).filter goodWord)
def wsX6_ban_r1 : List Cond := [Cond.fieldLink RX6 10 "Cardhouse" "kinds" "LCardhouse$Kinds;", Cond.fieldLink RX6 80 "Cardhouse$Kinds" "isBanned" "[Z", Cond.fieldLink RX6 26 "Cardhouse" "decks" "LCardhouse$Decks;", Cond.fieldLink RX6 19 "Cardhouse" "prints" "LCardhouse$Prints;", Cond.methodLink RX6 54 yX6_needKind, Cond.static yX6_needKind, Cond.initialized RX6, Cond.code yX6_needKind cX6_needKind 1 none, Cond.classLink RX6 236 "java/lang/IndexOutOfBoundsException", Cond.initialized "java/lang/IndexOutOfBoundsException", Cond.methodLink RX6 76 yX0_countFitting, Cond.instanceMethod yX0_countFitting, Cond.selects RX0 yX0_countFitting yX0_countFitting, Cond.initialized RX0, Cond.code yX0_countFitting cX0_countFitting 5 (some .int), Cond.fieldLink RX0 30 "Cardhouse$Decks" "count" "I", Cond.methodLink RX0 60 yX0_fitsFormat, Cond.instanceMethod yX0_fitsFormat, Cond.selects RX0 yX0_fitsFormat yX0_fitsFormat, Cond.code yX0_fitsFormat cX0_fitsFormat 7 (some .boolean), Cond.fieldLink RX0 15 "Cardhouse$Decks" "size" "[I", Cond.fieldLink RX0 23 "Cardhouse$Decks" "formatSize" "I", Cond.fieldLink RX0 20 "Cardhouse$Decks" "cards" "[[I", Cond.fieldLink RX0 33 "Cardhouse$Prints" "kind" "[I"]
def wsX6_ban_r2 : List Cond := [Cond.fieldLink RX0 48 "Cardhouse$Prints" "collector" "[I", Cond.fieldLink RX0 9 "Cardhouse$Decks" "owner" "[I", Cond.fieldLink RX0 51 "Cardhouse$Kinds" "isBanned" "[Z", Cond.fieldLink RX0 27 "Cardhouse$Decks" "formatMost" "I", Cond.methodLink RX0 57 yX0_countOf, Cond.instanceMethod yX0_countOf, Cond.selects RX0 yX0_countOf yX0_countOf, Cond.code yX0_countOf cX0_countOf 4 (some .int), Cond.methodLink RX0 38 yX0_placesOf, Cond.instanceMethod yX0_placesOf, Cond.selects RX0 yX0_placesOf yX0_placesOf, Cond.code yX0_placesOf cX0_placesOf 6 (some .int), Cond.methodLink RX0 42 yJ6_bitCount_0f7a4, Cond.static yJ6_bitCount_0f7a4, Cond.initialized RJ6, Cond.code yJ6_bitCount_0f7a4 cJ6_bitCount_0f7a4 1 (some .int), Cond.constant RJ6 265 (1431655765), Cond.constant RJ6 266 (858993459), Cond.constant RJ6 267 (252645135)]
def wsX6_ban : List Cond := .code yX6_ban cX6_ban 3 (some .int) :: ((wsX6_ban_r1 ++ wsX6_ban_r2) ++ wsX60 ++ wsX10 ++ wsX00 ++ wsX40 ++ (vx_atS RX6 240 "java/lang/IndexOutOfBoundsException" ["java/lang/RuntimeException", "java/lang/Exception"]).filter goodWord)
def wsX6_needCollector : List Cond := .code yX6_needCollector cX6_needCollector 1 none :: ([.classLink RX6 236 "java/lang/IndexOutOfBoundsException", .initialized "java/lang/IndexOutOfBoundsException"] ++ (vx_atS RX6 240 "java/lang/IndexOutOfBoundsException" ["java/lang/RuntimeException", "java/lang/Exception"]).filter goodWord)
def wsX6_print : List Cond := .code yX6_print cX6_print 3 (some .int) :: ([.classLink RX6 90 "java/lang/IllegalStateException", .initialized "java/lang/IllegalStateException", .fieldLink RX6 19 "Cardhouse" "prints" "LCardhouse$Prints;", .fieldLink RX6 87 "Cardhouse$Prints" "count" "I", .fieldLink RX6 10 "Cardhouse" "kinds" "LCardhouse$Kinds;", .fieldLink RX6 97 "Cardhouse$Kinds" "copies" "[I", .methodLink RX6 54 yX6_needKind, .static yX6_needKind, .initialized RX6, .code yX6_needKind cX6_needKind 1 none, .classLink RX6 236 "java/lang/IndexOutOfBoundsException", .initialized "java/lang/IndexOutOfBoundsException", .methodLink RX6 84 yX6_needCollector, .static yX6_needCollector, .code yX6_needCollector cX6_needCollector 1 none, .methodLink RX6 100 yX4_append, .instanceMethod yX4_append, .selects RX4 yX4_append yX4_append, .initialized RX4, .code yX4_append cX4_append 5 (some .int), .fieldLink RX4 21 "Cardhouse$Prints" "count" "I", .fieldLink RX4 9 "Cardhouse$Prints" "kind" "[I", .fieldLink RX4 15 "Cardhouse$Prints" "number" "[I", .fieldLink RX4 18 "Cardhouse$Prints" "collector" "[I"] ++ wsX60 ++ wsX40 ++ wsX10 ++ (vx_atS RX6 94 "java/lang/IllegalStateException" ["java/lang/RuntimeException", "java/lang/Exception"]).filter goodWord ++ (vx_atS RX6 240 "java/lang/IndexOutOfBoundsException" ["java/lang/RuntimeException", "java/lang/Exception"]).filter goodWord)
def wsX6_deck : List Cond := .code yX6_deck cX6_deck 2 (some .int) :: ([.classLink RX6 90 "java/lang/IllegalStateException", .initialized "java/lang/IllegalStateException", .fieldLink RX6 26 "Cardhouse" "decks" "LCardhouse$Decks;", .fieldLink RX6 104 "Cardhouse$Decks" "count" "I", .methodLink RX6 84 yX6_needCollector, .static yX6_needCollector, .initialized RX6, .code yX6_needCollector cX6_needCollector 1 none, .classLink RX6 236 "java/lang/IndexOutOfBoundsException", .initialized "java/lang/IndexOutOfBoundsException", .methodLink RX6 107 yX0_append, .instanceMethod yX0_append, .selects RX0 yX0_append yX0_append, .initialized RX0, .code yX0_append cX0_append 3 (some .int), .fieldLink RX0 30 "Cardhouse$Decks" "count" "I", .fieldLink RX0 9 "Cardhouse$Decks" "owner" "[I"] ++ wsX60 ++ wsX00 ++ (vx_atS RX6 94 "java/lang/IllegalStateException" ["java/lang/RuntimeException", "java/lang/Exception"]).filter goodWord ++ (vx_atS RX6 240 "java/lang/IndexOutOfBoundsException" ["java/lang/RuntimeException", "java/lang/Exception"]).filter goodWord)
def wsX6_needDeck : List Cond := .code yX6_needDeck cX6_needDeck 2 none :: ([.classLink RX6 236 "java/lang/IndexOutOfBoundsException", .initialized "java/lang/IndexOutOfBoundsException", .fieldLink RX6 26 "Cardhouse" "decks" "LCardhouse$Decks;", .fieldLink RX6 104 "Cardhouse$Decks" "count" "I"] ++ wsX60 ++ wsX00 ++ (vx_atS RX6 240 "java/lang/IndexOutOfBoundsException" ["java/lang/RuntimeException", "java/lang/Exception"]).filter goodWord)
def wsX6_needCard : List Cond := .code yX6_needCard cX6_needCard 2 none :: ([.classLink RX6 236 "java/lang/IndexOutOfBoundsException", .initialized "java/lang/IndexOutOfBoundsException", .fieldLink RX6 19 "Cardhouse" "prints" "LCardhouse$Prints;", .fieldLink RX6 87 "Cardhouse$Prints" "count" "I"] ++ wsX60 ++ wsX40 ++ (vx_atS RX6 240 "java/lang/IndexOutOfBoundsException" ["java/lang/RuntimeException", "java/lang/Exception"]).filter goodWord)
def wsX6_add_r1 : List Cond := [Cond.classLink RX6 122 "java/lang/IllegalArgumentException", Cond.initialized "java/lang/IllegalArgumentException", Cond.classLink RX6 90 "java/lang/IllegalStateException", Cond.initialized "java/lang/IllegalStateException", Cond.fieldLink RX6 19 "Cardhouse" "prints" "LCardhouse$Prints;", Cond.fieldLink RX6 116 "Cardhouse$Prints" "collector" "[I", Cond.fieldLink RX6 26 "Cardhouse" "decks" "LCardhouse$Decks;", Cond.fieldLink RX6 119 "Cardhouse$Decks" "owner" "[I", Cond.fieldLink RX6 133 "Cardhouse$Decks" "size" "[I", Cond.methodLink RX6 110 yX6_needDeck, Cond.instanceMethod yX6_needDeck, Cond.selects RX6 yX6_needDeck yX6_needDeck, Cond.initialized RX6, Cond.code yX6_needDeck cX6_needDeck 2 none, Cond.classLink RX6 236 "java/lang/IndexOutOfBoundsException", Cond.initialized "java/lang/IndexOutOfBoundsException", Cond.fieldLink RX6 104 "Cardhouse$Decks" "count" "I", Cond.methodLink RX6 113 yX6_needCard, Cond.instanceMethod yX6_needCard, Cond.selects RX6 yX6_needCard yX6_needCard, Cond.code yX6_needCard cX6_needCard 2 none, Cond.fieldLink RX6 87 "Cardhouse$Prints" "count" "I", Cond.methodLink RX6 127 yX0_holds, Cond.instanceMethod yX0_holds]
def wsX6_add_r2 : List Cond := [Cond.selects RX0 yX0_holds yX0_holds, Cond.initialized RX0, Cond.code yX0_holds cX0_holds 4 (some .boolean), Cond.fieldLink RX0 15 "Cardhouse$Decks" "size" "[I", Cond.fieldLink RX0 20 "Cardhouse$Decks" "cards" "[[I", Cond.methodLink RX6 138 yX0_putBehind, Cond.instanceMethod yX0_putBehind, Cond.selects RX0 yX0_putBehind yX0_putBehind, Cond.code yX0_putBehind cX0_putBehind 3 (some .int)]
def wsX6_add : List Cond := .code yX6_add cX6_add 3 (some .int) :: ((wsX6_add_r1 ++ wsX6_add_r2) ++ wsX60 ++ wsX40 ++ wsX00 ++ (vx_atS RX6 126 "java/lang/IllegalArgumentException" ["java/lang/RuntimeException", "java/lang/Exception"]).filter goodWord ++ (vx_atS RX6 94 "java/lang/IllegalStateException" ["java/lang/RuntimeException", "java/lang/Exception"]).filter goodWord ++ (vx_atS RX6 240 "java/lang/IndexOutOfBoundsException" ["java/lang/RuntimeException", "java/lang/Exception"]).filter goodWord)
def wsX6_needPlace : List Cond := .code yX6_needPlace cX6_needPlace 3 none :: ([.classLink RX6 236 "java/lang/IndexOutOfBoundsException", .initialized "java/lang/IndexOutOfBoundsException", .fieldLink RX6 26 "Cardhouse" "decks" "LCardhouse$Decks;", .fieldLink RX6 133 "Cardhouse$Decks" "size" "[I"] ++ wsX60 ++ wsX00 ++ (vx_atS RX6 240 "java/lang/IndexOutOfBoundsException" ["java/lang/RuntimeException", "java/lang/Exception"]).filter goodWord)
def wsX6_cut : List Cond := .code yX6_cut cX6_cut 3 (some .int) :: ([.fieldLink RX6 26 "Cardhouse" "decks" "LCardhouse$Decks;", .methodLink RX6 110 yX6_needDeck, .instanceMethod yX6_needDeck, .selects RX6 yX6_needDeck yX6_needDeck, .initialized RX6, .code yX6_needDeck cX6_needDeck 2 none, .classLink RX6 236 "java/lang/IndexOutOfBoundsException", .initialized "java/lang/IndexOutOfBoundsException", .fieldLink RX6 104 "Cardhouse$Decks" "count" "I", .methodLink RX6 142 yX6_needPlace, .instanceMethod yX6_needPlace, .selects RX6 yX6_needPlace yX6_needPlace, .code yX6_needPlace cX6_needPlace 3 none, .fieldLink RX6 133 "Cardhouse$Decks" "size" "[I", .methodLink RX6 146 yX0_takeOut, .instanceMethod yX0_takeOut, .selects RX0 yX0_takeOut yX0_takeOut, .initialized RX0, .code yX0_takeOut cX0_takeOut 5 (some .int), .fieldLink RX0 20 "Cardhouse$Decks" "cards" "[[I", .fieldLink RX0 15 "Cardhouse$Decks" "size" "[I"] ++ wsX60 ++ wsX00 ++ (vx_atS RX6 240 "java/lang/IndexOutOfBoundsException" ["java/lang/RuntimeException", "java/lang/Exception"]).filter goodWord)
def wsX6_needSeed : List Cond := .code yX6_needSeed cX6_needSeed 1 none :: ([.classLink RX6 122 "java/lang/IllegalArgumentException", .initialized "java/lang/IllegalArgumentException"] ++ (vx_atS RX6 126 "java/lang/IllegalArgumentException" ["java/lang/RuntimeException", "java/lang/Exception"]).filter goodWord)
def wsX6_needAllowed_r1 : List Cond := [Cond.classLink RX6 90 "java/lang/IllegalStateException", Cond.initialized "java/lang/IllegalStateException", Cond.fieldLink RX6 26 "Cardhouse" "decks" "LCardhouse$Decks;", Cond.fieldLink RX6 10 "Cardhouse" "kinds" "LCardhouse$Kinds;", Cond.fieldLink RX6 19 "Cardhouse" "prints" "LCardhouse$Prints;", Cond.methodLink RX6 215 yX0_fitsFormat, Cond.instanceMethod yX0_fitsFormat, Cond.selects RX0 yX0_fitsFormat yX0_fitsFormat, Cond.initialized RX0, Cond.code yX0_fitsFormat cX0_fitsFormat 7 (some .boolean), Cond.fieldLink RX0 15 "Cardhouse$Decks" "size" "[I", Cond.fieldLink RX0 23 "Cardhouse$Decks" "formatSize" "I", Cond.fieldLink RX0 20 "Cardhouse$Decks" "cards" "[[I", Cond.fieldLink RX0 33 "Cardhouse$Prints" "kind" "[I", Cond.fieldLink RX0 48 "Cardhouse$Prints" "collector" "[I", Cond.fieldLink RX0 9 "Cardhouse$Decks" "owner" "[I", Cond.fieldLink RX0 51 "Cardhouse$Kinds" "isBanned" "[Z", Cond.fieldLink RX0 27 "Cardhouse$Decks" "formatMost" "I", Cond.methodLink RX0 57 yX0_countOf, Cond.instanceMethod yX0_countOf, Cond.selects RX0 yX0_countOf yX0_countOf, Cond.code yX0_countOf cX0_countOf 4 (some .int), Cond.methodLink RX0 38 yX0_placesOf, Cond.instanceMethod yX0_placesOf]
def wsX6_needAllowed_r2 : List Cond := [Cond.selects RX0 yX0_placesOf yX0_placesOf, Cond.code yX0_placesOf cX0_placesOf 6 (some .int), Cond.methodLink RX0 42 yJ6_bitCount_0f7a4, Cond.static yJ6_bitCount_0f7a4, Cond.initialized RJ6, Cond.code yJ6_bitCount_0f7a4 cJ6_bitCount_0f7a4 1 (some .int), Cond.constant RJ6 265 (1431655765), Cond.constant RJ6 266 (858993459), Cond.constant RJ6 267 (252645135)]
def wsX6_needAllowed : List Cond := .code yX6_needAllowed cX6_needAllowed 2 none :: ((wsX6_needAllowed_r1 ++ wsX6_needAllowed_r2) ++ wsX60 ++ wsX00 ++ wsX40 ++ wsX10 ++ (vx_atS RX6 94 "java/lang/IllegalStateException" ["java/lang/RuntimeException", "java/lang/Exception"]).filter goodWord)
def wsX6_playRound : List Cond := .code yX6_playRound cX6_playRound 8 none :: ([.fieldLink RX6 19 "Cardhouse" "prints" "LCardhouse$Prints;", .fieldLink RX6 170 "Cardhouse$Prints" "kind" "[I", .fieldLink RX6 47 "Cardhouse" "firstSide" "LCardhouse$Side;", .fieldLink RX6 259 "Cardhouse$Side" "pile" "LCardhouse$Pile;", .fieldLink RX6 222 "Cardhouse$Pile" "cards" "[I", .fieldLink RX6 51 "Cardhouse" "secondSide" "LCardhouse$Side;", .fieldLink RX6 10 "Cardhouse" "kinds" "LCardhouse$Kinds;", .fieldLink RX6 62 "Cardhouse$Kinds" "power" "[I", .fieldLink RX6 260 "Cardhouse$Side" "ahead" "I", .fieldLink RX6 66 "Cardhouse$Kinds" "trigger" "[I", .methodLink RX6 263 yX5_endRound, .instanceMethod yX5_endRound, .selects RX5 yX5_endRound yX5_endRound, .initialized RX5, .code yX5_endRound cX5_endRound 4 none, .fieldLink RX5 26 "Cardhouse$Side" "ahead" "I", .fieldLink RX5 22 "Cardhouse$Side" "points" "I"] ++ wsX60 ++ wsX40 ++ wsX50 ++ wsX30 ++ wsX10)
def wsX6_giveWins : List Cond := .code yX6_giveWins cX6_giveWins 3 none :: ([.fieldLink RX6 26 "Cardhouse" "decks" "LCardhouse$Decks;", .fieldLink RX6 19 "Cardhouse" "prints" "LCardhouse$Prints;", .fieldLink RX6 10 "Cardhouse" "kinds" "LCardhouse$Kinds;", .fieldLink RX6 212 "Cardhouse$Kinds" "wins" "[I", .methodLink RX6 225 yX0_countOf, .instanceMethod yX0_countOf, .selects RX0 yX0_countOf yX0_countOf, .initialized RX0, .code yX0_countOf cX0_countOf 4 (some .int), .methodLink RX0 38 yX0_placesOf, .instanceMethod yX0_placesOf, .selects RX0 yX0_placesOf yX0_placesOf, .code yX0_placesOf cX0_placesOf 6 (some .int), .fieldLink RX0 15 "Cardhouse$Decks" "size" "[I", .fieldLink RX0 33 "Cardhouse$Prints" "kind" "[I", .fieldLink RX0 20 "Cardhouse$Decks" "cards" "[[I", .methodLink RX0 42 yJ6_bitCount_0f7a4, .static yJ6_bitCount_0f7a4, .initialized RJ6, .code yJ6_bitCount_0f7a4 cJ6_bitCount_0f7a4 1 (some .int), .constant RJ6 265 (1431655765), .constant RJ6 266 (858993459), .constant RJ6 267 (252645135)] ++ wsX60 ++ wsX10 ++ wsX00 ++ wsX40)
def wsX6_play_r1 : List Cond := [Cond.classLink RX6 122 "java/lang/IllegalArgumentException", Cond.initialized "java/lang/IllegalArgumentException", Cond.fieldLink RX6 26 "Cardhouse" "decks" "LCardhouse$Decks;", Cond.fieldLink RX6 119 "Cardhouse$Decks" "owner" "[I", Cond.fieldLink RX6 47 "Cardhouse" "firstSide" "LCardhouse$Side;", Cond.fieldLink RX6 51 "Cardhouse" "secondSide" "LCardhouse$Side;", Cond.fieldLink RX6 69 "Cardhouse$Decks" "formatSize" "I", Cond.fieldLink RX6 164 "Cardhouse$Side" "points" "I", Cond.methodLink RX6 110 yX6_needDeck, Cond.instanceMethod yX6_needDeck, Cond.selects RX6 yX6_needDeck yX6_needDeck, Cond.initialized RX6, Cond.code yX6_needDeck cX6_needDeck 2 none, Cond.classLink RX6 236 "java/lang/IndexOutOfBoundsException", Cond.initialized "java/lang/IndexOutOfBoundsException", Cond.fieldLink RX6 104 "Cardhouse$Decks" "count" "I", Cond.methodLink RX6 149 yX6_needSeed, Cond.static yX6_needSeed, Cond.code yX6_needSeed cX6_needSeed 1 none, Cond.methodLink RX6 154 yX6_needAllowed, Cond.instanceMethod yX6_needAllowed, Cond.selects RX6 yX6_needAllowed yX6_needAllowed, Cond.code yX6_needAllowed cX6_needAllowed 2 none, Cond.classLink RX6 90 "java/lang/IllegalStateException"]
def wsX6_play_r2 : List Cond := [Cond.initialized "java/lang/IllegalStateException", Cond.fieldLink RX6 10 "Cardhouse" "kinds" "LCardhouse$Kinds;", Cond.fieldLink RX6 19 "Cardhouse" "prints" "LCardhouse$Prints;", Cond.methodLink RX6 215 yX0_fitsFormat, Cond.instanceMethod yX0_fitsFormat, Cond.selects RX0 yX0_fitsFormat yX0_fitsFormat, Cond.initialized RX0, Cond.code yX0_fitsFormat cX0_fitsFormat 7 (some .boolean), Cond.fieldLink RX0 15 "Cardhouse$Decks" "size" "[I", Cond.fieldLink RX0 23 "Cardhouse$Decks" "formatSize" "I", Cond.fieldLink RX0 20 "Cardhouse$Decks" "cards" "[[I", Cond.fieldLink RX0 33 "Cardhouse$Prints" "kind" "[I", Cond.fieldLink RX0 48 "Cardhouse$Prints" "collector" "[I", Cond.fieldLink RX0 9 "Cardhouse$Decks" "owner" "[I", Cond.fieldLink RX0 51 "Cardhouse$Kinds" "isBanned" "[Z", Cond.fieldLink RX0 27 "Cardhouse$Decks" "formatMost" "I", Cond.methodLink RX0 57 yX0_countOf, Cond.instanceMethod yX0_countOf, Cond.selects RX0 yX0_countOf yX0_countOf, Cond.code yX0_countOf cX0_countOf 4 (some .int), Cond.methodLink RX0 38 yX0_placesOf, Cond.instanceMethod yX0_placesOf, Cond.selects RX0 yX0_placesOf yX0_placesOf, Cond.code yX0_placesOf cX0_placesOf 6 (some .int)]
def wsX6_play_r3 : List Cond := [Cond.methodLink RX0 42 yJ6_bitCount_0f7a4, Cond.static yJ6_bitCount_0f7a4, Cond.initialized RJ6, Cond.code yJ6_bitCount_0f7a4 cJ6_bitCount_0f7a4 1 (some .int), Cond.constant RJ6 265 (1431655765), Cond.constant RJ6 266 (858993459), Cond.constant RJ6 267 (252645135), Cond.methodLink RX6 157 yX5_start, Cond.instanceMethod yX5_start, Cond.selects RX5 yX5_start yX5_start, Cond.initialized RX5, Cond.code yX5_start cX5_start 4 none, Cond.fieldLink RX5 12 "Cardhouse$Side" "pile" "LCardhouse$Pile;", Cond.fieldLink RX5 22 "Cardhouse$Side" "points" "I", Cond.fieldLink RX5 26 "Cardhouse$Side" "ahead" "I", Cond.methodLink RX5 18 yX3_shuffle, Cond.instanceMethod yX3_shuffle, Cond.selects RX3 yX3_shuffle yX3_shuffle, Cond.initialized RX3, Cond.code yX3_shuffle cX3_shuffle 10 none, Cond.fieldLink RX3 15 "Cardhouse$Decks" "size" "[I", Cond.fieldLink RX3 9 "Cardhouse$Pile" "cards" "[I", Cond.fieldLink RX3 20 "Cardhouse$Decks" "cards" "[[I", Cond.constantLong RX3 23 (1103515245)]
def wsX6_play_r4 : List Cond := [Cond.constantLong RX3 25 (12345), Cond.constantLong RX3 27 (2147483648), Cond.constantLong RX3 29 (65536), Cond.methodLink RX6 161 yX6_playRound, Cond.instanceMethod yX6_playRound, Cond.selects RX6 yX6_playRound yX6_playRound, Cond.code yX6_playRound cX6_playRound 8 none, Cond.fieldLink RX6 170 "Cardhouse$Prints" "kind" "[I", Cond.fieldLink RX6 259 "Cardhouse$Side" "pile" "LCardhouse$Pile;", Cond.fieldLink RX6 222 "Cardhouse$Pile" "cards" "[I", Cond.fieldLink RX6 62 "Cardhouse$Kinds" "power" "[I", Cond.fieldLink RX6 260 "Cardhouse$Side" "ahead" "I", Cond.fieldLink RX6 66 "Cardhouse$Kinds" "trigger" "[I", Cond.methodLink RX6 263 yX5_endRound, Cond.instanceMethod yX5_endRound, Cond.selects RX5 yX5_endRound yX5_endRound, Cond.code yX5_endRound cX5_endRound 4 none, Cond.methodLink RX6 167 yX6_giveWins, Cond.instanceMethod yX6_giveWins, Cond.selects RX6 yX6_giveWins yX6_giveWins, Cond.code yX6_giveWins cX6_giveWins 3 none, Cond.fieldLink RX6 212 "Cardhouse$Kinds" "wins" "[I", Cond.methodLink RX6 225 yX0_countOf]
def wsX6_play : List Cond := .code yX6_play cX6_play 6 (some .int) :: ((wsX6_play_r1 ++ (wsX6_play_r2 ++ (wsX6_play_r3 ++ wsX6_play_r4))) ++ wsX60 ++ wsX00 ++ wsX50 ++ wsX40 ++ wsX10 ++ wsX30 ++ (vx_atS RX6 126 "java/lang/IllegalArgumentException" ["java/lang/RuntimeException", "java/lang/Exception"]).filter goodWord ++ (vx_atS RX6 240 "java/lang/IndexOutOfBoundsException" ["java/lang/RuntimeException", "java/lang/Exception"]).filter goodWord ++ (vx_atS RX6 94 "java/lang/IllegalStateException" ["java/lang/RuntimeException", "java/lang/Exception"]).filter goodWord)
def wsX6_offer_r1 : List Cond := [Cond.classLink RX6 122 "java/lang/IllegalArgumentException", Cond.initialized "java/lang/IllegalArgumentException", Cond.classLink RX6 90 "java/lang/IllegalStateException", Cond.initialized "java/lang/IllegalStateException", Cond.fieldLink RX6 19 "Cardhouse" "prints" "LCardhouse$Prints;", Cond.fieldLink RX6 170 "Cardhouse$Prints" "kind" "[I", Cond.fieldLink RX6 33 "Cardhouse" "offers" "LCardhouse$Offers;", Cond.fieldLink RX6 181 "Cardhouse$Offers" "count" "I", Cond.methodLink RX6 113 yX6_needCard, Cond.instanceMethod yX6_needCard, Cond.selects RX6 yX6_needCard yX6_needCard, Cond.initialized RX6, Cond.code yX6_needCard cX6_needCard 2 none, Cond.classLink RX6 236 "java/lang/IndexOutOfBoundsException", Cond.initialized "java/lang/IndexOutOfBoundsException", Cond.fieldLink RX6 87 "Cardhouse$Prints" "count" "I", Cond.methodLink RX6 54 yX6_needKind, Cond.static yX6_needKind, Cond.code yX6_needKind cX6_needKind 1 none, Cond.methodLink RX6 175 yX2_hasLive, Cond.instanceMethod yX2_hasLive, Cond.selects RX2 yX2_hasLive yX2_hasLive, Cond.initialized RX2, Cond.code yX2_hasLive cX2_hasLive 3 (some .boolean)]
def wsX6_offer_r2 : List Cond := [Cond.fieldLink RX2 31 "Cardhouse$Offers" "count" "I", Cond.fieldLink RX2 24 "Cardhouse$Offers" "isLive" "[Z", Cond.fieldLink RX2 9 "Cardhouse$Offers" "card" "[I", Cond.methodLink RX6 184 yX2_append, Cond.instanceMethod yX2_append, Cond.selects RX2 yX2_append yX2_append, Cond.code yX2_append cX2_append 5 (some .int), Cond.fieldLink RX2 15 "Cardhouse$Offers" "given" "[I", Cond.fieldLink RX2 35 "Cardhouse$Prints" "kind" "[I", Cond.fieldLink RX2 18 "Cardhouse$Offers" "wanted" "[I", Cond.fieldLink RX2 21 "Cardhouse$Offers" "collector" "[I", Cond.fieldLink RX2 40 "Cardhouse$Prints" "collector" "[I"]
def wsX6_offer : List Cond := .code yX6_offer cX6_offer 3 (some .int) :: ((wsX6_offer_r1 ++ wsX6_offer_r2) ++ wsX60 ++ wsX40 ++ wsX20 ++ (vx_atS RX6 126 "java/lang/IllegalArgumentException" ["java/lang/RuntimeException", "java/lang/Exception"]).filter goodWord ++ (vx_atS RX6 94 "java/lang/IllegalStateException" ["java/lang/RuntimeException", "java/lang/Exception"]).filter goodWord ++ (vx_atS RX6 240 "java/lang/IndexOutOfBoundsException" ["java/lang/RuntimeException", "java/lang/Exception"]).filter goodWord)
def wsX6_needOffer : List Cond := .code yX6_needOffer cX6_needOffer 2 none :: ([.classLink RX6 236 "java/lang/IndexOutOfBoundsException", .initialized "java/lang/IndexOutOfBoundsException", .fieldLink RX6 33 "Cardhouse" "offers" "LCardhouse$Offers;", .fieldLink RX6 181 "Cardhouse$Offers" "count" "I"] ++ wsX60 ++ wsX20 ++ (vx_atS RX6 240 "java/lang/IndexOutOfBoundsException" ["java/lang/RuntimeException", "java/lang/Exception"]).filter goodWord)
def wsX6_takeBack : List Cond := .code yX6_takeBack cX6_takeBack 2 (some .int) :: ([.classLink RX6 90 "java/lang/IllegalStateException", .initialized "java/lang/IllegalStateException", .fieldLink RX6 33 "Cardhouse" "offers" "LCardhouse$Offers;", .fieldLink RX6 190 "Cardhouse$Offers" "isLive" "[Z", .fieldLink RX6 195 "Cardhouse$Offers" "card" "[I", .methodLink RX6 187 yX6_needOffer, .instanceMethod yX6_needOffer, .selects RX6 yX6_needOffer yX6_needOffer, .initialized RX6, .code yX6_needOffer cX6_needOffer 2 none, .classLink RX6 236 "java/lang/IndexOutOfBoundsException", .initialized "java/lang/IndexOutOfBoundsException", .fieldLink RX6 181 "Cardhouse$Offers" "count" "I"] ++ wsX60 ++ wsX20 ++ (vx_atS RX6 94 "java/lang/IllegalStateException" ["java/lang/RuntimeException", "java/lang/Exception"]).filter goodWord ++ (vx_atS RX6 240 "java/lang/IndexOutOfBoundsException" ["java/lang/RuntimeException", "java/lang/Exception"]).filter goodWord)
def wsX6_trade_r1 : List Cond := [Cond.fieldLink RX6 33 "Cardhouse" "offers" "LCardhouse$Offers;", Cond.fieldLink RX6 202 "Cardhouse$Offers" "ring" "[I", Cond.fieldLink RX6 19 "Cardhouse" "prints" "LCardhouse$Prints;", Cond.fieldLink RX6 116 "Cardhouse$Prints" "collector" "[I", Cond.fieldLink RX6 195 "Cardhouse$Offers" "card" "[I", Cond.fieldLink RX6 205 "Cardhouse$Offers" "collector" "[I", Cond.fieldLink RX6 190 "Cardhouse$Offers" "isLive" "[Z", Cond.methodLink RX6 198 yX2_findRing, Cond.instanceMethod yX2_findRing, Cond.selects RX2 yX2_findRing yX2_findRing, Cond.initialized RX2, Cond.code yX2_findRing cX2_findRing 3 (some .int), Cond.fieldLink RX2 31 "Cardhouse$Offers" "count" "I", Cond.fieldLink RX2 28 "Cardhouse$Offers" "ring" "[I", Cond.fieldLink RX2 24 "Cardhouse$Offers" "isLive" "[Z", Cond.methodLink RX2 41 yX2_closes, Cond.static yX2_closes, Cond.code yX2_closes cX2_closes 4 (some .boolean), Cond.methodLink RX2 45 yX2_canGive, Cond.instanceMethod yX2_canGive, Cond.selects RX2 yX2_canGive yX2_canGive, Cond.code yX2_canGive cX2_canGive 3 (some .boolean), Cond.fieldLink RX2 15 "Cardhouse$Offers" "given" "[I", Cond.fieldLink RX2 18 "Cardhouse$Offers" "wanted" "[I"]
def wsX6_trade_r2 : List Cond := [Cond.methodLink RX2 49 yX2_canFollow, Cond.instanceMethod yX2_canFollow, Cond.selects RX2 yX2_canFollow yX2_canFollow, Cond.code yX2_canFollow cX2_canFollow 4 (some .boolean), Cond.fieldLink RX2 21 "Cardhouse$Offers" "collector" "[I"]
def wsX6_trade : List Cond := .code yX6_trade cX6_trade 5 (some .int) :: ((wsX6_trade_r1 ++ wsX6_trade_r2) ++ wsX60 ++ wsX20 ++ wsX40)
def wsX6_cards : List Cond := .code yX6_cards cX6_cards 1 (some .int) :: ([.fieldLink RX6 19 "Cardhouse" "prints" "LCardhouse$Prints;", .fieldLink RX6 87 "Cardhouse$Prints" "count" "I"] ++ wsX60 ++ wsX40)
def wsX6_printOf : List Cond := .code yX6_printOf cX6_printOf 2 (some .int) :: ([.fieldLink RX6 19 "Cardhouse" "prints" "LCardhouse$Prints;", .fieldLink RX6 170 "Cardhouse$Prints" "kind" "[I", .fieldLink RX6 206 "Cardhouse$Prints" "number" "[I", .methodLink RX6 113 yX6_needCard, .instanceMethod yX6_needCard, .selects RX6 yX6_needCard yX6_needCard, .initialized RX6, .code yX6_needCard cX6_needCard 2 none, .classLink RX6 236 "java/lang/IndexOutOfBoundsException", .initialized "java/lang/IndexOutOfBoundsException", .fieldLink RX6 87 "Cardhouse$Prints" "count" "I"] ++ wsX60 ++ wsX40 ++ (vx_atS RX6 240 "java/lang/IndexOutOfBoundsException" ["java/lang/RuntimeException", "java/lang/Exception"]).filter goodWord)
def wsX6_collectorOf : List Cond := .code yX6_collectorOf cX6_collectorOf 2 (some .int) :: ([.fieldLink RX6 19 "Cardhouse" "prints" "LCardhouse$Prints;", .fieldLink RX6 116 "Cardhouse$Prints" "collector" "[I", .methodLink RX6 113 yX6_needCard, .instanceMethod yX6_needCard, .selects RX6 yX6_needCard yX6_needCard, .initialized RX6, .code yX6_needCard cX6_needCard 2 none, .classLink RX6 236 "java/lang/IndexOutOfBoundsException", .initialized "java/lang/IndexOutOfBoundsException", .fieldLink RX6 87 "Cardhouse$Prints" "count" "I"] ++ wsX60 ++ wsX40 ++ (vx_atS RX6 240 "java/lang/IndexOutOfBoundsException" ["java/lang/RuntimeException", "java/lang/Exception"]).filter goodWord)
def wsX6_has : List Cond := .code yX6_has cX6_has 3 (some .int) :: ([.fieldLink RX6 19 "Cardhouse" "prints" "LCardhouse$Prints;", .methodLink RX6 84 yX6_needCollector, .static yX6_needCollector, .initialized RX6, .code yX6_needCollector cX6_needCollector 1 none, .classLink RX6 236 "java/lang/IndexOutOfBoundsException", .initialized "java/lang/IndexOutOfBoundsException", .methodLink RX6 54 yX6_needKind, .static yX6_needKind, .code yX6_needKind cX6_needKind 1 none, .methodLink RX6 209 yX4_countOf, .instanceMethod yX4_countOf, .selects RX4 yX4_countOf yX4_countOf, .initialized RX4, .code yX4_countOf cX4_countOf 5 (some .int), .fieldLink RX4 21 "Cardhouse$Prints" "count" "I", .fieldLink RX4 18 "Cardhouse$Prints" "collector" "[I", .fieldLink RX4 9 "Cardhouse$Prints" "kind" "[I"] ++ wsX60 ++ wsX40 ++ (vx_atS RX6 240 "java/lang/IndexOutOfBoundsException" ["java/lang/RuntimeException", "java/lang/Exception"]).filter goodWord)
def wsX6_wins : List Cond := .code yX6_wins cX6_wins 2 (some .int) :: ([.fieldLink RX6 10 "Cardhouse" "kinds" "LCardhouse$Kinds;", .fieldLink RX6 212 "Cardhouse$Kinds" "wins" "[I", .methodLink RX6 54 yX6_needKind, .static yX6_needKind, .initialized RX6, .code yX6_needKind cX6_needKind 1 none, .classLink RX6 236 "java/lang/IndexOutOfBoundsException", .initialized "java/lang/IndexOutOfBoundsException"] ++ wsX60 ++ wsX10 ++ (vx_atS RX6 240 "java/lang/IndexOutOfBoundsException" ["java/lang/RuntimeException", "java/lang/Exception"]).filter goodWord)
def wsX6_price : List Cond := .code yX6_price cX6_price 3 (some .int) :: ([.fieldLink RX6 10 "Cardhouse" "kinds" "LCardhouse$Kinds;", .fieldLink RX6 97 "Cardhouse$Kinds" "copies" "[I", .fieldLink RX6 212 "Cardhouse$Kinds" "wins" "[I", .methodLink RX6 54 yX6_needKind, .static yX6_needKind, .initialized RX6, .code yX6_needKind cX6_needKind 1 none, .classLink RX6 236 "java/lang/IndexOutOfBoundsException", .initialized "java/lang/IndexOutOfBoundsException"] ++ wsX60 ++ wsX10 ++ (vx_atS RX6 240 "java/lang/IndexOutOfBoundsException" ["java/lang/RuntimeException", "java/lang/Exception"]).filter goodWord)
def wsX6_isAllowed_r1 : List Cond := [Cond.fieldLink RX6 26 "Cardhouse" "decks" "LCardhouse$Decks;", Cond.fieldLink RX6 10 "Cardhouse" "kinds" "LCardhouse$Kinds;", Cond.fieldLink RX6 19 "Cardhouse" "prints" "LCardhouse$Prints;", Cond.methodLink RX6 110 yX6_needDeck, Cond.instanceMethod yX6_needDeck, Cond.selects RX6 yX6_needDeck yX6_needDeck, Cond.initialized RX6, Cond.code yX6_needDeck cX6_needDeck 2 none, Cond.classLink RX6 236 "java/lang/IndexOutOfBoundsException", Cond.initialized "java/lang/IndexOutOfBoundsException", Cond.fieldLink RX6 104 "Cardhouse$Decks" "count" "I", Cond.methodLink RX6 215 yX0_fitsFormat, Cond.instanceMethod yX0_fitsFormat, Cond.selects RX0 yX0_fitsFormat yX0_fitsFormat, Cond.initialized RX0, Cond.code yX0_fitsFormat cX0_fitsFormat 7 (some .boolean), Cond.fieldLink RX0 15 "Cardhouse$Decks" "size" "[I", Cond.fieldLink RX0 23 "Cardhouse$Decks" "formatSize" "I", Cond.fieldLink RX0 20 "Cardhouse$Decks" "cards" "[[I", Cond.fieldLink RX0 33 "Cardhouse$Prints" "kind" "[I", Cond.fieldLink RX0 48 "Cardhouse$Prints" "collector" "[I", Cond.fieldLink RX0 9 "Cardhouse$Decks" "owner" "[I", Cond.fieldLink RX0 51 "Cardhouse$Kinds" "isBanned" "[Z", Cond.fieldLink RX0 27 "Cardhouse$Decks" "formatMost" "I"]
def wsX6_isAllowed_r2 : List Cond := [Cond.methodLink RX0 57 yX0_countOf, Cond.instanceMethod yX0_countOf, Cond.selects RX0 yX0_countOf yX0_countOf, Cond.code yX0_countOf cX0_countOf 4 (some .int), Cond.methodLink RX0 38 yX0_placesOf, Cond.instanceMethod yX0_placesOf, Cond.selects RX0 yX0_placesOf yX0_placesOf, Cond.code yX0_placesOf cX0_placesOf 6 (some .int), Cond.methodLink RX0 42 yJ6_bitCount_0f7a4, Cond.static yJ6_bitCount_0f7a4, Cond.initialized RJ6, Cond.code yJ6_bitCount_0f7a4 cJ6_bitCount_0f7a4 1 (some .int), Cond.constant RJ6 265 (1431655765), Cond.constant RJ6 266 (858993459), Cond.constant RJ6 267 (252645135)]
def wsX6_isAllowed : List Cond := .code yX6_isAllowed cX6_isAllowed 2 (some .boolean) :: ((wsX6_isAllowed_r1 ++ wsX6_isAllowed_r2) ++ wsX60 ++ wsX00 ++ wsX40 ++ wsX10 ++ (vx_atS RX6 240 "java/lang/IndexOutOfBoundsException" ["java/lang/RuntimeException", "java/lang/Exception"]).filter goodWord)
def wsX6_shuffled_r1 : List Cond := [Cond.fieldLink RX6 40 "Cardhouse" "pile" "LCardhouse$Pile;", Cond.fieldLink RX6 26 "Cardhouse" "decks" "LCardhouse$Decks;", Cond.fieldLink RX6 222 "Cardhouse$Pile" "cards" "[I", Cond.methodLink RX6 110 yX6_needDeck, Cond.instanceMethod yX6_needDeck, Cond.selects RX6 yX6_needDeck yX6_needDeck, Cond.initialized RX6, Cond.code yX6_needDeck cX6_needDeck 2 none, Cond.classLink RX6 236 "java/lang/IndexOutOfBoundsException", Cond.initialized "java/lang/IndexOutOfBoundsException", Cond.fieldLink RX6 104 "Cardhouse$Decks" "count" "I", Cond.methodLink RX6 142 yX6_needPlace, Cond.instanceMethod yX6_needPlace, Cond.selects RX6 yX6_needPlace yX6_needPlace, Cond.code yX6_needPlace cX6_needPlace 3 none, Cond.fieldLink RX6 133 "Cardhouse$Decks" "size" "[I", Cond.methodLink RX6 149 yX6_needSeed, Cond.static yX6_needSeed, Cond.code yX6_needSeed cX6_needSeed 1 none, Cond.classLink RX6 122 "java/lang/IllegalArgumentException", Cond.initialized "java/lang/IllegalArgumentException", Cond.methodLink RX6 219 yX3_shuffle, Cond.instanceMethod yX3_shuffle, Cond.selects RX3 yX3_shuffle yX3_shuffle]
def wsX6_shuffled_r2 : List Cond := [Cond.initialized RX3, Cond.code yX3_shuffle cX3_shuffle 10 none, Cond.fieldLink RX3 15 "Cardhouse$Decks" "size" "[I", Cond.fieldLink RX3 9 "Cardhouse$Pile" "cards" "[I", Cond.fieldLink RX3 20 "Cardhouse$Decks" "cards" "[[I", Cond.constantLong RX3 23 (1103515245), Cond.constantLong RX3 25 (12345), Cond.constantLong RX3 27 (2147483648), Cond.constantLong RX3 29 (65536)]
def wsX6_shuffled : List Cond := .code yX6_shuffled cX6_shuffled 4 (some .int) :: ((wsX6_shuffled_r1 ++ wsX6_shuffled_r2) ++ wsX60 ++ wsX30 ++ wsX00 ++ (vx_atS RX6 240 "java/lang/IndexOutOfBoundsException" ["java/lang/RuntimeException", "java/lang/Exception"]).filter goodWord ++ (vx_atS RX6 126 "java/lang/IllegalArgumentException" ["java/lang/RuntimeException", "java/lang/Exception"]).filter goodWord)
def wsX6_orders_r1 : List Cond := [Cond.fieldLink RX6 26 "Cardhouse" "decks" "LCardhouse$Decks;", Cond.fieldLink RX6 133 "Cardhouse$Decks" "size" "[I", Cond.fieldLink RX6 19 "Cardhouse" "prints" "LCardhouse$Prints;", Cond.methodLink RX6 110 yX6_needDeck, Cond.instanceMethod yX6_needDeck, Cond.selects RX6 yX6_needDeck yX6_needDeck, Cond.initialized RX6, Cond.code yX6_needDeck cX6_needDeck 2 none, Cond.classLink RX6 236 "java/lang/IndexOutOfBoundsException", Cond.initialized "java/lang/IndexOutOfBoundsException", Cond.fieldLink RX6 104 "Cardhouse$Decks" "count" "I", Cond.methodLink RX6 54 yX6_needKind, Cond.static yX6_needKind, Cond.code yX6_needKind cX6_needKind 1 none, Cond.methodLink RX6 58 yX6_needRange, Cond.static yX6_needRange, Cond.code yX6_needRange cX6_needRange 3 none, Cond.classLink RX6 122 "java/lang/IllegalArgumentException", Cond.initialized "java/lang/IllegalArgumentException", Cond.methodLink RX6 225 yX0_countOf, Cond.instanceMethod yX0_countOf, Cond.selects RX0 yX0_countOf yX0_countOf, Cond.initialized RX0, Cond.code yX0_countOf cX0_countOf 4 (some .int)]
def wsX6_orders_r2 : List Cond := [Cond.methodLink RX0 38 yX0_placesOf, Cond.instanceMethod yX0_placesOf, Cond.selects RX0 yX0_placesOf yX0_placesOf, Cond.code yX0_placesOf cX0_placesOf 6 (some .int), Cond.fieldLink RX0 15 "Cardhouse$Decks" "size" "[I", Cond.fieldLink RX0 33 "Cardhouse$Prints" "kind" "[I", Cond.fieldLink RX0 20 "Cardhouse$Decks" "cards" "[[I", Cond.methodLink RX0 42 yJ6_bitCount_0f7a4, Cond.static yJ6_bitCount_0f7a4, Cond.initialized RJ6, Cond.code yJ6_bitCount_0f7a4 cJ6_bitCount_0f7a4 1 (some .int), Cond.constant RJ6 265 (1431655765), Cond.constant RJ6 266 (858993459), Cond.constant RJ6 267 (252645135)]
def wsX6_orders : List Cond := .code yX6_orders cX6_orders 9 (some .int) :: ((wsX6_orders_r1 ++ wsX6_orders_r2) ++ wsX60 ++ wsX00 ++ wsX40 ++ (vx_atS RX6 240 "java/lang/IndexOutOfBoundsException" ["java/lang/RuntimeException", "java/lang/Exception"]).filter goodWord ++ (vx_atS RX6 126 "java/lang/IllegalArgumentException" ["java/lang/RuntimeException", "java/lang/Exception"]).filter goodWord)
def wsX6_countOrders : List Cond := .code yX6_countOrders cX6_countOrders 10 (some .int) :: ([.methodLink RX6 232 yX6_countOrders, .static yX6_countOrders, .initialized RX6])
def wsX6_ordersByAll_r1 : List Cond := [Cond.classLink RX6 90 "java/lang/IllegalStateException", Cond.initialized "java/lang/IllegalStateException", Cond.fieldLink RX6 26 "Cardhouse" "decks" "LCardhouse$Decks;", Cond.fieldLink RX6 133 "Cardhouse$Decks" "size" "[I", Cond.fieldLink RX6 19 "Cardhouse" "prints" "LCardhouse$Prints;", Cond.methodLink RX6 110 yX6_needDeck, Cond.instanceMethod yX6_needDeck, Cond.selects RX6 yX6_needDeck yX6_needDeck, Cond.initialized RX6, Cond.code yX6_needDeck cX6_needDeck 2 none, Cond.classLink RX6 236 "java/lang/IndexOutOfBoundsException", Cond.initialized "java/lang/IndexOutOfBoundsException", Cond.fieldLink RX6 104 "Cardhouse$Decks" "count" "I", Cond.methodLink RX6 54 yX6_needKind, Cond.static yX6_needKind, Cond.code yX6_needKind cX6_needKind 1 none, Cond.methodLink RX6 58 yX6_needRange, Cond.static yX6_needRange, Cond.code yX6_needRange cX6_needRange 3 none, Cond.classLink RX6 122 "java/lang/IllegalArgumentException", Cond.initialized "java/lang/IllegalArgumentException", Cond.methodLink RX6 229 yX0_placesOf, Cond.instanceMethod yX0_placesOf, Cond.selects RX0 yX0_placesOf yX0_placesOf]
def wsX6_ordersByAll_r2 : List Cond := [Cond.initialized RX0, Cond.code yX0_placesOf cX0_placesOf 6 (some .int), Cond.fieldLink RX0 15 "Cardhouse$Decks" "size" "[I", Cond.fieldLink RX0 33 "Cardhouse$Prints" "kind" "[I", Cond.fieldLink RX0 20 "Cardhouse$Decks" "cards" "[[I", Cond.methodLink RX6 232 yX6_countOrders, Cond.static yX6_countOrders, Cond.code yX6_countOrders cX6_countOrders 10 (some .int)]
def wsX6_ordersByAll : List Cond := .code yX6_ordersByAll cX6_ordersByAll 6 (some .int) :: ((wsX6_ordersByAll_r1 ++ wsX6_ordersByAll_r2) ++ wsX60 ++ wsX00 ++ wsX40 ++ (vx_atS RX6 94 "java/lang/IllegalStateException" ["java/lang/RuntimeException", "java/lang/Exception"]).filter goodWord ++ (vx_atS RX6 240 "java/lang/IndexOutOfBoundsException" ["java/lang/RuntimeException", "java/lang/Exception"]).filter goodWord ++ (vx_atS RX6 126 "java/lang/IllegalArgumentException" ["java/lang/RuntimeException", "java/lang/Exception"]).filter goodWord)
def wsX6_isOpen : List Cond := .code yX6_isOpen cX6_isOpen 2 (some .boolean) :: ([.fieldLink RX6 33 "Cardhouse" "offers" "LCardhouse$Offers;", .fieldLink RX6 190 "Cardhouse$Offers" "isLive" "[Z", .methodLink RX6 187 yX6_needOffer, .instanceMethod yX6_needOffer, .selects RX6 yX6_needOffer yX6_needOffer, .initialized RX6, .code yX6_needOffer cX6_needOffer 2 none, .classLink RX6 236 "java/lang/IndexOutOfBoundsException", .initialized "java/lang/IndexOutOfBoundsException", .fieldLink RX6 181 "Cardhouse$Offers" "count" "I"] ++ wsX60 ++ wsX20 ++ (vx_atS RX6 240 "java/lang/IndexOutOfBoundsException" ["java/lang/RuntimeException", "java/lang/Exception"]).filter goodWord)
def wsX6_ring_r1 : List Cond := [Cond.classLink RX6 236 "java/lang/IndexOutOfBoundsException", Cond.initialized "java/lang/IndexOutOfBoundsException", Cond.fieldLink RX6 33 "Cardhouse" "offers" "LCardhouse$Offers;", Cond.fieldLink RX6 202 "Cardhouse$Offers" "ring" "[I", Cond.methodLink RX6 198 yX2_findRing, Cond.instanceMethod yX2_findRing, Cond.selects RX2 yX2_findRing yX2_findRing, Cond.initialized RX2, Cond.code yX2_findRing cX2_findRing 3 (some .int), Cond.fieldLink RX2 31 "Cardhouse$Offers" "count" "I", Cond.fieldLink RX2 28 "Cardhouse$Offers" "ring" "[I", Cond.fieldLink RX2 24 "Cardhouse$Offers" "isLive" "[Z", Cond.methodLink RX2 41 yX2_closes, Cond.static yX2_closes, Cond.code yX2_closes cX2_closes 4 (some .boolean), Cond.methodLink RX2 45 yX2_canGive, Cond.instanceMethod yX2_canGive, Cond.selects RX2 yX2_canGive yX2_canGive, Cond.code yX2_canGive cX2_canGive 3 (some .boolean), Cond.fieldLink RX2 15 "Cardhouse$Offers" "given" "[I", Cond.fieldLink RX2 18 "Cardhouse$Offers" "wanted" "[I", Cond.methodLink RX2 49 yX2_canFollow, Cond.instanceMethod yX2_canFollow, Cond.selects RX2 yX2_canFollow yX2_canFollow]
def wsX6_ring_r2 : List Cond := [Cond.code yX2_canFollow cX2_canFollow 4 (some .boolean), Cond.fieldLink RX2 21 "Cardhouse$Offers" "collector" "[I"]
def wsX6_ring : List Cond := .code yX6_ring cX6_ring 2 (some .int) :: ((wsX6_ring_r1 ++ wsX6_ring_r2) ++ wsX60 ++ wsX20 ++ (vx_atS RX6 240 "java/lang/IndexOutOfBoundsException" ["java/lang/RuntimeException", "java/lang/Exception"]).filter goodWord)
def wsX7_init : List Cond := .code yX7_init cX7_init 1 none :: ([.methodLink RX7 1 objectInit, .instanceMethod objectInit, .code objectInit ⟨#[0xb1]⟩ 1 none, .arrayClass .int, .fieldLink RX7 7 "CardhouseModel" "power" "[I", .fieldLink RX7 13 "CardhouseModel" "trigger" "[I", .arrayClass .boolean, .fieldLink RX7 16 "CardhouseModel" "banned" "[Z", .fieldLink RX7 20 "CardhouseModel" "printed" "[I", .fieldLink RX7 23 "CardhouseModel" "wins" "[I", .fieldLink RX7 26 "CardhouseModel" "size" "I", .fieldLink RX7 30 "CardhouseModel" "most" "I", .fieldLink RX7 33 "CardhouseModel" "kind" "[I", .fieldLink RX7 36 "CardhouseModel" "number" "[I", .fieldLink RX7 39 "CardhouseModel" "collector" "[I", .fieldLink RX7 42 "CardhouseModel" "owner" "[I", .fieldLink RX7 45 "CardhouseModel" "many" "[I", .fieldLink RX7 48 "CardhouseModel" "card" "[I", .fieldLink RX7 51 "CardhouseModel" "row" "[I", .fieldLink RX7 54 "CardhouseModel" "offered" "[I", .fieldLink RX7 57 "CardhouseModel" "by" "[I", .fieldLink RX7 60 "CardhouseModel" "wanted" "[I", .fieldLink RX7 63 "CardhouseModel" "closed" "[Z", .fieldLink RX7 66 "CardhouseModel" "ring" "[I"] ++ wsX70)
def wsX7_thrown : List Cond := .code yX7_thrown cX7_thrown 1 (some .int) :: ([.fieldLink RX7 69 "CardhouseModel" "thrown" "I"] ++ wsX70)
def wsX7_in : List Cond := .code yX7_in cX7_in 3 (some .boolean) :: ([])
def wsX7_goes : List Cond := .code yX7_goes cX7_goes 4 (some .boolean) :: ([.fieldLink RX7 69 "CardhouseModel" "thrown" "I"] ++ wsX70)
def wsX7_told : List Cond := .code yX7_told cX7_told 2 (some .int) :: ([.fieldLink RX7 69 "CardhouseModel" "thrown" "I"] ++ wsX70)
def wsX7_isKind : List Cond := .code yX7_isKind cX7_isKind 1 (some .boolean) :: ([.methodLink RX7 72 yX7_in, .static yX7_in, .initialized RX7, .code yX7_in cX7_in 3 (some .boolean)])
def wsX7_isCollector : List Cond := .code yX7_isCollector cX7_isCollector 1 (some .boolean) :: ([.methodLink RX7 72 yX7_in, .static yX7_in, .initialized RX7, .code yX7_in cX7_in 3 (some .boolean)])
def wsX7_isCard : List Cond := .code yX7_isCard cX7_isCard 2 (some .boolean) :: ([.fieldLink RX7 76 "CardhouseModel" "cards" "I", .methodLink RX7 72 yX7_in, .static yX7_in, .initialized RX7, .code yX7_in cX7_in 3 (some .boolean)] ++ wsX70)
def wsX7_isDeck : List Cond := .code yX7_isDeck cX7_isDeck 2 (some .boolean) :: ([.fieldLink RX7 79 "CardhouseModel" "decks" "I", .methodLink RX7 72 yX7_in, .static yX7_in, .initialized RX7, .code yX7_in cX7_in 3 (some .boolean)] ++ wsX70)
def wsX7_isOffer : List Cond := .code yX7_isOffer cX7_isOffer 2 (some .boolean) :: ([.fieldLink RX7 82 "CardhouseModel" "offers" "I", .methodLink RX7 72 yX7_in, .static yX7_in, .initialized RX7, .code yX7_in cX7_in 3 (some .boolean)] ++ wsX70)
def wsX7_setKind : List Cond := .code yX7_setKind cX7_setKind 5 (some .int) :: ([.fieldLink RX7 7 "CardhouseModel" "power" "[I", .fieldLink RX7 13 "CardhouseModel" "trigger" "[I", .methodLink RX7 85 yX7_isKind, .static yX7_isKind, .initialized RX7, .code yX7_isKind cX7_isKind 1 (some .boolean), .methodLink RX7 72 yX7_in, .static yX7_in, .code yX7_in cX7_in 3 (some .boolean), .methodLink RX7 89 yX7_goes, .instanceMethod yX7_goes, .selects RX7 yX7_goes yX7_goes, .code yX7_goes cX7_goes 4 (some .boolean), .fieldLink RX7 69 "CardhouseModel" "thrown" "I"] ++ wsX70)
def wsX7_kindAt : List Cond := .code yX7_kindAt cX7_kindAt 3 (some .int) :: ([.fieldLink RX7 33 "CardhouseModel" "kind" "[I", .fieldLink RX7 48 "CardhouseModel" "card" "[I"] ++ wsX70)
def wsX7_manyOf : List Cond := .code yX7_manyOf cX7_manyOf 5 (some .int) :: ([.fieldLink RX7 45 "CardhouseModel" "many" "[I", .methodLink RX7 93 yX7_kindAt, .instanceMethod yX7_kindAt, .selects RX7 yX7_kindAt yX7_kindAt, .initialized RX7, .code yX7_kindAt cX7_kindAt 3 (some .int), .fieldLink RX7 33 "CardhouseModel" "kind" "[I", .fieldLink RX7 48 "CardhouseModel" "card" "[I"] ++ wsX70)
def wsX7_allows : List Cond := .code yX7_allows cX7_allows 5 (some .boolean) :: ([.fieldLink RX7 45 "CardhouseModel" "many" "[I", .fieldLink RX7 26 "CardhouseModel" "size" "I", .fieldLink RX7 39 "CardhouseModel" "collector" "[I", .fieldLink RX7 48 "CardhouseModel" "card" "[I", .fieldLink RX7 42 "CardhouseModel" "owner" "[I", .fieldLink RX7 16 "CardhouseModel" "banned" "[Z", .fieldLink RX7 30 "CardhouseModel" "most" "I", .methodLink RX7 93 yX7_kindAt, .instanceMethod yX7_kindAt, .selects RX7 yX7_kindAt yX7_kindAt, .initialized RX7, .code yX7_kindAt cX7_kindAt 3 (some .int), .fieldLink RX7 33 "CardhouseModel" "kind" "[I", .methodLink RX7 97 yX7_manyOf, .instanceMethod yX7_manyOf, .selects RX7 yX7_manyOf yX7_manyOf, .code yX7_manyOf cX7_manyOf 5 (some .int)] ++ wsX70)
def wsX7_manyAllowed : List Cond := .code yX7_manyAllowed cX7_manyAllowed 3 (some .int) :: ([.fieldLink RX7 79 "CardhouseModel" "decks" "I", .methodLink RX7 100 yX7_allows, .instanceMethod yX7_allows, .selects RX7 yX7_allows yX7_allows, .initialized RX7, .code yX7_allows cX7_allows 5 (some .boolean), .fieldLink RX7 45 "CardhouseModel" "many" "[I", .fieldLink RX7 26 "CardhouseModel" "size" "I", .fieldLink RX7 39 "CardhouseModel" "collector" "[I", .fieldLink RX7 48 "CardhouseModel" "card" "[I", .fieldLink RX7 42 "CardhouseModel" "owner" "[I", .fieldLink RX7 16 "CardhouseModel" "banned" "[Z", .fieldLink RX7 30 "CardhouseModel" "most" "I", .methodLink RX7 93 yX7_kindAt, .instanceMethod yX7_kindAt, .selects RX7 yX7_kindAt yX7_kindAt, .code yX7_kindAt cX7_kindAt 3 (some .int), .fieldLink RX7 33 "CardhouseModel" "kind" "[I", .methodLink RX7 97 yX7_manyOf, .instanceMethod yX7_manyOf, .selects RX7 yX7_manyOf yX7_manyOf, .code yX7_manyOf cX7_manyOf 5 (some .int)] ++ wsX70)
def wsX7_setFormat_r1 : List Cond := [Cond.fieldLink RX7 26 "CardhouseModel" "size" "I", Cond.fieldLink RX7 30 "CardhouseModel" "most" "I", Cond.methodLink RX7 72 yX7_in, Cond.static yX7_in, Cond.initialized RX7, Cond.code yX7_in cX7_in 3 (some .boolean), Cond.methodLink RX7 89 yX7_goes, Cond.instanceMethod yX7_goes, Cond.selects RX7 yX7_goes yX7_goes, Cond.code yX7_goes cX7_goes 4 (some .boolean), Cond.fieldLink RX7 69 "CardhouseModel" "thrown" "I", Cond.methodLink RX7 103 yX7_manyAllowed, Cond.instanceMethod yX7_manyAllowed, Cond.selects RX7 yX7_manyAllowed yX7_manyAllowed, Cond.code yX7_manyAllowed cX7_manyAllowed 3 (some .int), Cond.fieldLink RX7 79 "CardhouseModel" "decks" "I", Cond.methodLink RX7 100 yX7_allows, Cond.instanceMethod yX7_allows, Cond.selects RX7 yX7_allows yX7_allows, Cond.code yX7_allows cX7_allows 5 (some .boolean), Cond.fieldLink RX7 45 "CardhouseModel" "many" "[I", Cond.fieldLink RX7 39 "CardhouseModel" "collector" "[I", Cond.fieldLink RX7 48 "CardhouseModel" "card" "[I", Cond.fieldLink RX7 42 "CardhouseModel" "owner" "[I"]
def wsX7_setFormat_r2 : List Cond := [Cond.fieldLink RX7 16 "CardhouseModel" "banned" "[Z", Cond.methodLink RX7 93 yX7_kindAt, Cond.instanceMethod yX7_kindAt, Cond.selects RX7 yX7_kindAt yX7_kindAt, Cond.code yX7_kindAt cX7_kindAt 3 (some .int), Cond.fieldLink RX7 33 "CardhouseModel" "kind" "[I", Cond.methodLink RX7 97 yX7_manyOf, Cond.instanceMethod yX7_manyOf, Cond.selects RX7 yX7_manyOf yX7_manyOf, Cond.code yX7_manyOf cX7_manyOf 5 (some .int)]
def wsX7_setFormat : List Cond := .code yX7_setFormat cX7_setFormat 3 (some .int) :: ((wsX7_setFormat_r1 ++ wsX7_setFormat_r2) ++ wsX70)
def wsX7_ban_r1 : List Cond := [Cond.fieldLink RX7 16 "CardhouseModel" "banned" "[Z", Cond.methodLink RX7 85 yX7_isKind, Cond.static yX7_isKind, Cond.initialized RX7, Cond.code yX7_isKind cX7_isKind 1 (some .boolean), Cond.methodLink RX7 72 yX7_in, Cond.static yX7_in, Cond.code yX7_in cX7_in 3 (some .boolean), Cond.methodLink RX7 89 yX7_goes, Cond.instanceMethod yX7_goes, Cond.selects RX7 yX7_goes yX7_goes, Cond.code yX7_goes cX7_goes 4 (some .boolean), Cond.fieldLink RX7 69 "CardhouseModel" "thrown" "I", Cond.methodLink RX7 103 yX7_manyAllowed, Cond.instanceMethod yX7_manyAllowed, Cond.selects RX7 yX7_manyAllowed yX7_manyAllowed, Cond.code yX7_manyAllowed cX7_manyAllowed 3 (some .int), Cond.fieldLink RX7 79 "CardhouseModel" "decks" "I", Cond.methodLink RX7 100 yX7_allows, Cond.instanceMethod yX7_allows, Cond.selects RX7 yX7_allows yX7_allows, Cond.code yX7_allows cX7_allows 5 (some .boolean), Cond.fieldLink RX7 45 "CardhouseModel" "many" "[I", Cond.fieldLink RX7 26 "CardhouseModel" "size" "I"]
def wsX7_ban_r2 : List Cond := [Cond.fieldLink RX7 39 "CardhouseModel" "collector" "[I", Cond.fieldLink RX7 48 "CardhouseModel" "card" "[I", Cond.fieldLink RX7 42 "CardhouseModel" "owner" "[I", Cond.fieldLink RX7 30 "CardhouseModel" "most" "I", Cond.methodLink RX7 93 yX7_kindAt, Cond.instanceMethod yX7_kindAt, Cond.selects RX7 yX7_kindAt yX7_kindAt, Cond.code yX7_kindAt cX7_kindAt 3 (some .int), Cond.fieldLink RX7 33 "CardhouseModel" "kind" "[I", Cond.methodLink RX7 97 yX7_manyOf, Cond.instanceMethod yX7_manyOf, Cond.selects RX7 yX7_manyOf yX7_manyOf, Cond.code yX7_manyOf cX7_manyOf 5 (some .int)]
def wsX7_ban : List Cond := .code yX7_ban cX7_ban 3 (some .int) :: ((wsX7_ban_r1 ++ wsX7_ban_r2) ++ wsX70)
def wsX7_print : List Cond := .code yX7_print cX7_print 3 (some .int) :: ([.fieldLink RX7 76 "CardhouseModel" "cards" "I", .fieldLink RX7 20 "CardhouseModel" "printed" "[I", .fieldLink RX7 33 "CardhouseModel" "kind" "[I", .fieldLink RX7 36 "CardhouseModel" "number" "[I", .fieldLink RX7 39 "CardhouseModel" "collector" "[I", .methodLink RX7 85 yX7_isKind, .static yX7_isKind, .initialized RX7, .code yX7_isKind cX7_isKind 1 (some .boolean), .methodLink RX7 72 yX7_in, .static yX7_in, .code yX7_in cX7_in 3 (some .boolean), .methodLink RX7 107 yX7_isCollector, .static yX7_isCollector, .code yX7_isCollector cX7_isCollector 1 (some .boolean), .methodLink RX7 89 yX7_goes, .instanceMethod yX7_goes, .selects RX7 yX7_goes yX7_goes, .code yX7_goes cX7_goes 4 (some .boolean), .fieldLink RX7 69 "CardhouseModel" "thrown" "I"] ++ wsX70)
def wsX7_deck : List Cond := .code yX7_deck cX7_deck 2 (some .int) :: ([.fieldLink RX7 79 "CardhouseModel" "decks" "I", .fieldLink RX7 42 "CardhouseModel" "owner" "[I", .methodLink RX7 107 yX7_isCollector, .static yX7_isCollector, .initialized RX7, .code yX7_isCollector cX7_isCollector 1 (some .boolean), .methodLink RX7 72 yX7_in, .static yX7_in, .code yX7_in cX7_in 3 (some .boolean), .methodLink RX7 89 yX7_goes, .instanceMethod yX7_goes, .selects RX7 yX7_goes yX7_goes, .code yX7_goes cX7_goes 4 (some .boolean), .fieldLink RX7 69 "CardhouseModel" "thrown" "I"] ++ wsX70)
def wsX7_isIn : List Cond := .code yX7_isIn cX7_isIn 5 (some .boolean) :: ([.fieldLink RX7 45 "CardhouseModel" "many" "[I", .fieldLink RX7 48 "CardhouseModel" "card" "[I"] ++ wsX70)
def wsX7_add_r1 : List Cond := [Cond.fieldLink RX7 39 "CardhouseModel" "collector" "[I", Cond.fieldLink RX7 42 "CardhouseModel" "owner" "[I", Cond.fieldLink RX7 45 "CardhouseModel" "many" "[I", Cond.fieldLink RX7 48 "CardhouseModel" "card" "[I", Cond.methodLink RX7 110 yX7_isDeck, Cond.instanceMethod yX7_isDeck, Cond.selects RX7 yX7_isDeck yX7_isDeck, Cond.initialized RX7, Cond.code yX7_isDeck cX7_isDeck 2 (some .boolean), Cond.fieldLink RX7 79 "CardhouseModel" "decks" "I", Cond.methodLink RX7 72 yX7_in, Cond.static yX7_in, Cond.code yX7_in cX7_in 3 (some .boolean), Cond.methodLink RX7 113 yX7_isCard, Cond.instanceMethod yX7_isCard, Cond.selects RX7 yX7_isCard yX7_isCard, Cond.code yX7_isCard cX7_isCard 2 (some .boolean), Cond.fieldLink RX7 76 "CardhouseModel" "cards" "I", Cond.methodLink RX7 116 yX7_isIn, Cond.instanceMethod yX7_isIn, Cond.selects RX7 yX7_isIn yX7_isIn, Cond.code yX7_isIn cX7_isIn 5 (some .boolean), Cond.methodLink RX7 89 yX7_goes, Cond.instanceMethod yX7_goes]
def wsX7_add_r2 : List Cond := [Cond.selects RX7 yX7_goes yX7_goes, Cond.code yX7_goes cX7_goes 4 (some .boolean), Cond.fieldLink RX7 69 "CardhouseModel" "thrown" "I"]
def wsX7_add : List Cond := .code yX7_add cX7_add 5 (some .int) :: ((wsX7_add_r1 ++ wsX7_add_r2) ++ wsX70)
def wsX7_cut : List Cond := .code yX7_cut cX7_cut 6 (some .int) :: ([.fieldLink RX7 45 "CardhouseModel" "many" "[I", .fieldLink RX7 48 "CardhouseModel" "card" "[I", .methodLink RX7 110 yX7_isDeck, .instanceMethod yX7_isDeck, .selects RX7 yX7_isDeck yX7_isDeck, .initialized RX7, .code yX7_isDeck cX7_isDeck 2 (some .boolean), .fieldLink RX7 79 "CardhouseModel" "decks" "I", .methodLink RX7 72 yX7_in, .static yX7_in, .code yX7_in cX7_in 3 (some .boolean), .methodLink RX7 89 yX7_goes, .instanceMethod yX7_goes, .selects RX7 yX7_goes yX7_goes, .code yX7_goes cX7_goes 4 (some .boolean), .fieldLink RX7 69 "CardhouseModel" "thrown" "I"] ++ wsX70)
def wsX7_shuffles : List Cond := .code yX7_shuffles cX7_shuffles 9 none :: ([.fieldLink RX7 45 "CardhouseModel" "many" "[I", .fieldLink RX7 51 "CardhouseModel" "row" "[I", .fieldLink RX7 48 "CardhouseModel" "card" "[I", .constantLong RX7 120 (1103515245), .constantLong RX7 122 (12345), .constantLong RX7 124 (2147483648), .constantLong RX7 126 (65536)] ++ wsX70)
def wsX7_effect : List Cond := .code yX7_effect cX7_effect 5 (some .int) :: ([.fieldLink RX7 13 "CardhouseModel" "trigger" "[I"] ++ wsX70)
def wsX7_wonBy : List Cond := .code yX7_wonBy cX7_wonBy 3 none :: ([.fieldLink RX7 23 "CardhouseModel" "wins" "[I", .methodLink RX7 97 yX7_manyOf, .instanceMethod yX7_manyOf, .selects RX7 yX7_manyOf yX7_manyOf, .initialized RX7, .code yX7_manyOf cX7_manyOf 5 (some .int), .fieldLink RX7 45 "CardhouseModel" "many" "[I", .methodLink RX7 93 yX7_kindAt, .instanceMethod yX7_kindAt, .selects RX7 yX7_kindAt yX7_kindAt, .code yX7_kindAt cX7_kindAt 3 (some .int), .fieldLink RX7 33 "CardhouseModel" "kind" "[I", .fieldLink RX7 48 "CardhouseModel" "card" "[I"] ++ wsX70)
def wsX7_play_r1 : List Cond := [Cond.fieldLink RX7 42 "CardhouseModel" "owner" "[I", Cond.fieldLink RX7 26 "CardhouseModel" "size" "I", Cond.fieldLink RX7 33 "CardhouseModel" "kind" "[I", Cond.fieldLink RX7 51 "CardhouseModel" "row" "[I", Cond.fieldLink RX7 7 "CardhouseModel" "power" "[I", Cond.methodLink RX7 110 yX7_isDeck, Cond.instanceMethod yX7_isDeck, Cond.selects RX7 yX7_isDeck yX7_isDeck, Cond.initialized RX7, Cond.code yX7_isDeck cX7_isDeck 2 (some .boolean), Cond.fieldLink RX7 79 "CardhouseModel" "decks" "I", Cond.methodLink RX7 72 yX7_in, Cond.static yX7_in, Cond.code yX7_in cX7_in 3 (some .boolean), Cond.methodLink RX7 100 yX7_allows, Cond.instanceMethod yX7_allows, Cond.selects RX7 yX7_allows yX7_allows, Cond.code yX7_allows cX7_allows 5 (some .boolean), Cond.fieldLink RX7 45 "CardhouseModel" "many" "[I", Cond.fieldLink RX7 39 "CardhouseModel" "collector" "[I", Cond.fieldLink RX7 48 "CardhouseModel" "card" "[I", Cond.fieldLink RX7 16 "CardhouseModel" "banned" "[Z", Cond.fieldLink RX7 30 "CardhouseModel" "most" "I", Cond.methodLink RX7 93 yX7_kindAt]
def wsX7_play_r2 : List Cond := [Cond.instanceMethod yX7_kindAt, Cond.selects RX7 yX7_kindAt yX7_kindAt, Cond.code yX7_kindAt cX7_kindAt 3 (some .int), Cond.methodLink RX7 97 yX7_manyOf, Cond.instanceMethod yX7_manyOf, Cond.selects RX7 yX7_manyOf yX7_manyOf, Cond.code yX7_manyOf cX7_manyOf 5 (some .int), Cond.methodLink RX7 89 yX7_goes, Cond.instanceMethod yX7_goes, Cond.selects RX7 yX7_goes yX7_goes, Cond.code yX7_goes cX7_goes 4 (some .boolean), Cond.fieldLink RX7 69 "CardhouseModel" "thrown" "I", Cond.methodLink RX7 128 yX7_shuffles, Cond.instanceMethod yX7_shuffles, Cond.selects RX7 yX7_shuffles yX7_shuffles, Cond.code yX7_shuffles cX7_shuffles 9 none, Cond.constantLong RX7 120 (1103515245), Cond.constantLong RX7 122 (12345), Cond.constantLong RX7 124 (2147483648), Cond.constantLong RX7 126 (65536), Cond.methodLink RX7 132 yX7_effect, Cond.instanceMethod yX7_effect, Cond.selects RX7 yX7_effect yX7_effect, Cond.code yX7_effect cX7_effect 5 (some .int)]
def wsX7_play_r3 : List Cond := [Cond.fieldLink RX7 13 "CardhouseModel" "trigger" "[I", Cond.methodLink RX7 136 yX7_wonBy, Cond.instanceMethod yX7_wonBy, Cond.selects RX7 yX7_wonBy yX7_wonBy, Cond.code yX7_wonBy cX7_wonBy 3 none, Cond.fieldLink RX7 23 "CardhouseModel" "wins" "[I"]
def wsX7_play : List Cond := .code yX7_play cX7_play 16 (some .int) :: ((wsX7_play_r1 ++ (wsX7_play_r2 ++ wsX7_play_r3)) ++ wsX70)
def wsX7_opens : List Cond := .code yX7_opens cX7_opens 2 (some .boolean) :: ([.fieldLink RX7 63 "CardhouseModel" "closed" "[Z", .fieldLink RX7 39 "CardhouseModel" "collector" "[I", .fieldLink RX7 54 "CardhouseModel" "offered" "[I", .fieldLink RX7 57 "CardhouseModel" "by" "[I"] ++ wsX70)
def wsX7_offer_r1 : List Cond := [Cond.fieldLink RX7 82 "CardhouseModel" "offers" "I", Cond.fieldLink RX7 54 "CardhouseModel" "offered" "[I", Cond.fieldLink RX7 33 "CardhouseModel" "kind" "[I", Cond.fieldLink RX7 57 "CardhouseModel" "by" "[I", Cond.fieldLink RX7 39 "CardhouseModel" "collector" "[I", Cond.fieldLink RX7 60 "CardhouseModel" "wanted" "[I", Cond.methodLink RX7 113 yX7_isCard, Cond.instanceMethod yX7_isCard, Cond.selects RX7 yX7_isCard yX7_isCard, Cond.initialized RX7, Cond.code yX7_isCard cX7_isCard 2 (some .boolean), Cond.fieldLink RX7 76 "CardhouseModel" "cards" "I", Cond.methodLink RX7 72 yX7_in, Cond.static yX7_in, Cond.code yX7_in cX7_in 3 (some .boolean), Cond.methodLink RX7 85 yX7_isKind, Cond.static yX7_isKind, Cond.code yX7_isKind cX7_isKind 1 (some .boolean), Cond.methodLink RX7 140 yX7_opens, Cond.instanceMethod yX7_opens, Cond.selects RX7 yX7_opens yX7_opens, Cond.code yX7_opens cX7_opens 2 (some .boolean), Cond.fieldLink RX7 63 "CardhouseModel" "closed" "[Z", Cond.methodLink RX7 89 yX7_goes]
def wsX7_offer_r2 : List Cond := [Cond.instanceMethod yX7_goes, Cond.selects RX7 yX7_goes yX7_goes, Cond.code yX7_goes cX7_goes 4 (some .boolean), Cond.fieldLink RX7 69 "CardhouseModel" "thrown" "I"]
def wsX7_offer : List Cond := .code yX7_offer cX7_offer 6 (some .int) :: ((wsX7_offer_r1 ++ wsX7_offer_r2) ++ wsX70)
def wsX7_takeBack : List Cond := .code yX7_takeBack cX7_takeBack 3 (some .int) :: ([.fieldLink RX7 63 "CardhouseModel" "closed" "[Z", .fieldLink RX7 54 "CardhouseModel" "offered" "[I", .methodLink RX7 143 yX7_isOffer, .instanceMethod yX7_isOffer, .selects RX7 yX7_isOffer yX7_isOffer, .initialized RX7, .code yX7_isOffer cX7_isOffer 2 (some .boolean), .fieldLink RX7 82 "CardhouseModel" "offers" "I", .methodLink RX7 72 yX7_in, .static yX7_in, .code yX7_in cX7_in 3 (some .boolean), .methodLink RX7 140 yX7_opens, .instanceMethod yX7_opens, .selects RX7 yX7_opens yX7_opens, .code yX7_opens cX7_opens 2 (some .boolean), .fieldLink RX7 39 "CardhouseModel" "collector" "[I", .fieldLink RX7 57 "CardhouseModel" "by" "[I", .methodLink RX7 89 yX7_goes, .instanceMethod yX7_goes, .selects RX7 yX7_goes yX7_goes, .code yX7_goes cX7_goes 4 (some .boolean), .fieldLink RX7 69 "CardhouseModel" "thrown" "I"] ++ wsX70)
def wsX7_gives : List Cond := .code yX7_gives cX7_gives 3 (some .boolean) :: ([.fieldLink RX7 57 "CardhouseModel" "by" "[I", .fieldLink RX7 33 "CardhouseModel" "kind" "[I", .fieldLink RX7 54 "CardhouseModel" "offered" "[I", .fieldLink RX7 60 "CardhouseModel" "wanted" "[I"] ++ wsX70)
def wsX7_fits : List Cond := .code yX7_fits cX7_fits 6 (some .boolean) :: ([.fieldLink RX7 66 "CardhouseModel" "ring" "[I", .fieldLink RX7 57 "CardhouseModel" "by" "[I", .methodLink RX7 140 yX7_opens, .instanceMethod yX7_opens, .selects RX7 yX7_opens yX7_opens, .initialized RX7, .code yX7_opens cX7_opens 2 (some .boolean), .fieldLink RX7 63 "CardhouseModel" "closed" "[Z", .fieldLink RX7 39 "CardhouseModel" "collector" "[I", .fieldLink RX7 54 "CardhouseModel" "offered" "[I", .methodLink RX7 146 yX7_gives, .instanceMethod yX7_gives, .selects RX7 yX7_gives yX7_gives, .code yX7_gives cX7_gives 3 (some .boolean), .fieldLink RX7 33 "CardhouseModel" "kind" "[I", .fieldLink RX7 60 "CardhouseModel" "wanted" "[I"] ++ wsX70)
def wsX7_hasRing : List Cond := .code yX7_hasRing cX7_hasRing 3 (some .boolean) :: ([.fieldLink RX7 66 "CardhouseModel" "ring" "[I", .fieldLink RX7 82 "CardhouseModel" "offers" "I", .methodLink RX7 149 yX7_fits, .instanceMethod yX7_fits, .selects RX7 yX7_fits yX7_fits, .initialized RX7, .code yX7_fits cX7_fits 6 (some .boolean), .fieldLink RX7 57 "CardhouseModel" "by" "[I", .methodLink RX7 140 yX7_opens, .instanceMethod yX7_opens, .selects RX7 yX7_opens yX7_opens, .code yX7_opens cX7_opens 2 (some .boolean), .fieldLink RX7 63 "CardhouseModel" "closed" "[Z", .fieldLink RX7 39 "CardhouseModel" "collector" "[I", .fieldLink RX7 54 "CardhouseModel" "offered" "[I", .methodLink RX7 146 yX7_gives, .instanceMethod yX7_gives, .selects RX7 yX7_gives yX7_gives, .code yX7_gives cX7_gives 3 (some .boolean), .fieldLink RX7 33 "CardhouseModel" "kind" "[I", .fieldLink RX7 60 "CardhouseModel" "wanted" "[I"] ++ wsX70)
def wsX7_first_r1 : List Cond := [Cond.methodLink RX7 152 yX7_hasRing, Cond.instanceMethod yX7_hasRing, Cond.selects RX7 yX7_hasRing yX7_hasRing, Cond.initialized RX7, Cond.code yX7_hasRing cX7_hasRing 3 (some .boolean), Cond.fieldLink RX7 66 "CardhouseModel" "ring" "[I", Cond.fieldLink RX7 82 "CardhouseModel" "offers" "I", Cond.methodLink RX7 149 yX7_fits, Cond.instanceMethod yX7_fits, Cond.selects RX7 yX7_fits yX7_fits, Cond.code yX7_fits cX7_fits 6 (some .boolean), Cond.fieldLink RX7 57 "CardhouseModel" "by" "[I", Cond.methodLink RX7 140 yX7_opens, Cond.instanceMethod yX7_opens, Cond.selects RX7 yX7_opens yX7_opens, Cond.code yX7_opens cX7_opens 2 (some .boolean), Cond.fieldLink RX7 63 "CardhouseModel" "closed" "[Z", Cond.fieldLink RX7 39 "CardhouseModel" "collector" "[I", Cond.fieldLink RX7 54 "CardhouseModel" "offered" "[I", Cond.methodLink RX7 146 yX7_gives, Cond.instanceMethod yX7_gives, Cond.selects RX7 yX7_gives yX7_gives, Cond.code yX7_gives cX7_gives 3 (some .boolean), Cond.fieldLink RX7 33 "CardhouseModel" "kind" "[I"]
def wsX7_first_r2 : List Cond := [Cond.fieldLink RX7 60 "CardhouseModel" "wanted" "[I"]
def wsX7_first : List Cond := .code yX7_first cX7_first 1 (some .int) :: ((wsX7_first_r1 ++ wsX7_first_r2) ++ wsX70)
def wsX7_trade_r1 : List Cond := [Cond.fieldLink RX7 69 "CardhouseModel" "thrown" "I", Cond.fieldLink RX7 66 "CardhouseModel" "ring" "[I", Cond.fieldLink RX7 39 "CardhouseModel" "collector" "[I", Cond.fieldLink RX7 54 "CardhouseModel" "offered" "[I", Cond.fieldLink RX7 57 "CardhouseModel" "by" "[I", Cond.fieldLink RX7 63 "CardhouseModel" "closed" "[Z", Cond.methodLink RX7 155 yX7_first, Cond.instanceMethod yX7_first, Cond.selects RX7 yX7_first yX7_first, Cond.initialized RX7, Cond.code yX7_first cX7_first 1 (some .int), Cond.methodLink RX7 152 yX7_hasRing, Cond.instanceMethod yX7_hasRing, Cond.selects RX7 yX7_hasRing yX7_hasRing, Cond.code yX7_hasRing cX7_hasRing 3 (some .boolean), Cond.fieldLink RX7 82 "CardhouseModel" "offers" "I", Cond.methodLink RX7 149 yX7_fits, Cond.instanceMethod yX7_fits, Cond.selects RX7 yX7_fits yX7_fits, Cond.code yX7_fits cX7_fits 6 (some .boolean), Cond.methodLink RX7 140 yX7_opens, Cond.instanceMethod yX7_opens, Cond.selects RX7 yX7_opens yX7_opens, Cond.code yX7_opens cX7_opens 2 (some .boolean)]
def wsX7_trade_r2 : List Cond := [Cond.methodLink RX7 146 yX7_gives, Cond.instanceMethod yX7_gives, Cond.selects RX7 yX7_gives yX7_gives, Cond.code yX7_gives cX7_gives 3 (some .boolean), Cond.fieldLink RX7 33 "CardhouseModel" "kind" "[I", Cond.fieldLink RX7 60 "CardhouseModel" "wanted" "[I"]
def wsX7_trade : List Cond := .code yX7_trade cX7_trade 4 (some .int) :: ((wsX7_trade_r1 ++ wsX7_trade_r2) ++ wsX70)
def wsX7_cards : List Cond := .code yX7_cards cX7_cards 1 (some .int) :: ([.fieldLink RX7 76 "CardhouseModel" "cards" "I", .methodLink RX7 158 yX7_told, .instanceMethod yX7_told, .selects RX7 yX7_told yX7_told, .initialized RX7, .code yX7_told cX7_told 2 (some .int), .fieldLink RX7 69 "CardhouseModel" "thrown" "I"] ++ wsX70)
def wsX7_printOf : List Cond := .code yX7_printOf cX7_printOf 2 (some .int) :: ([.fieldLink RX7 33 "CardhouseModel" "kind" "[I", .fieldLink RX7 36 "CardhouseModel" "number" "[I", .methodLink RX7 113 yX7_isCard, .instanceMethod yX7_isCard, .selects RX7 yX7_isCard yX7_isCard, .initialized RX7, .code yX7_isCard cX7_isCard 2 (some .boolean), .fieldLink RX7 76 "CardhouseModel" "cards" "I", .methodLink RX7 72 yX7_in, .static yX7_in, .code yX7_in cX7_in 3 (some .boolean), .methodLink RX7 89 yX7_goes, .instanceMethod yX7_goes, .selects RX7 yX7_goes yX7_goes, .code yX7_goes cX7_goes 4 (some .boolean), .fieldLink RX7 69 "CardhouseModel" "thrown" "I"] ++ wsX70)
def wsX7_collectorOf : List Cond := .code yX7_collectorOf cX7_collectorOf 2 (some .int) :: ([.fieldLink RX7 39 "CardhouseModel" "collector" "[I", .methodLink RX7 113 yX7_isCard, .instanceMethod yX7_isCard, .selects RX7 yX7_isCard yX7_isCard, .initialized RX7, .code yX7_isCard cX7_isCard 2 (some .boolean), .fieldLink RX7 76 "CardhouseModel" "cards" "I", .methodLink RX7 72 yX7_in, .static yX7_in, .code yX7_in cX7_in 3 (some .boolean), .methodLink RX7 89 yX7_goes, .instanceMethod yX7_goes, .selects RX7 yX7_goes yX7_goes, .code yX7_goes cX7_goes 4 (some .boolean), .fieldLink RX7 69 "CardhouseModel" "thrown" "I"] ++ wsX70)
def wsX7_has : List Cond := .code yX7_has cX7_has 6 (some .int) :: ([.fieldLink RX7 76 "CardhouseModel" "cards" "I", .fieldLink RX7 39 "CardhouseModel" "collector" "[I", .fieldLink RX7 33 "CardhouseModel" "kind" "[I", .methodLink RX7 107 yX7_isCollector, .static yX7_isCollector, .initialized RX7, .code yX7_isCollector cX7_isCollector 1 (some .boolean), .methodLink RX7 72 yX7_in, .static yX7_in, .code yX7_in cX7_in 3 (some .boolean), .methodLink RX7 85 yX7_isKind, .static yX7_isKind, .code yX7_isKind cX7_isKind 1 (some .boolean), .methodLink RX7 89 yX7_goes, .instanceMethod yX7_goes, .selects RX7 yX7_goes yX7_goes, .code yX7_goes cX7_goes 4 (some .boolean), .fieldLink RX7 69 "CardhouseModel" "thrown" "I"] ++ wsX70)
def wsX7_wins : List Cond := .code yX7_wins cX7_wins 2 (some .int) :: ([.fieldLink RX7 23 "CardhouseModel" "wins" "[I", .methodLink RX7 85 yX7_isKind, .static yX7_isKind, .initialized RX7, .code yX7_isKind cX7_isKind 1 (some .boolean), .methodLink RX7 72 yX7_in, .static yX7_in, .code yX7_in cX7_in 3 (some .boolean), .methodLink RX7 89 yX7_goes, .instanceMethod yX7_goes, .selects RX7 yX7_goes yX7_goes, .code yX7_goes cX7_goes 4 (some .boolean), .fieldLink RX7 69 "CardhouseModel" "thrown" "I"] ++ wsX70)
def wsX7_price : List Cond := .code yX7_price cX7_price 2 (some .int) :: ([.fieldLink RX7 20 "CardhouseModel" "printed" "[I", .fieldLink RX7 23 "CardhouseModel" "wins" "[I", .methodLink RX7 85 yX7_isKind, .static yX7_isKind, .initialized RX7, .code yX7_isKind cX7_isKind 1 (some .boolean), .methodLink RX7 72 yX7_in, .static yX7_in, .code yX7_in cX7_in 3 (some .boolean), .methodLink RX7 89 yX7_goes, .instanceMethod yX7_goes, .selects RX7 yX7_goes yX7_goes, .code yX7_goes cX7_goes 4 (some .boolean), .fieldLink RX7 69 "CardhouseModel" "thrown" "I"] ++ wsX70)
def wsX7_isAllowed_r1 : List Cond := [Cond.methodLink RX7 110 yX7_isDeck, Cond.instanceMethod yX7_isDeck, Cond.selects RX7 yX7_isDeck yX7_isDeck, Cond.initialized RX7, Cond.code yX7_isDeck cX7_isDeck 2 (some .boolean), Cond.fieldLink RX7 79 "CardhouseModel" "decks" "I", Cond.methodLink RX7 72 yX7_in, Cond.static yX7_in, Cond.code yX7_in cX7_in 3 (some .boolean), Cond.methodLink RX7 89 yX7_goes, Cond.instanceMethod yX7_goes, Cond.selects RX7 yX7_goes yX7_goes, Cond.code yX7_goes cX7_goes 4 (some .boolean), Cond.fieldLink RX7 69 "CardhouseModel" "thrown" "I", Cond.methodLink RX7 100 yX7_allows, Cond.instanceMethod yX7_allows, Cond.selects RX7 yX7_allows yX7_allows, Cond.code yX7_allows cX7_allows 5 (some .boolean), Cond.fieldLink RX7 45 "CardhouseModel" "many" "[I", Cond.fieldLink RX7 26 "CardhouseModel" "size" "I", Cond.fieldLink RX7 39 "CardhouseModel" "collector" "[I", Cond.fieldLink RX7 48 "CardhouseModel" "card" "[I", Cond.fieldLink RX7 42 "CardhouseModel" "owner" "[I", Cond.fieldLink RX7 16 "CardhouseModel" "banned" "[Z"]
def wsX7_isAllowed_r2 : List Cond := [Cond.fieldLink RX7 30 "CardhouseModel" "most" "I", Cond.methodLink RX7 93 yX7_kindAt, Cond.instanceMethod yX7_kindAt, Cond.selects RX7 yX7_kindAt yX7_kindAt, Cond.code yX7_kindAt cX7_kindAt 3 (some .int), Cond.fieldLink RX7 33 "CardhouseModel" "kind" "[I", Cond.methodLink RX7 97 yX7_manyOf, Cond.instanceMethod yX7_manyOf, Cond.selects RX7 yX7_manyOf yX7_manyOf, Cond.code yX7_manyOf cX7_manyOf 5 (some .int)]
def wsX7_isAllowed : List Cond := .code yX7_isAllowed cX7_isAllowed 2 (some .boolean) :: ((wsX7_isAllowed_r1 ++ wsX7_isAllowed_r2) ++ wsX70)
def wsX7_shuffled_r1 : List Cond := [Cond.fieldLink RX7 45 "CardhouseModel" "many" "[I", Cond.fieldLink RX7 51 "CardhouseModel" "row" "[I", Cond.methodLink RX7 110 yX7_isDeck, Cond.instanceMethod yX7_isDeck, Cond.selects RX7 yX7_isDeck yX7_isDeck, Cond.initialized RX7, Cond.code yX7_isDeck cX7_isDeck 2 (some .boolean), Cond.fieldLink RX7 79 "CardhouseModel" "decks" "I", Cond.methodLink RX7 72 yX7_in, Cond.static yX7_in, Cond.code yX7_in cX7_in 3 (some .boolean), Cond.methodLink RX7 89 yX7_goes, Cond.instanceMethod yX7_goes, Cond.selects RX7 yX7_goes yX7_goes, Cond.code yX7_goes cX7_goes 4 (some .boolean), Cond.fieldLink RX7 69 "CardhouseModel" "thrown" "I", Cond.methodLink RX7 128 yX7_shuffles, Cond.instanceMethod yX7_shuffles, Cond.selects RX7 yX7_shuffles yX7_shuffles, Cond.code yX7_shuffles cX7_shuffles 9 none, Cond.fieldLink RX7 48 "CardhouseModel" "card" "[I", Cond.constantLong RX7 120 (1103515245), Cond.constantLong RX7 122 (12345), Cond.constantLong RX7 124 (2147483648)]
def wsX7_shuffled_r2 : List Cond := [Cond.constantLong RX7 126 (65536)]
def wsX7_shuffled : List Cond := .code yX7_shuffled cX7_shuffled 5 (some .int) :: ((wsX7_shuffled_r1 ++ wsX7_shuffled_r2) ++ wsX70)
def wsX7_ordersOf : List Cond := .code yX7_ordersOf cX7_ordersOf 9 (some .int) :: ([.fieldLink RX7 45 "CardhouseModel" "many" "[I", .methodLink RX7 97 yX7_manyOf, .instanceMethod yX7_manyOf, .selects RX7 yX7_manyOf yX7_manyOf, .initialized RX7, .code yX7_manyOf cX7_manyOf 5 (some .int), .methodLink RX7 93 yX7_kindAt, .instanceMethod yX7_kindAt, .selects RX7 yX7_kindAt yX7_kindAt, .code yX7_kindAt cX7_kindAt 3 (some .int), .fieldLink RX7 33 "CardhouseModel" "kind" "[I", .fieldLink RX7 48 "CardhouseModel" "card" "[I"] ++ wsX70)
def wsX7_orders_r1 : List Cond := [Cond.methodLink RX7 110 yX7_isDeck, Cond.instanceMethod yX7_isDeck, Cond.selects RX7 yX7_isDeck yX7_isDeck, Cond.initialized RX7, Cond.code yX7_isDeck cX7_isDeck 2 (some .boolean), Cond.fieldLink RX7 79 "CardhouseModel" "decks" "I", Cond.methodLink RX7 72 yX7_in, Cond.static yX7_in, Cond.code yX7_in cX7_in 3 (some .boolean), Cond.methodLink RX7 85 yX7_isKind, Cond.static yX7_isKind, Cond.code yX7_isKind cX7_isKind 1 (some .boolean), Cond.methodLink RX7 89 yX7_goes, Cond.instanceMethod yX7_goes, Cond.selects RX7 yX7_goes yX7_goes, Cond.code yX7_goes cX7_goes 4 (some .boolean), Cond.fieldLink RX7 69 "CardhouseModel" "thrown" "I", Cond.methodLink RX7 162 yX7_ordersOf, Cond.instanceMethod yX7_ordersOf, Cond.selects RX7 yX7_ordersOf yX7_ordersOf, Cond.code yX7_ordersOf cX7_ordersOf 9 (some .int), Cond.fieldLink RX7 45 "CardhouseModel" "many" "[I", Cond.methodLink RX7 97 yX7_manyOf, Cond.instanceMethod yX7_manyOf]
def wsX7_orders_r2 : List Cond := [Cond.selects RX7 yX7_manyOf yX7_manyOf, Cond.code yX7_manyOf cX7_manyOf 5 (some .int), Cond.methodLink RX7 93 yX7_kindAt, Cond.instanceMethod yX7_kindAt, Cond.selects RX7 yX7_kindAt yX7_kindAt, Cond.code yX7_kindAt cX7_kindAt 3 (some .int), Cond.fieldLink RX7 33 "CardhouseModel" "kind" "[I", Cond.fieldLink RX7 48 "CardhouseModel" "card" "[I"]
def wsX7_orders : List Cond := .code yX7_orders cX7_orders 4 (some .int) :: ((wsX7_orders_r1 ++ wsX7_orders_r2) ++ wsX70)
def wsX7_ordersByAll_r1 : List Cond := [Cond.fieldLink RX7 45 "CardhouseModel" "many" "[I", Cond.methodLink RX7 110 yX7_isDeck, Cond.instanceMethod yX7_isDeck, Cond.selects RX7 yX7_isDeck yX7_isDeck, Cond.initialized RX7, Cond.code yX7_isDeck cX7_isDeck 2 (some .boolean), Cond.fieldLink RX7 79 "CardhouseModel" "decks" "I", Cond.methodLink RX7 72 yX7_in, Cond.static yX7_in, Cond.code yX7_in cX7_in 3 (some .boolean), Cond.methodLink RX7 85 yX7_isKind, Cond.static yX7_isKind, Cond.code yX7_isKind cX7_isKind 1 (some .boolean), Cond.methodLink RX7 89 yX7_goes, Cond.instanceMethod yX7_goes, Cond.selects RX7 yX7_goes yX7_goes, Cond.code yX7_goes cX7_goes 4 (some .boolean), Cond.fieldLink RX7 69 "CardhouseModel" "thrown" "I", Cond.methodLink RX7 162 yX7_ordersOf, Cond.instanceMethod yX7_ordersOf, Cond.selects RX7 yX7_ordersOf yX7_ordersOf, Cond.code yX7_ordersOf cX7_ordersOf 9 (some .int), Cond.methodLink RX7 97 yX7_manyOf, Cond.instanceMethod yX7_manyOf]
def wsX7_ordersByAll_r2 : List Cond := [Cond.selects RX7 yX7_manyOf yX7_manyOf, Cond.code yX7_manyOf cX7_manyOf 5 (some .int), Cond.methodLink RX7 93 yX7_kindAt, Cond.instanceMethod yX7_kindAt, Cond.selects RX7 yX7_kindAt yX7_kindAt, Cond.code yX7_kindAt cX7_kindAt 3 (some .int), Cond.fieldLink RX7 33 "CardhouseModel" "kind" "[I", Cond.fieldLink RX7 48 "CardhouseModel" "card" "[I"]
def wsX7_ordersByAll : List Cond := .code yX7_ordersByAll cX7_ordersByAll 5 (some .int) :: ((wsX7_ordersByAll_r1 ++ wsX7_ordersByAll_r2) ++ wsX70)
def wsX7_isOpen : List Cond := .code yX7_isOpen cX7_isOpen 2 (some .boolean) :: ([.methodLink RX7 143 yX7_isOffer, .instanceMethod yX7_isOffer, .selects RX7 yX7_isOffer yX7_isOffer, .initialized RX7, .code yX7_isOffer cX7_isOffer 2 (some .boolean), .fieldLink RX7 82 "CardhouseModel" "offers" "I", .methodLink RX7 72 yX7_in, .static yX7_in, .code yX7_in cX7_in 3 (some .boolean), .methodLink RX7 89 yX7_goes, .instanceMethod yX7_goes, .selects RX7 yX7_goes yX7_goes, .code yX7_goes cX7_goes 4 (some .boolean), .fieldLink RX7 69 "CardhouseModel" "thrown" "I", .methodLink RX7 140 yX7_opens, .instanceMethod yX7_opens, .selects RX7 yX7_opens yX7_opens, .code yX7_opens cX7_opens 2 (some .boolean), .fieldLink RX7 63 "CardhouseModel" "closed" "[Z", .fieldLink RX7 39 "CardhouseModel" "collector" "[I", .fieldLink RX7 54 "CardhouseModel" "offered" "[I", .fieldLink RX7 57 "CardhouseModel" "by" "[I"] ++ wsX70)
def wsX7_ring_r1 : List Cond := [Cond.fieldLink RX7 66 "CardhouseModel" "ring" "[I", Cond.methodLink RX7 89 yX7_goes, Cond.instanceMethod yX7_goes, Cond.selects RX7 yX7_goes yX7_goes, Cond.initialized RX7, Cond.code yX7_goes cX7_goes 4 (some .boolean), Cond.fieldLink RX7 69 "CardhouseModel" "thrown" "I", Cond.methodLink RX7 155 yX7_first, Cond.instanceMethod yX7_first, Cond.selects RX7 yX7_first yX7_first, Cond.code yX7_first cX7_first 1 (some .int), Cond.methodLink RX7 152 yX7_hasRing, Cond.instanceMethod yX7_hasRing, Cond.selects RX7 yX7_hasRing yX7_hasRing, Cond.code yX7_hasRing cX7_hasRing 3 (some .boolean), Cond.fieldLink RX7 82 "CardhouseModel" "offers" "I", Cond.methodLink RX7 149 yX7_fits, Cond.instanceMethod yX7_fits, Cond.selects RX7 yX7_fits yX7_fits, Cond.code yX7_fits cX7_fits 6 (some .boolean), Cond.fieldLink RX7 57 "CardhouseModel" "by" "[I", Cond.methodLink RX7 140 yX7_opens, Cond.instanceMethod yX7_opens, Cond.selects RX7 yX7_opens yX7_opens]
def wsX7_ring_r2 : List Cond := [Cond.code yX7_opens cX7_opens 2 (some .boolean), Cond.fieldLink RX7 63 "CardhouseModel" "closed" "[Z", Cond.fieldLink RX7 39 "CardhouseModel" "collector" "[I", Cond.fieldLink RX7 54 "CardhouseModel" "offered" "[I", Cond.methodLink RX7 146 yX7_gives, Cond.instanceMethod yX7_gives, Cond.selects RX7 yX7_gives yX7_gives, Cond.code yX7_gives cX7_gives 3 (some .boolean), Cond.fieldLink RX7 33 "CardhouseModel" "kind" "[I", Cond.fieldLink RX7 60 "CardhouseModel" "wanted" "[I"]
def wsX7_ring : List Cond := .code yX7_ring cX7_ring 2 (some .int) :: ((wsX7_ring_r1 ++ wsX7_ring_r2) ++ wsX70)
def wsL_setKind : List Cond := .codeWith yL_setKind cL_setKind 6 (some .int) [(0, 12, 15, 13), (0, 12, 19, 15)] :: ([.classLink RL 13 "java/lang/IndexOutOfBoundsException", .classLink RL 15 "java/lang/IllegalArgumentException", .methodLink RL 7 yX6_setKind, .instanceMethod yX6_setKind, .selects RX6 yX6_setKind yX6_setKind, .initialized RX6, .code yX6_setKind cX6_setKind 5 (some .int), .fieldLink RX6 10 "Cardhouse" "kinds" "LCardhouse$Kinds;", .fieldLink RX6 62 "Cardhouse$Kinds" "power" "[I", .fieldLink RX6 66 "Cardhouse$Kinds" "trigger" "[I", .methodLink RX6 54 yX6_needKind, .static yX6_needKind, .code yX6_needKind cX6_needKind 1 none, .classLink RX6 236 "java/lang/IndexOutOfBoundsException", .initialized "java/lang/IndexOutOfBoundsException", .methodLink RX6 58 yX6_needRange, .static yX6_needRange, .code yX6_needRange cX6_needRange 3 none, .classLink RX6 122 "java/lang/IllegalArgumentException", .initialized "java/lang/IllegalArgumentException"] ++ wsX60 ++ wsX10 ++ (vx_atS RX6 240 "java/lang/IndexOutOfBoundsException" ["java/lang/RuntimeException", "java/lang/Exception"]).filter goodWord ++ (vx_atS RX6 126 "java/lang/IllegalArgumentException" ["java/lang/RuntimeException", "java/lang/Exception"]).filter goodWord)
def wsL_setFormat_r1 : List Cond := [Cond.classLink RL 15 "java/lang/IllegalArgumentException", Cond.methodLink RL 17 yX6_setFormat, Cond.instanceMethod yX6_setFormat, Cond.selects RX6 yX6_setFormat yX6_setFormat, Cond.initialized RX6, Cond.code yX6_setFormat cX6_setFormat 3 (some .int), Cond.fieldLink RX6 26 "Cardhouse" "decks" "LCardhouse$Decks;", Cond.fieldLink RX6 69 "Cardhouse$Decks" "formatSize" "I", Cond.fieldLink RX6 73 "Cardhouse$Decks" "formatMost" "I", Cond.fieldLink RX6 10 "Cardhouse" "kinds" "LCardhouse$Kinds;", Cond.fieldLink RX6 19 "Cardhouse" "prints" "LCardhouse$Prints;", Cond.methodLink RX6 58 yX6_needRange, Cond.static yX6_needRange, Cond.code yX6_needRange cX6_needRange 3 none, Cond.classLink RX6 122 "java/lang/IllegalArgumentException", Cond.initialized "java/lang/IllegalArgumentException", Cond.methodLink RX6 76 yX0_countFitting, Cond.instanceMethod yX0_countFitting, Cond.selects RX0 yX0_countFitting yX0_countFitting, Cond.initialized RX0, Cond.code yX0_countFitting cX0_countFitting 5 (some .int), Cond.fieldLink RX0 30 "Cardhouse$Decks" "count" "I", Cond.methodLink RX0 60 yX0_fitsFormat, Cond.instanceMethod yX0_fitsFormat]
def wsL_setFormat_r2 : List Cond := [Cond.selects RX0 yX0_fitsFormat yX0_fitsFormat, Cond.code yX0_fitsFormat cX0_fitsFormat 7 (some .boolean), Cond.fieldLink RX0 15 "Cardhouse$Decks" "size" "[I", Cond.fieldLink RX0 23 "Cardhouse$Decks" "formatSize" "I", Cond.fieldLink RX0 20 "Cardhouse$Decks" "cards" "[[I", Cond.fieldLink RX0 33 "Cardhouse$Prints" "kind" "[I", Cond.fieldLink RX0 48 "Cardhouse$Prints" "collector" "[I", Cond.fieldLink RX0 9 "Cardhouse$Decks" "owner" "[I", Cond.fieldLink RX0 51 "Cardhouse$Kinds" "isBanned" "[Z", Cond.fieldLink RX0 27 "Cardhouse$Decks" "formatMost" "I", Cond.methodLink RX0 57 yX0_countOf, Cond.instanceMethod yX0_countOf, Cond.selects RX0 yX0_countOf yX0_countOf, Cond.code yX0_countOf cX0_countOf 4 (some .int), Cond.methodLink RX0 38 yX0_placesOf, Cond.instanceMethod yX0_placesOf, Cond.selects RX0 yX0_placesOf yX0_placesOf, Cond.code yX0_placesOf cX0_placesOf 6 (some .int), Cond.methodLink RX0 42 yJ6_bitCount_0f7a4, Cond.static yJ6_bitCount_0f7a4, Cond.initialized RJ6, Cond.code yJ6_bitCount_0f7a4 cJ6_bitCount_0f7a4 1 (some .int), Cond.constant RJ6 265 (1431655765), Cond.constant RJ6 266 (858993459)]
def wsL_setFormat_r3 : List Cond := [Cond.constant RJ6 267 (252645135)]
def wsL_setFormat : List Cond := .codeWith yL_setFormat cL_setFormat 5 (some .int) [(0, 10, 13, 15)] :: ((wsL_setFormat_r1 ++ (wsL_setFormat_r2 ++ wsL_setFormat_r3)) ++ wsX60 ++ wsX00 ++ wsX40 ++ wsX10 ++ (vx_atS RX6 126 "java/lang/IllegalArgumentException" ["java/lang/RuntimeException", "java/lang/Exception"]).filter goodWord)
def wsL_ban_r1 : List Cond := [Cond.classLink RL 13 "java/lang/IndexOutOfBoundsException", Cond.methodLink RL 21 yX6_ban, Cond.instanceMethod yX6_ban, Cond.selects RX6 yX6_ban yX6_ban, Cond.initialized RX6, Cond.code yX6_ban cX6_ban 3 (some .int), Cond.fieldLink RX6 10 "Cardhouse" "kinds" "LCardhouse$Kinds;", Cond.fieldLink RX6 80 "Cardhouse$Kinds" "isBanned" "[Z", Cond.fieldLink RX6 26 "Cardhouse" "decks" "LCardhouse$Decks;", Cond.fieldLink RX6 19 "Cardhouse" "prints" "LCardhouse$Prints;", Cond.methodLink RX6 54 yX6_needKind, Cond.static yX6_needKind, Cond.code yX6_needKind cX6_needKind 1 none, Cond.classLink RX6 236 "java/lang/IndexOutOfBoundsException", Cond.initialized "java/lang/IndexOutOfBoundsException", Cond.methodLink RX6 76 yX0_countFitting, Cond.instanceMethod yX0_countFitting, Cond.selects RX0 yX0_countFitting yX0_countFitting, Cond.initialized RX0, Cond.code yX0_countFitting cX0_countFitting 5 (some .int), Cond.fieldLink RX0 30 "Cardhouse$Decks" "count" "I", Cond.methodLink RX0 60 yX0_fitsFormat, Cond.instanceMethod yX0_fitsFormat, Cond.selects RX0 yX0_fitsFormat yX0_fitsFormat]
def wsL_ban_r2 : List Cond := [Cond.code yX0_fitsFormat cX0_fitsFormat 7 (some .boolean), Cond.fieldLink RX0 15 "Cardhouse$Decks" "size" "[I", Cond.fieldLink RX0 23 "Cardhouse$Decks" "formatSize" "I", Cond.fieldLink RX0 20 "Cardhouse$Decks" "cards" "[[I", Cond.fieldLink RX0 33 "Cardhouse$Prints" "kind" "[I", Cond.fieldLink RX0 48 "Cardhouse$Prints" "collector" "[I", Cond.fieldLink RX0 9 "Cardhouse$Decks" "owner" "[I", Cond.fieldLink RX0 51 "Cardhouse$Kinds" "isBanned" "[Z", Cond.fieldLink RX0 27 "Cardhouse$Decks" "formatMost" "I", Cond.methodLink RX0 57 yX0_countOf, Cond.instanceMethod yX0_countOf, Cond.selects RX0 yX0_countOf yX0_countOf, Cond.code yX0_countOf cX0_countOf 4 (some .int), Cond.methodLink RX0 38 yX0_placesOf, Cond.instanceMethod yX0_placesOf, Cond.selects RX0 yX0_placesOf yX0_placesOf, Cond.code yX0_placesOf cX0_placesOf 6 (some .int), Cond.methodLink RX0 42 yJ6_bitCount_0f7a4, Cond.static yJ6_bitCount_0f7a4, Cond.initialized RJ6, Cond.code yJ6_bitCount_0f7a4 cJ6_bitCount_0f7a4 1 (some .int), Cond.constant RJ6 265 (1431655765), Cond.constant RJ6 266 (858993459), Cond.constant RJ6 267 (252645135)]
def wsL_ban : List Cond := .codeWith yL_ban cL_ban 5 (some .int) [(0, 10, 13, 13)] :: ((wsL_ban_r1 ++ wsL_ban_r2) ++ wsX60 ++ wsX10 ++ wsX00 ++ wsX40 ++ (vx_atS RX6 240 "java/lang/IndexOutOfBoundsException" ["java/lang/RuntimeException", "java/lang/Exception"]).filter goodWord)
def wsL_print_r1 : List Cond := [Cond.classLink RL 13 "java/lang/IndexOutOfBoundsException", Cond.classLink RL 28 "java/lang/IllegalStateException", Cond.methodLink RL 25 yX6_print, Cond.instanceMethod yX6_print, Cond.selects RX6 yX6_print yX6_print, Cond.initialized RX6, Cond.code yX6_print cX6_print 3 (some .int), Cond.classLink RX6 90 "java/lang/IllegalStateException", Cond.initialized "java/lang/IllegalStateException", Cond.fieldLink RX6 19 "Cardhouse" "prints" "LCardhouse$Prints;", Cond.fieldLink RX6 87 "Cardhouse$Prints" "count" "I", Cond.fieldLink RX6 10 "Cardhouse" "kinds" "LCardhouse$Kinds;", Cond.fieldLink RX6 97 "Cardhouse$Kinds" "copies" "[I", Cond.methodLink RX6 54 yX6_needKind, Cond.static yX6_needKind, Cond.code yX6_needKind cX6_needKind 1 none, Cond.classLink RX6 236 "java/lang/IndexOutOfBoundsException", Cond.initialized "java/lang/IndexOutOfBoundsException", Cond.methodLink RX6 84 yX6_needCollector, Cond.static yX6_needCollector, Cond.code yX6_needCollector cX6_needCollector 1 none, Cond.methodLink RX6 100 yX4_append, Cond.instanceMethod yX4_append, Cond.selects RX4 yX4_append yX4_append]
def wsL_print_r2 : List Cond := [Cond.initialized RX4, Cond.code yX4_append cX4_append 5 (some .int), Cond.fieldLink RX4 21 "Cardhouse$Prints" "count" "I", Cond.fieldLink RX4 9 "Cardhouse$Prints" "kind" "[I", Cond.fieldLink RX4 15 "Cardhouse$Prints" "number" "[I", Cond.fieldLink RX4 18 "Cardhouse$Prints" "collector" "[I"]
def wsL_print : List Cond := .codeWith yL_print cL_print 5 (some .int) [(0, 10, 13, 13), (0, 10, 17, 28)] :: ((wsL_print_r1 ++ wsL_print_r2) ++ wsX60 ++ wsX40 ++ wsX10 ++ (vx_atS RX6 94 "java/lang/IllegalStateException" ["java/lang/RuntimeException", "java/lang/Exception"]).filter goodWord ++ (vx_atS RX6 240 "java/lang/IndexOutOfBoundsException" ["java/lang/RuntimeException", "java/lang/Exception"]).filter goodWord)
def wsL_deck : List Cond := .codeWith yL_deck cL_deck 4 (some .int) [(0, 9, 12, 13), (0, 9, 15, 28)] :: ([.classLink RL 13 "java/lang/IndexOutOfBoundsException", .classLink RL 28 "java/lang/IllegalStateException", .methodLink RL 30 yX6_deck, .instanceMethod yX6_deck, .selects RX6 yX6_deck yX6_deck, .initialized RX6, .code yX6_deck cX6_deck 2 (some .int), .classLink RX6 90 "java/lang/IllegalStateException", .initialized "java/lang/IllegalStateException", .fieldLink RX6 26 "Cardhouse" "decks" "LCardhouse$Decks;", .fieldLink RX6 104 "Cardhouse$Decks" "count" "I", .methodLink RX6 84 yX6_needCollector, .static yX6_needCollector, .code yX6_needCollector cX6_needCollector 1 none, .classLink RX6 236 "java/lang/IndexOutOfBoundsException", .initialized "java/lang/IndexOutOfBoundsException", .methodLink RX6 107 yX0_append, .instanceMethod yX0_append, .selects RX0 yX0_append yX0_append, .initialized RX0, .code yX0_append cX0_append 3 (some .int), .fieldLink RX0 30 "Cardhouse$Decks" "count" "I", .fieldLink RX0 9 "Cardhouse$Decks" "owner" "[I"] ++ wsX60 ++ wsX00 ++ (vx_atS RX6 94 "java/lang/IllegalStateException" ["java/lang/RuntimeException", "java/lang/Exception"]).filter goodWord ++ (vx_atS RX6 240 "java/lang/IndexOutOfBoundsException" ["java/lang/RuntimeException", "java/lang/Exception"]).filter goodWord)
def wsL_add_r1 : List Cond := [Cond.classLink RL 13 "java/lang/IndexOutOfBoundsException", Cond.classLink RL 15 "java/lang/IllegalArgumentException", Cond.classLink RL 28 "java/lang/IllegalStateException", Cond.methodLink RL 34 yX6_add, Cond.instanceMethod yX6_add, Cond.selects RX6 yX6_add yX6_add, Cond.initialized RX6, Cond.code yX6_add cX6_add 3 (some .int), Cond.classLink RX6 122 "java/lang/IllegalArgumentException", Cond.initialized "java/lang/IllegalArgumentException", Cond.classLink RX6 90 "java/lang/IllegalStateException", Cond.initialized "java/lang/IllegalStateException", Cond.fieldLink RX6 19 "Cardhouse" "prints" "LCardhouse$Prints;", Cond.fieldLink RX6 116 "Cardhouse$Prints" "collector" "[I", Cond.fieldLink RX6 26 "Cardhouse" "decks" "LCardhouse$Decks;", Cond.fieldLink RX6 119 "Cardhouse$Decks" "owner" "[I", Cond.fieldLink RX6 133 "Cardhouse$Decks" "size" "[I", Cond.methodLink RX6 110 yX6_needDeck, Cond.instanceMethod yX6_needDeck, Cond.selects RX6 yX6_needDeck yX6_needDeck, Cond.code yX6_needDeck cX6_needDeck 2 none, Cond.classLink RX6 236 "java/lang/IndexOutOfBoundsException", Cond.initialized "java/lang/IndexOutOfBoundsException", Cond.fieldLink RX6 104 "Cardhouse$Decks" "count" "I"]
def wsL_add_r2 : List Cond := [Cond.methodLink RX6 113 yX6_needCard, Cond.instanceMethod yX6_needCard, Cond.selects RX6 yX6_needCard yX6_needCard, Cond.code yX6_needCard cX6_needCard 2 none, Cond.fieldLink RX6 87 "Cardhouse$Prints" "count" "I", Cond.methodLink RX6 127 yX0_holds, Cond.instanceMethod yX0_holds, Cond.selects RX0 yX0_holds yX0_holds, Cond.initialized RX0, Cond.code yX0_holds cX0_holds 4 (some .boolean), Cond.fieldLink RX0 15 "Cardhouse$Decks" "size" "[I", Cond.fieldLink RX0 20 "Cardhouse$Decks" "cards" "[[I", Cond.methodLink RX6 138 yX0_putBehind, Cond.instanceMethod yX0_putBehind, Cond.selects RX0 yX0_putBehind yX0_putBehind, Cond.code yX0_putBehind cX0_putBehind 3 (some .int)]
def wsL_add : List Cond := .codeWith yL_add cL_add 5 (some .int) [(0, 10, 13, 13), (0, 10, 17, 15), (0, 10, 21, 28)] :: ((wsL_add_r1 ++ wsL_add_r2) ++ wsX60 ++ wsX40 ++ wsX00 ++ (vx_atS RX6 126 "java/lang/IllegalArgumentException" ["java/lang/RuntimeException", "java/lang/Exception"]).filter goodWord ++ (vx_atS RX6 94 "java/lang/IllegalStateException" ["java/lang/RuntimeException", "java/lang/Exception"]).filter goodWord ++ (vx_atS RX6 240 "java/lang/IndexOutOfBoundsException" ["java/lang/RuntimeException", "java/lang/Exception"]).filter goodWord)
def wsL_cut_r1 : List Cond := [Cond.classLink RL 13 "java/lang/IndexOutOfBoundsException", Cond.methodLink RL 37 yX6_cut, Cond.instanceMethod yX6_cut, Cond.selects RX6 yX6_cut yX6_cut, Cond.initialized RX6, Cond.code yX6_cut cX6_cut 3 (some .int), Cond.fieldLink RX6 26 "Cardhouse" "decks" "LCardhouse$Decks;", Cond.methodLink RX6 110 yX6_needDeck, Cond.instanceMethod yX6_needDeck, Cond.selects RX6 yX6_needDeck yX6_needDeck, Cond.code yX6_needDeck cX6_needDeck 2 none, Cond.classLink RX6 236 "java/lang/IndexOutOfBoundsException", Cond.initialized "java/lang/IndexOutOfBoundsException", Cond.fieldLink RX6 104 "Cardhouse$Decks" "count" "I", Cond.methodLink RX6 142 yX6_needPlace, Cond.instanceMethod yX6_needPlace, Cond.selects RX6 yX6_needPlace yX6_needPlace, Cond.code yX6_needPlace cX6_needPlace 3 none, Cond.fieldLink RX6 133 "Cardhouse$Decks" "size" "[I", Cond.methodLink RX6 146 yX0_takeOut, Cond.instanceMethod yX0_takeOut, Cond.selects RX0 yX0_takeOut yX0_takeOut, Cond.initialized RX0, Cond.code yX0_takeOut cX0_takeOut 5 (some .int)]
def wsL_cut_r2 : List Cond := [Cond.fieldLink RX0 20 "Cardhouse$Decks" "cards" "[[I", Cond.fieldLink RX0 15 "Cardhouse$Decks" "size" "[I"]
def wsL_cut : List Cond := .codeWith yL_cut cL_cut 5 (some .int) [(0, 10, 13, 13)] :: ((wsL_cut_r1 ++ wsL_cut_r2) ++ wsX60 ++ wsX00 ++ (vx_atS RX6 240 "java/lang/IndexOutOfBoundsException" ["java/lang/RuntimeException", "java/lang/Exception"]).filter goodWord)
def wsL_play_r1 : List Cond := [Cond.classLink RL 13 "java/lang/IndexOutOfBoundsException", Cond.classLink RL 15 "java/lang/IllegalArgumentException", Cond.classLink RL 28 "java/lang/IllegalStateException", Cond.methodLink RL 40 yX6_play, Cond.instanceMethod yX6_play, Cond.selects RX6 yX6_play yX6_play, Cond.initialized RX6, Cond.code yX6_play cX6_play 6 (some .int), Cond.classLink RX6 122 "java/lang/IllegalArgumentException", Cond.initialized "java/lang/IllegalArgumentException", Cond.fieldLink RX6 26 "Cardhouse" "decks" "LCardhouse$Decks;", Cond.fieldLink RX6 119 "Cardhouse$Decks" "owner" "[I", Cond.fieldLink RX6 47 "Cardhouse" "firstSide" "LCardhouse$Side;", Cond.fieldLink RX6 51 "Cardhouse" "secondSide" "LCardhouse$Side;", Cond.fieldLink RX6 69 "Cardhouse$Decks" "formatSize" "I", Cond.fieldLink RX6 164 "Cardhouse$Side" "points" "I", Cond.methodLink RX6 110 yX6_needDeck, Cond.instanceMethod yX6_needDeck, Cond.selects RX6 yX6_needDeck yX6_needDeck, Cond.code yX6_needDeck cX6_needDeck 2 none, Cond.classLink RX6 236 "java/lang/IndexOutOfBoundsException", Cond.initialized "java/lang/IndexOutOfBoundsException", Cond.fieldLink RX6 104 "Cardhouse$Decks" "count" "I", Cond.methodLink RX6 149 yX6_needSeed]
def wsL_play_r2 : List Cond := [Cond.static yX6_needSeed, Cond.code yX6_needSeed cX6_needSeed 1 none, Cond.methodLink RX6 154 yX6_needAllowed, Cond.instanceMethod yX6_needAllowed, Cond.selects RX6 yX6_needAllowed yX6_needAllowed, Cond.code yX6_needAllowed cX6_needAllowed 2 none, Cond.classLink RX6 90 "java/lang/IllegalStateException", Cond.initialized "java/lang/IllegalStateException", Cond.fieldLink RX6 10 "Cardhouse" "kinds" "LCardhouse$Kinds;", Cond.fieldLink RX6 19 "Cardhouse" "prints" "LCardhouse$Prints;", Cond.methodLink RX6 215 yX0_fitsFormat, Cond.instanceMethod yX0_fitsFormat, Cond.selects RX0 yX0_fitsFormat yX0_fitsFormat, Cond.initialized RX0, Cond.code yX0_fitsFormat cX0_fitsFormat 7 (some .boolean), Cond.fieldLink RX0 15 "Cardhouse$Decks" "size" "[I", Cond.fieldLink RX0 23 "Cardhouse$Decks" "formatSize" "I", Cond.fieldLink RX0 20 "Cardhouse$Decks" "cards" "[[I", Cond.fieldLink RX0 33 "Cardhouse$Prints" "kind" "[I", Cond.fieldLink RX0 48 "Cardhouse$Prints" "collector" "[I", Cond.fieldLink RX0 9 "Cardhouse$Decks" "owner" "[I", Cond.fieldLink RX0 51 "Cardhouse$Kinds" "isBanned" "[Z", Cond.fieldLink RX0 27 "Cardhouse$Decks" "formatMost" "I", Cond.methodLink RX0 57 yX0_countOf]
def wsL_play_r3 : List Cond := [Cond.instanceMethod yX0_countOf, Cond.selects RX0 yX0_countOf yX0_countOf, Cond.code yX0_countOf cX0_countOf 4 (some .int), Cond.methodLink RX0 38 yX0_placesOf, Cond.instanceMethod yX0_placesOf, Cond.selects RX0 yX0_placesOf yX0_placesOf, Cond.code yX0_placesOf cX0_placesOf 6 (some .int), Cond.methodLink RX0 42 yJ6_bitCount_0f7a4, Cond.static yJ6_bitCount_0f7a4, Cond.initialized RJ6, Cond.code yJ6_bitCount_0f7a4 cJ6_bitCount_0f7a4 1 (some .int), Cond.constant RJ6 265 (1431655765), Cond.constant RJ6 266 (858993459), Cond.constant RJ6 267 (252645135), Cond.methodLink RX6 157 yX5_start, Cond.instanceMethod yX5_start, Cond.selects RX5 yX5_start yX5_start, Cond.initialized RX5, Cond.code yX5_start cX5_start 4 none, Cond.fieldLink RX5 12 "Cardhouse$Side" "pile" "LCardhouse$Pile;", Cond.fieldLink RX5 22 "Cardhouse$Side" "points" "I", Cond.fieldLink RX5 26 "Cardhouse$Side" "ahead" "I", Cond.methodLink RX5 18 yX3_shuffle, Cond.instanceMethod yX3_shuffle]
def wsL_play_r4 : List Cond := [Cond.selects RX3 yX3_shuffle yX3_shuffle, Cond.initialized RX3, Cond.code yX3_shuffle cX3_shuffle 10 none, Cond.fieldLink RX3 15 "Cardhouse$Decks" "size" "[I", Cond.fieldLink RX3 9 "Cardhouse$Pile" "cards" "[I", Cond.fieldLink RX3 20 "Cardhouse$Decks" "cards" "[[I", Cond.constantLong RX3 23 (1103515245), Cond.constantLong RX3 25 (12345), Cond.constantLong RX3 27 (2147483648), Cond.constantLong RX3 29 (65536), Cond.methodLink RX6 161 yX6_playRound, Cond.instanceMethod yX6_playRound, Cond.selects RX6 yX6_playRound yX6_playRound, Cond.code yX6_playRound cX6_playRound 8 none, Cond.fieldLink RX6 170 "Cardhouse$Prints" "kind" "[I", Cond.fieldLink RX6 259 "Cardhouse$Side" "pile" "LCardhouse$Pile;", Cond.fieldLink RX6 222 "Cardhouse$Pile" "cards" "[I", Cond.fieldLink RX6 62 "Cardhouse$Kinds" "power" "[I", Cond.fieldLink RX6 260 "Cardhouse$Side" "ahead" "I", Cond.fieldLink RX6 66 "Cardhouse$Kinds" "trigger" "[I", Cond.methodLink RX6 263 yX5_endRound, Cond.instanceMethod yX5_endRound, Cond.selects RX5 yX5_endRound yX5_endRound, Cond.code yX5_endRound cX5_endRound 4 none]
def wsL_play_r5 : List Cond := [Cond.methodLink RX6 167 yX6_giveWins, Cond.instanceMethod yX6_giveWins, Cond.selects RX6 yX6_giveWins yX6_giveWins, Cond.code yX6_giveWins cX6_giveWins 3 none, Cond.fieldLink RX6 212 "Cardhouse$Kinds" "wins" "[I", Cond.methodLink RX6 225 yX0_countOf]
def wsL_play : List Cond := .codeWith yL_play cL_play 7 (some .int) [(0, 14, 17, 13), (0, 14, 21, 15), (0, 14, 25, 28)] :: ((wsL_play_r1 ++ (wsL_play_r2 ++ (wsL_play_r3 ++ (wsL_play_r4 ++ wsL_play_r5)))) ++ wsX60 ++ wsX00 ++ wsX50 ++ wsX40 ++ wsX10 ++ wsX30 ++ (vx_atS RX6 126 "java/lang/IllegalArgumentException" ["java/lang/RuntimeException", "java/lang/Exception"]).filter goodWord ++ (vx_atS RX6 240 "java/lang/IndexOutOfBoundsException" ["java/lang/RuntimeException", "java/lang/Exception"]).filter goodWord ++ (vx_atS RX6 94 "java/lang/IllegalStateException" ["java/lang/RuntimeException", "java/lang/Exception"]).filter goodWord)
def wsL_offer_r1 : List Cond := [Cond.classLink RL 13 "java/lang/IndexOutOfBoundsException", Cond.classLink RL 15 "java/lang/IllegalArgumentException", Cond.classLink RL 28 "java/lang/IllegalStateException", Cond.methodLink RL 44 yX6_offer, Cond.instanceMethod yX6_offer, Cond.selects RX6 yX6_offer yX6_offer, Cond.initialized RX6, Cond.code yX6_offer cX6_offer 3 (some .int), Cond.classLink RX6 122 "java/lang/IllegalArgumentException", Cond.initialized "java/lang/IllegalArgumentException", Cond.classLink RX6 90 "java/lang/IllegalStateException", Cond.initialized "java/lang/IllegalStateException", Cond.fieldLink RX6 19 "Cardhouse" "prints" "LCardhouse$Prints;", Cond.fieldLink RX6 170 "Cardhouse$Prints" "kind" "[I", Cond.fieldLink RX6 33 "Cardhouse" "offers" "LCardhouse$Offers;", Cond.fieldLink RX6 181 "Cardhouse$Offers" "count" "I", Cond.methodLink RX6 113 yX6_needCard, Cond.instanceMethod yX6_needCard, Cond.selects RX6 yX6_needCard yX6_needCard, Cond.code yX6_needCard cX6_needCard 2 none, Cond.classLink RX6 236 "java/lang/IndexOutOfBoundsException", Cond.initialized "java/lang/IndexOutOfBoundsException", Cond.fieldLink RX6 87 "Cardhouse$Prints" "count" "I", Cond.methodLink RX6 54 yX6_needKind]
def wsL_offer_r2 : List Cond := [Cond.static yX6_needKind, Cond.code yX6_needKind cX6_needKind 1 none, Cond.methodLink RX6 175 yX2_hasLive, Cond.instanceMethod yX2_hasLive, Cond.selects RX2 yX2_hasLive yX2_hasLive, Cond.initialized RX2, Cond.code yX2_hasLive cX2_hasLive 3 (some .boolean), Cond.fieldLink RX2 31 "Cardhouse$Offers" "count" "I", Cond.fieldLink RX2 24 "Cardhouse$Offers" "isLive" "[Z", Cond.fieldLink RX2 9 "Cardhouse$Offers" "card" "[I", Cond.methodLink RX6 184 yX2_append, Cond.instanceMethod yX2_append, Cond.selects RX2 yX2_append yX2_append, Cond.code yX2_append cX2_append 5 (some .int), Cond.fieldLink RX2 15 "Cardhouse$Offers" "given" "[I", Cond.fieldLink RX2 35 "Cardhouse$Prints" "kind" "[I", Cond.fieldLink RX2 18 "Cardhouse$Offers" "wanted" "[I", Cond.fieldLink RX2 21 "Cardhouse$Offers" "collector" "[I", Cond.fieldLink RX2 40 "Cardhouse$Prints" "collector" "[I"]
def wsL_offer : List Cond := .codeWith yL_offer cL_offer 5 (some .int) [(0, 10, 13, 13), (0, 10, 17, 15), (0, 10, 21, 28)] :: ((wsL_offer_r1 ++ wsL_offer_r2) ++ wsX60 ++ wsX40 ++ wsX20 ++ (vx_atS RX6 126 "java/lang/IllegalArgumentException" ["java/lang/RuntimeException", "java/lang/Exception"]).filter goodWord ++ (vx_atS RX6 94 "java/lang/IllegalStateException" ["java/lang/RuntimeException", "java/lang/Exception"]).filter goodWord ++ (vx_atS RX6 240 "java/lang/IndexOutOfBoundsException" ["java/lang/RuntimeException", "java/lang/Exception"]).filter goodWord)
def wsL_takeBack : List Cond := .codeWith yL_takeBack cL_takeBack 4 (some .int) [(0, 9, 12, 13), (0, 9, 15, 28)] :: ([.classLink RL 13 "java/lang/IndexOutOfBoundsException", .classLink RL 28 "java/lang/IllegalStateException", .methodLink RL 47 yX6_takeBack, .instanceMethod yX6_takeBack, .selects RX6 yX6_takeBack yX6_takeBack, .initialized RX6, .code yX6_takeBack cX6_takeBack 2 (some .int), .classLink RX6 90 "java/lang/IllegalStateException", .initialized "java/lang/IllegalStateException", .fieldLink RX6 33 "Cardhouse" "offers" "LCardhouse$Offers;", .fieldLink RX6 190 "Cardhouse$Offers" "isLive" "[Z", .fieldLink RX6 195 "Cardhouse$Offers" "card" "[I", .methodLink RX6 187 yX6_needOffer, .instanceMethod yX6_needOffer, .selects RX6 yX6_needOffer yX6_needOffer, .code yX6_needOffer cX6_needOffer 2 none, .classLink RX6 236 "java/lang/IndexOutOfBoundsException", .initialized "java/lang/IndexOutOfBoundsException", .fieldLink RX6 181 "Cardhouse$Offers" "count" "I"] ++ wsX60 ++ wsX20 ++ (vx_atS RX6 94 "java/lang/IllegalStateException" ["java/lang/RuntimeException", "java/lang/Exception"]).filter goodWord ++ (vx_atS RX6 240 "java/lang/IndexOutOfBoundsException" ["java/lang/RuntimeException", "java/lang/Exception"]).filter goodWord)
def wsL_printOf : List Cond := .codeWith yL_printOf cL_printOf 4 (some .int) [(0, 9, 12, 13)] :: ([.classLink RL 13 "java/lang/IndexOutOfBoundsException", .methodLink RL 50 yX6_printOf, .instanceMethod yX6_printOf, .selects RX6 yX6_printOf yX6_printOf, .initialized RX6, .code yX6_printOf cX6_printOf 2 (some .int), .fieldLink RX6 19 "Cardhouse" "prints" "LCardhouse$Prints;", .fieldLink RX6 170 "Cardhouse$Prints" "kind" "[I", .fieldLink RX6 206 "Cardhouse$Prints" "number" "[I", .methodLink RX6 113 yX6_needCard, .instanceMethod yX6_needCard, .selects RX6 yX6_needCard yX6_needCard, .code yX6_needCard cX6_needCard 2 none, .classLink RX6 236 "java/lang/IndexOutOfBoundsException", .initialized "java/lang/IndexOutOfBoundsException", .fieldLink RX6 87 "Cardhouse$Prints" "count" "I"] ++ wsX60 ++ wsX40 ++ (vx_atS RX6 240 "java/lang/IndexOutOfBoundsException" ["java/lang/RuntimeException", "java/lang/Exception"]).filter goodWord)
def wsL_collectorOf : List Cond := .codeWith yL_collectorOf cL_collectorOf 4 (some .int) [(0, 9, 12, 13)] :: ([.classLink RL 13 "java/lang/IndexOutOfBoundsException", .methodLink RL 53 yX6_collectorOf, .instanceMethod yX6_collectorOf, .selects RX6 yX6_collectorOf yX6_collectorOf, .initialized RX6, .code yX6_collectorOf cX6_collectorOf 2 (some .int), .fieldLink RX6 19 "Cardhouse" "prints" "LCardhouse$Prints;", .fieldLink RX6 116 "Cardhouse$Prints" "collector" "[I", .methodLink RX6 113 yX6_needCard, .instanceMethod yX6_needCard, .selects RX6 yX6_needCard yX6_needCard, .code yX6_needCard cX6_needCard 2 none, .classLink RX6 236 "java/lang/IndexOutOfBoundsException", .initialized "java/lang/IndexOutOfBoundsException", .fieldLink RX6 87 "Cardhouse$Prints" "count" "I"] ++ wsX60 ++ wsX40 ++ (vx_atS RX6 240 "java/lang/IndexOutOfBoundsException" ["java/lang/RuntimeException", "java/lang/Exception"]).filter goodWord)
def wsL_has : List Cond := .codeWith yL_has cL_has 5 (some .int) [(0, 10, 13, 13)] :: ([.classLink RL 13 "java/lang/IndexOutOfBoundsException", .methodLink RL 56 yX6_has, .instanceMethod yX6_has, .selects RX6 yX6_has yX6_has, .initialized RX6, .code yX6_has cX6_has 3 (some .int), .fieldLink RX6 19 "Cardhouse" "prints" "LCardhouse$Prints;", .methodLink RX6 84 yX6_needCollector, .static yX6_needCollector, .code yX6_needCollector cX6_needCollector 1 none, .classLink RX6 236 "java/lang/IndexOutOfBoundsException", .initialized "java/lang/IndexOutOfBoundsException", .methodLink RX6 54 yX6_needKind, .static yX6_needKind, .code yX6_needKind cX6_needKind 1 none, .methodLink RX6 209 yX4_countOf, .instanceMethod yX4_countOf, .selects RX4 yX4_countOf yX4_countOf, .initialized RX4, .code yX4_countOf cX4_countOf 5 (some .int), .fieldLink RX4 21 "Cardhouse$Prints" "count" "I", .fieldLink RX4 18 "Cardhouse$Prints" "collector" "[I", .fieldLink RX4 9 "Cardhouse$Prints" "kind" "[I"] ++ wsX60 ++ wsX40 ++ (vx_atS RX6 240 "java/lang/IndexOutOfBoundsException" ["java/lang/RuntimeException", "java/lang/Exception"]).filter goodWord)
def wsL_wins : List Cond := .codeWith yL_wins cL_wins 4 (some .int) [(0, 9, 12, 13)] :: ([.classLink RL 13 "java/lang/IndexOutOfBoundsException", .methodLink RL 59 yX6_wins, .instanceMethod yX6_wins, .selects RX6 yX6_wins yX6_wins, .initialized RX6, .code yX6_wins cX6_wins 2 (some .int), .fieldLink RX6 10 "Cardhouse" "kinds" "LCardhouse$Kinds;", .fieldLink RX6 212 "Cardhouse$Kinds" "wins" "[I", .methodLink RX6 54 yX6_needKind, .static yX6_needKind, .code yX6_needKind cX6_needKind 1 none, .classLink RX6 236 "java/lang/IndexOutOfBoundsException", .initialized "java/lang/IndexOutOfBoundsException"] ++ wsX60 ++ wsX10 ++ (vx_atS RX6 240 "java/lang/IndexOutOfBoundsException" ["java/lang/RuntimeException", "java/lang/Exception"]).filter goodWord)
def wsL_price : List Cond := .codeWith yL_price cL_price 4 (some .int) [(0, 9, 12, 13)] :: ([.classLink RL 13 "java/lang/IndexOutOfBoundsException", .methodLink RL 62 yX6_price, .instanceMethod yX6_price, .selects RX6 yX6_price yX6_price, .initialized RX6, .code yX6_price cX6_price 3 (some .int), .fieldLink RX6 10 "Cardhouse" "kinds" "LCardhouse$Kinds;", .fieldLink RX6 97 "Cardhouse$Kinds" "copies" "[I", .fieldLink RX6 212 "Cardhouse$Kinds" "wins" "[I", .methodLink RX6 54 yX6_needKind, .static yX6_needKind, .code yX6_needKind cX6_needKind 1 none, .classLink RX6 236 "java/lang/IndexOutOfBoundsException", .initialized "java/lang/IndexOutOfBoundsException"] ++ wsX60 ++ wsX10 ++ (vx_atS RX6 240 "java/lang/IndexOutOfBoundsException" ["java/lang/RuntimeException", "java/lang/Exception"]).filter goodWord)
def wsL_isAllowed_r1 : List Cond := [Cond.classLink RL 13 "java/lang/IndexOutOfBoundsException", Cond.methodLink RL 65 yX6_isAllowed, Cond.instanceMethod yX6_isAllowed, Cond.selects RX6 yX6_isAllowed yX6_isAllowed, Cond.initialized RX6, Cond.code yX6_isAllowed cX6_isAllowed 2 (some .boolean), Cond.fieldLink RX6 26 "Cardhouse" "decks" "LCardhouse$Decks;", Cond.fieldLink RX6 10 "Cardhouse" "kinds" "LCardhouse$Kinds;", Cond.fieldLink RX6 19 "Cardhouse" "prints" "LCardhouse$Prints;", Cond.methodLink RX6 110 yX6_needDeck, Cond.instanceMethod yX6_needDeck, Cond.selects RX6 yX6_needDeck yX6_needDeck, Cond.code yX6_needDeck cX6_needDeck 2 none, Cond.classLink RX6 236 "java/lang/IndexOutOfBoundsException", Cond.initialized "java/lang/IndexOutOfBoundsException", Cond.fieldLink RX6 104 "Cardhouse$Decks" "count" "I", Cond.methodLink RX6 215 yX0_fitsFormat, Cond.instanceMethod yX0_fitsFormat, Cond.selects RX0 yX0_fitsFormat yX0_fitsFormat, Cond.initialized RX0, Cond.code yX0_fitsFormat cX0_fitsFormat 7 (some .boolean), Cond.fieldLink RX0 15 "Cardhouse$Decks" "size" "[I", Cond.fieldLink RX0 23 "Cardhouse$Decks" "formatSize" "I", Cond.fieldLink RX0 20 "Cardhouse$Decks" "cards" "[[I"]
def wsL_isAllowed_r2 : List Cond := [Cond.fieldLink RX0 33 "Cardhouse$Prints" "kind" "[I", Cond.fieldLink RX0 48 "Cardhouse$Prints" "collector" "[I", Cond.fieldLink RX0 9 "Cardhouse$Decks" "owner" "[I", Cond.fieldLink RX0 51 "Cardhouse$Kinds" "isBanned" "[Z", Cond.fieldLink RX0 27 "Cardhouse$Decks" "formatMost" "I", Cond.methodLink RX0 57 yX0_countOf, Cond.instanceMethod yX0_countOf, Cond.selects RX0 yX0_countOf yX0_countOf, Cond.code yX0_countOf cX0_countOf 4 (some .int), Cond.methodLink RX0 38 yX0_placesOf, Cond.instanceMethod yX0_placesOf, Cond.selects RX0 yX0_placesOf yX0_placesOf, Cond.code yX0_placesOf cX0_placesOf 6 (some .int), Cond.methodLink RX0 42 yJ6_bitCount_0f7a4, Cond.static yJ6_bitCount_0f7a4, Cond.initialized RJ6, Cond.code yJ6_bitCount_0f7a4 cJ6_bitCount_0f7a4 1 (some .int), Cond.constant RJ6 265 (1431655765), Cond.constant RJ6 266 (858993459), Cond.constant RJ6 267 (252645135)]
def wsL_isAllowed : List Cond := .codeWith yL_isAllowed cL_isAllowed 4 (some .int) [(0, 16, 19, 13)] :: ((wsL_isAllowed_r1 ++ wsL_isAllowed_r2) ++ wsX60 ++ wsX00 ++ wsX40 ++ wsX10 ++ (vx_atS RX6 240 "java/lang/IndexOutOfBoundsException" ["java/lang/RuntimeException", "java/lang/Exception"]).filter goodWord)
def wsL_shuffled_r1 : List Cond := [Cond.classLink RL 13 "java/lang/IndexOutOfBoundsException", Cond.classLink RL 15 "java/lang/IllegalArgumentException", Cond.methodLink RL 69 yX6_shuffled, Cond.instanceMethod yX6_shuffled, Cond.selects RX6 yX6_shuffled yX6_shuffled, Cond.initialized RX6, Cond.code yX6_shuffled cX6_shuffled 4 (some .int), Cond.fieldLink RX6 40 "Cardhouse" "pile" "LCardhouse$Pile;", Cond.fieldLink RX6 26 "Cardhouse" "decks" "LCardhouse$Decks;", Cond.fieldLink RX6 222 "Cardhouse$Pile" "cards" "[I", Cond.methodLink RX6 110 yX6_needDeck, Cond.instanceMethod yX6_needDeck, Cond.selects RX6 yX6_needDeck yX6_needDeck, Cond.code yX6_needDeck cX6_needDeck 2 none, Cond.classLink RX6 236 "java/lang/IndexOutOfBoundsException", Cond.initialized "java/lang/IndexOutOfBoundsException", Cond.fieldLink RX6 104 "Cardhouse$Decks" "count" "I", Cond.methodLink RX6 142 yX6_needPlace, Cond.instanceMethod yX6_needPlace, Cond.selects RX6 yX6_needPlace yX6_needPlace, Cond.code yX6_needPlace cX6_needPlace 3 none, Cond.fieldLink RX6 133 "Cardhouse$Decks" "size" "[I", Cond.methodLink RX6 149 yX6_needSeed, Cond.static yX6_needSeed]
def wsL_shuffled_r2 : List Cond := [Cond.code yX6_needSeed cX6_needSeed 1 none, Cond.classLink RX6 122 "java/lang/IllegalArgumentException", Cond.initialized "java/lang/IllegalArgumentException", Cond.methodLink RX6 219 yX3_shuffle, Cond.instanceMethod yX3_shuffle, Cond.selects RX3 yX3_shuffle yX3_shuffle, Cond.initialized RX3, Cond.code yX3_shuffle cX3_shuffle 10 none, Cond.fieldLink RX3 15 "Cardhouse$Decks" "size" "[I", Cond.fieldLink RX3 9 "Cardhouse$Pile" "cards" "[I", Cond.fieldLink RX3 20 "Cardhouse$Decks" "cards" "[[I", Cond.constantLong RX3 23 (1103515245), Cond.constantLong RX3 25 (12345), Cond.constantLong RX3 27 (2147483648), Cond.constantLong RX3 29 (65536)]
def wsL_shuffled : List Cond := .codeWith yL_shuffled cL_shuffled 6 (some .int) [(0, 12, 15, 13), (0, 12, 19, 15)] :: ((wsL_shuffled_r1 ++ wsL_shuffled_r2) ++ wsX60 ++ wsX30 ++ wsX00 ++ (vx_atS RX6 240 "java/lang/IndexOutOfBoundsException" ["java/lang/RuntimeException", "java/lang/Exception"]).filter goodWord ++ (vx_atS RX6 126 "java/lang/IllegalArgumentException" ["java/lang/RuntimeException", "java/lang/Exception"]).filter goodWord)
def wsL_orders_r1 : List Cond := [Cond.classLink RL 13 "java/lang/IndexOutOfBoundsException", Cond.classLink RL 15 "java/lang/IllegalArgumentException", Cond.methodLink RL 72 yX6_orders, Cond.instanceMethod yX6_orders, Cond.selects RX6 yX6_orders yX6_orders, Cond.initialized RX6, Cond.code yX6_orders cX6_orders 9 (some .int), Cond.fieldLink RX6 26 "Cardhouse" "decks" "LCardhouse$Decks;", Cond.fieldLink RX6 133 "Cardhouse$Decks" "size" "[I", Cond.fieldLink RX6 19 "Cardhouse" "prints" "LCardhouse$Prints;", Cond.methodLink RX6 110 yX6_needDeck, Cond.instanceMethod yX6_needDeck, Cond.selects RX6 yX6_needDeck yX6_needDeck, Cond.code yX6_needDeck cX6_needDeck 2 none, Cond.classLink RX6 236 "java/lang/IndexOutOfBoundsException", Cond.initialized "java/lang/IndexOutOfBoundsException", Cond.fieldLink RX6 104 "Cardhouse$Decks" "count" "I", Cond.methodLink RX6 54 yX6_needKind, Cond.static yX6_needKind, Cond.code yX6_needKind cX6_needKind 1 none, Cond.methodLink RX6 58 yX6_needRange, Cond.static yX6_needRange, Cond.code yX6_needRange cX6_needRange 3 none, Cond.classLink RX6 122 "java/lang/IllegalArgumentException"]
def wsL_orders_r2 : List Cond := [Cond.initialized "java/lang/IllegalArgumentException", Cond.methodLink RX6 225 yX0_countOf, Cond.instanceMethod yX0_countOf, Cond.selects RX0 yX0_countOf yX0_countOf, Cond.initialized RX0, Cond.code yX0_countOf cX0_countOf 4 (some .int), Cond.methodLink RX0 38 yX0_placesOf, Cond.instanceMethod yX0_placesOf, Cond.selects RX0 yX0_placesOf yX0_placesOf, Cond.code yX0_placesOf cX0_placesOf 6 (some .int), Cond.fieldLink RX0 15 "Cardhouse$Decks" "size" "[I", Cond.fieldLink RX0 33 "Cardhouse$Prints" "kind" "[I", Cond.fieldLink RX0 20 "Cardhouse$Decks" "cards" "[[I", Cond.methodLink RX0 42 yJ6_bitCount_0f7a4, Cond.static yJ6_bitCount_0f7a4, Cond.initialized RJ6, Cond.code yJ6_bitCount_0f7a4 cJ6_bitCount_0f7a4 1 (some .int), Cond.constant RJ6 265 (1431655765), Cond.constant RJ6 266 (858993459), Cond.constant RJ6 267 (252645135)]
def wsL_orders : List Cond := .codeWith yL_orders cL_orders 6 (some .int) [(0, 12, 15, 13), (0, 12, 19, 15)] :: ((wsL_orders_r1 ++ wsL_orders_r2) ++ wsX60 ++ wsX00 ++ wsX40 ++ (vx_atS RX6 240 "java/lang/IndexOutOfBoundsException" ["java/lang/RuntimeException", "java/lang/Exception"]).filter goodWord ++ (vx_atS RX6 126 "java/lang/IllegalArgumentException" ["java/lang/RuntimeException", "java/lang/Exception"]).filter goodWord)
def wsL_ordersByAll_r1 : List Cond := [Cond.classLink RL 13 "java/lang/IndexOutOfBoundsException", Cond.classLink RL 15 "java/lang/IllegalArgumentException", Cond.classLink RL 28 "java/lang/IllegalStateException", Cond.methodLink RL 75 yX6_ordersByAll, Cond.instanceMethod yX6_ordersByAll, Cond.selects RX6 yX6_ordersByAll yX6_ordersByAll, Cond.initialized RX6, Cond.code yX6_ordersByAll cX6_ordersByAll 6 (some .int), Cond.classLink RX6 90 "java/lang/IllegalStateException", Cond.initialized "java/lang/IllegalStateException", Cond.fieldLink RX6 26 "Cardhouse" "decks" "LCardhouse$Decks;", Cond.fieldLink RX6 133 "Cardhouse$Decks" "size" "[I", Cond.fieldLink RX6 19 "Cardhouse" "prints" "LCardhouse$Prints;", Cond.methodLink RX6 110 yX6_needDeck, Cond.instanceMethod yX6_needDeck, Cond.selects RX6 yX6_needDeck yX6_needDeck, Cond.code yX6_needDeck cX6_needDeck 2 none, Cond.classLink RX6 236 "java/lang/IndexOutOfBoundsException", Cond.initialized "java/lang/IndexOutOfBoundsException", Cond.fieldLink RX6 104 "Cardhouse$Decks" "count" "I", Cond.methodLink RX6 54 yX6_needKind, Cond.static yX6_needKind, Cond.code yX6_needKind cX6_needKind 1 none, Cond.methodLink RX6 58 yX6_needRange]
def wsL_ordersByAll_r2 : List Cond := [Cond.static yX6_needRange, Cond.code yX6_needRange cX6_needRange 3 none, Cond.classLink RX6 122 "java/lang/IllegalArgumentException", Cond.initialized "java/lang/IllegalArgumentException", Cond.methodLink RX6 229 yX0_placesOf, Cond.instanceMethod yX0_placesOf, Cond.selects RX0 yX0_placesOf yX0_placesOf, Cond.initialized RX0, Cond.code yX0_placesOf cX0_placesOf 6 (some .int), Cond.fieldLink RX0 15 "Cardhouse$Decks" "size" "[I", Cond.fieldLink RX0 33 "Cardhouse$Prints" "kind" "[I", Cond.fieldLink RX0 20 "Cardhouse$Decks" "cards" "[[I", Cond.methodLink RX6 232 yX6_countOrders, Cond.static yX6_countOrders, Cond.code yX6_countOrders cX6_countOrders 10 (some .int)]
def wsL_ordersByAll : List Cond := .codeWith yL_ordersByAll cL_ordersByAll 6 (some .int) [(0, 12, 15, 13), (0, 12, 19, 15), (0, 12, 23, 28)] :: ((wsL_ordersByAll_r1 ++ wsL_ordersByAll_r2) ++ wsX60 ++ wsX00 ++ wsX40 ++ (vx_atS RX6 94 "java/lang/IllegalStateException" ["java/lang/RuntimeException", "java/lang/Exception"]).filter goodWord ++ (vx_atS RX6 240 "java/lang/IndexOutOfBoundsException" ["java/lang/RuntimeException", "java/lang/Exception"]).filter goodWord ++ (vx_atS RX6 126 "java/lang/IllegalArgumentException" ["java/lang/RuntimeException", "java/lang/Exception"]).filter goodWord)
def wsL_isOpen : List Cond := .codeWith yL_isOpen cL_isOpen 4 (some .int) [(0, 16, 19, 13)] :: ([.classLink RL 13 "java/lang/IndexOutOfBoundsException", .methodLink RL 78 yX6_isOpen, .instanceMethod yX6_isOpen, .selects RX6 yX6_isOpen yX6_isOpen, .initialized RX6, .code yX6_isOpen cX6_isOpen 2 (some .boolean), .fieldLink RX6 33 "Cardhouse" "offers" "LCardhouse$Offers;", .fieldLink RX6 190 "Cardhouse$Offers" "isLive" "[Z", .methodLink RX6 187 yX6_needOffer, .instanceMethod yX6_needOffer, .selects RX6 yX6_needOffer yX6_needOffer, .code yX6_needOffer cX6_needOffer 2 none, .classLink RX6 236 "java/lang/IndexOutOfBoundsException", .initialized "java/lang/IndexOutOfBoundsException", .fieldLink RX6 181 "Cardhouse$Offers" "count" "I"] ++ wsX60 ++ wsX20 ++ (vx_atS RX6 240 "java/lang/IndexOutOfBoundsException" ["java/lang/RuntimeException", "java/lang/Exception"]).filter goodWord)
def wsL_ring_r1 : List Cond := [Cond.classLink RL 13 "java/lang/IndexOutOfBoundsException", Cond.methodLink RL 81 yX6_ring, Cond.instanceMethod yX6_ring, Cond.selects RX6 yX6_ring yX6_ring, Cond.initialized RX6, Cond.code yX6_ring cX6_ring 2 (some .int), Cond.classLink RX6 236 "java/lang/IndexOutOfBoundsException", Cond.initialized "java/lang/IndexOutOfBoundsException", Cond.fieldLink RX6 33 "Cardhouse" "offers" "LCardhouse$Offers;", Cond.fieldLink RX6 202 "Cardhouse$Offers" "ring" "[I", Cond.methodLink RX6 198 yX2_findRing, Cond.instanceMethod yX2_findRing, Cond.selects RX2 yX2_findRing yX2_findRing, Cond.initialized RX2, Cond.code yX2_findRing cX2_findRing 3 (some .int), Cond.fieldLink RX2 31 "Cardhouse$Offers" "count" "I", Cond.fieldLink RX2 28 "Cardhouse$Offers" "ring" "[I", Cond.fieldLink RX2 24 "Cardhouse$Offers" "isLive" "[Z", Cond.methodLink RX2 41 yX2_closes, Cond.static yX2_closes, Cond.code yX2_closes cX2_closes 4 (some .boolean), Cond.methodLink RX2 45 yX2_canGive, Cond.instanceMethod yX2_canGive, Cond.selects RX2 yX2_canGive yX2_canGive]
def wsL_ring_r2 : List Cond := [Cond.code yX2_canGive cX2_canGive 3 (some .boolean), Cond.fieldLink RX2 15 "Cardhouse$Offers" "given" "[I", Cond.fieldLink RX2 18 "Cardhouse$Offers" "wanted" "[I", Cond.methodLink RX2 49 yX2_canFollow, Cond.instanceMethod yX2_canFollow, Cond.selects RX2 yX2_canFollow yX2_canFollow, Cond.code yX2_canFollow cX2_canFollow 4 (some .boolean), Cond.fieldLink RX2 21 "Cardhouse$Offers" "collector" "[I"]
def wsL_ring : List Cond := .codeWith yL_ring cL_ring 4 (some .int) [(0, 9, 12, 13)] :: ((wsL_ring_r1 ++ wsL_ring_r2) ++ wsX60 ++ wsX20 ++ (vx_atS RX6 240 "java/lang/IndexOutOfBoundsException" ["java/lang/RuntimeException", "java/lang/Exception"]).filter goodWord)
def wsL_law0_r1 : List Cond := [Cond.classLink RL 8 RX6, Cond.instantiable RX6 7, Cond.initialized RX6, Cond.classLink RL 85 RX7, Cond.instantiable RX7 23, Cond.initialized RX7, Cond.arrayClass .long, Cond.methodLink RL 84 yX6_init, Cond.instanceMethod yX6_init, Cond.code yX6_init cX6_init 1 none, Cond.methodLink RX6 1 objectInit, Cond.instanceMethod objectInit, Cond.code objectInit ⟨#[0xb1]⟩ 1 none, Cond.classLink RX6 7 RX1, Cond.instantiable RX1 5, Cond.initialized RX1, Cond.fieldLink RX6 10 "Cardhouse" "kinds" "LCardhouse$Kinds;", Cond.classLink RX6 16 RX4, Cond.instantiable RX4 4, Cond.initialized RX4, Cond.fieldLink RX6 19 "Cardhouse" "prints" "LCardhouse$Prints;", Cond.classLink RX6 23 RX0, Cond.instantiable RX0 6, Cond.initialized RX0]
def wsL_law0_r2 : List Cond := [Cond.fieldLink RX6 26 "Cardhouse" "decks" "LCardhouse$Decks;", Cond.classLink RX6 30 RX2, Cond.instantiable RX2 7, Cond.initialized RX2, Cond.fieldLink RX6 33 "Cardhouse" "offers" "LCardhouse$Offers;", Cond.classLink RX6 37 RX3, Cond.instantiable RX3 1, Cond.initialized RX3, Cond.fieldLink RX6 40 "Cardhouse" "pile" "LCardhouse$Pile;", Cond.classLink RX6 44 RX5, Cond.instantiable RX5 3, Cond.initialized RX5, Cond.fieldLink RX6 47 "Cardhouse" "firstSide" "LCardhouse$Side;", Cond.fieldLink RX6 51 "Cardhouse" "secondSide" "LCardhouse$Side;", Cond.instanceMethod yX1_init, Cond.code yX1_init cX1_init 1 none, Cond.methodLink RX1 3 objectInit, Cond.arrayClass .int, Cond.fieldLink RX1 9 "Cardhouse$Kinds" "power" "[I", Cond.fieldLink RX1 15 "Cardhouse$Kinds" "trigger" "[I", Cond.arrayClass .boolean, Cond.fieldLink RX1 18 "Cardhouse$Kinds" "isBanned" "[Z", Cond.fieldLink RX1 22 "Cardhouse$Kinds" "copies" "[I", Cond.fieldLink RX1 25 "Cardhouse$Kinds" "wins" "[I"]
def wsL_law0_r3 : List Cond := [Cond.instanceMethod yX4_init, Cond.code yX4_init cX4_init 1 none, Cond.methodLink RX4 3 objectInit, Cond.fieldLink RX4 9 "Cardhouse$Prints" "kind" "[I", Cond.fieldLink RX4 15 "Cardhouse$Prints" "number" "[I", Cond.fieldLink RX4 18 "Cardhouse$Prints" "collector" "[I", Cond.instanceMethod yX0_init, Cond.code yX0_init cX0_init 1 none, Cond.methodLink RX0 3 objectInit, Cond.fieldLink RX0 9 "Cardhouse$Decks" "owner" "[I", Cond.fieldLink RX0 15 "Cardhouse$Decks" "size" "[I", Cond.classLink RX0 18 "[[I", Cond.fieldLink RX0 20 "Cardhouse$Decks" "cards" "[[I", Cond.fieldLink RX0 23 "Cardhouse$Decks" "formatSize" "I", Cond.fieldLink RX0 27 "Cardhouse$Decks" "formatMost" "I", Cond.instanceMethod yX2_init, Cond.code yX2_init cX2_init 1 none, Cond.methodLink RX2 3 objectInit, Cond.fieldLink RX2 9 "Cardhouse$Offers" "card" "[I", Cond.fieldLink RX2 15 "Cardhouse$Offers" "given" "[I", Cond.fieldLink RX2 18 "Cardhouse$Offers" "wanted" "[I", Cond.fieldLink RX2 21 "Cardhouse$Offers" "collector" "[I", Cond.fieldLink RX2 24 "Cardhouse$Offers" "isLive" "[Z", Cond.fieldLink RX2 28 "Cardhouse$Offers" "ring" "[I"]
def wsL_law0_r4 : List Cond := [Cond.instanceMethod yX3_init, Cond.code yX3_init cX3_init 1 none, Cond.methodLink RX3 3 objectInit, Cond.fieldLink RX3 9 "Cardhouse$Pile" "cards" "[I", Cond.instanceMethod yX5_init, Cond.code yX5_init cX5_init 1 none, Cond.methodLink RX5 3 objectInit, Cond.classLink RX5 9 RX3, Cond.fieldLink RX5 12 "Cardhouse$Side" "pile" "LCardhouse$Pile;", Cond.methodLink RL 87 yX7_init, Cond.instanceMethod yX7_init, Cond.code yX7_init cX7_init 1 none, Cond.methodLink RX7 1 objectInit, Cond.fieldLink RX7 7 "CardhouseModel" "power" "[I", Cond.fieldLink RX7 13 "CardhouseModel" "trigger" "[I", Cond.fieldLink RX7 16 "CardhouseModel" "banned" "[Z", Cond.fieldLink RX7 20 "CardhouseModel" "printed" "[I", Cond.fieldLink RX7 23 "CardhouseModel" "wins" "[I", Cond.fieldLink RX7 26 "CardhouseModel" "size" "I", Cond.fieldLink RX7 30 "CardhouseModel" "most" "I", Cond.fieldLink RX7 33 "CardhouseModel" "kind" "[I", Cond.fieldLink RX7 36 "CardhouseModel" "number" "[I", Cond.fieldLink RX7 39 "CardhouseModel" "collector" "[I", Cond.fieldLink RX7 42 "CardhouseModel" "owner" "[I"]
def wsL_law0_r5 : List Cond := [Cond.fieldLink RX7 45 "CardhouseModel" "many" "[I", Cond.fieldLink RX7 48 "CardhouseModel" "card" "[I", Cond.fieldLink RX7 51 "CardhouseModel" "row" "[I", Cond.fieldLink RX7 54 "CardhouseModel" "offered" "[I", Cond.fieldLink RX7 57 "CardhouseModel" "by" "[I", Cond.fieldLink RX7 60 "CardhouseModel" "wanted" "[I", Cond.fieldLink RX7 63 "CardhouseModel" "closed" "[Z", Cond.fieldLink RX7 66 "CardhouseModel" "ring" "[I", Cond.methodLink RL 88 yL_setKind, Cond.static yL_setKind, Cond.initialized RL, Cond.codeWith yL_setKind cL_setKind 6 (some .int) [(0, 12, 15, 13), (0, 12, 19, 15)], Cond.classLink RL 13 "java/lang/IndexOutOfBoundsException", Cond.classLink RL 15 "java/lang/IllegalArgumentException", Cond.methodLink RL 7 yX6_setKind, Cond.instanceMethod yX6_setKind, Cond.selects RX6 yX6_setKind yX6_setKind, Cond.code yX6_setKind cX6_setKind 5 (some .int), Cond.fieldLink RX6 62 "Cardhouse$Kinds" "power" "[I", Cond.fieldLink RX6 66 "Cardhouse$Kinds" "trigger" "[I", Cond.methodLink RX6 54 yX6_needKind, Cond.static yX6_needKind, Cond.code yX6_needKind cX6_needKind 1 none, Cond.classLink RX6 236 "java/lang/IndexOutOfBoundsException"]
def wsL_law0_r6 : List Cond := [Cond.initialized "java/lang/IndexOutOfBoundsException", Cond.methodLink RX6 58 yX6_needRange, Cond.static yX6_needRange, Cond.code yX6_needRange cX6_needRange 3 none, Cond.classLink RX6 122 "java/lang/IllegalArgumentException", Cond.initialized "java/lang/IllegalArgumentException", Cond.methodLink RL 93 yX7_setKind, Cond.instanceMethod yX7_setKind, Cond.selects RX7 yX7_setKind yX7_setKind, Cond.code yX7_setKind cX7_setKind 5 (some .int), Cond.methodLink RX7 85 yX7_isKind, Cond.static yX7_isKind, Cond.code yX7_isKind cX7_isKind 1 (some .boolean), Cond.methodLink RX7 72 yX7_in, Cond.static yX7_in, Cond.code yX7_in cX7_in 3 (some .boolean), Cond.methodLink RX7 89 yX7_goes, Cond.instanceMethod yX7_goes, Cond.selects RX7 yX7_goes yX7_goes, Cond.code yX7_goes cX7_goes 4 (some .boolean), Cond.fieldLink RX7 69 "CardhouseModel" "thrown" "I", Cond.methodLink RL 94 yX7_thrown, Cond.instanceMethod yX7_thrown, Cond.selects RX7 yX7_thrown yX7_thrown]
def wsL_law0_r7 : List Cond := [Cond.code yX7_thrown cX7_thrown 1 (some .int), Cond.methodLink RL 98 yL_setFormat, Cond.static yL_setFormat, Cond.codeWith yL_setFormat cL_setFormat 5 (some .int) [(0, 10, 13, 15)], Cond.methodLink RL 17 yX6_setFormat, Cond.instanceMethod yX6_setFormat, Cond.selects RX6 yX6_setFormat yX6_setFormat, Cond.code yX6_setFormat cX6_setFormat 3 (some .int), Cond.fieldLink RX6 69 "Cardhouse$Decks" "formatSize" "I", Cond.fieldLink RX6 73 "Cardhouse$Decks" "formatMost" "I", Cond.methodLink RX6 76 yX0_countFitting, Cond.instanceMethod yX0_countFitting, Cond.selects RX0 yX0_countFitting yX0_countFitting, Cond.code yX0_countFitting cX0_countFitting 5 (some .int), Cond.fieldLink RX0 30 "Cardhouse$Decks" "count" "I", Cond.methodLink RX0 60 yX0_fitsFormat, Cond.instanceMethod yX0_fitsFormat, Cond.selects RX0 yX0_fitsFormat yX0_fitsFormat, Cond.code yX0_fitsFormat cX0_fitsFormat 7 (some .boolean), Cond.fieldLink RX0 33 "Cardhouse$Prints" "kind" "[I", Cond.fieldLink RX0 48 "Cardhouse$Prints" "collector" "[I", Cond.fieldLink RX0 51 "Cardhouse$Kinds" "isBanned" "[Z", Cond.methodLink RX0 57 yX0_countOf, Cond.instanceMethod yX0_countOf]
def wsL_law0_r8 : List Cond := [Cond.selects RX0 yX0_countOf yX0_countOf, Cond.code yX0_countOf cX0_countOf 4 (some .int), Cond.methodLink RX0 38 yX0_placesOf, Cond.instanceMethod yX0_placesOf, Cond.selects RX0 yX0_placesOf yX0_placesOf, Cond.code yX0_placesOf cX0_placesOf 6 (some .int), Cond.methodLink RX0 42 yJ6_bitCount_0f7a4, Cond.static yJ6_bitCount_0f7a4, Cond.initialized RJ6, Cond.code yJ6_bitCount_0f7a4 cJ6_bitCount_0f7a4 1 (some .int), Cond.constant RJ6 265 (1431655765), Cond.constant RJ6 266 (858993459), Cond.constant RJ6 267 (252645135), Cond.methodLink RL 101 yX7_setFormat, Cond.instanceMethod yX7_setFormat, Cond.selects RX7 yX7_setFormat yX7_setFormat, Cond.code yX7_setFormat cX7_setFormat 3 (some .int), Cond.methodLink RX7 103 yX7_manyAllowed, Cond.instanceMethod yX7_manyAllowed, Cond.selects RX7 yX7_manyAllowed yX7_manyAllowed, Cond.code yX7_manyAllowed cX7_manyAllowed 3 (some .int), Cond.fieldLink RX7 79 "CardhouseModel" "decks" "I", Cond.methodLink RX7 100 yX7_allows, Cond.instanceMethod yX7_allows]
def wsL_law0_r9 : List Cond := [Cond.selects RX7 yX7_allows yX7_allows, Cond.code yX7_allows cX7_allows 5 (some .boolean), Cond.methodLink RX7 93 yX7_kindAt, Cond.instanceMethod yX7_kindAt, Cond.selects RX7 yX7_kindAt yX7_kindAt, Cond.code yX7_kindAt cX7_kindAt 3 (some .int), Cond.methodLink RX7 97 yX7_manyOf, Cond.instanceMethod yX7_manyOf, Cond.selects RX7 yX7_manyOf yX7_manyOf, Cond.code yX7_manyOf cX7_manyOf 5 (some .int), Cond.methodLink RL 102 yL_ban, Cond.static yL_ban, Cond.codeWith yL_ban cL_ban 5 (some .int) [(0, 10, 13, 13)], Cond.methodLink RL 21 yX6_ban, Cond.instanceMethod yX6_ban, Cond.selects RX6 yX6_ban yX6_ban, Cond.code yX6_ban cX6_ban 3 (some .int), Cond.fieldLink RX6 80 "Cardhouse$Kinds" "isBanned" "[Z", Cond.methodLink RL 105 yX7_ban, Cond.instanceMethod yX7_ban, Cond.selects RX7 yX7_ban yX7_ban, Cond.code yX7_ban cX7_ban 3 (some .int), Cond.methodLink RL 106 yL_print, Cond.static yL_print]
def wsL_law0_r10 : List Cond := [Cond.codeWith yL_print cL_print 5 (some .int) [(0, 10, 13, 13), (0, 10, 17, 28)], Cond.classLink RL 28 "java/lang/IllegalStateException", Cond.methodLink RL 25 yX6_print, Cond.instanceMethod yX6_print, Cond.selects RX6 yX6_print yX6_print, Cond.code yX6_print cX6_print 3 (some .int), Cond.classLink RX6 90 "java/lang/IllegalStateException", Cond.initialized "java/lang/IllegalStateException", Cond.fieldLink RX6 87 "Cardhouse$Prints" "count" "I", Cond.fieldLink RX6 97 "Cardhouse$Kinds" "copies" "[I", Cond.methodLink RX6 84 yX6_needCollector, Cond.static yX6_needCollector, Cond.code yX6_needCollector cX6_needCollector 1 none, Cond.methodLink RX6 100 yX4_append, Cond.instanceMethod yX4_append, Cond.selects RX4 yX4_append yX4_append, Cond.code yX4_append cX4_append 5 (some .int), Cond.fieldLink RX4 21 "Cardhouse$Prints" "count" "I", Cond.methodLink RL 108 yX7_print, Cond.instanceMethod yX7_print, Cond.selects RX7 yX7_print yX7_print, Cond.code yX7_print cX7_print 3 (some .int), Cond.fieldLink RX7 76 "CardhouseModel" "cards" "I", Cond.methodLink RX7 107 yX7_isCollector]
def wsL_law0_r11 : List Cond := [Cond.static yX7_isCollector, Cond.code yX7_isCollector cX7_isCollector 1 (some .boolean), Cond.methodLink RL 109 yL_deck, Cond.static yL_deck, Cond.codeWith yL_deck cL_deck 4 (some .int) [(0, 9, 12, 13), (0, 9, 15, 28)], Cond.methodLink RL 30 yX6_deck, Cond.instanceMethod yX6_deck, Cond.selects RX6 yX6_deck yX6_deck, Cond.code yX6_deck cX6_deck 2 (some .int), Cond.fieldLink RX6 104 "Cardhouse$Decks" "count" "I", Cond.methodLink RX6 107 yX0_append, Cond.instanceMethod yX0_append, Cond.selects RX0 yX0_append yX0_append, Cond.code yX0_append cX0_append 3 (some .int), Cond.methodLink RL 112 yX7_deck, Cond.instanceMethod yX7_deck, Cond.selects RX7 yX7_deck yX7_deck, Cond.code yX7_deck cX7_deck 2 (some .int), Cond.methodLink RL 113 yL_add, Cond.static yL_add, Cond.codeWith yL_add cL_add 5 (some .int) [(0, 10, 13, 13), (0, 10, 17, 15), (0, 10, 21, 28)], Cond.methodLink RL 34 yX6_add, Cond.instanceMethod yX6_add, Cond.selects RX6 yX6_add yX6_add]
def wsL_law0_r12 : List Cond := [Cond.code yX6_add cX6_add 3 (some .int), Cond.fieldLink RX6 116 "Cardhouse$Prints" "collector" "[I", Cond.fieldLink RX6 119 "Cardhouse$Decks" "owner" "[I", Cond.fieldLink RX6 133 "Cardhouse$Decks" "size" "[I", Cond.methodLink RX6 110 yX6_needDeck, Cond.instanceMethod yX6_needDeck, Cond.selects RX6 yX6_needDeck yX6_needDeck, Cond.code yX6_needDeck cX6_needDeck 2 none, Cond.methodLink RX6 113 yX6_needCard, Cond.instanceMethod yX6_needCard, Cond.selects RX6 yX6_needCard yX6_needCard, Cond.code yX6_needCard cX6_needCard 2 none, Cond.methodLink RX6 127 yX0_holds, Cond.instanceMethod yX0_holds, Cond.selects RX0 yX0_holds yX0_holds, Cond.code yX0_holds cX0_holds 4 (some .boolean), Cond.methodLink RX6 138 yX0_putBehind, Cond.instanceMethod yX0_putBehind, Cond.selects RX0 yX0_putBehind yX0_putBehind, Cond.code yX0_putBehind cX0_putBehind 3 (some .int), Cond.methodLink RL 115 yX7_add, Cond.instanceMethod yX7_add, Cond.selects RX7 yX7_add yX7_add, Cond.code yX7_add cX7_add 5 (some .int)]
def wsL_law0_r13 : List Cond := [Cond.methodLink RX7 110 yX7_isDeck, Cond.instanceMethod yX7_isDeck, Cond.selects RX7 yX7_isDeck yX7_isDeck, Cond.code yX7_isDeck cX7_isDeck 2 (some .boolean), Cond.methodLink RX7 113 yX7_isCard, Cond.instanceMethod yX7_isCard, Cond.selects RX7 yX7_isCard yX7_isCard, Cond.code yX7_isCard cX7_isCard 2 (some .boolean), Cond.methodLink RX7 116 yX7_isIn, Cond.instanceMethod yX7_isIn, Cond.selects RX7 yX7_isIn yX7_isIn, Cond.code yX7_isIn cX7_isIn 5 (some .boolean), Cond.methodLink RL 116 yL_cut, Cond.static yL_cut, Cond.codeWith yL_cut cL_cut 5 (some .int) [(0, 10, 13, 13)], Cond.methodLink RL 37 yX6_cut, Cond.instanceMethod yX6_cut, Cond.selects RX6 yX6_cut yX6_cut, Cond.code yX6_cut cX6_cut 3 (some .int), Cond.methodLink RX6 142 yX6_needPlace, Cond.instanceMethod yX6_needPlace, Cond.selects RX6 yX6_needPlace yX6_needPlace, Cond.code yX6_needPlace cX6_needPlace 3 none, Cond.methodLink RX6 146 yX0_takeOut]
def wsL_law0_r14 : List Cond := [Cond.instanceMethod yX0_takeOut, Cond.selects RX0 yX0_takeOut yX0_takeOut, Cond.code yX0_takeOut cX0_takeOut 5 (some .int), Cond.methodLink RL 118 yX7_cut, Cond.instanceMethod yX7_cut, Cond.selects RX7 yX7_cut yX7_cut, Cond.code yX7_cut cX7_cut 6 (some .int), Cond.methodLink RL 119 yL_play, Cond.static yL_play, Cond.codeWith yL_play cL_play 7 (some .int) [(0, 14, 17, 13), (0, 14, 21, 15), (0, 14, 25, 28)], Cond.methodLink RL 40 yX6_play, Cond.instanceMethod yX6_play, Cond.selects RX6 yX6_play yX6_play, Cond.code yX6_play cX6_play 6 (some .int), Cond.fieldLink RX6 164 "Cardhouse$Side" "points" "I", Cond.methodLink RX6 149 yX6_needSeed, Cond.static yX6_needSeed, Cond.code yX6_needSeed cX6_needSeed 1 none, Cond.methodLink RX6 154 yX6_needAllowed, Cond.instanceMethod yX6_needAllowed, Cond.selects RX6 yX6_needAllowed yX6_needAllowed, Cond.code yX6_needAllowed cX6_needAllowed 2 none, Cond.methodLink RX6 215 yX0_fitsFormat, Cond.methodLink RX6 157 yX5_start]
def wsL_law0_r15 : List Cond := [Cond.instanceMethod yX5_start, Cond.selects RX5 yX5_start yX5_start, Cond.code yX5_start cX5_start 4 none, Cond.fieldLink RX5 22 "Cardhouse$Side" "points" "I", Cond.fieldLink RX5 26 "Cardhouse$Side" "ahead" "I", Cond.methodLink RX5 18 yX3_shuffle, Cond.instanceMethod yX3_shuffle, Cond.selects RX3 yX3_shuffle yX3_shuffle, Cond.code yX3_shuffle cX3_shuffle 10 none, Cond.fieldLink RX3 15 "Cardhouse$Decks" "size" "[I", Cond.fieldLink RX3 20 "Cardhouse$Decks" "cards" "[[I", Cond.constantLong RX3 23 (1103515245), Cond.constantLong RX3 25 (12345), Cond.constantLong RX3 27 (2147483648), Cond.constantLong RX3 29 (65536), Cond.methodLink RX6 161 yX6_playRound, Cond.instanceMethod yX6_playRound, Cond.selects RX6 yX6_playRound yX6_playRound, Cond.code yX6_playRound cX6_playRound 8 none, Cond.fieldLink RX6 170 "Cardhouse$Prints" "kind" "[I", Cond.fieldLink RX6 259 "Cardhouse$Side" "pile" "LCardhouse$Pile;", Cond.fieldLink RX6 222 "Cardhouse$Pile" "cards" "[I", Cond.fieldLink RX6 260 "Cardhouse$Side" "ahead" "I", Cond.methodLink RX6 263 yX5_endRound]
def wsL_law0_r16 : List Cond := [Cond.instanceMethod yX5_endRound, Cond.selects RX5 yX5_endRound yX5_endRound, Cond.code yX5_endRound cX5_endRound 4 none, Cond.methodLink RX6 167 yX6_giveWins, Cond.instanceMethod yX6_giveWins, Cond.selects RX6 yX6_giveWins yX6_giveWins, Cond.code yX6_giveWins cX6_giveWins 3 none, Cond.fieldLink RX6 212 "Cardhouse$Kinds" "wins" "[I", Cond.methodLink RX6 225 yX0_countOf, Cond.methodLink RL 122 yX7_play, Cond.instanceMethod yX7_play, Cond.selects RX7 yX7_play yX7_play, Cond.code yX7_play cX7_play 16 (some .int), Cond.methodLink RX7 128 yX7_shuffles, Cond.instanceMethod yX7_shuffles, Cond.selects RX7 yX7_shuffles yX7_shuffles, Cond.code yX7_shuffles cX7_shuffles 9 none, Cond.constantLong RX7 120 (1103515245), Cond.constantLong RX7 122 (12345), Cond.constantLong RX7 124 (2147483648), Cond.constantLong RX7 126 (65536), Cond.methodLink RX7 132 yX7_effect, Cond.instanceMethod yX7_effect, Cond.selects RX7 yX7_effect yX7_effect]
def wsL_law0_r17 : List Cond := [Cond.code yX7_effect cX7_effect 5 (some .int), Cond.methodLink RX7 136 yX7_wonBy, Cond.instanceMethod yX7_wonBy, Cond.selects RX7 yX7_wonBy yX7_wonBy, Cond.code yX7_wonBy cX7_wonBy 3 none, Cond.methodLink RL 123 yL_offer, Cond.static yL_offer, Cond.codeWith yL_offer cL_offer 5 (some .int) [(0, 10, 13, 13), (0, 10, 17, 15), (0, 10, 21, 28)], Cond.methodLink RL 44 yX6_offer, Cond.instanceMethod yX6_offer, Cond.selects RX6 yX6_offer yX6_offer, Cond.code yX6_offer cX6_offer 3 (some .int), Cond.fieldLink RX6 181 "Cardhouse$Offers" "count" "I", Cond.methodLink RX6 175 yX2_hasLive, Cond.instanceMethod yX2_hasLive, Cond.selects RX2 yX2_hasLive yX2_hasLive, Cond.code yX2_hasLive cX2_hasLive 3 (some .boolean), Cond.fieldLink RX2 31 "Cardhouse$Offers" "count" "I", Cond.methodLink RX6 184 yX2_append, Cond.instanceMethod yX2_append, Cond.selects RX2 yX2_append yX2_append, Cond.code yX2_append cX2_append 5 (some .int), Cond.fieldLink RX2 35 "Cardhouse$Prints" "kind" "[I", Cond.fieldLink RX2 40 "Cardhouse$Prints" "collector" "[I"]
def wsL_law0_r18 : List Cond := [Cond.methodLink RL 125 yX7_offer, Cond.instanceMethod yX7_offer, Cond.selects RX7 yX7_offer yX7_offer, Cond.code yX7_offer cX7_offer 6 (some .int), Cond.fieldLink RX7 82 "CardhouseModel" "offers" "I", Cond.methodLink RX7 140 yX7_opens, Cond.instanceMethod yX7_opens, Cond.selects RX7 yX7_opens yX7_opens, Cond.code yX7_opens cX7_opens 2 (some .boolean), Cond.methodLink RL 126 yL_takeBack, Cond.static yL_takeBack, Cond.codeWith yL_takeBack cL_takeBack 4 (some .int) [(0, 9, 12, 13), (0, 9, 15, 28)], Cond.methodLink RL 47 yX6_takeBack, Cond.instanceMethod yX6_takeBack, Cond.selects RX6 yX6_takeBack yX6_takeBack, Cond.code yX6_takeBack cX6_takeBack 2 (some .int), Cond.fieldLink RX6 190 "Cardhouse$Offers" "isLive" "[Z", Cond.fieldLink RX6 195 "Cardhouse$Offers" "card" "[I", Cond.methodLink RX6 187 yX6_needOffer, Cond.instanceMethod yX6_needOffer, Cond.selects RX6 yX6_needOffer yX6_needOffer, Cond.code yX6_needOffer cX6_needOffer 2 none, Cond.methodLink RL 128 yX7_takeBack, Cond.instanceMethod yX7_takeBack]
def wsL_law0_r19 : List Cond := [Cond.selects RX7 yX7_takeBack yX7_takeBack, Cond.code yX7_takeBack cX7_takeBack 3 (some .int), Cond.methodLink RX7 143 yX7_isOffer, Cond.instanceMethod yX7_isOffer, Cond.selects RX7 yX7_isOffer yX7_isOffer, Cond.code yX7_isOffer cX7_isOffer 2 (some .boolean), Cond.methodLink RL 129 yX6_trade, Cond.instanceMethod yX6_trade, Cond.selects RX6 yX6_trade yX6_trade, Cond.code yX6_trade cX6_trade 5 (some .int), Cond.fieldLink RX6 202 "Cardhouse$Offers" "ring" "[I", Cond.fieldLink RX6 205 "Cardhouse$Offers" "collector" "[I", Cond.methodLink RX6 198 yX2_findRing, Cond.instanceMethod yX2_findRing, Cond.selects RX2 yX2_findRing yX2_findRing, Cond.code yX2_findRing cX2_findRing 3 (some .int), Cond.methodLink RX2 41 yX2_closes, Cond.static yX2_closes, Cond.code yX2_closes cX2_closes 4 (some .boolean), Cond.methodLink RX2 45 yX2_canGive, Cond.instanceMethod yX2_canGive, Cond.selects RX2 yX2_canGive yX2_canGive, Cond.code yX2_canGive cX2_canGive 3 (some .boolean), Cond.methodLink RX2 49 yX2_canFollow]
def wsL_law0_r20 : List Cond := [Cond.instanceMethod yX2_canFollow, Cond.selects RX2 yX2_canFollow yX2_canFollow, Cond.code yX2_canFollow cX2_canFollow 4 (some .boolean), Cond.methodLink RL 132 yX7_trade, Cond.instanceMethod yX7_trade, Cond.selects RX7 yX7_trade yX7_trade, Cond.code yX7_trade cX7_trade 4 (some .int), Cond.methodLink RX7 155 yX7_first, Cond.instanceMethod yX7_first, Cond.selects RX7 yX7_first yX7_first, Cond.code yX7_first cX7_first 1 (some .int), Cond.methodLink RX7 152 yX7_hasRing, Cond.instanceMethod yX7_hasRing, Cond.selects RX7 yX7_hasRing yX7_hasRing, Cond.code yX7_hasRing cX7_hasRing 3 (some .boolean), Cond.methodLink RX7 149 yX7_fits, Cond.instanceMethod yX7_fits, Cond.selects RX7 yX7_fits yX7_fits, Cond.code yX7_fits cX7_fits 6 (some .boolean), Cond.methodLink RX7 146 yX7_gives, Cond.instanceMethod yX7_gives, Cond.selects RX7 yX7_gives yX7_gives, Cond.code yX7_gives cX7_gives 3 (some .boolean), Cond.methodLink RL 133 yX6_cards]
def wsL_law0_r21 : List Cond := [Cond.instanceMethod yX6_cards, Cond.selects RX6 yX6_cards yX6_cards, Cond.code yX6_cards cX6_cards 1 (some .int), Cond.methodLink RL 136 yX7_cards, Cond.instanceMethod yX7_cards, Cond.selects RX7 yX7_cards yX7_cards, Cond.code yX7_cards cX7_cards 1 (some .int), Cond.methodLink RX7 158 yX7_told, Cond.instanceMethod yX7_told, Cond.selects RX7 yX7_told yX7_told, Cond.code yX7_told cX7_told 2 (some .int), Cond.methodLink RL 137 yL_printOf, Cond.static yL_printOf, Cond.codeWith yL_printOf cL_printOf 4 (some .int) [(0, 9, 12, 13)], Cond.methodLink RL 50 yX6_printOf, Cond.instanceMethod yX6_printOf, Cond.selects RX6 yX6_printOf yX6_printOf, Cond.code yX6_printOf cX6_printOf 2 (some .int), Cond.fieldLink RX6 206 "Cardhouse$Prints" "number" "[I", Cond.methodLink RL 139 yX7_printOf, Cond.instanceMethod yX7_printOf, Cond.selects RX7 yX7_printOf yX7_printOf, Cond.code yX7_printOf cX7_printOf 2 (some .int), Cond.methodLink RL 140 yL_collectorOf]
def wsL_law0_r22 : List Cond := [Cond.static yL_collectorOf, Cond.codeWith yL_collectorOf cL_collectorOf 4 (some .int) [(0, 9, 12, 13)], Cond.methodLink RL 53 yX6_collectorOf, Cond.instanceMethod yX6_collectorOf, Cond.selects RX6 yX6_collectorOf yX6_collectorOf, Cond.code yX6_collectorOf cX6_collectorOf 2 (some .int), Cond.methodLink RL 142 yX7_collectorOf, Cond.instanceMethod yX7_collectorOf, Cond.selects RX7 yX7_collectorOf yX7_collectorOf, Cond.code yX7_collectorOf cX7_collectorOf 2 (some .int), Cond.methodLink RL 143 yL_has, Cond.static yL_has, Cond.codeWith yL_has cL_has 5 (some .int) [(0, 10, 13, 13)], Cond.methodLink RL 56 yX6_has, Cond.instanceMethod yX6_has, Cond.selects RX6 yX6_has yX6_has, Cond.code yX6_has cX6_has 3 (some .int), Cond.methodLink RX6 209 yX4_countOf, Cond.instanceMethod yX4_countOf, Cond.selects RX4 yX4_countOf yX4_countOf, Cond.code yX4_countOf cX4_countOf 5 (some .int), Cond.methodLink RL 145 yX7_has, Cond.instanceMethod yX7_has, Cond.selects RX7 yX7_has yX7_has]
def wsL_law0_r23 : List Cond := [Cond.code yX7_has cX7_has 6 (some .int), Cond.methodLink RL 146 yL_wins, Cond.static yL_wins, Cond.codeWith yL_wins cL_wins 4 (some .int) [(0, 9, 12, 13)], Cond.methodLink RL 59 yX6_wins, Cond.instanceMethod yX6_wins, Cond.selects RX6 yX6_wins yX6_wins, Cond.code yX6_wins cX6_wins 2 (some .int), Cond.methodLink RL 148 yX7_wins, Cond.instanceMethod yX7_wins, Cond.selects RX7 yX7_wins yX7_wins, Cond.code yX7_wins cX7_wins 2 (some .int), Cond.methodLink RL 149 yL_price, Cond.static yL_price, Cond.codeWith yL_price cL_price 4 (some .int) [(0, 9, 12, 13)], Cond.methodLink RL 62 yX6_price, Cond.instanceMethod yX6_price, Cond.selects RX6 yX6_price yX6_price, Cond.code yX6_price cX6_price 3 (some .int), Cond.methodLink RL 151 yX7_price, Cond.instanceMethod yX7_price, Cond.selects RX7 yX7_price yX7_price, Cond.code yX7_price cX7_price 2 (some .int), Cond.methodLink RL 152 yL_isAllowed]
def wsL_law0_r24 : List Cond := [Cond.static yL_isAllowed, Cond.codeWith yL_isAllowed cL_isAllowed 4 (some .int) [(0, 16, 19, 13)], Cond.methodLink RL 65 yX6_isAllowed, Cond.instanceMethod yX6_isAllowed, Cond.selects RX6 yX6_isAllowed yX6_isAllowed, Cond.code yX6_isAllowed cX6_isAllowed 2 (some .boolean), Cond.methodLink RL 154 yX7_isAllowed, Cond.instanceMethod yX7_isAllowed, Cond.selects RX7 yX7_isAllowed yX7_isAllowed, Cond.code yX7_isAllowed cX7_isAllowed 2 (some .boolean), Cond.methodLink RL 155 yL_shuffled, Cond.static yL_shuffled, Cond.codeWith yL_shuffled cL_shuffled 6 (some .int) [(0, 12, 15, 13), (0, 12, 19, 15)], Cond.methodLink RL 69 yX6_shuffled, Cond.instanceMethod yX6_shuffled, Cond.selects RX6 yX6_shuffled yX6_shuffled, Cond.code yX6_shuffled cX6_shuffled 4 (some .int), Cond.methodLink RX6 219 yX3_shuffle, Cond.methodLink RL 157 yX7_shuffled, Cond.instanceMethod yX7_shuffled, Cond.selects RX7 yX7_shuffled yX7_shuffled, Cond.code yX7_shuffled cX7_shuffled 5 (some .int), Cond.methodLink RL 158 yL_orders, Cond.static yL_orders]
def wsL_law0_r25 : List Cond := [Cond.codeWith yL_orders cL_orders 6 (some .int) [(0, 12, 15, 13), (0, 12, 19, 15)], Cond.methodLink RL 72 yX6_orders, Cond.instanceMethod yX6_orders, Cond.selects RX6 yX6_orders yX6_orders, Cond.code yX6_orders cX6_orders 9 (some .int), Cond.methodLink RL 160 yX7_orders, Cond.instanceMethod yX7_orders, Cond.selects RX7 yX7_orders yX7_orders, Cond.code yX7_orders cX7_orders 4 (some .int), Cond.methodLink RX7 162 yX7_ordersOf, Cond.instanceMethod yX7_ordersOf, Cond.selects RX7 yX7_ordersOf yX7_ordersOf, Cond.code yX7_ordersOf cX7_ordersOf 9 (some .int), Cond.methodLink RL 161 yL_ordersByAll, Cond.static yL_ordersByAll, Cond.codeWith yL_ordersByAll cL_ordersByAll 6 (some .int) [(0, 12, 15, 13), (0, 12, 19, 15), (0, 12, 23, 28)], Cond.methodLink RL 75 yX6_ordersByAll, Cond.instanceMethod yX6_ordersByAll, Cond.selects RX6 yX6_ordersByAll yX6_ordersByAll, Cond.code yX6_ordersByAll cX6_ordersByAll 6 (some .int), Cond.methodLink RX6 229 yX0_placesOf, Cond.methodLink RX6 232 yX6_countOrders, Cond.static yX6_countOrders, Cond.code yX6_countOrders cX6_countOrders 10 (some .int)]
def wsL_law0_r26 : List Cond := [Cond.methodLink RL 163 yX7_ordersByAll, Cond.instanceMethod yX7_ordersByAll, Cond.selects RX7 yX7_ordersByAll yX7_ordersByAll, Cond.code yX7_ordersByAll cX7_ordersByAll 5 (some .int), Cond.methodLink RL 164 yL_isOpen, Cond.static yL_isOpen, Cond.codeWith yL_isOpen cL_isOpen 4 (some .int) [(0, 16, 19, 13)], Cond.methodLink RL 78 yX6_isOpen, Cond.instanceMethod yX6_isOpen, Cond.selects RX6 yX6_isOpen yX6_isOpen, Cond.code yX6_isOpen cX6_isOpen 2 (some .boolean), Cond.methodLink RL 166 yX7_isOpen, Cond.instanceMethod yX7_isOpen, Cond.selects RX7 yX7_isOpen yX7_isOpen, Cond.code yX7_isOpen cX7_isOpen 2 (some .boolean), Cond.methodLink RL 167 yL_ring, Cond.static yL_ring, Cond.codeWith yL_ring cL_ring 4 (some .int) [(0, 9, 12, 13)], Cond.methodLink RL 81 yX6_ring, Cond.instanceMethod yX6_ring, Cond.selects RX6 yX6_ring yX6_ring, Cond.code yX6_ring cX6_ring 2 (some .int), Cond.methodLink RL 169 yX7_ring, Cond.instanceMethod yX7_ring]
def wsL_law0_r27 : List Cond := [Cond.selects RX7 yX7_ring yX7_ring, Cond.code yX7_ring cX7_ring 2 (some .int)]
def wsL_law0 : List Cond := (wsL_law0_r1 ++ (wsL_law0_r2 ++ (wsL_law0_r3 ++ (wsL_law0_r4 ++ (wsL_law0_r5 ++ (wsL_law0_r6 ++ (wsL_law0_r7 ++ (wsL_law0_r8 ++ (wsL_law0_r9 ++ (wsL_law0_r10 ++ (wsL_law0_r11 ++ (wsL_law0_r12 ++ (wsL_law0_r13 ++ (wsL_law0_r14 ++ (wsL_law0_r15 ++ (wsL_law0_r16 ++ (wsL_law0_r17 ++ (wsL_law0_r18 ++ (wsL_law0_r19 ++ (wsL_law0_r20 ++ (wsL_law0_r21 ++ (wsL_law0_r22 ++ (wsL_law0_r23 ++ (wsL_law0_r24 ++ (wsL_law0_r25 ++ (wsL_law0_r26 ++ wsL_law0_r27)))))))))))))))))))))))))) ++ wsX60 ++ wsX70 ++ wsX10 ++ wsX40 ++ wsX00 ++ wsX20 ++ wsX30 ++ wsX50 ++ ([] : List Cond)
def wsL_law : List Cond := wsL_law0 ++ (vx_atS RX6 240 "java/lang/IndexOutOfBoundsException" ["java/lang/RuntimeException", "java/lang/Exception"]).filter goodWord ++ (vx_atS RX6 126 "java/lang/IllegalArgumentException" ["java/lang/RuntimeException", "java/lang/Exception"]).filter goodWord ++ (vx_atS RX6 94 "java/lang/IllegalStateException" ["java/lang/RuntimeException", "java/lang/Exception"]).filter goodWord
abbrev vwCl : List vw_C := [(RX0, TX0, 6), (RX1, TX1, 5), (RX2, TX2, 7), (RX3, TX3, 1), (RX4, TX4, 4), (RX5, TX5, 3), (RX6, TX6, 7), (RX7, TX7, 23)]
end
section
set_option maxRecDepth 20000 in
theorem wsL_law0_r1_in : ∀ w ∈ wsL_law0_r1, w ∈ lw_tbl := fun w h => (goodIn_p wsL_law0_r1 [49, 52] (by decide +kernel) (by decide +kernel) w h).1
set_option maxRecDepth 20000 in
theorem wsL_law0_r2_in : ∀ w ∈ wsL_law0_r2, w ∈ lw_tbl := fun w h => (goodIn_p wsL_law0_r2 [57] (by decide +kernel) (by decide +kernel) w h).1
set_option maxRecDepth 20000 in
theorem wsL_law0_r3_in : ∀ w ∈ wsL_law0_r3, w ∈ lw_tbl := fun w h => (goodIn_p wsL_law0_r3 [87, 114, 148] (by decide +kernel) (by decide +kernel) w h).1
set_option maxRecDepth 20000 in
theorem wsL_law0_r4_in : ∀ w ∈ wsL_law0_r4, w ∈ lw_tbl := fun w h => (goodIn_p wsL_law0_r4 [181, 192, 643] (by decide +kernel) (by decide +kernel) w h).1
set_option maxRecDepth 20000 in
theorem wsL_law0_r5_in : ∀ w ∈ wsL_law0_r5, w ∈ lw_tbl := fun w h => (goodIn_p wsL_law0_r5 [262, 265] (by decide +kernel) (by decide +kernel) w h).1
set_option maxRecDepth 20000 in
theorem wsL_law0_r6_in : ∀ w ∈ wsL_law0_r6, w ∈ lw_tbl := fun w h => (goodIn_p wsL_law0_r6 [336, 722, 725, 728, 732] (by decide +kernel) (by decide +kernel) w h).1
set_option maxRecDepth 20000 in
theorem wsL_law0_r7_in : ∀ w ∈ wsL_law0_r7, w ∈ lw_tbl := fun w h => (goodIn_p wsL_law0_r7 [718, 359, 363, 367] (by decide +kernel) (by decide +kernel) w h).1
set_option maxRecDepth 20000 in
theorem wsL_law0_r8_in : ∀ w ∈ wsL_law0_r8, w ∈ lw_tbl := fun w h => (goodIn_p wsL_law0_r8 [371, 375, 378, 736, 740] (by decide +kernel) (by decide +kernel) w h).1
set_option maxRecDepth 20000 in
theorem wsL_law0_r9_in : ∀ w ∈ wsL_law0_r9, w ∈ lw_tbl := fun w h => (goodIn_p wsL_law0_r9 [744, 748, 752, 388, 756] (by decide +kernel) (by decide +kernel) w h).1
set_option maxRecDepth 20000 in
theorem wsL_law0_r10_in : ∀ w ∈ wsL_law0_r10, w ∈ lw_tbl := fun w h => (goodIn_p wsL_law0_r10 [396, 399, 420, 760] (by decide +kernel) (by decide +kernel) w h).1
set_option maxRecDepth 20000 in
theorem wsL_law0_r11_in : ∀ w ∈ wsL_law0_r11, w ∈ lw_tbl := fun w h => (goodIn_p wsL_law0_r11 [763, 427, 432, 767] (by decide +kernel) (by decide +kernel) w h).1
set_option maxRecDepth 20000 in
theorem wsL_law0_r12_in : ∀ w ∈ wsL_law0_r12, w ∈ lw_tbl := fun w h => (goodIn_p wsL_law0_r12 [439, 443, 448, 454, 460, 771] (by decide +kernel) (by decide +kernel) w h).1
set_option maxRecDepth 20000 in
theorem wsL_law0_r13_in : ∀ w ∈ wsL_law0_r13, w ∈ lw_tbl := fun w h => (goodIn_p wsL_law0_r13 [775, 779, 783, 467, 471] (by decide +kernel) (by decide +kernel) w h).1
set_option maxRecDepth 20000 in
theorem wsL_law0_r14_in : ∀ w ∈ wsL_law0_r14, w ∈ lw_tbl := fun w h => (goodIn_p wsL_law0_r14 [476, 787, 483, 486, 492] (by decide +kernel) (by decide +kernel) w h).1
set_option maxRecDepth 20000 in
theorem wsL_law0_r15_in : ∀ w ∈ wsL_law0_r15, w ∈ lw_tbl := fun w h => (goodIn_p wsL_law0_r15 [498, 502, 510] (by decide +kernel) (by decide +kernel) w h).1
set_option maxRecDepth 20000 in
theorem wsL_law0_r16_in : ∀ w ∈ wsL_law0_r16, w ∈ lw_tbl := fun w h => (goodIn_p wsL_law0_r16 [514, 518, 791, 795] (by decide +kernel) (by decide +kernel) w h).1
set_option maxRecDepth 20000 in
theorem wsL_law0_r17_in : ∀ w ∈ wsL_law0_r17, w ∈ lw_tbl := fun w h => (goodIn_p wsL_law0_r17 [803, 807, 526, 531, 537] (by decide +kernel) (by decide +kernel) w h).1
set_option maxRecDepth 20000 in
theorem wsL_law0_r18_in : ∀ w ∈ wsL_law0_r18, w ∈ lw_tbl := fun w h => (goodIn_p wsL_law0_r18 [811, 815, 544, 548] (by decide +kernel) (by decide +kernel) w h).1
set_option maxRecDepth 20000 in
theorem wsL_law0_r19_in : ∀ w ∈ wsL_law0_r19, w ∈ lw_tbl := fun w h => (goodIn_p wsL_law0_r19 [819, 823, 234, 238, 241, 245] (by decide +kernel) (by decide +kernel) w h).1
set_option maxRecDepth 20000 in
theorem wsL_law0_r20_in : ∀ w ∈ wsL_law0_r20, w ∈ lw_tbl := fun w h => (goodIn_p wsL_law0_r20 [249, 827, 831, 835, 839, 843] (by decide +kernel) (by decide +kernel) w h).1
set_option maxRecDepth 20000 in
theorem wsL_law0_r21_in : ∀ w ∈ wsL_law0_r21, w ∈ lw_tbl := fun w h => (goodIn_p wsL_law0_r21 [253, 847, 851, 557, 855] (by decide +kernel) (by decide +kernel) w h).1
set_option maxRecDepth 20000 in
theorem wsL_law0_r22_in : ∀ w ∈ wsL_law0_r22, w ∈ lw_tbl := fun w h => (goodIn_p wsL_law0_r22 [564, 859, 571, 575] (by decide +kernel) (by decide +kernel) w h).1
set_option maxRecDepth 20000 in
theorem wsL_law0_r23_in : ∀ w ∈ wsL_law0_r23, w ∈ lw_tbl := fun w h => (goodIn_p wsL_law0_r23 [863, 582, 867, 589, 871] (by decide +kernel) (by decide +kernel) w h).1
set_option maxRecDepth 20000 in
theorem wsL_law0_r24_in : ∀ w ∈ wsL_law0_r24, w ∈ lw_tbl := fun w h => (goodIn_p wsL_law0_r24 [596, 875, 603, 879] (by decide +kernel) (by decide +kernel) w h).1
set_option maxRecDepth 20000 in
theorem wsL_law0_r25_in : ∀ w ∈ wsL_law0_r25, w ∈ lw_tbl := fun w h => (goodIn_p wsL_law0_r25 [611, 883, 887, 618, 623] (by decide +kernel) (by decide +kernel) w h).1
set_option maxRecDepth 20000 in
theorem wsL_law0_r26_in : ∀ w ∈ wsL_law0_r26, w ∈ lw_tbl := fun w h => (goodIn_p wsL_law0_r26 [891, 630, 895, 637] (by decide +kernel) (by decide +kernel) w h).1
set_option maxRecDepth 20000 in
theorem wsL_law0_r27_in : ∀ w ∈ wsL_law0_r27, w ∈ lw_tbl := fun w h => (goodIn_p wsL_law0_r27 [899] (by decide +kernel) (by decide +kernel) w h).1
theorem wsX60_tb : ∀ w ∈ wsX60, w ∈ lw_tbl := by decide +kernel
theorem wsX70_tb : ∀ w ∈ wsX70, w ∈ lw_tbl := by decide +kernel
theorem wsX10_tb : ∀ w ∈ wsX10, w ∈ lw_tbl := by decide +kernel
theorem wsX40_tb : ∀ w ∈ wsX40, w ∈ lw_tbl := by decide +kernel
theorem wsX00_tb : ∀ w ∈ wsX00, w ∈ lw_tbl := by decide +kernel
theorem wsX20_tb : ∀ w ∈ wsX20, w ∈ lw_tbl := by decide +kernel
theorem wsX30_tb : ∀ w ∈ wsX30, w ∈ lw_tbl := by decide +kernel
theorem wsX50_tb : ∀ w ∈ wsX50, w ∈ lw_tbl := by decide +kernel
theorem wsL_law0_r26_up : ∀ w ∈ (wsL_law0_r26 ++ wsL_law0_r27), w ∈ lw_tbl := fun w h => (List.mem_append.mp h).elim (fun h => wsL_law0_r26_in w h) (fun h => wsL_law0_r27_in w h)
theorem wsL_law0_r25_up : ∀ w ∈ (wsL_law0_r25 ++ (wsL_law0_r26 ++ wsL_law0_r27)), w ∈ lw_tbl := fun w h => (List.mem_append.mp h).elim (fun h => wsL_law0_r25_in w h) (fun h => wsL_law0_r26_up w h)
theorem wsL_law0_r24_up : ∀ w ∈ (wsL_law0_r24 ++ (wsL_law0_r25 ++ (wsL_law0_r26 ++ wsL_law0_r27))), w ∈ lw_tbl := fun w h => (List.mem_append.mp h).elim (fun h => wsL_law0_r24_in w h) (fun h => wsL_law0_r25_up w h)
theorem wsL_law0_r23_up : ∀ w ∈ (wsL_law0_r23 ++ (wsL_law0_r24 ++ (wsL_law0_r25 ++ (wsL_law0_r26 ++ wsL_law0_r27)))), w ∈ lw_tbl := fun w h => (List.mem_append.mp h).elim (fun h => wsL_law0_r23_in w h) (fun h => wsL_law0_r24_up w h)
theorem wsL_law0_r22_up : ∀ w ∈ (wsL_law0_r22 ++ (wsL_law0_r23 ++ (wsL_law0_r24 ++ (wsL_law0_r25 ++ (wsL_law0_r26 ++ wsL_law0_r27))))), w ∈ lw_tbl := fun w h => (List.mem_append.mp h).elim (fun h => wsL_law0_r22_in w h) (fun h => wsL_law0_r23_up w h)
theorem wsL_law0_r21_up : ∀ w ∈ (wsL_law0_r21 ++ (wsL_law0_r22 ++ (wsL_law0_r23 ++ (wsL_law0_r24 ++ (wsL_law0_r25 ++ (wsL_law0_r26 ++ wsL_law0_r27)))))), w ∈ lw_tbl := fun w h => (List.mem_append.mp h).elim (fun h => wsL_law0_r21_in w h) (fun h => wsL_law0_r22_up w h)
theorem wsL_law0_r20_up : ∀ w ∈ (wsL_law0_r20 ++ (wsL_law0_r21 ++ (wsL_law0_r22 ++ (wsL_law0_r23 ++ (wsL_law0_r24 ++ (wsL_law0_r25 ++ (wsL_law0_r26 ++ wsL_law0_r27))))))), w ∈ lw_tbl := fun w h => (List.mem_append.mp h).elim (fun h => wsL_law0_r20_in w h) (fun h => wsL_law0_r21_up w h)
theorem wsL_law0_r19_up : ∀ w ∈ (wsL_law0_r19 ++ (wsL_law0_r20 ++ (wsL_law0_r21 ++ (wsL_law0_r22 ++ (wsL_law0_r23 ++ (wsL_law0_r24 ++ (wsL_law0_r25 ++ (wsL_law0_r26 ++ wsL_law0_r27)))))))), w ∈ lw_tbl := fun w h => (List.mem_append.mp h).elim (fun h => wsL_law0_r19_in w h) (fun h => wsL_law0_r20_up w h)
theorem wsL_law0_r18_up : ∀ w ∈ (wsL_law0_r18 ++ (wsL_law0_r19 ++ (wsL_law0_r20 ++ (wsL_law0_r21 ++ (wsL_law0_r22 ++ (wsL_law0_r23 ++ (wsL_law0_r24 ++ (wsL_law0_r25 ++ (wsL_law0_r26 ++ wsL_law0_r27))))))))), w ∈ lw_tbl := fun w h => (List.mem_append.mp h).elim (fun h => wsL_law0_r18_in w h) (fun h => wsL_law0_r19_up w h)
theorem wsL_law0_r17_up : ∀ w ∈ (wsL_law0_r17 ++ (wsL_law0_r18 ++ (wsL_law0_r19 ++ (wsL_law0_r20 ++ (wsL_law0_r21 ++ (wsL_law0_r22 ++ (wsL_law0_r23 ++ (wsL_law0_r24 ++ (wsL_law0_r25 ++ (wsL_law0_r26 ++ wsL_law0_r27)))))))))), w ∈ lw_tbl := fun w h => (List.mem_append.mp h).elim (fun h => wsL_law0_r17_in w h) (fun h => wsL_law0_r18_up w h)
theorem wsL_law0_r16_up : ∀ w ∈ (wsL_law0_r16 ++ (wsL_law0_r17 ++ (wsL_law0_r18 ++ (wsL_law0_r19 ++ (wsL_law0_r20 ++ (wsL_law0_r21 ++ (wsL_law0_r22 ++ (wsL_law0_r23 ++ (wsL_law0_r24 ++ (wsL_law0_r25 ++ (wsL_law0_r26 ++ wsL_law0_r27))))))))))), w ∈ lw_tbl := fun w h => (List.mem_append.mp h).elim (fun h => wsL_law0_r16_in w h) (fun h => wsL_law0_r17_up w h)
theorem wsL_law0_r15_up : ∀ w ∈ (wsL_law0_r15 ++ (wsL_law0_r16 ++ (wsL_law0_r17 ++ (wsL_law0_r18 ++ (wsL_law0_r19 ++ (wsL_law0_r20 ++ (wsL_law0_r21 ++ (wsL_law0_r22 ++ (wsL_law0_r23 ++ (wsL_law0_r24 ++ (wsL_law0_r25 ++ (wsL_law0_r26 ++ wsL_law0_r27)))))))))))), w ∈ lw_tbl := fun w h => (List.mem_append.mp h).elim (fun h => wsL_law0_r15_in w h) (fun h => wsL_law0_r16_up w h)
theorem wsL_law0_r14_up : ∀ w ∈ (wsL_law0_r14 ++ (wsL_law0_r15 ++ (wsL_law0_r16 ++ (wsL_law0_r17 ++ (wsL_law0_r18 ++ (wsL_law0_r19 ++ (wsL_law0_r20 ++ (wsL_law0_r21 ++ (wsL_law0_r22 ++ (wsL_law0_r23 ++ (wsL_law0_r24 ++ (wsL_law0_r25 ++ (wsL_law0_r26 ++ wsL_law0_r27))))))))))))), w ∈ lw_tbl := fun w h => (List.mem_append.mp h).elim (fun h => wsL_law0_r14_in w h) (fun h => wsL_law0_r15_up w h)
theorem wsL_law0_r13_up : ∀ w ∈ (wsL_law0_r13 ++ (wsL_law0_r14 ++ (wsL_law0_r15 ++ (wsL_law0_r16 ++ (wsL_law0_r17 ++ (wsL_law0_r18 ++ (wsL_law0_r19 ++ (wsL_law0_r20 ++ (wsL_law0_r21 ++ (wsL_law0_r22 ++ (wsL_law0_r23 ++ (wsL_law0_r24 ++ (wsL_law0_r25 ++ (wsL_law0_r26 ++ wsL_law0_r27)))))))))))))), w ∈ lw_tbl := fun w h => (List.mem_append.mp h).elim (fun h => wsL_law0_r13_in w h) (fun h => wsL_law0_r14_up w h)
theorem wsL_law0_r12_up : ∀ w ∈ (wsL_law0_r12 ++ (wsL_law0_r13 ++ (wsL_law0_r14 ++ (wsL_law0_r15 ++ (wsL_law0_r16 ++ (wsL_law0_r17 ++ (wsL_law0_r18 ++ (wsL_law0_r19 ++ (wsL_law0_r20 ++ (wsL_law0_r21 ++ (wsL_law0_r22 ++ (wsL_law0_r23 ++ (wsL_law0_r24 ++ (wsL_law0_r25 ++ (wsL_law0_r26 ++ wsL_law0_r27))))))))))))))), w ∈ lw_tbl := fun w h => (List.mem_append.mp h).elim (fun h => wsL_law0_r12_in w h) (fun h => wsL_law0_r13_up w h)
theorem wsL_law0_r11_up : ∀ w ∈ (wsL_law0_r11 ++ (wsL_law0_r12 ++ (wsL_law0_r13 ++ (wsL_law0_r14 ++ (wsL_law0_r15 ++ (wsL_law0_r16 ++ (wsL_law0_r17 ++ (wsL_law0_r18 ++ (wsL_law0_r19 ++ (wsL_law0_r20 ++ (wsL_law0_r21 ++ (wsL_law0_r22 ++ (wsL_law0_r23 ++ (wsL_law0_r24 ++ (wsL_law0_r25 ++ (wsL_law0_r26 ++ wsL_law0_r27)))))))))))))))), w ∈ lw_tbl := fun w h => (List.mem_append.mp h).elim (fun h => wsL_law0_r11_in w h) (fun h => wsL_law0_r12_up w h)
theorem wsL_law0_r10_up : ∀ w ∈ (wsL_law0_r10 ++ (wsL_law0_r11 ++ (wsL_law0_r12 ++ (wsL_law0_r13 ++ (wsL_law0_r14 ++ (wsL_law0_r15 ++ (wsL_law0_r16 ++ (wsL_law0_r17 ++ (wsL_law0_r18 ++ (wsL_law0_r19 ++ (wsL_law0_r20 ++ (wsL_law0_r21 ++ (wsL_law0_r22 ++ (wsL_law0_r23 ++ (wsL_law0_r24 ++ (wsL_law0_r25 ++ (wsL_law0_r26 ++ wsL_law0_r27))))))))))))))))), w ∈ lw_tbl := fun w h => (List.mem_append.mp h).elim (fun h => wsL_law0_r10_in w h) (fun h => wsL_law0_r11_up w h)
theorem wsL_law0_r9_up : ∀ w ∈ (wsL_law0_r9 ++ (wsL_law0_r10 ++ (wsL_law0_r11 ++ (wsL_law0_r12 ++ (wsL_law0_r13 ++ (wsL_law0_r14 ++ (wsL_law0_r15 ++ (wsL_law0_r16 ++ (wsL_law0_r17 ++ (wsL_law0_r18 ++ (wsL_law0_r19 ++ (wsL_law0_r20 ++ (wsL_law0_r21 ++ (wsL_law0_r22 ++ (wsL_law0_r23 ++ (wsL_law0_r24 ++ (wsL_law0_r25 ++ (wsL_law0_r26 ++ wsL_law0_r27)))))))))))))))))), w ∈ lw_tbl := fun w h => (List.mem_append.mp h).elim (fun h => wsL_law0_r9_in w h) (fun h => wsL_law0_r10_up w h)
theorem wsL_law0_r8_up : ∀ w ∈ (wsL_law0_r8 ++ (wsL_law0_r9 ++ (wsL_law0_r10 ++ (wsL_law0_r11 ++ (wsL_law0_r12 ++ (wsL_law0_r13 ++ (wsL_law0_r14 ++ (wsL_law0_r15 ++ (wsL_law0_r16 ++ (wsL_law0_r17 ++ (wsL_law0_r18 ++ (wsL_law0_r19 ++ (wsL_law0_r20 ++ (wsL_law0_r21 ++ (wsL_law0_r22 ++ (wsL_law0_r23 ++ (wsL_law0_r24 ++ (wsL_law0_r25 ++ (wsL_law0_r26 ++ wsL_law0_r27))))))))))))))))))), w ∈ lw_tbl := fun w h => (List.mem_append.mp h).elim (fun h => wsL_law0_r8_in w h) (fun h => wsL_law0_r9_up w h)
theorem wsL_law0_r7_up : ∀ w ∈ (wsL_law0_r7 ++ (wsL_law0_r8 ++ (wsL_law0_r9 ++ (wsL_law0_r10 ++ (wsL_law0_r11 ++ (wsL_law0_r12 ++ (wsL_law0_r13 ++ (wsL_law0_r14 ++ (wsL_law0_r15 ++ (wsL_law0_r16 ++ (wsL_law0_r17 ++ (wsL_law0_r18 ++ (wsL_law0_r19 ++ (wsL_law0_r20 ++ (wsL_law0_r21 ++ (wsL_law0_r22 ++ (wsL_law0_r23 ++ (wsL_law0_r24 ++ (wsL_law0_r25 ++ (wsL_law0_r26 ++ wsL_law0_r27)))))))))))))))))))), w ∈ lw_tbl := fun w h => (List.mem_append.mp h).elim (fun h => wsL_law0_r7_in w h) (fun h => wsL_law0_r8_up w h)
theorem wsL_law0_r6_up : ∀ w ∈ (wsL_law0_r6 ++ (wsL_law0_r7 ++ (wsL_law0_r8 ++ (wsL_law0_r9 ++ (wsL_law0_r10 ++ (wsL_law0_r11 ++ (wsL_law0_r12 ++ (wsL_law0_r13 ++ (wsL_law0_r14 ++ (wsL_law0_r15 ++ (wsL_law0_r16 ++ (wsL_law0_r17 ++ (wsL_law0_r18 ++ (wsL_law0_r19 ++ (wsL_law0_r20 ++ (wsL_law0_r21 ++ (wsL_law0_r22 ++ (wsL_law0_r23 ++ (wsL_law0_r24 ++ (wsL_law0_r25 ++ (wsL_law0_r26 ++ wsL_law0_r27))))))))))))))))))))), w ∈ lw_tbl := fun w h => (List.mem_append.mp h).elim (fun h => wsL_law0_r6_in w h) (fun h => wsL_law0_r7_up w h)
theorem wsL_law0_r5_up : ∀ w ∈ (wsL_law0_r5 ++ (wsL_law0_r6 ++ (wsL_law0_r7 ++ (wsL_law0_r8 ++ (wsL_law0_r9 ++ (wsL_law0_r10 ++ (wsL_law0_r11 ++ (wsL_law0_r12 ++ (wsL_law0_r13 ++ (wsL_law0_r14 ++ (wsL_law0_r15 ++ (wsL_law0_r16 ++ (wsL_law0_r17 ++ (wsL_law0_r18 ++ (wsL_law0_r19 ++ (wsL_law0_r20 ++ (wsL_law0_r21 ++ (wsL_law0_r22 ++ (wsL_law0_r23 ++ (wsL_law0_r24 ++ (wsL_law0_r25 ++ (wsL_law0_r26 ++ wsL_law0_r27)))))))))))))))))))))), w ∈ lw_tbl := fun w h => (List.mem_append.mp h).elim (fun h => wsL_law0_r5_in w h) (fun h => wsL_law0_r6_up w h)
theorem wsL_law0_r4_up : ∀ w ∈ (wsL_law0_r4 ++ (wsL_law0_r5 ++ (wsL_law0_r6 ++ (wsL_law0_r7 ++ (wsL_law0_r8 ++ (wsL_law0_r9 ++ (wsL_law0_r10 ++ (wsL_law0_r11 ++ (wsL_law0_r12 ++ (wsL_law0_r13 ++ (wsL_law0_r14 ++ (wsL_law0_r15 ++ (wsL_law0_r16 ++ (wsL_law0_r17 ++ (wsL_law0_r18 ++ (wsL_law0_r19 ++ (wsL_law0_r20 ++ (wsL_law0_r21 ++ (wsL_law0_r22 ++ (wsL_law0_r23 ++ (wsL_law0_r24 ++ (wsL_law0_r25 ++ (wsL_law0_r26 ++ wsL_law0_r27))))))))))))))))))))))), w ∈ lw_tbl := fun w h => (List.mem_append.mp h).elim (fun h => wsL_law0_r4_in w h) (fun h => wsL_law0_r5_up w h)
theorem wsL_law0_r3_up : ∀ w ∈ (wsL_law0_r3 ++ (wsL_law0_r4 ++ (wsL_law0_r5 ++ (wsL_law0_r6 ++ (wsL_law0_r7 ++ (wsL_law0_r8 ++ (wsL_law0_r9 ++ (wsL_law0_r10 ++ (wsL_law0_r11 ++ (wsL_law0_r12 ++ (wsL_law0_r13 ++ (wsL_law0_r14 ++ (wsL_law0_r15 ++ (wsL_law0_r16 ++ (wsL_law0_r17 ++ (wsL_law0_r18 ++ (wsL_law0_r19 ++ (wsL_law0_r20 ++ (wsL_law0_r21 ++ (wsL_law0_r22 ++ (wsL_law0_r23 ++ (wsL_law0_r24 ++ (wsL_law0_r25 ++ (wsL_law0_r26 ++ wsL_law0_r27)))))))))))))))))))))))), w ∈ lw_tbl := fun w h => (List.mem_append.mp h).elim (fun h => wsL_law0_r3_in w h) (fun h => wsL_law0_r4_up w h)
theorem wsL_law0_r2_up : ∀ w ∈ (wsL_law0_r2 ++ (wsL_law0_r3 ++ (wsL_law0_r4 ++ (wsL_law0_r5 ++ (wsL_law0_r6 ++ (wsL_law0_r7 ++ (wsL_law0_r8 ++ (wsL_law0_r9 ++ (wsL_law0_r10 ++ (wsL_law0_r11 ++ (wsL_law0_r12 ++ (wsL_law0_r13 ++ (wsL_law0_r14 ++ (wsL_law0_r15 ++ (wsL_law0_r16 ++ (wsL_law0_r17 ++ (wsL_law0_r18 ++ (wsL_law0_r19 ++ (wsL_law0_r20 ++ (wsL_law0_r21 ++ (wsL_law0_r22 ++ (wsL_law0_r23 ++ (wsL_law0_r24 ++ (wsL_law0_r25 ++ (wsL_law0_r26 ++ wsL_law0_r27))))))))))))))))))))))))), w ∈ lw_tbl := fun w h => (List.mem_append.mp h).elim (fun h => wsL_law0_r2_in w h) (fun h => wsL_law0_r3_up w h)
theorem wsL_law0_r1_up : ∀ w ∈ (wsL_law0_r1 ++ (wsL_law0_r2 ++ (wsL_law0_r3 ++ (wsL_law0_r4 ++ (wsL_law0_r5 ++ (wsL_law0_r6 ++ (wsL_law0_r7 ++ (wsL_law0_r8 ++ (wsL_law0_r9 ++ (wsL_law0_r10 ++ (wsL_law0_r11 ++ (wsL_law0_r12 ++ (wsL_law0_r13 ++ (wsL_law0_r14 ++ (wsL_law0_r15 ++ (wsL_law0_r16 ++ (wsL_law0_r17 ++ (wsL_law0_r18 ++ (wsL_law0_r19 ++ (wsL_law0_r20 ++ (wsL_law0_r21 ++ (wsL_law0_r22 ++ (wsL_law0_r23 ++ (wsL_law0_r24 ++ (wsL_law0_r25 ++ (wsL_law0_r26 ++ wsL_law0_r27)))))))))))))))))))))))))), w ∈ lw_tbl := fun w h => (List.mem_append.mp h).elim (fun h => wsL_law0_r1_in w h) (fun h => wsL_law0_r2_up w h)
theorem wsl0_0 : ∀ w ∈ (wsL_law0_r1 ++ (wsL_law0_r2 ++ (wsL_law0_r3 ++ (wsL_law0_r4 ++ (wsL_law0_r5 ++ (wsL_law0_r6 ++ (wsL_law0_r7 ++ (wsL_law0_r8 ++ (wsL_law0_r9 ++ (wsL_law0_r10 ++ (wsL_law0_r11 ++ (wsL_law0_r12 ++ (wsL_law0_r13 ++ (wsL_law0_r14 ++ (wsL_law0_r15 ++ (wsL_law0_r16 ++ (wsL_law0_r17 ++ (wsL_law0_r18 ++ (wsL_law0_r19 ++ (wsL_law0_r20 ++ (wsL_law0_r21 ++ (wsL_law0_r22 ++ (wsL_law0_r23 ++ (wsL_law0_r24 ++ (wsL_law0_r25 ++ (wsL_law0_r26 ++ wsL_law0_r27)))))))))))))))))))))))))) ++ wsX60, w ∈ lw_tbl := fun w h => (List.mem_append.mp h).elim (fun h => wsL_law0_r1_up w h) (fun h => wsX60_tb w h)
theorem wsl0_1 : ∀ w ∈ (wsL_law0_r1 ++ (wsL_law0_r2 ++ (wsL_law0_r3 ++ (wsL_law0_r4 ++ (wsL_law0_r5 ++ (wsL_law0_r6 ++ (wsL_law0_r7 ++ (wsL_law0_r8 ++ (wsL_law0_r9 ++ (wsL_law0_r10 ++ (wsL_law0_r11 ++ (wsL_law0_r12 ++ (wsL_law0_r13 ++ (wsL_law0_r14 ++ (wsL_law0_r15 ++ (wsL_law0_r16 ++ (wsL_law0_r17 ++ (wsL_law0_r18 ++ (wsL_law0_r19 ++ (wsL_law0_r20 ++ (wsL_law0_r21 ++ (wsL_law0_r22 ++ (wsL_law0_r23 ++ (wsL_law0_r24 ++ (wsL_law0_r25 ++ (wsL_law0_r26 ++ wsL_law0_r27)))))))))))))))))))))))))) ++ wsX60 ++ wsX70, w ∈ lw_tbl := fun w h => (List.mem_append.mp h).elim (fun h => wsl0_0 w h) (fun h => wsX70_tb w h)
theorem wsl0_2 : ∀ w ∈ (wsL_law0_r1 ++ (wsL_law0_r2 ++ (wsL_law0_r3 ++ (wsL_law0_r4 ++ (wsL_law0_r5 ++ (wsL_law0_r6 ++ (wsL_law0_r7 ++ (wsL_law0_r8 ++ (wsL_law0_r9 ++ (wsL_law0_r10 ++ (wsL_law0_r11 ++ (wsL_law0_r12 ++ (wsL_law0_r13 ++ (wsL_law0_r14 ++ (wsL_law0_r15 ++ (wsL_law0_r16 ++ (wsL_law0_r17 ++ (wsL_law0_r18 ++ (wsL_law0_r19 ++ (wsL_law0_r20 ++ (wsL_law0_r21 ++ (wsL_law0_r22 ++ (wsL_law0_r23 ++ (wsL_law0_r24 ++ (wsL_law0_r25 ++ (wsL_law0_r26 ++ wsL_law0_r27)))))))))))))))))))))))))) ++ wsX60 ++ wsX70 ++ wsX10, w ∈ lw_tbl := fun w h => (List.mem_append.mp h).elim (fun h => wsl0_1 w h) (fun h => wsX10_tb w h)
theorem wsl0_3 : ∀ w ∈ (wsL_law0_r1 ++ (wsL_law0_r2 ++ (wsL_law0_r3 ++ (wsL_law0_r4 ++ (wsL_law0_r5 ++ (wsL_law0_r6 ++ (wsL_law0_r7 ++ (wsL_law0_r8 ++ (wsL_law0_r9 ++ (wsL_law0_r10 ++ (wsL_law0_r11 ++ (wsL_law0_r12 ++ (wsL_law0_r13 ++ (wsL_law0_r14 ++ (wsL_law0_r15 ++ (wsL_law0_r16 ++ (wsL_law0_r17 ++ (wsL_law0_r18 ++ (wsL_law0_r19 ++ (wsL_law0_r20 ++ (wsL_law0_r21 ++ (wsL_law0_r22 ++ (wsL_law0_r23 ++ (wsL_law0_r24 ++ (wsL_law0_r25 ++ (wsL_law0_r26 ++ wsL_law0_r27)))))))))))))))))))))))))) ++ wsX60 ++ wsX70 ++ wsX10 ++ wsX40, w ∈ lw_tbl := fun w h => (List.mem_append.mp h).elim (fun h => wsl0_2 w h) (fun h => wsX40_tb w h)
theorem wsl0_4 : ∀ w ∈ (wsL_law0_r1 ++ (wsL_law0_r2 ++ (wsL_law0_r3 ++ (wsL_law0_r4 ++ (wsL_law0_r5 ++ (wsL_law0_r6 ++ (wsL_law0_r7 ++ (wsL_law0_r8 ++ (wsL_law0_r9 ++ (wsL_law0_r10 ++ (wsL_law0_r11 ++ (wsL_law0_r12 ++ (wsL_law0_r13 ++ (wsL_law0_r14 ++ (wsL_law0_r15 ++ (wsL_law0_r16 ++ (wsL_law0_r17 ++ (wsL_law0_r18 ++ (wsL_law0_r19 ++ (wsL_law0_r20 ++ (wsL_law0_r21 ++ (wsL_law0_r22 ++ (wsL_law0_r23 ++ (wsL_law0_r24 ++ (wsL_law0_r25 ++ (wsL_law0_r26 ++ wsL_law0_r27)))))))))))))))))))))))))) ++ wsX60 ++ wsX70 ++ wsX10 ++ wsX40 ++ wsX00, w ∈ lw_tbl := fun w h => (List.mem_append.mp h).elim (fun h => wsl0_3 w h) (fun h => wsX00_tb w h)
theorem wsl0_5 : ∀ w ∈ (wsL_law0_r1 ++ (wsL_law0_r2 ++ (wsL_law0_r3 ++ (wsL_law0_r4 ++ (wsL_law0_r5 ++ (wsL_law0_r6 ++ (wsL_law0_r7 ++ (wsL_law0_r8 ++ (wsL_law0_r9 ++ (wsL_law0_r10 ++ (wsL_law0_r11 ++ (wsL_law0_r12 ++ (wsL_law0_r13 ++ (wsL_law0_r14 ++ (wsL_law0_r15 ++ (wsL_law0_r16 ++ (wsL_law0_r17 ++ (wsL_law0_r18 ++ (wsL_law0_r19 ++ (wsL_law0_r20 ++ (wsL_law0_r21 ++ (wsL_law0_r22 ++ (wsL_law0_r23 ++ (wsL_law0_r24 ++ (wsL_law0_r25 ++ (wsL_law0_r26 ++ wsL_law0_r27)))))))))))))))))))))))))) ++ wsX60 ++ wsX70 ++ wsX10 ++ wsX40 ++ wsX00 ++ wsX20, w ∈ lw_tbl := fun w h => (List.mem_append.mp h).elim (fun h => wsl0_4 w h) (fun h => wsX20_tb w h)
theorem wsl0_6 : ∀ w ∈ (wsL_law0_r1 ++ (wsL_law0_r2 ++ (wsL_law0_r3 ++ (wsL_law0_r4 ++ (wsL_law0_r5 ++ (wsL_law0_r6 ++ (wsL_law0_r7 ++ (wsL_law0_r8 ++ (wsL_law0_r9 ++ (wsL_law0_r10 ++ (wsL_law0_r11 ++ (wsL_law0_r12 ++ (wsL_law0_r13 ++ (wsL_law0_r14 ++ (wsL_law0_r15 ++ (wsL_law0_r16 ++ (wsL_law0_r17 ++ (wsL_law0_r18 ++ (wsL_law0_r19 ++ (wsL_law0_r20 ++ (wsL_law0_r21 ++ (wsL_law0_r22 ++ (wsL_law0_r23 ++ (wsL_law0_r24 ++ (wsL_law0_r25 ++ (wsL_law0_r26 ++ wsL_law0_r27)))))))))))))))))))))))))) ++ wsX60 ++ wsX70 ++ wsX10 ++ wsX40 ++ wsX00 ++ wsX20 ++ wsX30, w ∈ lw_tbl := fun w h => (List.mem_append.mp h).elim (fun h => wsl0_5 w h) (fun h => wsX30_tb w h)
theorem wsl0_7 : ∀ w ∈ (wsL_law0_r1 ++ (wsL_law0_r2 ++ (wsL_law0_r3 ++ (wsL_law0_r4 ++ (wsL_law0_r5 ++ (wsL_law0_r6 ++ (wsL_law0_r7 ++ (wsL_law0_r8 ++ (wsL_law0_r9 ++ (wsL_law0_r10 ++ (wsL_law0_r11 ++ (wsL_law0_r12 ++ (wsL_law0_r13 ++ (wsL_law0_r14 ++ (wsL_law0_r15 ++ (wsL_law0_r16 ++ (wsL_law0_r17 ++ (wsL_law0_r18 ++ (wsL_law0_r19 ++ (wsL_law0_r20 ++ (wsL_law0_r21 ++ (wsL_law0_r22 ++ (wsL_law0_r23 ++ (wsL_law0_r24 ++ (wsL_law0_r25 ++ (wsL_law0_r26 ++ wsL_law0_r27)))))))))))))))))))))))))) ++ wsX60 ++ wsX70 ++ wsX10 ++ wsX40 ++ wsX00 ++ wsX20 ++ wsX30 ++ wsX50, w ∈ lw_tbl := fun w h => (List.mem_append.mp h).elim (fun h => wsl0_6 w h) (fun h => wsX50_tb w h)
theorem wsL_law_in0 : ∀ w ∈ wsL_law0, w ∈ lw_tbl := fun w h => (List.mem_append.mp h).elim (fun h => wsl0_7 w h) (fun h => absurd h List.not_mem_nil)
theorem wsL_law_x0 : ∀ w ∈ (vx_atS RX6 240 "java/lang/IndexOutOfBoundsException" ["java/lang/RuntimeException", "java/lang/Exception"]).filter goodWord, w ∈ lw_tbl := by decide +kernel
theorem wsL_law_x1 : ∀ w ∈ (vx_atS RX6 126 "java/lang/IllegalArgumentException" ["java/lang/RuntimeException", "java/lang/Exception"]).filter goodWord, w ∈ lw_tbl := by decide +kernel
theorem wsL_law_x2 : ∀ w ∈ (vx_atS RX6 94 "java/lang/IllegalStateException" ["java/lang/RuntimeException", "java/lang/Exception"]).filter goodWord, w ∈ lw_tbl := by decide +kernel
theorem wsL_law_in : ∀ w ∈ wsL_law, w ∈ lw_tbl := fun w h => (List.mem_append.mp h).elim (fun h => (List.mem_append.mp h).elim (fun h => (List.mem_append.mp h).elim (fun h => wsL_law_in0 w h) (fun h => wsL_law_x0 w h)) (fun h => wsL_law_x1 w h)) (fun h => wsL_law_x2 w h)
theorem inlX0 : ∀ w ∈ wsX00, w ∈ wsL_law := fun _ h => List.mem_append_left _ (List.mem_append_left _ (List.mem_append_left _ (List.mem_append_left _ (List.mem_append_left _ (List.mem_append_left _ (List.mem_append_left _ (List.mem_append_right _ h)))))))
theorem inX0 : ∀ w ∈ wsX00, w ∈ lw_tbl := fun w h => wsL_law_in w (inlX0 w h)
theorem inlX1 : ∀ w ∈ wsX10, w ∈ wsL_law := fun _ h => List.mem_append_left _ (List.mem_append_left _ (List.mem_append_left _ (List.mem_append_left _ (List.mem_append_left _ (List.mem_append_left _ (List.mem_append_left _ (List.mem_append_left _ (List.mem_append_left _ (List.mem_append_right _ h)))))))))
theorem inX1 : ∀ w ∈ wsX10, w ∈ lw_tbl := fun w h => wsL_law_in w (inlX1 w h)
theorem inlX2 : ∀ w ∈ wsX20, w ∈ wsL_law := fun _ h => List.mem_append_left _ (List.mem_append_left _ (List.mem_append_left _ (List.mem_append_left _ (List.mem_append_left _ (List.mem_append_left _ (List.mem_append_right _ h))))))
theorem inX2 : ∀ w ∈ wsX20, w ∈ lw_tbl := fun w h => wsL_law_in w (inlX2 w h)
theorem inlX3 : ∀ w ∈ wsX30, w ∈ wsL_law := fun _ h => List.mem_append_left _ (List.mem_append_left _ (List.mem_append_left _ (List.mem_append_left _ (List.mem_append_left _ (List.mem_append_right _ h)))))
theorem inX3 : ∀ w ∈ wsX30, w ∈ lw_tbl := fun w h => wsL_law_in w (inlX3 w h)
theorem inlX4 : ∀ w ∈ wsX40, w ∈ wsL_law := fun _ h => List.mem_append_left _ (List.mem_append_left _ (List.mem_append_left _ (List.mem_append_left _ (List.mem_append_left _ (List.mem_append_left _ (List.mem_append_left _ (List.mem_append_left _ (List.mem_append_right _ h))))))))
theorem inX4 : ∀ w ∈ wsX40, w ∈ lw_tbl := fun w h => wsL_law_in w (inlX4 w h)
theorem inlX5 : ∀ w ∈ wsX50, w ∈ wsL_law := fun _ h => List.mem_append_left _ (List.mem_append_left _ (List.mem_append_left _ (List.mem_append_left _ (List.mem_append_right _ h))))
theorem inX5 : ∀ w ∈ wsX50, w ∈ lw_tbl := fun w h => wsL_law_in w (inlX5 w h)
theorem inlX6 : ∀ w ∈ wsX60, w ∈ wsL_law := fun _ h => List.mem_append_left _ (List.mem_append_left _ (List.mem_append_left _ (List.mem_append_left _ (List.mem_append_left _ (List.mem_append_left _ (List.mem_append_left _ (List.mem_append_left _ (List.mem_append_left _ (List.mem_append_left _ (List.mem_append_left _ (List.mem_append_right _ h)))))))))))
theorem inX6 : ∀ w ∈ wsX60, w ∈ lw_tbl := fun w h => wsL_law_in w (inlX6 w h)
theorem inlX7 : ∀ w ∈ wsX70, w ∈ wsL_law := fun _ h => List.mem_append_left _ (List.mem_append_left _ (List.mem_append_left _ (List.mem_append_left _ (List.mem_append_left _ (List.mem_append_left _ (List.mem_append_left _ (List.mem_append_left _ (List.mem_append_left _ (List.mem_append_left _ (List.mem_append_right _ h))))))))))
theorem inX7 : ∀ w ∈ wsX70, w ∈ lw_tbl := fun w h => wsL_law_in w (inlX7 w h)
theorem inJ6 : ∀ w ∈ wsJ60, w ∈ lw_tbl := by decide +kernel
theorem inJ0 : ∀ w ∈ wsJ00, w ∈ lw_tbl := by decide +kernel
end
section
theorem dX0_init_0 : decode cX0_init 0 = .ok (.aload_n 0, 1) := by decide +kernel
theorem dX0_init_1 : decode cX0_init 1 = .ok (.invokespecial 3, 3) := by decide +kernel
theorem dX0_init_4 : decode cX0_init 4 = .ok (.aload_n 0, 1) := by decide +kernel
theorem dX0_init_5 : decode cX0_init 5 = .ok (.bipush 12, 2) := by decide +kernel
theorem dX0_init_7 : decode cX0_init 7 = .ok (.newarray .int, 2) := by decide +kernel
theorem dX0_init_9 : decode cX0_init 9 = .ok (.putfield 9, 3) := by decide +kernel
theorem dX0_init_12 : decode cX0_init 12 = .ok (.aload_n 0, 1) := by decide +kernel
theorem dX0_init_13 : decode cX0_init 13 = .ok (.bipush 12, 2) := by decide +kernel
theorem dX0_init_15 : decode cX0_init 15 = .ok (.newarray .int, 2) := by decide +kernel
theorem dX0_init_17 : decode cX0_init 17 = .ok (.putfield 15, 3) := by decide +kernel
theorem dX0_init_20 : decode cX0_init 20 = .ok (.aload_n 0, 1) := by decide +kernel
theorem dX0_init_21 : decode cX0_init 21 = .ok (.bipush 12, 2) := by decide +kernel
theorem dX0_init_23 : decode cX0_init 23 = .ok (.bipush 10, 2) := by decide +kernel
theorem dX0_init_25 : decode cX0_init 25 = .ok (.multianewarray 18 2, 4) := by decide +kernel
theorem dX0_init_29 : decode cX0_init 29 = .ok (.putfield 20, 3) := by decide +kernel
theorem dX0_init_32 : decode cX0_init 32 = .ok (.aload_n 0, 1) := by decide +kernel
theorem dX0_init_33 : decode cX0_init 33 = .ok (.iconst 4, 1) := by decide +kernel
theorem dX0_init_34 : decode cX0_init 34 = .ok (.putfield 23, 3) := by decide +kernel
theorem dX0_init_37 : decode cX0_init 37 = .ok (.aload_n 0, 1) := by decide +kernel
theorem dX0_init_38 : decode cX0_init 38 = .ok (.iconst 2, 1) := by decide +kernel
theorem dX0_init_39 : decode cX0_init 39 = .ok (.putfield 27, 3) := by decide +kernel
theorem dX0_init_42 : decode cX0_init 42 = .ok (.return_, 1) := by decide +kernel
theorem dX0_append_0 : decode cX0_append 0 = .ok (.aload_n 0, 1) := by decide +kernel
theorem dX0_append_1 : decode cX0_append 1 = .ok (.getfield 30, 3) := by decide +kernel
theorem dX0_append_4 : decode cX0_append 4 = .ok (.istore_n 2, 1) := by decide +kernel
theorem dX0_append_5 : decode cX0_append 5 = .ok (.aload_n 0, 1) := by decide +kernel
theorem dX0_append_6 : decode cX0_append 6 = .ok (.getfield 9, 3) := by decide +kernel
theorem dX0_append_9 : decode cX0_append 9 = .ok (.iload_n 2, 1) := by decide +kernel
theorem dX0_append_10 : decode cX0_append 10 = .ok (.iload_n 1, 1) := by decide +kernel
theorem dX0_append_11 : decode cX0_append 11 = .ok (.iastore, 1) := by decide +kernel
theorem dX0_append_12 : decode cX0_append 12 = .ok (.aload_n 0, 1) := by decide +kernel
theorem dX0_append_13 : decode cX0_append 13 = .ok (.dup, 1) := by decide +kernel
theorem dX0_append_14 : decode cX0_append 14 = .ok (.getfield 30, 3) := by decide +kernel
theorem dX0_append_17 : decode cX0_append 17 = .ok (.iconst 1, 1) := by decide +kernel
theorem dX0_append_18 : decode cX0_append 18 = .ok (.iadd, 1) := by decide +kernel
theorem dX0_append_19 : decode cX0_append 19 = .ok (.putfield 30, 3) := by decide +kernel
theorem dX0_append_22 : decode cX0_append 22 = .ok (.iload_n 2, 1) := by decide +kernel
theorem dX0_append_23 : decode cX0_append 23 = .ok (.ireturn, 1) := by decide +kernel
theorem dX0_holds_0 : decode cX0_holds 0 = .ok (.iconst 0, 1) := by decide +kernel
theorem dX0_holds_1 : decode cX0_holds 1 = .ok (.istore_n 3, 1) := by decide +kernel
theorem dX0_holds_2 : decode cX0_holds 2 = .ok (.iload_n 3, 1) := by decide +kernel
theorem dX0_holds_3 : decode cX0_holds 3 = .ok (.aload_n 0, 1) := by decide +kernel
theorem dX0_holds_4 : decode cX0_holds 4 = .ok (.getfield 15, 3) := by decide +kernel
theorem dX0_holds_7 : decode cX0_holds 7 = .ok (.iload_n 1, 1) := by decide +kernel
theorem dX0_holds_8 : decode cX0_holds 8 = .ok (.iaload, 1) := by decide +kernel
theorem dX0_holds_9 : decode cX0_holds 9 = .ok (.if_icmp .ge 23, 3) := by decide +kernel
theorem dX0_holds_12 : decode cX0_holds 12 = .ok (.aload_n 0, 1) := by decide +kernel
theorem dX0_holds_13 : decode cX0_holds 13 = .ok (.getfield 20, 3) := by decide +kernel
theorem dX0_holds_16 : decode cX0_holds 16 = .ok (.iload_n 1, 1) := by decide +kernel
theorem dX0_holds_17 : decode cX0_holds 17 = .ok (.aaload, 1) := by decide +kernel
theorem dX0_holds_18 : decode cX0_holds 18 = .ok (.iload_n 3, 1) := by decide +kernel
theorem dX0_holds_19 : decode cX0_holds 19 = .ok (.iaload, 1) := by decide +kernel
theorem dX0_holds_20 : decode cX0_holds 20 = .ok (.iload_n 2, 1) := by decide +kernel
theorem dX0_holds_21 : decode cX0_holds 21 = .ok (.if_icmp .ne 5, 3) := by decide +kernel
theorem dX0_holds_24 : decode cX0_holds 24 = .ok (.iconst 1, 1) := by decide +kernel
theorem dX0_holds_25 : decode cX0_holds 25 = .ok (.ireturn, 1) := by decide +kernel
theorem dX0_holds_26 : decode cX0_holds 26 = .ok (.iinc 3 1, 3) := by decide +kernel
theorem dX0_holds_29 : decode cX0_holds 29 = .ok (.goto (-27), 3) := by decide +kernel
theorem dX0_holds_32 : decode cX0_holds 32 = .ok (.iconst 0, 1) := by decide +kernel
theorem dX0_holds_33 : decode cX0_holds 33 = .ok (.ireturn, 1) := by decide +kernel
theorem dX0_putBehind_0 : decode cX0_putBehind 0 = .ok (.aload_n 0, 1) := by decide +kernel
theorem dX0_putBehind_1 : decode cX0_putBehind 1 = .ok (.getfield 20, 3) := by decide +kernel
theorem dX0_putBehind_4 : decode cX0_putBehind 4 = .ok (.iload_n 1, 1) := by decide +kernel
theorem dX0_putBehind_5 : decode cX0_putBehind 5 = .ok (.aaload, 1) := by decide +kernel
theorem dX0_putBehind_6 : decode cX0_putBehind 6 = .ok (.aload_n 0, 1) := by decide +kernel
theorem dX0_putBehind_7 : decode cX0_putBehind 7 = .ok (.getfield 15, 3) := by decide +kernel
theorem dX0_putBehind_10 : decode cX0_putBehind 10 = .ok (.iload_n 1, 1) := by decide +kernel
theorem dX0_putBehind_11 : decode cX0_putBehind 11 = .ok (.iaload, 1) := by decide +kernel
theorem dX0_putBehind_12 : decode cX0_putBehind 12 = .ok (.iload_n 2, 1) := by decide +kernel
theorem dX0_putBehind_13 : decode cX0_putBehind 13 = .ok (.iastore, 1) := by decide +kernel
theorem dX0_putBehind_14 : decode cX0_putBehind 14 = .ok (.aload_n 0, 1) := by decide +kernel
theorem dX0_putBehind_15 : decode cX0_putBehind 15 = .ok (.getfield 15, 3) := by decide +kernel
theorem dX0_putBehind_18 : decode cX0_putBehind 18 = .ok (.iload_n 1, 1) := by decide +kernel
theorem dX0_putBehind_19 : decode cX0_putBehind 19 = .ok (.dup2, 1) := by decide +kernel
theorem dX0_putBehind_20 : decode cX0_putBehind 20 = .ok (.iaload, 1) := by decide +kernel
theorem dX0_putBehind_21 : decode cX0_putBehind 21 = .ok (.iconst 1, 1) := by decide +kernel
theorem dX0_putBehind_22 : decode cX0_putBehind 22 = .ok (.iadd, 1) := by decide +kernel
theorem dX0_putBehind_23 : decode cX0_putBehind 23 = .ok (.iastore, 1) := by decide +kernel
theorem dX0_putBehind_24 : decode cX0_putBehind 24 = .ok (.aload_n 0, 1) := by decide +kernel
theorem dX0_putBehind_25 : decode cX0_putBehind 25 = .ok (.getfield 15, 3) := by decide +kernel
theorem dX0_putBehind_28 : decode cX0_putBehind 28 = .ok (.iload_n 1, 1) := by decide +kernel
theorem dX0_putBehind_29 : decode cX0_putBehind 29 = .ok (.iaload, 1) := by decide +kernel
theorem dX0_putBehind_30 : decode cX0_putBehind 30 = .ok (.ireturn, 1) := by decide +kernel
theorem dX0_takeOut_0 : decode cX0_takeOut 0 = .ok (.aload_n 0, 1) := by decide +kernel
theorem dX0_takeOut_1 : decode cX0_takeOut 1 = .ok (.getfield 20, 3) := by decide +kernel
theorem dX0_takeOut_4 : decode cX0_takeOut 4 = .ok (.iload_n 1, 1) := by decide +kernel
theorem dX0_takeOut_5 : decode cX0_takeOut 5 = .ok (.aaload, 1) := by decide +kernel
theorem dX0_takeOut_6 : decode cX0_takeOut 6 = .ok (.iload_n 2, 1) := by decide +kernel
theorem dX0_takeOut_7 : decode cX0_takeOut 7 = .ok (.iaload, 1) := by decide +kernel
theorem dX0_takeOut_8 : decode cX0_takeOut 8 = .ok (.istore_n 3, 1) := by decide +kernel
theorem dX0_takeOut_9 : decode cX0_takeOut 9 = .ok (.aload_n 0, 1) := by decide +kernel
theorem dX0_takeOut_10 : decode cX0_takeOut 10 = .ok (.getfield 15, 3) := by decide +kernel
theorem dX0_takeOut_13 : decode cX0_takeOut 13 = .ok (.iload_n 1, 1) := by decide +kernel
theorem dX0_takeOut_14 : decode cX0_takeOut 14 = .ok (.dup2, 1) := by decide +kernel
theorem dX0_takeOut_15 : decode cX0_takeOut 15 = .ok (.iaload, 1) := by decide +kernel
theorem dX0_takeOut_16 : decode cX0_takeOut 16 = .ok (.iconst 1, 1) := by decide +kernel
theorem dX0_takeOut_17 : decode cX0_takeOut 17 = .ok (.isub, 1) := by decide +kernel
theorem dX0_takeOut_18 : decode cX0_takeOut 18 = .ok (.iastore, 1) := by decide +kernel
theorem dX0_takeOut_19 : decode cX0_takeOut 19 = .ok (.iload_n 2, 1) := by decide +kernel
theorem dX0_takeOut_20 : decode cX0_takeOut 20 = .ok (.istore 4, 2) := by decide +kernel
theorem dX0_takeOut_22 : decode cX0_takeOut 22 = .ok (.iload 4, 2) := by decide +kernel
theorem dX0_takeOut_24 : decode cX0_takeOut 24 = .ok (.aload_n 0, 1) := by decide +kernel
theorem dX0_takeOut_25 : decode cX0_takeOut 25 = .ok (.getfield 15, 3) := by decide +kernel
theorem dX0_takeOut_28 : decode cX0_takeOut 28 = .ok (.iload_n 1, 1) := by decide +kernel
theorem dX0_takeOut_29 : decode cX0_takeOut 29 = .ok (.iaload, 1) := by decide +kernel
theorem dX0_takeOut_30 : decode cX0_takeOut 30 = .ok (.if_icmp .ge 29, 3) := by decide +kernel
theorem dX0_takeOut_33 : decode cX0_takeOut 33 = .ok (.aload_n 0, 1) := by decide +kernel
theorem dX0_takeOut_34 : decode cX0_takeOut 34 = .ok (.getfield 20, 3) := by decide +kernel
theorem dX0_takeOut_37 : decode cX0_takeOut 37 = .ok (.iload_n 1, 1) := by decide +kernel
theorem dX0_takeOut_38 : decode cX0_takeOut 38 = .ok (.aaload, 1) := by decide +kernel
theorem dX0_takeOut_39 : decode cX0_takeOut 39 = .ok (.iload 4, 2) := by decide +kernel
theorem dX0_takeOut_41 : decode cX0_takeOut 41 = .ok (.aload_n 0, 1) := by decide +kernel
theorem dX0_takeOut_42 : decode cX0_takeOut 42 = .ok (.getfield 20, 3) := by decide +kernel
theorem dX0_takeOut_45 : decode cX0_takeOut 45 = .ok (.iload_n 1, 1) := by decide +kernel
theorem dX0_takeOut_46 : decode cX0_takeOut 46 = .ok (.aaload, 1) := by decide +kernel
theorem dX0_takeOut_47 : decode cX0_takeOut 47 = .ok (.iload 4, 2) := by decide +kernel
theorem dX0_takeOut_49 : decode cX0_takeOut 49 = .ok (.iconst 1, 1) := by decide +kernel
theorem dX0_takeOut_50 : decode cX0_takeOut 50 = .ok (.iadd, 1) := by decide +kernel
theorem dX0_takeOut_51 : decode cX0_takeOut 51 = .ok (.iaload, 1) := by decide +kernel
theorem dX0_takeOut_52 : decode cX0_takeOut 52 = .ok (.iastore, 1) := by decide +kernel
theorem dX0_takeOut_53 : decode cX0_takeOut 53 = .ok (.iinc 4 1, 3) := by decide +kernel
theorem dX0_takeOut_56 : decode cX0_takeOut 56 = .ok (.goto (-34), 3) := by decide +kernel
theorem dX0_takeOut_59 : decode cX0_takeOut 59 = .ok (.iload_n 3, 1) := by decide +kernel
theorem dX0_takeOut_60 : decode cX0_takeOut 60 = .ok (.ireturn, 1) := by decide +kernel
theorem dX0_placesOf_0 : decode cX0_placesOf 0 = .ok (.iconst 0, 1) := by decide +kernel
theorem dX0_placesOf_1 : decode cX0_placesOf 1 = .ok (.istore 4, 2) := by decide +kernel
theorem dX0_placesOf_3 : decode cX0_placesOf 3 = .ok (.iconst 0, 1) := by decide +kernel
theorem dX0_placesOf_4 : decode cX0_placesOf 4 = .ok (.istore 5, 2) := by decide +kernel
theorem dX0_placesOf_6 : decode cX0_placesOf 6 = .ok (.iload 5, 2) := by decide +kernel
theorem dX0_placesOf_8 : decode cX0_placesOf 8 = .ok (.aload_n 0, 1) := by decide +kernel
theorem dX0_placesOf_9 : decode cX0_placesOf 9 = .ok (.getfield 15, 3) := by decide +kernel
theorem dX0_placesOf_12 : decode cX0_placesOf 12 = .ok (.iload_n 1, 1) := by decide +kernel
theorem dX0_placesOf_13 : decode cX0_placesOf 13 = .ok (.iaload, 1) := by decide +kernel
theorem dX0_placesOf_14 : decode cX0_placesOf 14 = .ok (.if_icmp .ge 36, 3) := by decide +kernel
theorem dX0_placesOf_17 : decode cX0_placesOf 17 = .ok (.aload_n 3, 1) := by decide +kernel
theorem dX0_placesOf_18 : decode cX0_placesOf 18 = .ok (.getfield 33, 3) := by decide +kernel
theorem dX0_placesOf_21 : decode cX0_placesOf 21 = .ok (.aload_n 0, 1) := by decide +kernel
theorem dX0_placesOf_22 : decode cX0_placesOf 22 = .ok (.getfield 20, 3) := by decide +kernel
theorem dX0_placesOf_25 : decode cX0_placesOf 25 = .ok (.iload_n 1, 1) := by decide +kernel
theorem dX0_placesOf_26 : decode cX0_placesOf 26 = .ok (.aaload, 1) := by decide +kernel
theorem dX0_placesOf_27 : decode cX0_placesOf 27 = .ok (.iload 5, 2) := by decide +kernel
theorem dX0_placesOf_29 : decode cX0_placesOf 29 = .ok (.iaload, 1) := by decide +kernel
theorem dX0_placesOf_30 : decode cX0_placesOf 30 = .ok (.iaload, 1) := by decide +kernel
theorem dX0_placesOf_31 : decode cX0_placesOf 31 = .ok (.iload_n 2, 1) := by decide +kernel
theorem dX0_placesOf_32 : decode cX0_placesOf 32 = .ok (.if_icmp .ne 12, 3) := by decide +kernel
theorem dX0_placesOf_35 : decode cX0_placesOf 35 = .ok (.iload 4, 2) := by decide +kernel
theorem dX0_placesOf_37 : decode cX0_placesOf 37 = .ok (.iconst 1, 1) := by decide +kernel
theorem dX0_placesOf_38 : decode cX0_placesOf 38 = .ok (.iload 5, 2) := by decide +kernel
theorem dX0_placesOf_40 : decode cX0_placesOf 40 = .ok (.ishl, 1) := by decide +kernel
theorem dX0_placesOf_41 : decode cX0_placesOf 41 = .ok (.ior, 1) := by decide +kernel
theorem dX0_placesOf_42 : decode cX0_placesOf 42 = .ok (.istore 4, 2) := by decide +kernel
theorem dX0_placesOf_44 : decode cX0_placesOf 44 = .ok (.iinc 5 1, 3) := by decide +kernel
theorem dX0_placesOf_47 : decode cX0_placesOf 47 = .ok (.goto (-41), 3) := by decide +kernel
theorem dX0_placesOf_50 : decode cX0_placesOf 50 = .ok (.iload 4, 2) := by decide +kernel
theorem dX0_placesOf_52 : decode cX0_placesOf 52 = .ok (.ireturn, 1) := by decide +kernel
set_option maxRecDepth 20000 in
theorem ggX0_countOf_X0_placesOf : GoodIn wsX0_countOf wsX0_placesOf := goodIn_r _ [5, 6, 7, 8, 16, 17, 18, 19, 20, 21, 22, 23, 24, 25] (by decide +kernel) (by decide +kernel)
set_option maxRecDepth 20000 in
theorem gX0_countOf_X0_placesOf : GoodIn wsX0_countOf (wsV RX0 38 RX0 yX0_placesOf wsX0_placesOf) := goodIn_app (goodIn_of _ (by decide +kernel)) ggX0_countOf_X0_placesOf
set_option maxRecDepth 20000 in
theorem ggX0_countOf_J6_bitCount_0f7a4 : GoodIn wsX0_countOf wsJ6_bitCount_0f7a4 := goodIn_r _ [12, 13, 14, 15] (by decide +kernel) (by decide +kernel)
set_option maxRecDepth 20000 in
theorem gX0_countOf_J6_bitCount_0f7a4 : GoodIn wsX0_countOf (va_wsS RX0 42 yJ6_bitCount_0f7a4 wsJ6_bitCount_0f7a4) := goodIn_app (goodIn_of _ (by decide +kernel)) ggX0_countOf_J6_bitCount_0f7a4
theorem dX0_countOf_0 : decode cX0_countOf 0 = .ok (.aload_n 0, 1) := by decide +kernel
theorem dX0_countOf_1 : decode cX0_countOf 1 = .ok (.iload_n 1, 1) := by decide +kernel
theorem dX0_countOf_2 : decode cX0_countOf 2 = .ok (.iload_n 2, 1) := by decide +kernel
theorem dX0_countOf_3 : decode cX0_countOf 3 = .ok (.aload_n 3, 1) := by decide +kernel
theorem dX0_countOf_4 : decode cX0_countOf 4 = .ok (.invokevirtual 38, 3) := by decide +kernel
theorem dX0_countOf_7 : decode cX0_countOf 7 = .ok (.invokestatic 42, 3) := by decide +kernel
theorem dX0_countOf_10 : decode cX0_countOf 10 = .ok (.ireturn, 1) := by decide +kernel
set_option maxRecDepth 20000 in
theorem ggX0_fitsFormat_X0_countOf : GoodIn wsX0_fitsFormat wsX0_countOf := goodIn_r _ [13, 14, 15, 16, 12, 17, 1, 4, 3, 18, 19, 20, 21, 22, 23, 24, 25, 26, 27, 28, 29, 30, 31, 32, 33, 34] (by decide +kernel) (by decide +kernel)
set_option maxRecDepth 20000 in
theorem gX0_fitsFormat_X0_countOf : GoodIn wsX0_fitsFormat (wsV RX0 57 RX0 yX0_countOf wsX0_countOf) := goodIn_app (goodIn_of _ (by decide +kernel)) ggX0_fitsFormat_X0_countOf
theorem dX0_fitsFormat_0 : decode cX0_fitsFormat 0 = .ok (.aload_n 0, 1) := by decide +kernel
theorem dX0_fitsFormat_1 : decode cX0_fitsFormat 1 = .ok (.getfield 15, 3) := by decide +kernel
theorem dX0_fitsFormat_4 : decode cX0_fitsFormat 4 = .ok (.iload_n 1, 1) := by decide +kernel
theorem dX0_fitsFormat_5 : decode cX0_fitsFormat 5 = .ok (.iaload, 1) := by decide +kernel
theorem dX0_fitsFormat_6 : decode cX0_fitsFormat 6 = .ok (.aload_n 0, 1) := by decide +kernel
theorem dX0_fitsFormat_7 : decode cX0_fitsFormat 7 = .ok (.getfield 23, 3) := by decide +kernel
theorem dX0_fitsFormat_10 : decode cX0_fitsFormat 10 = .ok (.if_icmp .eq 5, 3) := by decide +kernel
theorem dX0_fitsFormat_13 : decode cX0_fitsFormat 13 = .ok (.iconst 0, 1) := by decide +kernel
theorem dX0_fitsFormat_14 : decode cX0_fitsFormat 14 = .ok (.ireturn, 1) := by decide +kernel
theorem dX0_fitsFormat_15 : decode cX0_fitsFormat 15 = .ok (.iconst 0, 1) := by decide +kernel
theorem dX0_fitsFormat_16 : decode cX0_fitsFormat 16 = .ok (.istore 4, 2) := by decide +kernel
theorem dX0_fitsFormat_18 : decode cX0_fitsFormat 18 = .ok (.iload 4, 2) := by decide +kernel
theorem dX0_fitsFormat_20 : decode cX0_fitsFormat 20 = .ok (.aload_n 0, 1) := by decide +kernel
theorem dX0_fitsFormat_21 : decode cX0_fitsFormat 21 = .ok (.getfield 15, 3) := by decide +kernel
theorem dX0_fitsFormat_24 : decode cX0_fitsFormat 24 = .ok (.iload_n 1, 1) := by decide +kernel
theorem dX0_fitsFormat_25 : decode cX0_fitsFormat 25 = .ok (.iaload, 1) := by decide +kernel
theorem dX0_fitsFormat_26 : decode cX0_fitsFormat 26 = .ok (.if_icmp .ge 74, 3) := by decide +kernel
theorem dX0_fitsFormat_29 : decode cX0_fitsFormat 29 = .ok (.aload_n 0, 1) := by decide +kernel
theorem dX0_fitsFormat_30 : decode cX0_fitsFormat 30 = .ok (.getfield 20, 3) := by decide +kernel
theorem dX0_fitsFormat_33 : decode cX0_fitsFormat 33 = .ok (.iload_n 1, 1) := by decide +kernel
theorem dX0_fitsFormat_34 : decode cX0_fitsFormat 34 = .ok (.aaload, 1) := by decide +kernel
theorem dX0_fitsFormat_35 : decode cX0_fitsFormat 35 = .ok (.iload 4, 2) := by decide +kernel
theorem dX0_fitsFormat_37 : decode cX0_fitsFormat 37 = .ok (.iaload, 1) := by decide +kernel
theorem dX0_fitsFormat_38 : decode cX0_fitsFormat 38 = .ok (.istore 5, 2) := by decide +kernel
theorem dX0_fitsFormat_40 : decode cX0_fitsFormat 40 = .ok (.aload_n 3, 1) := by decide +kernel
theorem dX0_fitsFormat_41 : decode cX0_fitsFormat 41 = .ok (.getfield 33, 3) := by decide +kernel
theorem dX0_fitsFormat_44 : decode cX0_fitsFormat 44 = .ok (.iload 5, 2) := by decide +kernel
theorem dX0_fitsFormat_46 : decode cX0_fitsFormat 46 = .ok (.iaload, 1) := by decide +kernel
theorem dX0_fitsFormat_47 : decode cX0_fitsFormat 47 = .ok (.istore 6, 2) := by decide +kernel
theorem dX0_fitsFormat_49 : decode cX0_fitsFormat 49 = .ok (.aload_n 3, 1) := by decide +kernel
theorem dX0_fitsFormat_50 : decode cX0_fitsFormat 50 = .ok (.getfield 48, 3) := by decide +kernel
theorem dX0_fitsFormat_53 : decode cX0_fitsFormat 53 = .ok (.iload 5, 2) := by decide +kernel
theorem dX0_fitsFormat_55 : decode cX0_fitsFormat 55 = .ok (.iaload, 1) := by decide +kernel
theorem dX0_fitsFormat_56 : decode cX0_fitsFormat 56 = .ok (.aload_n 0, 1) := by decide +kernel
theorem dX0_fitsFormat_57 : decode cX0_fitsFormat 57 = .ok (.getfield 9, 3) := by decide +kernel
theorem dX0_fitsFormat_60 : decode cX0_fitsFormat 60 = .ok (.iload_n 1, 1) := by decide +kernel
theorem dX0_fitsFormat_61 : decode cX0_fitsFormat 61 = .ok (.iaload, 1) := by decide +kernel
theorem dX0_fitsFormat_62 : decode cX0_fitsFormat 62 = .ok (.if_icmp .ne 13, 3) := by decide +kernel
theorem dX0_fitsFormat_65 : decode cX0_fitsFormat 65 = .ok (.aload_n 2, 1) := by decide +kernel
theorem dX0_fitsFormat_66 : decode cX0_fitsFormat 66 = .ok (.getfield 51, 3) := by decide +kernel
theorem dX0_fitsFormat_69 : decode cX0_fitsFormat 69 = .ok (.iload 6, 2) := by decide +kernel
theorem dX0_fitsFormat_71 : decode cX0_fitsFormat 71 = .ok (.baload, 1) := by decide +kernel
theorem dX0_fitsFormat_72 : decode cX0_fitsFormat 72 = .ok (.ifCond .eq 5, 3) := by decide +kernel
theorem dX0_fitsFormat_75 : decode cX0_fitsFormat 75 = .ok (.iconst 0, 1) := by decide +kernel
theorem dX0_fitsFormat_76 : decode cX0_fitsFormat 76 = .ok (.ireturn, 1) := by decide +kernel
theorem dX0_fitsFormat_77 : decode cX0_fitsFormat 77 = .ok (.aload_n 0, 1) := by decide +kernel
theorem dX0_fitsFormat_78 : decode cX0_fitsFormat 78 = .ok (.iload_n 1, 1) := by decide +kernel
theorem dX0_fitsFormat_79 : decode cX0_fitsFormat 79 = .ok (.iload 6, 2) := by decide +kernel
theorem dX0_fitsFormat_81 : decode cX0_fitsFormat 81 = .ok (.aload_n 3, 1) := by decide +kernel
theorem dX0_fitsFormat_82 : decode cX0_fitsFormat 82 = .ok (.invokevirtual 57, 3) := by decide +kernel
theorem dX0_fitsFormat_85 : decode cX0_fitsFormat 85 = .ok (.aload_n 0, 1) := by decide +kernel
theorem dX0_fitsFormat_86 : decode cX0_fitsFormat 86 = .ok (.getfield 27, 3) := by decide +kernel
theorem dX0_fitsFormat_89 : decode cX0_fitsFormat 89 = .ok (.if_icmp .le 5, 3) := by decide +kernel
theorem dX0_fitsFormat_92 : decode cX0_fitsFormat 92 = .ok (.iconst 0, 1) := by decide +kernel
theorem dX0_fitsFormat_93 : decode cX0_fitsFormat 93 = .ok (.ireturn, 1) := by decide +kernel
theorem dX0_fitsFormat_94 : decode cX0_fitsFormat 94 = .ok (.iinc 4 1, 3) := by decide +kernel
theorem dX0_fitsFormat_97 : decode cX0_fitsFormat 97 = .ok (.goto (-79), 3) := by decide +kernel
theorem dX0_fitsFormat_100 : decode cX0_fitsFormat 100 = .ok (.iconst 1, 1) := by decide +kernel
theorem dX0_fitsFormat_101 : decode cX0_fitsFormat 101 = .ok (.ireturn, 1) := by decide +kernel
set_option maxRecDepth 20000 in
theorem ggX0_countFitting_X0_fitsFormat : GoodIn wsX0_countFitting wsX0_fitsFormat := goodIn_r _ [6, 7, 8, 9, 10, 11, 12, 13, 14, 15, 16, 17, 5, 18, 19, 20, 21, 22, 23, 24, 25, 26, 27, 28, 29, 30, 31, 32, 33, 34, 35, 36, 37, 38, 39, 40, 41, 42, 43, 44] (by decide +kernel) (by decide +kernel)
set_option maxRecDepth 20000 in
theorem gX0_countFitting_X0_fitsFormat : GoodIn wsX0_countFitting (wsV RX0 60 RX0 yX0_fitsFormat wsX0_fitsFormat) := goodIn_app (goodIn_of _ (by decide +kernel)) ggX0_countFitting_X0_fitsFormat
theorem dX0_countFitting_0 : decode cX0_countFitting 0 = .ok (.iconst 0, 1) := by decide +kernel
theorem dX0_countFitting_1 : decode cX0_countFitting 1 = .ok (.istore_n 3, 1) := by decide +kernel
theorem dX0_countFitting_2 : decode cX0_countFitting 2 = .ok (.iconst 0, 1) := by decide +kernel
theorem dX0_countFitting_3 : decode cX0_countFitting 3 = .ok (.istore 4, 2) := by decide +kernel
theorem dX0_countFitting_5 : decode cX0_countFitting 5 = .ok (.iload 4, 2) := by decide +kernel
theorem dX0_countFitting_7 : decode cX0_countFitting 7 = .ok (.aload_n 0, 1) := by decide +kernel
theorem dX0_countFitting_8 : decode cX0_countFitting 8 = .ok (.getfield 30, 3) := by decide +kernel
theorem dX0_countFitting_11 : decode cX0_countFitting 11 = .ok (.if_icmp .ge 23, 3) := by decide +kernel
theorem dX0_countFitting_14 : decode cX0_countFitting 14 = .ok (.aload_n 0, 1) := by decide +kernel
theorem dX0_countFitting_15 : decode cX0_countFitting 15 = .ok (.iload 4, 2) := by decide +kernel
theorem dX0_countFitting_17 : decode cX0_countFitting 17 = .ok (.aload_n 1, 1) := by decide +kernel
theorem dX0_countFitting_18 : decode cX0_countFitting 18 = .ok (.aload_n 2, 1) := by decide +kernel
theorem dX0_countFitting_19 : decode cX0_countFitting 19 = .ok (.invokevirtual 60, 3) := by decide +kernel
theorem dX0_countFitting_22 : decode cX0_countFitting 22 = .ok (.ifCond .eq 6, 3) := by decide +kernel
theorem dX0_countFitting_25 : decode cX0_countFitting 25 = .ok (.iinc 3 1, 3) := by decide +kernel
theorem dX0_countFitting_28 : decode cX0_countFitting 28 = .ok (.iinc 4 1, 3) := by decide +kernel
theorem dX0_countFitting_31 : decode cX0_countFitting 31 = .ok (.goto (-26), 3) := by decide +kernel
theorem dX0_countFitting_34 : decode cX0_countFitting 34 = .ok (.iload_n 3, 1) := by decide +kernel
theorem dX0_countFitting_35 : decode cX0_countFitting 35 = .ok (.ireturn, 1) := by decide +kernel
theorem dX1_init_0 : decode cX1_init 0 = .ok (.aload_n 0, 1) := by decide +kernel
theorem dX1_init_1 : decode cX1_init 1 = .ok (.invokespecial 3, 3) := by decide +kernel
theorem dX1_init_4 : decode cX1_init 4 = .ok (.aload_n 0, 1) := by decide +kernel
theorem dX1_init_5 : decode cX1_init 5 = .ok (.bipush 16, 2) := by decide +kernel
theorem dX1_init_7 : decode cX1_init 7 = .ok (.newarray .int, 2) := by decide +kernel
theorem dX1_init_9 : decode cX1_init 9 = .ok (.putfield 9, 3) := by decide +kernel
theorem dX1_init_12 : decode cX1_init 12 = .ok (.aload_n 0, 1) := by decide +kernel
theorem dX1_init_13 : decode cX1_init 13 = .ok (.bipush 16, 2) := by decide +kernel
theorem dX1_init_15 : decode cX1_init 15 = .ok (.newarray .int, 2) := by decide +kernel
theorem dX1_init_17 : decode cX1_init 17 = .ok (.putfield 15, 3) := by decide +kernel
theorem dX1_init_20 : decode cX1_init 20 = .ok (.aload_n 0, 1) := by decide +kernel
theorem dX1_init_21 : decode cX1_init 21 = .ok (.bipush 16, 2) := by decide +kernel
theorem dX1_init_23 : decode cX1_init 23 = .ok (.newarray .boolean, 2) := by decide +kernel
theorem dX1_init_25 : decode cX1_init 25 = .ok (.putfield 18, 3) := by decide +kernel
theorem dX1_init_28 : decode cX1_init 28 = .ok (.aload_n 0, 1) := by decide +kernel
theorem dX1_init_29 : decode cX1_init 29 = .ok (.bipush 16, 2) := by decide +kernel
theorem dX1_init_31 : decode cX1_init 31 = .ok (.newarray .int, 2) := by decide +kernel
theorem dX1_init_33 : decode cX1_init 33 = .ok (.putfield 22, 3) := by decide +kernel
theorem dX1_init_36 : decode cX1_init 36 = .ok (.aload_n 0, 1) := by decide +kernel
theorem dX1_init_37 : decode cX1_init 37 = .ok (.bipush 16, 2) := by decide +kernel
theorem dX1_init_39 : decode cX1_init 39 = .ok (.newarray .int, 2) := by decide +kernel
theorem dX1_init_41 : decode cX1_init 41 = .ok (.putfield 25, 3) := by decide +kernel
theorem dX1_init_44 : decode cX1_init 44 = .ok (.return_, 1) := by decide +kernel
theorem dX2_init_0 : decode cX2_init 0 = .ok (.aload_n 0, 1) := by decide +kernel
theorem dX2_init_1 : decode cX2_init 1 = .ok (.invokespecial 3, 3) := by decide +kernel
theorem dX2_init_4 : decode cX2_init 4 = .ok (.aload_n 0, 1) := by decide +kernel
theorem dX2_init_5 : decode cX2_init 5 = .ok (.bipush 40, 2) := by decide +kernel
theorem dX2_init_7 : decode cX2_init 7 = .ok (.newarray .int, 2) := by decide +kernel
theorem dX2_init_9 : decode cX2_init 9 = .ok (.putfield 9, 3) := by decide +kernel
theorem dX2_init_12 : decode cX2_init 12 = .ok (.aload_n 0, 1) := by decide +kernel
theorem dX2_init_13 : decode cX2_init 13 = .ok (.bipush 40, 2) := by decide +kernel
theorem dX2_init_15 : decode cX2_init 15 = .ok (.newarray .int, 2) := by decide +kernel
theorem dX2_init_17 : decode cX2_init 17 = .ok (.putfield 15, 3) := by decide +kernel
theorem dX2_init_20 : decode cX2_init 20 = .ok (.aload_n 0, 1) := by decide +kernel
theorem dX2_init_21 : decode cX2_init 21 = .ok (.bipush 40, 2) := by decide +kernel
theorem dX2_init_23 : decode cX2_init 23 = .ok (.newarray .int, 2) := by decide +kernel
theorem dX2_init_25 : decode cX2_init 25 = .ok (.putfield 18, 3) := by decide +kernel
theorem dX2_init_28 : decode cX2_init 28 = .ok (.aload_n 0, 1) := by decide +kernel
theorem dX2_init_29 : decode cX2_init 29 = .ok (.bipush 40, 2) := by decide +kernel
theorem dX2_init_31 : decode cX2_init 31 = .ok (.newarray .int, 2) := by decide +kernel
theorem dX2_init_33 : decode cX2_init 33 = .ok (.putfield 21, 3) := by decide +kernel
theorem dX2_init_36 : decode cX2_init 36 = .ok (.aload_n 0, 1) := by decide +kernel
theorem dX2_init_37 : decode cX2_init 37 = .ok (.bipush 40, 2) := by decide +kernel
theorem dX2_init_39 : decode cX2_init 39 = .ok (.newarray .boolean, 2) := by decide +kernel
theorem dX2_init_41 : decode cX2_init 41 = .ok (.putfield 24, 3) := by decide +kernel
theorem dX2_init_44 : decode cX2_init 44 = .ok (.aload_n 0, 1) := by decide +kernel
theorem dX2_init_45 : decode cX2_init 45 = .ok (.iconst 4, 1) := by decide +kernel
theorem dX2_init_46 : decode cX2_init 46 = .ok (.newarray .int, 2) := by decide +kernel
theorem dX2_init_48 : decode cX2_init 48 = .ok (.putfield 28, 3) := by decide +kernel
theorem dX2_init_51 : decode cX2_init 51 = .ok (.return_, 1) := by decide +kernel
theorem dX2_append_0 : decode cX2_append 0 = .ok (.aload_n 0, 1) := by decide +kernel
theorem dX2_append_1 : decode cX2_append 1 = .ok (.getfield 31, 3) := by decide +kernel
theorem dX2_append_4 : decode cX2_append 4 = .ok (.istore 4, 2) := by decide +kernel
theorem dX2_append_6 : decode cX2_append 6 = .ok (.aload_n 0, 1) := by decide +kernel
theorem dX2_append_7 : decode cX2_append 7 = .ok (.getfield 9, 3) := by decide +kernel
theorem dX2_append_10 : decode cX2_append 10 = .ok (.iload 4, 2) := by decide +kernel
theorem dX2_append_12 : decode cX2_append 12 = .ok (.iload_n 1, 1) := by decide +kernel
theorem dX2_append_13 : decode cX2_append 13 = .ok (.iastore, 1) := by decide +kernel
theorem dX2_append_14 : decode cX2_append 14 = .ok (.aload_n 0, 1) := by decide +kernel
theorem dX2_append_15 : decode cX2_append 15 = .ok (.getfield 15, 3) := by decide +kernel
theorem dX2_append_18 : decode cX2_append 18 = .ok (.iload 4, 2) := by decide +kernel
theorem dX2_append_20 : decode cX2_append 20 = .ok (.aload_n 3, 1) := by decide +kernel
theorem dX2_append_21 : decode cX2_append 21 = .ok (.getfield 35, 3) := by decide +kernel
theorem dX2_append_24 : decode cX2_append 24 = .ok (.iload_n 1, 1) := by decide +kernel
theorem dX2_append_25 : decode cX2_append 25 = .ok (.iaload, 1) := by decide +kernel
theorem dX2_append_26 : decode cX2_append 26 = .ok (.iastore, 1) := by decide +kernel
theorem dX2_append_27 : decode cX2_append 27 = .ok (.aload_n 0, 1) := by decide +kernel
theorem dX2_append_28 : decode cX2_append 28 = .ok (.getfield 18, 3) := by decide +kernel
theorem dX2_append_31 : decode cX2_append 31 = .ok (.iload 4, 2) := by decide +kernel
theorem dX2_append_33 : decode cX2_append 33 = .ok (.iload_n 2, 1) := by decide +kernel
theorem dX2_append_34 : decode cX2_append 34 = .ok (.iastore, 1) := by decide +kernel
theorem dX2_append_35 : decode cX2_append 35 = .ok (.aload_n 0, 1) := by decide +kernel
theorem dX2_append_36 : decode cX2_append 36 = .ok (.getfield 21, 3) := by decide +kernel
theorem dX2_append_39 : decode cX2_append 39 = .ok (.iload 4, 2) := by decide +kernel
theorem dX2_append_41 : decode cX2_append 41 = .ok (.aload_n 3, 1) := by decide +kernel
theorem dX2_append_42 : decode cX2_append 42 = .ok (.getfield 40, 3) := by decide +kernel
theorem dX2_append_45 : decode cX2_append 45 = .ok (.iload_n 1, 1) := by decide +kernel
theorem dX2_append_46 : decode cX2_append 46 = .ok (.iaload, 1) := by decide +kernel
theorem dX2_append_47 : decode cX2_append 47 = .ok (.iastore, 1) := by decide +kernel
theorem dX2_append_48 : decode cX2_append 48 = .ok (.aload_n 0, 1) := by decide +kernel
theorem dX2_append_49 : decode cX2_append 49 = .ok (.getfield 24, 3) := by decide +kernel
theorem dX2_append_52 : decode cX2_append 52 = .ok (.iload 4, 2) := by decide +kernel
theorem dX2_append_54 : decode cX2_append 54 = .ok (.iconst 1, 1) := by decide +kernel
theorem dX2_append_55 : decode cX2_append 55 = .ok (.bastore, 1) := by decide +kernel
theorem dX2_append_56 : decode cX2_append 56 = .ok (.aload_n 0, 1) := by decide +kernel
theorem dX2_append_57 : decode cX2_append 57 = .ok (.dup, 1) := by decide +kernel
theorem dX2_append_58 : decode cX2_append 58 = .ok (.getfield 31, 3) := by decide +kernel
theorem dX2_append_61 : decode cX2_append 61 = .ok (.iconst 1, 1) := by decide +kernel
theorem dX2_append_62 : decode cX2_append 62 = .ok (.iadd, 1) := by decide +kernel
theorem dX2_append_63 : decode cX2_append 63 = .ok (.putfield 31, 3) := by decide +kernel
theorem dX2_append_66 : decode cX2_append 66 = .ok (.iload 4, 2) := by decide +kernel
theorem dX2_append_68 : decode cX2_append 68 = .ok (.ireturn, 1) := by decide +kernel
theorem dX2_hasLive_0 : decode cX2_hasLive 0 = .ok (.iconst 0, 1) := by decide +kernel
theorem dX2_hasLive_1 : decode cX2_hasLive 1 = .ok (.istore_n 2, 1) := by decide +kernel
theorem dX2_hasLive_2 : decode cX2_hasLive 2 = .ok (.iload_n 2, 1) := by decide +kernel
theorem dX2_hasLive_3 : decode cX2_hasLive 3 = .ok (.aload_n 0, 1) := by decide +kernel
theorem dX2_hasLive_4 : decode cX2_hasLive 4 = .ok (.getfield 31, 3) := by decide +kernel
theorem dX2_hasLive_7 : decode cX2_hasLive 7 = .ok (.if_icmp .ge 30, 3) := by decide +kernel
theorem dX2_hasLive_10 : decode cX2_hasLive 10 = .ok (.aload_n 0, 1) := by decide +kernel
theorem dX2_hasLive_11 : decode cX2_hasLive 11 = .ok (.getfield 24, 3) := by decide +kernel
theorem dX2_hasLive_14 : decode cX2_hasLive 14 = .ok (.iload_n 2, 1) := by decide +kernel
theorem dX2_hasLive_15 : decode cX2_hasLive 15 = .ok (.baload, 1) := by decide +kernel
theorem dX2_hasLive_16 : decode cX2_hasLive 16 = .ok (.ifCond .eq 15, 3) := by decide +kernel
theorem dX2_hasLive_19 : decode cX2_hasLive 19 = .ok (.aload_n 0, 1) := by decide +kernel
theorem dX2_hasLive_20 : decode cX2_hasLive 20 = .ok (.getfield 9, 3) := by decide +kernel
theorem dX2_hasLive_23 : decode cX2_hasLive 23 = .ok (.iload_n 2, 1) := by decide +kernel
theorem dX2_hasLive_24 : decode cX2_hasLive 24 = .ok (.iaload, 1) := by decide +kernel
theorem dX2_hasLive_25 : decode cX2_hasLive 25 = .ok (.iload_n 1, 1) := by decide +kernel
theorem dX2_hasLive_26 : decode cX2_hasLive 26 = .ok (.if_icmp .ne 5, 3) := by decide +kernel
theorem dX2_hasLive_29 : decode cX2_hasLive 29 = .ok (.iconst 1, 1) := by decide +kernel
theorem dX2_hasLive_30 : decode cX2_hasLive 30 = .ok (.ireturn, 1) := by decide +kernel
theorem dX2_hasLive_31 : decode cX2_hasLive 31 = .ok (.iinc 2 1, 3) := by decide +kernel
theorem dX2_hasLive_34 : decode cX2_hasLive 34 = .ok (.goto (-32), 3) := by decide +kernel
theorem dX2_hasLive_37 : decode cX2_hasLive 37 = .ok (.iconst 0, 1) := by decide +kernel
theorem dX2_hasLive_38 : decode cX2_hasLive 38 = .ok (.ireturn, 1) := by decide +kernel
set_option maxRecDepth 20000 in
theorem ggX2_findRing_X2_closes : GoodIn wsX2_findRing wsX2_closes := goodIn_r _ [7, 2, 1, 8, 9, 10, 6, 11, 12, 13, 14, 15, 16, 17, 3, 18, 4, 5, 19, 20, 21, 22, 23, 24, 25] (by decide +kernel) (by decide +kernel)
set_option maxRecDepth 20000 in
theorem gX2_findRing_X2_closes : GoodIn wsX2_findRing (va_wsS RX2 41 yX2_closes wsX2_closes) := goodIn_app (goodIn_of _ (by decide +kernel)) ggX2_findRing_X2_closes
theorem dX2_findRing_0 : decode cX2_findRing 0 = .ok (.iconst 2, 1) := by decide +kernel
theorem dX2_findRing_1 : decode cX2_findRing 1 = .ok (.istore_n 1, 1) := by decide +kernel
theorem dX2_findRing_2 : decode cX2_findRing 2 = .ok (.iload_n 1, 1) := by decide +kernel
theorem dX2_findRing_3 : decode cX2_findRing 3 = .ok (.iconst 4, 1) := by decide +kernel
theorem dX2_findRing_4 : decode cX2_findRing 4 = .ok (.if_icmp .gt 52, 3) := by decide +kernel
theorem dX2_findRing_7 : decode cX2_findRing 7 = .ok (.iconst 0, 1) := by decide +kernel
theorem dX2_findRing_8 : decode cX2_findRing 8 = .ok (.istore_n 2, 1) := by decide +kernel
theorem dX2_findRing_9 : decode cX2_findRing 9 = .ok (.iload_n 2, 1) := by decide +kernel
theorem dX2_findRing_10 : decode cX2_findRing 10 = .ok (.aload_n 0, 1) := by decide +kernel
theorem dX2_findRing_11 : decode cX2_findRing 11 = .ok (.getfield 31, 3) := by decide +kernel
theorem dX2_findRing_14 : decode cX2_findRing 14 = .ok (.if_icmp .ge 36, 3) := by decide +kernel
theorem dX2_findRing_17 : decode cX2_findRing 17 = .ok (.aload_n 0, 1) := by decide +kernel
theorem dX2_findRing_18 : decode cX2_findRing 18 = .ok (.getfield 28, 3) := by decide +kernel
theorem dX2_findRing_21 : decode cX2_findRing 21 = .ok (.iconst 0, 1) := by decide +kernel
theorem dX2_findRing_22 : decode cX2_findRing 22 = .ok (.iload_n 2, 1) := by decide +kernel
theorem dX2_findRing_23 : decode cX2_findRing 23 = .ok (.iastore, 1) := by decide +kernel
theorem dX2_findRing_24 : decode cX2_findRing 24 = .ok (.aload_n 0, 1) := by decide +kernel
theorem dX2_findRing_25 : decode cX2_findRing 25 = .ok (.getfield 24, 3) := by decide +kernel
theorem dX2_findRing_28 : decode cX2_findRing 28 = .ok (.iload_n 2, 1) := by decide +kernel
theorem dX2_findRing_29 : decode cX2_findRing 29 = .ok (.baload, 1) := by decide +kernel
theorem dX2_findRing_30 : decode cX2_findRing 30 = .ok (.ifCond .eq 14, 3) := by decide +kernel
theorem dX2_findRing_33 : decode cX2_findRing 33 = .ok (.aload_n 0, 1) := by decide +kernel
theorem dX2_findRing_34 : decode cX2_findRing 34 = .ok (.iconst 0, 1) := by decide +kernel
theorem dX2_findRing_35 : decode cX2_findRing 35 = .ok (.iload_n 1, 1) := by decide +kernel
theorem dX2_findRing_36 : decode cX2_findRing 36 = .ok (.invokestatic 41, 3) := by decide +kernel
theorem dX2_findRing_39 : decode cX2_findRing 39 = .ok (.ifCond .eq 5, 3) := by decide +kernel
theorem dX2_findRing_42 : decode cX2_findRing 42 = .ok (.iload_n 1, 1) := by decide +kernel
theorem dX2_findRing_43 : decode cX2_findRing 43 = .ok (.ireturn, 1) := by decide +kernel
theorem dX2_findRing_44 : decode cX2_findRing 44 = .ok (.iinc 2 1, 3) := by decide +kernel
theorem dX2_findRing_47 : decode cX2_findRing 47 = .ok (.goto (-38), 3) := by decide +kernel
theorem dX2_findRing_50 : decode cX2_findRing 50 = .ok (.iinc 1 1, 3) := by decide +kernel
theorem dX2_findRing_53 : decode cX2_findRing 53 = .ok (.goto (-51), 3) := by decide +kernel
theorem dX2_findRing_56 : decode cX2_findRing 56 = .ok (.iconst 0, 1) := by decide +kernel
theorem dX2_findRing_57 : decode cX2_findRing 57 = .ok (.ireturn, 1) := by decide +kernel
set_option maxRecDepth 20000 in
theorem ggX2_closes_X2_canGive : GoodIn wsX2_closes wsX2_canGive := goodIn_r _ [7, 8, 9, 18, 19, 20, 21, 22, 23, 24] (by decide +kernel) (by decide +kernel)
set_option maxRecDepth 20000 in
theorem gX2_closes_X2_canGive : GoodIn wsX2_closes (wsV RX2 45 RX2 yX2_canGive wsX2_canGive) := goodIn_app (goodIn_of _ (by decide +kernel)) ggX2_closes_X2_canGive
set_option maxRecDepth 20000 in
theorem ggX2_closes_X2_canFollow : GoodIn wsX2_closes wsX2_canFollow := goodIn_r _ [13, 14, 1, 15, 3, 4, 5, 6, 7, 8, 9, 18, 19, 20, 21, 22, 23, 24] (by decide +kernel) (by decide +kernel)
set_option maxRecDepth 20000 in
theorem gX2_closes_X2_canFollow : GoodIn wsX2_closes (wsV RX2 49 RX2 yX2_canFollow wsX2_canFollow) := goodIn_app (goodIn_of _ (by decide +kernel)) ggX2_closes_X2_canFollow
set_option maxRecDepth 20000 in
theorem ggX2_closes_X2_closes : GoodIn wsX2_closes wsX2_closes := goodIn_r _ [0, 1, 2, 3, 4, 5, 6, 7, 8, 9, 10, 11, 12, 13, 14, 15, 16, 17, 18, 19, 20, 21, 22, 23, 24] (by decide +kernel) (by decide +kernel)
set_option maxRecDepth 20000 in
theorem gX2_closes_X2_closes : GoodIn wsX2_closes (va_wsS RX2 41 yX2_closes wsX2_closes) := goodIn_app (goodIn_of _ (by decide +kernel)) ggX2_closes_X2_closes
theorem dX2_closes_0 : decode cX2_closes 0 = .ok (.iload_n 1, 1) := by decide +kernel
theorem dX2_closes_1 : decode cX2_closes 1 = .ok (.iload_n 2, 1) := by decide +kernel
theorem dX2_closes_2 : decode cX2_closes 2 = .ok (.iconst 1, 1) := by decide +kernel
theorem dX2_closes_3 : decode cX2_closes 3 = .ok (.isub, 1) := by decide +kernel
theorem dX2_closes_4 : decode cX2_closes 4 = .ok (.if_icmp .ge 8, 3) := by decide +kernel
theorem dX2_closes_7 : decode cX2_closes 7 = .ok (.iload_n 1, 1) := by decide +kernel
theorem dX2_closes_8 : decode cX2_closes 8 = .ok (.iconst 3, 1) := by decide +kernel
theorem dX2_closes_9 : decode cX2_closes 9 = .ok (.if_icmp .lt 20, 3) := by decide +kernel
theorem dX2_closes_12 : decode cX2_closes 12 = .ok (.aload_n 0, 1) := by decide +kernel
theorem dX2_closes_13 : decode cX2_closes 13 = .ok (.aload_n 0, 1) := by decide +kernel
theorem dX2_closes_14 : decode cX2_closes 14 = .ok (.getfield 28, 3) := by decide +kernel
theorem dX2_closes_17 : decode cX2_closes 17 = .ok (.iload_n 1, 1) := by decide +kernel
theorem dX2_closes_18 : decode cX2_closes 18 = .ok (.iaload, 1) := by decide +kernel
theorem dX2_closes_19 : decode cX2_closes 19 = .ok (.aload_n 0, 1) := by decide +kernel
theorem dX2_closes_20 : decode cX2_closes 20 = .ok (.getfield 28, 3) := by decide +kernel
theorem dX2_closes_23 : decode cX2_closes 23 = .ok (.iconst 0, 1) := by decide +kernel
theorem dX2_closes_24 : decode cX2_closes 24 = .ok (.iaload, 1) := by decide +kernel
theorem dX2_closes_25 : decode cX2_closes 25 = .ok (.invokevirtual 45, 3) := by decide +kernel
theorem dX2_closes_28 : decode cX2_closes 28 = .ok (.ireturn, 1) := by decide +kernel
theorem dX2_closes_29 : decode cX2_closes 29 = .ok (.aload_n 0, 1) := by decide +kernel
theorem dX2_closes_30 : decode cX2_closes 30 = .ok (.getfield 28, 3) := by decide +kernel
theorem dX2_closes_33 : decode cX2_closes 33 = .ok (.iconst 0, 1) := by decide +kernel
theorem dX2_closes_34 : decode cX2_closes 34 = .ok (.iaload, 1) := by decide +kernel
theorem dX2_closes_35 : decode cX2_closes 35 = .ok (.iconst 1, 1) := by decide +kernel
theorem dX2_closes_36 : decode cX2_closes 36 = .ok (.iadd, 1) := by decide +kernel
theorem dX2_closes_37 : decode cX2_closes 37 = .ok (.istore_n 3, 1) := by decide +kernel
theorem dX2_closes_38 : decode cX2_closes 38 = .ok (.iload_n 3, 1) := by decide +kernel
theorem dX2_closes_39 : decode cX2_closes 39 = .ok (.aload_n 0, 1) := by decide +kernel
theorem dX2_closes_40 : decode cX2_closes 40 = .ok (.getfield 31, 3) := by decide +kernel
theorem dX2_closes_43 : decode cX2_closes 43 = .ok (.if_icmp .ge 40, 3) := by decide +kernel
theorem dX2_closes_46 : decode cX2_closes 46 = .ok (.aload_n 0, 1) := by decide +kernel
theorem dX2_closes_47 : decode cX2_closes 47 = .ok (.iload_n 1, 1) := by decide +kernel
theorem dX2_closes_48 : decode cX2_closes 48 = .ok (.iload_n 3, 1) := by decide +kernel
theorem dX2_closes_49 : decode cX2_closes 49 = .ok (.invokevirtual 49, 3) := by decide +kernel
theorem dX2_closes_52 : decode cX2_closes 52 = .ok (.ifCond .eq 25, 3) := by decide +kernel
theorem dX2_closes_55 : decode cX2_closes 55 = .ok (.aload_n 0, 1) := by decide +kernel
theorem dX2_closes_56 : decode cX2_closes 56 = .ok (.getfield 28, 3) := by decide +kernel
theorem dX2_closes_59 : decode cX2_closes 59 = .ok (.iload_n 1, 1) := by decide +kernel
theorem dX2_closes_60 : decode cX2_closes 60 = .ok (.iconst 1, 1) := by decide +kernel
theorem dX2_closes_61 : decode cX2_closes 61 = .ok (.iadd, 1) := by decide +kernel
theorem dX2_closes_62 : decode cX2_closes 62 = .ok (.iload_n 3, 1) := by decide +kernel
theorem dX2_closes_63 : decode cX2_closes 63 = .ok (.iastore, 1) := by decide +kernel
theorem dX2_closes_64 : decode cX2_closes 64 = .ok (.aload_n 0, 1) := by decide +kernel
theorem dX2_closes_65 : decode cX2_closes 65 = .ok (.iload_n 1, 1) := by decide +kernel
theorem dX2_closes_66 : decode cX2_closes 66 = .ok (.iconst 1, 1) := by decide +kernel
theorem dX2_closes_67 : decode cX2_closes 67 = .ok (.iadd, 1) := by decide +kernel
theorem dX2_closes_68 : decode cX2_closes 68 = .ok (.iload_n 2, 1) := by decide +kernel
theorem dX2_closes_69 : decode cX2_closes 69 = .ok (.invokestatic 41, 3) := by decide +kernel
theorem dX2_closes_72 : decode cX2_closes 72 = .ok (.ifCond .eq 5, 3) := by decide +kernel
theorem dX2_closes_75 : decode cX2_closes 75 = .ok (.iconst 1, 1) := by decide +kernel
theorem dX2_closes_76 : decode cX2_closes 76 = .ok (.ireturn, 1) := by decide +kernel
theorem dX2_closes_77 : decode cX2_closes 77 = .ok (.iinc 3 1, 3) := by decide +kernel
theorem dX2_closes_80 : decode cX2_closes 80 = .ok (.goto (-42), 3) := by decide +kernel
theorem dX2_closes_83 : decode cX2_closes 83 = .ok (.iconst 0, 1) := by decide +kernel
theorem dX2_closes_84 : decode cX2_closes 84 = .ok (.ireturn, 1) := by decide +kernel
set_option maxRecDepth 20000 in
theorem ggX2_canFollow_X2_canGive : GoodIn wsX2_canFollow wsX2_canGive := goodIn_r _ [8, 9, 10, 11, 12, 13, 14, 15, 16, 17] (by decide +kernel) (by decide +kernel)
set_option maxRecDepth 20000 in
theorem gX2_canFollow_X2_canGive : GoodIn wsX2_canFollow (wsV RX2 45 RX2 yX2_canGive wsX2_canGive) := goodIn_app (goodIn_of _ (by decide +kernel)) ggX2_canFollow_X2_canGive
theorem dX2_canFollow_0 : decode cX2_canFollow 0 = .ok (.aload_n 0, 1) := by decide +kernel
theorem dX2_canFollow_1 : decode cX2_canFollow 1 = .ok (.getfield 24, 3) := by decide +kernel
theorem dX2_canFollow_4 : decode cX2_canFollow 4 = .ok (.iload_n 2, 1) := by decide +kernel
theorem dX2_canFollow_5 : decode cX2_canFollow 5 = .ok (.baload, 1) := by decide +kernel
theorem dX2_canFollow_6 : decode cX2_canFollow 6 = .ok (.ifCond .eq 17, 3) := by decide +kernel
theorem dX2_canFollow_9 : decode cX2_canFollow 9 = .ok (.aload_n 0, 1) := by decide +kernel
theorem dX2_canFollow_10 : decode cX2_canFollow 10 = .ok (.aload_n 0, 1) := by decide +kernel
theorem dX2_canFollow_11 : decode cX2_canFollow 11 = .ok (.getfield 28, 3) := by decide +kernel
theorem dX2_canFollow_14 : decode cX2_canFollow 14 = .ok (.iload_n 1, 1) := by decide +kernel
theorem dX2_canFollow_15 : decode cX2_canFollow 15 = .ok (.iaload, 1) := by decide +kernel
theorem dX2_canFollow_16 : decode cX2_canFollow 16 = .ok (.iload_n 2, 1) := by decide +kernel
theorem dX2_canFollow_17 : decode cX2_canFollow 17 = .ok (.invokevirtual 45, 3) := by decide +kernel
theorem dX2_canFollow_20 : decode cX2_canFollow 20 = .ok (.ifCond .ne 5, 3) := by decide +kernel
theorem dX2_canFollow_23 : decode cX2_canFollow 23 = .ok (.iconst 0, 1) := by decide +kernel
theorem dX2_canFollow_24 : decode cX2_canFollow 24 = .ok (.ireturn, 1) := by decide +kernel
theorem dX2_canFollow_25 : decode cX2_canFollow 25 = .ok (.iconst 0, 1) := by decide +kernel
theorem dX2_canFollow_26 : decode cX2_canFollow 26 = .ok (.istore_n 3, 1) := by decide +kernel
theorem dX2_canFollow_27 : decode cX2_canFollow 27 = .ok (.iload_n 3, 1) := by decide +kernel
theorem dX2_canFollow_28 : decode cX2_canFollow 28 = .ok (.iload_n 1, 1) := by decide +kernel
theorem dX2_canFollow_29 : decode cX2_canFollow 29 = .ok (.if_icmp .gt 31, 3) := by decide +kernel
theorem dX2_canFollow_32 : decode cX2_canFollow 32 = .ok (.aload_n 0, 1) := by decide +kernel
theorem dX2_canFollow_33 : decode cX2_canFollow 33 = .ok (.getfield 21, 3) := by decide +kernel
theorem dX2_canFollow_36 : decode cX2_canFollow 36 = .ok (.aload_n 0, 1) := by decide +kernel
theorem dX2_canFollow_37 : decode cX2_canFollow 37 = .ok (.getfield 28, 3) := by decide +kernel
theorem dX2_canFollow_40 : decode cX2_canFollow 40 = .ok (.iload_n 3, 1) := by decide +kernel
theorem dX2_canFollow_41 : decode cX2_canFollow 41 = .ok (.iaload, 1) := by decide +kernel
theorem dX2_canFollow_42 : decode cX2_canFollow 42 = .ok (.iaload, 1) := by decide +kernel
theorem dX2_canFollow_43 : decode cX2_canFollow 43 = .ok (.aload_n 0, 1) := by decide +kernel
theorem dX2_canFollow_44 : decode cX2_canFollow 44 = .ok (.getfield 21, 3) := by decide +kernel
theorem dX2_canFollow_47 : decode cX2_canFollow 47 = .ok (.iload_n 2, 1) := by decide +kernel
theorem dX2_canFollow_48 : decode cX2_canFollow 48 = .ok (.iaload, 1) := by decide +kernel
theorem dX2_canFollow_49 : decode cX2_canFollow 49 = .ok (.if_icmp .ne 5, 3) := by decide +kernel
theorem dX2_canFollow_52 : decode cX2_canFollow 52 = .ok (.iconst 0, 1) := by decide +kernel
theorem dX2_canFollow_53 : decode cX2_canFollow 53 = .ok (.ireturn, 1) := by decide +kernel
theorem dX2_canFollow_54 : decode cX2_canFollow 54 = .ok (.iinc 3 1, 3) := by decide +kernel
theorem dX2_canFollow_57 : decode cX2_canFollow 57 = .ok (.goto (-30), 3) := by decide +kernel
theorem dX2_canFollow_60 : decode cX2_canFollow 60 = .ok (.iconst 1, 1) := by decide +kernel
theorem dX2_canFollow_61 : decode cX2_canFollow 61 = .ok (.ireturn, 1) := by decide +kernel
theorem dX2_canGive_0 : decode cX2_canGive 0 = .ok (.aload_n 0, 1) := by decide +kernel
theorem dX2_canGive_1 : decode cX2_canGive 1 = .ok (.getfield 15, 3) := by decide +kernel
theorem dX2_canGive_4 : decode cX2_canGive 4 = .ok (.iload_n 1, 1) := by decide +kernel
theorem dX2_canGive_5 : decode cX2_canGive 5 = .ok (.iaload, 1) := by decide +kernel
theorem dX2_canGive_6 : decode cX2_canGive 6 = .ok (.aload_n 0, 1) := by decide +kernel
theorem dX2_canGive_7 : decode cX2_canGive 7 = .ok (.getfield 18, 3) := by decide +kernel
theorem dX2_canGive_10 : decode cX2_canGive 10 = .ok (.iload_n 2, 1) := by decide +kernel
theorem dX2_canGive_11 : decode cX2_canGive 11 = .ok (.iaload, 1) := by decide +kernel
theorem dX2_canGive_12 : decode cX2_canGive 12 = .ok (.if_icmp .ne 7, 3) := by decide +kernel
theorem dX2_canGive_15 : decode cX2_canGive 15 = .ok (.iconst 1, 1) := by decide +kernel
theorem dX2_canGive_16 : decode cX2_canGive 16 = .ok (.goto 4, 3) := by decide +kernel
theorem dX2_canGive_19 : decode cX2_canGive 19 = .ok (.iconst 0, 1) := by decide +kernel
theorem dX2_canGive_20 : decode cX2_canGive 20 = .ok (.ireturn, 1) := by decide +kernel
theorem dX3_init_0 : decode cX3_init 0 = .ok (.aload_n 0, 1) := by decide +kernel
theorem dX3_init_1 : decode cX3_init 1 = .ok (.invokespecial 3, 3) := by decide +kernel
theorem dX3_init_4 : decode cX3_init 4 = .ok (.aload_n 0, 1) := by decide +kernel
theorem dX3_init_5 : decode cX3_init 5 = .ok (.bipush 10, 2) := by decide +kernel
theorem dX3_init_7 : decode cX3_init 7 = .ok (.newarray .int, 2) := by decide +kernel
theorem dX3_init_9 : decode cX3_init 9 = .ok (.putfield 9, 3) := by decide +kernel
theorem dX3_init_12 : decode cX3_init 12 = .ok (.return_, 1) := by decide +kernel
theorem dX3_shuffle_0 : decode cX3_shuffle 0 = .ok (.aload_n 1, 1) := by decide +kernel
theorem dX3_shuffle_1 : decode cX3_shuffle 1 = .ok (.getfield 15, 3) := by decide +kernel
theorem dX3_shuffle_4 : decode cX3_shuffle 4 = .ok (.iload_n 2, 1) := by decide +kernel
theorem dX3_shuffle_5 : decode cX3_shuffle 5 = .ok (.iaload, 1) := by decide +kernel
theorem dX3_shuffle_6 : decode cX3_shuffle 6 = .ok (.istore 4, 2) := by decide +kernel
theorem dX3_shuffle_8 : decode cX3_shuffle 8 = .ok (.iconst 0, 1) := by decide +kernel
theorem dX3_shuffle_9 : decode cX3_shuffle 9 = .ok (.istore 5, 2) := by decide +kernel
theorem dX3_shuffle_11 : decode cX3_shuffle 11 = .ok (.iload 5, 2) := by decide +kernel
theorem dX3_shuffle_13 : decode cX3_shuffle 13 = .ok (.iload 4, 2) := by decide +kernel
theorem dX3_shuffle_15 : decode cX3_shuffle 15 = .ok (.if_icmp .ge 25, 3) := by decide +kernel
theorem dX3_shuffle_18 : decode cX3_shuffle 18 = .ok (.aload_n 0, 1) := by decide +kernel
theorem dX3_shuffle_19 : decode cX3_shuffle 19 = .ok (.getfield 9, 3) := by decide +kernel
theorem dX3_shuffle_22 : decode cX3_shuffle 22 = .ok (.iload 5, 2) := by decide +kernel
theorem dX3_shuffle_24 : decode cX3_shuffle 24 = .ok (.aload_n 1, 1) := by decide +kernel
theorem dX3_shuffle_25 : decode cX3_shuffle 25 = .ok (.getfield 20, 3) := by decide +kernel
theorem dX3_shuffle_28 : decode cX3_shuffle 28 = .ok (.iload_n 2, 1) := by decide +kernel
theorem dX3_shuffle_29 : decode cX3_shuffle 29 = .ok (.aaload, 1) := by decide +kernel
theorem dX3_shuffle_30 : decode cX3_shuffle 30 = .ok (.iload 5, 2) := by decide +kernel
theorem dX3_shuffle_32 : decode cX3_shuffle 32 = .ok (.iaload, 1) := by decide +kernel
theorem dX3_shuffle_33 : decode cX3_shuffle 33 = .ok (.iastore, 1) := by decide +kernel
theorem dX3_shuffle_34 : decode cX3_shuffle 34 = .ok (.iinc 5 1, 3) := by decide +kernel
theorem dX3_shuffle_37 : decode cX3_shuffle 37 = .ok (.goto (-26), 3) := by decide +kernel
theorem dX3_shuffle_40 : decode cX3_shuffle 40 = .ok (.iload_n 3, 1) := by decide +kernel
theorem dX3_shuffle_41 : decode cX3_shuffle 41 = .ok (.i2l, 1) := by decide +kernel
theorem dX3_shuffle_42 : decode cX3_shuffle 42 = .ok (.lstore 5, 2) := by decide +kernel
theorem dX3_shuffle_44 : decode cX3_shuffle 44 = .ok (.iload 4, 2) := by decide +kernel
theorem dX3_shuffle_46 : decode cX3_shuffle 46 = .ok (.iconst 1, 1) := by decide +kernel
theorem dX3_shuffle_47 : decode cX3_shuffle 47 = .ok (.isub, 1) := by decide +kernel
theorem dX3_shuffle_48 : decode cX3_shuffle 48 = .ok (.istore 7, 2) := by decide +kernel
theorem dX3_shuffle_50 : decode cX3_shuffle 50 = .ok (.iload 7, 2) := by decide +kernel
theorem dX3_shuffle_52 : decode cX3_shuffle 52 = .ok (.iconst 1, 1) := by decide +kernel
theorem dX3_shuffle_53 : decode cX3_shuffle 53 = .ok (.if_icmp .lt 72, 3) := by decide +kernel
theorem dX3_shuffle_56 : decode cX3_shuffle 56 = .ok (.lload 5, 2) := by decide +kernel
theorem dX3_shuffle_58 : decode cX3_shuffle 58 = .ok (.ldc2_w 23, 3) := by decide +kernel
theorem dX3_shuffle_61 : decode cX3_shuffle 61 = .ok (.lmul, 1) := by decide +kernel
theorem dX3_shuffle_62 : decode cX3_shuffle 62 = .ok (.ldc2_w 25, 3) := by decide +kernel
theorem dX3_shuffle_65 : decode cX3_shuffle 65 = .ok (.ladd, 1) := by decide +kernel
theorem dX3_shuffle_66 : decode cX3_shuffle 66 = .ok (.ldc2_w 27, 3) := by decide +kernel
theorem dX3_shuffle_69 : decode cX3_shuffle 69 = .ok (.lrem, 1) := by decide +kernel
theorem dX3_shuffle_70 : decode cX3_shuffle 70 = .ok (.lstore 5, 2) := by decide +kernel
theorem dX3_shuffle_72 : decode cX3_shuffle 72 = .ok (.lload 5, 2) := by decide +kernel
theorem dX3_shuffle_74 : decode cX3_shuffle 74 = .ok (.ldc2_w 29, 3) := by decide +kernel
theorem dX3_shuffle_77 : decode cX3_shuffle 77 = .ok (.ldiv, 1) := by decide +kernel
theorem dX3_shuffle_78 : decode cX3_shuffle 78 = .ok (.iload 7, 2) := by decide +kernel
theorem dX3_shuffle_80 : decode cX3_shuffle 80 = .ok (.iconst 1, 1) := by decide +kernel
theorem dX3_shuffle_81 : decode cX3_shuffle 81 = .ok (.iadd, 1) := by decide +kernel
theorem dX3_shuffle_82 : decode cX3_shuffle 82 = .ok (.i2l, 1) := by decide +kernel
theorem dX3_shuffle_83 : decode cX3_shuffle 83 = .ok (.lrem, 1) := by decide +kernel
theorem dX3_shuffle_84 : decode cX3_shuffle 84 = .ok (.l2i, 1) := by decide +kernel
theorem dX3_shuffle_85 : decode cX3_shuffle 85 = .ok (.istore 8, 2) := by decide +kernel
theorem dX3_shuffle_87 : decode cX3_shuffle 87 = .ok (.aload_n 0, 1) := by decide +kernel
theorem dX3_shuffle_88 : decode cX3_shuffle 88 = .ok (.getfield 9, 3) := by decide +kernel
theorem dX3_shuffle_91 : decode cX3_shuffle 91 = .ok (.iload 7, 2) := by decide +kernel
theorem dX3_shuffle_93 : decode cX3_shuffle 93 = .ok (.iaload, 1) := by decide +kernel
theorem dX3_shuffle_94 : decode cX3_shuffle 94 = .ok (.istore 9, 2) := by decide +kernel
theorem dX3_shuffle_96 : decode cX3_shuffle 96 = .ok (.aload_n 0, 1) := by decide +kernel
theorem dX3_shuffle_97 : decode cX3_shuffle 97 = .ok (.getfield 9, 3) := by decide +kernel
theorem dX3_shuffle_100 : decode cX3_shuffle 100 = .ok (.iload 7, 2) := by decide +kernel
theorem dX3_shuffle_102 : decode cX3_shuffle 102 = .ok (.aload_n 0, 1) := by decide +kernel
theorem dX3_shuffle_103 : decode cX3_shuffle 103 = .ok (.getfield 9, 3) := by decide +kernel
theorem dX3_shuffle_106 : decode cX3_shuffle 106 = .ok (.iload 8, 2) := by decide +kernel
theorem dX3_shuffle_108 : decode cX3_shuffle 108 = .ok (.iaload, 1) := by decide +kernel
theorem dX3_shuffle_109 : decode cX3_shuffle 109 = .ok (.iastore, 1) := by decide +kernel
theorem dX3_shuffle_110 : decode cX3_shuffle 110 = .ok (.aload_n 0, 1) := by decide +kernel
theorem dX3_shuffle_111 : decode cX3_shuffle 111 = .ok (.getfield 9, 3) := by decide +kernel
theorem dX3_shuffle_114 : decode cX3_shuffle 114 = .ok (.iload 8, 2) := by decide +kernel
theorem dX3_shuffle_116 : decode cX3_shuffle 116 = .ok (.iload 9, 2) := by decide +kernel
theorem dX3_shuffle_118 : decode cX3_shuffle 118 = .ok (.iastore, 1) := by decide +kernel
theorem dX3_shuffle_119 : decode cX3_shuffle 119 = .ok (.iinc 7 (-1), 3) := by decide +kernel
theorem dX3_shuffle_122 : decode cX3_shuffle 122 = .ok (.goto (-72), 3) := by decide +kernel
theorem dX3_shuffle_125 : decode cX3_shuffle 125 = .ok (.return_, 1) := by decide +kernel
theorem dX4_init_0 : decode cX4_init 0 = .ok (.aload_n 0, 1) := by decide +kernel
theorem dX4_init_1 : decode cX4_init 1 = .ok (.invokespecial 3, 3) := by decide +kernel
theorem dX4_init_4 : decode cX4_init 4 = .ok (.aload_n 0, 1) := by decide +kernel
theorem dX4_init_5 : decode cX4_init 5 = .ok (.bipush 80, 2) := by decide +kernel
theorem dX4_init_7 : decode cX4_init 7 = .ok (.newarray .int, 2) := by decide +kernel
theorem dX4_init_9 : decode cX4_init 9 = .ok (.putfield 9, 3) := by decide +kernel
theorem dX4_init_12 : decode cX4_init 12 = .ok (.aload_n 0, 1) := by decide +kernel
theorem dX4_init_13 : decode cX4_init 13 = .ok (.bipush 80, 2) := by decide +kernel
theorem dX4_init_15 : decode cX4_init 15 = .ok (.newarray .int, 2) := by decide +kernel
theorem dX4_init_17 : decode cX4_init 17 = .ok (.putfield 15, 3) := by decide +kernel
theorem dX4_init_20 : decode cX4_init 20 = .ok (.aload_n 0, 1) := by decide +kernel
theorem dX4_init_21 : decode cX4_init 21 = .ok (.bipush 80, 2) := by decide +kernel
theorem dX4_init_23 : decode cX4_init 23 = .ok (.newarray .int, 2) := by decide +kernel
theorem dX4_init_25 : decode cX4_init 25 = .ok (.putfield 18, 3) := by decide +kernel
theorem dX4_init_28 : decode cX4_init 28 = .ok (.return_, 1) := by decide +kernel
theorem dX4_append_0 : decode cX4_append 0 = .ok (.aload_n 0, 1) := by decide +kernel
theorem dX4_append_1 : decode cX4_append 1 = .ok (.getfield 21, 3) := by decide +kernel
theorem dX4_append_4 : decode cX4_append 4 = .ok (.istore 4, 2) := by decide +kernel
theorem dX4_append_6 : decode cX4_append 6 = .ok (.aload_n 0, 1) := by decide +kernel
theorem dX4_append_7 : decode cX4_append 7 = .ok (.getfield 9, 3) := by decide +kernel
theorem dX4_append_10 : decode cX4_append 10 = .ok (.iload 4, 2) := by decide +kernel
theorem dX4_append_12 : decode cX4_append 12 = .ok (.iload_n 1, 1) := by decide +kernel
theorem dX4_append_13 : decode cX4_append 13 = .ok (.iastore, 1) := by decide +kernel
theorem dX4_append_14 : decode cX4_append 14 = .ok (.aload_n 0, 1) := by decide +kernel
theorem dX4_append_15 : decode cX4_append 15 = .ok (.getfield 15, 3) := by decide +kernel
theorem dX4_append_18 : decode cX4_append 18 = .ok (.iload 4, 2) := by decide +kernel
theorem dX4_append_20 : decode cX4_append 20 = .ok (.iload_n 2, 1) := by decide +kernel
theorem dX4_append_21 : decode cX4_append 21 = .ok (.iastore, 1) := by decide +kernel
theorem dX4_append_22 : decode cX4_append 22 = .ok (.aload_n 0, 1) := by decide +kernel
theorem dX4_append_23 : decode cX4_append 23 = .ok (.getfield 18, 3) := by decide +kernel
theorem dX4_append_26 : decode cX4_append 26 = .ok (.iload 4, 2) := by decide +kernel
theorem dX4_append_28 : decode cX4_append 28 = .ok (.iload_n 3, 1) := by decide +kernel
theorem dX4_append_29 : decode cX4_append 29 = .ok (.iastore, 1) := by decide +kernel
theorem dX4_append_30 : decode cX4_append 30 = .ok (.aload_n 0, 1) := by decide +kernel
theorem dX4_append_31 : decode cX4_append 31 = .ok (.dup, 1) := by decide +kernel
theorem dX4_append_32 : decode cX4_append 32 = .ok (.getfield 21, 3) := by decide +kernel
theorem dX4_append_35 : decode cX4_append 35 = .ok (.iconst 1, 1) := by decide +kernel
theorem dX4_append_36 : decode cX4_append 36 = .ok (.iadd, 1) := by decide +kernel
theorem dX4_append_37 : decode cX4_append 37 = .ok (.putfield 21, 3) := by decide +kernel
theorem dX4_append_40 : decode cX4_append 40 = .ok (.iload 4, 2) := by decide +kernel
theorem dX4_append_42 : decode cX4_append 42 = .ok (.ireturn, 1) := by decide +kernel
theorem dX4_countOf_0 : decode cX4_countOf 0 = .ok (.iconst 0, 1) := by decide +kernel
theorem dX4_countOf_1 : decode cX4_countOf 1 = .ok (.istore_n 3, 1) := by decide +kernel
theorem dX4_countOf_2 : decode cX4_countOf 2 = .ok (.iconst 0, 1) := by decide +kernel
theorem dX4_countOf_3 : decode cX4_countOf 3 = .ok (.istore 4, 2) := by decide +kernel
theorem dX4_countOf_5 : decode cX4_countOf 5 = .ok (.iload 4, 2) := by decide +kernel
theorem dX4_countOf_7 : decode cX4_countOf 7 = .ok (.aload_n 0, 1) := by decide +kernel
theorem dX4_countOf_8 : decode cX4_countOf 8 = .ok (.getfield 21, 3) := by decide +kernel
theorem dX4_countOf_11 : decode cX4_countOf 11 = .ok (.if_icmp .ge 34, 3) := by decide +kernel
theorem dX4_countOf_14 : decode cX4_countOf 14 = .ok (.aload_n 0, 1) := by decide +kernel
theorem dX4_countOf_15 : decode cX4_countOf 15 = .ok (.getfield 18, 3) := by decide +kernel
theorem dX4_countOf_18 : decode cX4_countOf 18 = .ok (.iload 4, 2) := by decide +kernel
theorem dX4_countOf_20 : decode cX4_countOf 20 = .ok (.iaload, 1) := by decide +kernel
theorem dX4_countOf_21 : decode cX4_countOf 21 = .ok (.iload_n 1, 1) := by decide +kernel
theorem dX4_countOf_22 : decode cX4_countOf 22 = .ok (.if_icmp .ne 17, 3) := by decide +kernel
theorem dX4_countOf_25 : decode cX4_countOf 25 = .ok (.aload_n 0, 1) := by decide +kernel
theorem dX4_countOf_26 : decode cX4_countOf 26 = .ok (.getfield 9, 3) := by decide +kernel
theorem dX4_countOf_29 : decode cX4_countOf 29 = .ok (.iload 4, 2) := by decide +kernel
theorem dX4_countOf_31 : decode cX4_countOf 31 = .ok (.iaload, 1) := by decide +kernel
theorem dX4_countOf_32 : decode cX4_countOf 32 = .ok (.iload_n 2, 1) := by decide +kernel
theorem dX4_countOf_33 : decode cX4_countOf 33 = .ok (.if_icmp .ne 6, 3) := by decide +kernel
theorem dX4_countOf_36 : decode cX4_countOf 36 = .ok (.iinc 3 1, 3) := by decide +kernel
theorem dX4_countOf_39 : decode cX4_countOf 39 = .ok (.iinc 4 1, 3) := by decide +kernel
theorem dX4_countOf_42 : decode cX4_countOf 42 = .ok (.goto (-37), 3) := by decide +kernel
theorem dX4_countOf_45 : decode cX4_countOf 45 = .ok (.iload_n 3, 1) := by decide +kernel
theorem dX4_countOf_46 : decode cX4_countOf 46 = .ok (.ireturn, 1) := by decide +kernel
set_option maxRecDepth 20000 in
theorem ggX5_init_X3_init : GoodIn wsX5_init wsX3_init := goodIn_r _ [9, 10, 2, 3, 11, 12, 13] (by decide +kernel) (by decide +kernel)
set_option maxRecDepth 20000 in
theorem gX5_init_X3_init_n11 : GoodIn wsX5_init (wsX3_init) := ggX5_init_X3_init
theorem dX5_init_0 : decode cX5_init 0 = .ok (.aload_n 0, 1) := by decide +kernel
theorem dX5_init_1 : decode cX5_init 1 = .ok (.invokespecial 3, 3) := by decide +kernel
theorem dX5_init_4 : decode cX5_init 4 = .ok (.aload_n 0, 1) := by decide +kernel
theorem dX5_init_5 : decode cX5_init 5 = .ok (.new 9, 3) := by decide +kernel
theorem dX5_init_8 : decode cX5_init 8 = .ok (.dup, 1) := by decide +kernel
theorem dX5_init_9 : decode cX5_init 9 = .ok (.invokespecial 11, 3) := by decide +kernel
theorem dX5_init_12 : decode cX5_init 12 = .ok (.putfield 12, 3) := by decide +kernel
theorem dX5_init_15 : decode cX5_init 15 = .ok (.return_, 1) := by decide +kernel
set_option maxRecDepth 20000 in
theorem ggX5_start_X3_shuffle : GoodIn wsX5_start wsX3_shuffle := goodIn_r _ [8, 9, 10, 11, 12, 13, 14, 15, 19, 20, 21, 22, 23, 24, 25] (by decide +kernel) (by decide +kernel)
set_option maxRecDepth 20000 in
theorem gX5_start_X3_shuffle : GoodIn wsX5_start (wsV RX5 18 RX3 yX3_shuffle wsX3_shuffle) := goodIn_app (goodIn_of _ (by decide +kernel)) ggX5_start_X3_shuffle
theorem dX5_start_0 : decode cX5_start 0 = .ok (.aload_n 0, 1) := by decide +kernel
theorem dX5_start_1 : decode cX5_start 1 = .ok (.getfield 12, 3) := by decide +kernel
theorem dX5_start_4 : decode cX5_start 4 = .ok (.aload_n 1, 1) := by decide +kernel
theorem dX5_start_5 : decode cX5_start 5 = .ok (.iload_n 2, 1) := by decide +kernel
theorem dX5_start_6 : decode cX5_start 6 = .ok (.iload_n 3, 1) := by decide +kernel
theorem dX5_start_7 : decode cX5_start 7 = .ok (.invokevirtual 18, 3) := by decide +kernel
theorem dX5_start_10 : decode cX5_start 10 = .ok (.aload_n 0, 1) := by decide +kernel
theorem dX5_start_11 : decode cX5_start 11 = .ok (.iconst 0, 1) := by decide +kernel
theorem dX5_start_12 : decode cX5_start 12 = .ok (.putfield 22, 3) := by decide +kernel
theorem dX5_start_15 : decode cX5_start 15 = .ok (.aload_n 0, 1) := by decide +kernel
theorem dX5_start_16 : decode cX5_start 16 = .ok (.iconst 0, 1) := by decide +kernel
theorem dX5_start_17 : decode cX5_start 17 = .ok (.putfield 26, 3) := by decide +kernel
theorem dX5_start_20 : decode cX5_start 20 = .ok (.return_, 1) := by decide +kernel
theorem dX5_endRound_0 : decode cX5_endRound 0 = .ok (.aload_n 0, 1) := by decide +kernel
theorem dX5_endRound_1 : decode cX5_endRound 1 = .ok (.iconst 0, 1) := by decide +kernel
theorem dX5_endRound_2 : decode cX5_endRound 2 = .ok (.putfield 26, 3) := by decide +kernel
theorem dX5_endRound_5 : decode cX5_endRound 5 = .ok (.iload_n 1, 1) := by decide +kernel
theorem dX5_endRound_6 : decode cX5_endRound 6 = .ok (.ifCond .eq 13, 3) := by decide +kernel
theorem dX5_endRound_9 : decode cX5_endRound 9 = .ok (.aload_n 0, 1) := by decide +kernel
theorem dX5_endRound_10 : decode cX5_endRound 10 = .ok (.dup, 1) := by decide +kernel
theorem dX5_endRound_11 : decode cX5_endRound 11 = .ok (.getfield 22, 3) := by decide +kernel
theorem dX5_endRound_14 : decode cX5_endRound 14 = .ok (.iconst 1, 1) := by decide +kernel
theorem dX5_endRound_15 : decode cX5_endRound 15 = .ok (.iadd, 1) := by decide +kernel
theorem dX5_endRound_16 : decode cX5_endRound 16 = .ok (.putfield 22, 3) := by decide +kernel
theorem dX5_endRound_19 : decode cX5_endRound 19 = .ok (.iload_n 3, 1) := by decide +kernel
theorem dX5_endRound_20 : decode cX5_endRound 20 = .ok (.iconst 3, 1) := by decide +kernel
theorem dX5_endRound_21 : decode cX5_endRound 21 = .ok (.if_icmp .ne 4, 3) := by decide +kernel
theorem dX5_endRound_24 : decode cX5_endRound 24 = .ok (.return_, 1) := by decide +kernel
theorem dX5_endRound_25 : decode cX5_endRound 25 = .ok (.iload_n 2, 1) := by decide +kernel
theorem dX5_endRound_26 : decode cX5_endRound 26 = .ok (.iconst 1, 1) := by decide +kernel
theorem dX5_endRound_27 : decode cX5_endRound 27 = .ok (.if_icmp .ne 17, 3) := by decide +kernel
theorem dX5_endRound_30 : decode cX5_endRound 30 = .ok (.iload_n 1, 1) := by decide +kernel
theorem dX5_endRound_31 : decode cX5_endRound 31 = .ok (.ifCond .eq 13, 3) := by decide +kernel
theorem dX5_endRound_34 : decode cX5_endRound 34 = .ok (.aload_n 0, 1) := by decide +kernel
theorem dX5_endRound_35 : decode cX5_endRound 35 = .ok (.dup, 1) := by decide +kernel
theorem dX5_endRound_36 : decode cX5_endRound 36 = .ok (.getfield 22, 3) := by decide +kernel
theorem dX5_endRound_39 : decode cX5_endRound 39 = .ok (.iconst 1, 1) := by decide +kernel
theorem dX5_endRound_40 : decode cX5_endRound 40 = .ok (.iadd, 1) := by decide +kernel
theorem dX5_endRound_41 : decode cX5_endRound 41 = .ok (.putfield 22, 3) := by decide +kernel
theorem dX5_endRound_44 : decode cX5_endRound 44 = .ok (.iload_n 2, 1) := by decide +kernel
theorem dX5_endRound_45 : decode cX5_endRound 45 = .ok (.iconst 2, 1) := by decide +kernel
theorem dX5_endRound_46 : decode cX5_endRound 46 = .ok (.if_icmp .ne 12, 3) := by decide +kernel
theorem dX5_endRound_49 : decode cX5_endRound 49 = .ok (.iload_n 1, 1) := by decide +kernel
theorem dX5_endRound_50 : decode cX5_endRound 50 = .ok (.ifCond .ne 8, 3) := by decide +kernel
theorem dX5_endRound_53 : decode cX5_endRound 53 = .ok (.aload_n 0, 1) := by decide +kernel
theorem dX5_endRound_54 : decode cX5_endRound 54 = .ok (.iconst 2, 1) := by decide +kernel
theorem dX5_endRound_55 : decode cX5_endRound 55 = .ok (.putfield 26, 3) := by decide +kernel
theorem dX5_endRound_58 : decode cX5_endRound 58 = .ok (.return_, 1) := by decide +kernel
set_option maxRecDepth 20000 in
theorem ggX6_init_X1_init : GoodIn wsX6_init wsX1_init := goodIn_r _ [30, 31, 2, 3, 32, 33, 34, 35, 36, 37, 38, 72, 73, 74, 75, 76] (by decide +kernel) (by decide +kernel)
set_option maxRecDepth 20000 in
theorem gX6_init_X1_init_n9 : GoodIn wsX6_init (wsX1_init) := ggX6_init_X1_init
set_option maxRecDepth 20000 in
theorem ggX6_init_X4_init : GoodIn wsX6_init wsX4_init := goodIn_r _ [40, 41, 2, 3, 32, 42, 43, 44, 84, 85, 86, 87] (by decide +kernel) (by decide +kernel)
set_option maxRecDepth 20000 in
theorem gX6_init_X4_init_n18 : GoodIn wsX6_init (wsX4_init) := ggX6_init_X4_init
set_option maxRecDepth 20000 in
theorem ggX6_init_X0_init : GoodIn wsX6_init wsX0_init := goodIn_r _ [46, 47, 2, 3, 32, 48, 49, 50, 51, 52, 53, 88, 89, 90, 91, 92, 93] (by decide +kernel) (by decide +kernel)
set_option maxRecDepth 20000 in
theorem gX6_init_X0_init_n25 : GoodIn wsX6_init (wsX0_init) := ggX6_init_X0_init
set_option maxRecDepth 20000 in
theorem ggX6_init_X2_init : GoodIn wsX6_init wsX2_init := goodIn_r _ [55, 56, 2, 3, 32, 57, 58, 59, 60, 35, 61, 62, 94, 95, 96, 97, 98, 99, 100] (by decide +kernel) (by decide +kernel)
set_option maxRecDepth 20000 in
theorem gX6_init_X2_init_n32 : GoodIn wsX6_init (wsX2_init) := ggX6_init_X2_init
set_option maxRecDepth 20000 in
theorem ggX6_init_X3_init : GoodIn wsX6_init wsX3_init := goodIn_r _ [64, 65, 2, 3, 32, 66, 101] (by decide +kernel) (by decide +kernel)
set_option maxRecDepth 20000 in
theorem gX6_init_X3_init_n39 : GoodIn wsX6_init (wsX3_init) := ggX6_init_X3_init
set_option maxRecDepth 20000 in
theorem ggX6_init_X5_init : GoodIn wsX6_init wsX5_init := goodIn_r _ [68, 69, 2, 3, 70, 21, 22, 71, 63, 64, 65, 32, 66, 101, 102, 103, 104] (by decide +kernel) (by decide +kernel)
set_option maxRecDepth 20000 in
theorem gX6_init_X5_init_n46 : GoodIn wsX6_init (wsX5_init) := ggX6_init_X5_init
theorem dX6_init_0 : decode cX6_init 0 = .ok (.aload_n 0, 1) := by decide +kernel
theorem dX6_init_1 : decode cX6_init 1 = .ok (.invokespecial 1, 3) := by decide +kernel
theorem dX6_init_4 : decode cX6_init 4 = .ok (.aload_n 0, 1) := by decide +kernel
theorem dX6_init_5 : decode cX6_init 5 = .ok (.new 7, 3) := by decide +kernel
theorem dX6_init_8 : decode cX6_init 8 = .ok (.dup, 1) := by decide +kernel
theorem dX6_init_9 : decode cX6_init 9 = .ok (.invokespecial 9, 3) := by decide +kernel
theorem dX6_init_12 : decode cX6_init 12 = .ok (.putfield 10, 3) := by decide +kernel
theorem dX6_init_15 : decode cX6_init 15 = .ok (.aload_n 0, 1) := by decide +kernel
theorem dX6_init_16 : decode cX6_init 16 = .ok (.new 16, 3) := by decide +kernel
theorem dX6_init_19 : decode cX6_init 19 = .ok (.dup, 1) := by decide +kernel
theorem dX6_init_20 : decode cX6_init 20 = .ok (.invokespecial 18, 3) := by decide +kernel
theorem dX6_init_23 : decode cX6_init 23 = .ok (.putfield 19, 3) := by decide +kernel
theorem dX6_init_26 : decode cX6_init 26 = .ok (.aload_n 0, 1) := by decide +kernel
theorem dX6_init_27 : decode cX6_init 27 = .ok (.new 23, 3) := by decide +kernel
theorem dX6_init_30 : decode cX6_init 30 = .ok (.dup, 1) := by decide +kernel
theorem dX6_init_31 : decode cX6_init 31 = .ok (.invokespecial 25, 3) := by decide +kernel
theorem dX6_init_34 : decode cX6_init 34 = .ok (.putfield 26, 3) := by decide +kernel
theorem dX6_init_37 : decode cX6_init 37 = .ok (.aload_n 0, 1) := by decide +kernel
theorem dX6_init_38 : decode cX6_init 38 = .ok (.new 30, 3) := by decide +kernel
theorem dX6_init_41 : decode cX6_init 41 = .ok (.dup, 1) := by decide +kernel
theorem dX6_init_42 : decode cX6_init 42 = .ok (.invokespecial 32, 3) := by decide +kernel
theorem dX6_init_45 : decode cX6_init 45 = .ok (.putfield 33, 3) := by decide +kernel
theorem dX6_init_48 : decode cX6_init 48 = .ok (.aload_n 0, 1) := by decide +kernel
theorem dX6_init_49 : decode cX6_init 49 = .ok (.new 37, 3) := by decide +kernel
theorem dX6_init_52 : decode cX6_init 52 = .ok (.dup, 1) := by decide +kernel
theorem dX6_init_53 : decode cX6_init 53 = .ok (.invokespecial 39, 3) := by decide +kernel
theorem dX6_init_56 : decode cX6_init 56 = .ok (.putfield 40, 3) := by decide +kernel
theorem dX6_init_59 : decode cX6_init 59 = .ok (.aload_n 0, 1) := by decide +kernel
theorem dX6_init_60 : decode cX6_init 60 = .ok (.new 44, 3) := by decide +kernel
theorem dX6_init_63 : decode cX6_init 63 = .ok (.dup, 1) := by decide +kernel
theorem dX6_init_64 : decode cX6_init 64 = .ok (.invokespecial 46, 3) := by decide +kernel
theorem dX6_init_67 : decode cX6_init 67 = .ok (.putfield 47, 3) := by decide +kernel
theorem dX6_init_70 : decode cX6_init 70 = .ok (.aload_n 0, 1) := by decide +kernel
theorem dX6_init_71 : decode cX6_init 71 = .ok (.new 44, 3) := by decide +kernel
theorem dX6_init_74 : decode cX6_init 74 = .ok (.dup, 1) := by decide +kernel
theorem dX6_init_75 : decode cX6_init 75 = .ok (.invokespecial 46, 3) := by decide +kernel
theorem dX6_init_78 : decode cX6_init 78 = .ok (.putfield 51, 3) := by decide +kernel
theorem dX6_init_81 : decode cX6_init 81 = .ok (.return_, 1) := by decide +kernel
set_option maxRecDepth 20000 in
theorem ggX6_setKind_X6_needKind : GoodIn wsX6_setKind wsX6_needKind := goodIn_ca (goodIn_r _ [7, 8, 9] (by decide +kernel) (by decide +kernel)) (goodIn_sub (fun _ h => List.mem_cons_of_mem _ (List.mem_append_left _ (List.mem_append_right _ h))) (by decide +kernel))
set_option maxRecDepth 20000 in
theorem gX6_setKind_X6_needKind : GoodIn wsX6_setKind (va_wsS RX6 54 yX6_needKind wsX6_needKind) := goodIn_app (goodIn_of _ (by decide +kernel)) ggX6_setKind_X6_needKind
set_option maxRecDepth 20000 in
theorem ggX6_setKind_X6_needRange : GoodIn wsX6_setKind wsX6_needRange := goodIn_ca (goodIn_r _ [12, 13, 14] (by decide +kernel) (by decide +kernel)) (goodIn_sub (fun _ h => List.mem_cons_of_mem _ (List.mem_append_right _ h)) (by decide +kernel))
set_option maxRecDepth 20000 in
theorem gX6_setKind_X6_needRange : GoodIn wsX6_setKind (va_wsS RX6 58 yX6_needRange wsX6_needRange) := goodIn_app (goodIn_of _ (by decide +kernel)) ggX6_setKind_X6_needRange
theorem dX6_setKind_0 : decode cX6_setKind 0 = .ok (.iload_n 1, 1) := by decide +kernel
theorem dX6_setKind_1 : decode cX6_setKind 1 = .ok (.invokestatic 54, 3) := by decide +kernel
theorem dX6_setKind_4 : decode cX6_setKind 4 = .ok (.iload_n 2, 1) := by decide +kernel
theorem dX6_setKind_5 : decode cX6_setKind 5 = .ok (.iconst 0, 1) := by decide +kernel
theorem dX6_setKind_6 : decode cX6_setKind 6 = .ok (.bipush 9, 2) := by decide +kernel
theorem dX6_setKind_8 : decode cX6_setKind 8 = .ok (.invokestatic 58, 3) := by decide +kernel
theorem dX6_setKind_11 : decode cX6_setKind 11 = .ok (.iload_n 3, 1) := by decide +kernel
theorem dX6_setKind_12 : decode cX6_setKind 12 = .ok (.iconst 0, 1) := by decide +kernel
theorem dX6_setKind_13 : decode cX6_setKind 13 = .ok (.iconst 3, 1) := by decide +kernel
theorem dX6_setKind_14 : decode cX6_setKind 14 = .ok (.invokestatic 58, 3) := by decide +kernel
theorem dX6_setKind_17 : decode cX6_setKind 17 = .ok (.aload_n 0, 1) := by decide +kernel
theorem dX6_setKind_18 : decode cX6_setKind 18 = .ok (.getfield 10, 3) := by decide +kernel
theorem dX6_setKind_21 : decode cX6_setKind 21 = .ok (.getfield 62, 3) := by decide +kernel
theorem dX6_setKind_24 : decode cX6_setKind 24 = .ok (.iload_n 1, 1) := by decide +kernel
theorem dX6_setKind_25 : decode cX6_setKind 25 = .ok (.iaload, 1) := by decide +kernel
theorem dX6_setKind_26 : decode cX6_setKind 26 = .ok (.istore 4, 2) := by decide +kernel
theorem dX6_setKind_28 : decode cX6_setKind 28 = .ok (.aload_n 0, 1) := by decide +kernel
theorem dX6_setKind_29 : decode cX6_setKind 29 = .ok (.getfield 10, 3) := by decide +kernel
theorem dX6_setKind_32 : decode cX6_setKind 32 = .ok (.getfield 62, 3) := by decide +kernel
theorem dX6_setKind_35 : decode cX6_setKind 35 = .ok (.iload_n 1, 1) := by decide +kernel
theorem dX6_setKind_36 : decode cX6_setKind 36 = .ok (.iload_n 2, 1) := by decide +kernel
theorem dX6_setKind_37 : decode cX6_setKind 37 = .ok (.iastore, 1) := by decide +kernel
theorem dX6_setKind_38 : decode cX6_setKind 38 = .ok (.aload_n 0, 1) := by decide +kernel
theorem dX6_setKind_39 : decode cX6_setKind 39 = .ok (.getfield 10, 3) := by decide +kernel
theorem dX6_setKind_42 : decode cX6_setKind 42 = .ok (.getfield 66, 3) := by decide +kernel
theorem dX6_setKind_45 : decode cX6_setKind 45 = .ok (.iload_n 1, 1) := by decide +kernel
theorem dX6_setKind_46 : decode cX6_setKind 46 = .ok (.iload_n 3, 1) := by decide +kernel
theorem dX6_setKind_47 : decode cX6_setKind 47 = .ok (.iastore, 1) := by decide +kernel
theorem dX6_setKind_48 : decode cX6_setKind 48 = .ok (.iload 4, 2) := by decide +kernel
theorem dX6_setKind_50 : decode cX6_setKind 50 = .ok (.ireturn, 1) := by decide +kernel
set_option maxRecDepth 20000 in
theorem ggX6_setFormat_X6_needRange : GoodIn wsX6_setFormat wsX6_needRange := goodIn_ca (goodIn_r _ [9, 10, 11] (by decide +kernel) (by decide +kernel)) (goodIn_sub (fun _ h => List.mem_cons_of_mem _ (List.mem_append_right _ h)) (by decide +kernel))
set_option maxRecDepth 20000 in
theorem gX6_setFormat_X6_needRange : GoodIn wsX6_setFormat (va_wsS RX6 58 yX6_needRange wsX6_needRange) := goodIn_app (goodIn_of _ (by decide +kernel)) ggX6_setFormat_X6_needRange
set_option maxRecDepth 20000 in
theorem ggX6_setFormat_X0_countFitting : GoodIn wsX6_setFormat wsX0_countFitting := goodIn_r _ [16, 17, 18, 19, 20, 15, 21, 22, 23, 24, 25, 26, 27, 28, 29, 30, 31, 32, 33, 34, 35, 36, 37, 38, 39, 40, 41, 42, 43, 44, 52, 53, 54, 55, 56, 57, 58, 59, 60, 61, 62, 63, 64, 65, 66] (by decide +kernel) (by decide +kernel)
set_option maxRecDepth 20000 in
theorem gX6_setFormat_X0_countFitting : GoodIn wsX6_setFormat (wsV RX6 76 RX0 yX0_countFitting wsX0_countFitting) := goodIn_app (goodIn_of _ (by decide +kernel)) ggX6_setFormat_X0_countFitting
theorem dX6_setFormat_0 : decode cX6_setFormat 0 = .ok (.iload_n 1, 1) := by decide +kernel
theorem dX6_setFormat_1 : decode cX6_setFormat 1 = .ok (.iconst 4, 1) := by decide +kernel
theorem dX6_setFormat_2 : decode cX6_setFormat 2 = .ok (.bipush 10, 2) := by decide +kernel
theorem dX6_setFormat_4 : decode cX6_setFormat 4 = .ok (.invokestatic 58, 3) := by decide +kernel
theorem dX6_setFormat_7 : decode cX6_setFormat 7 = .ok (.iload_n 2, 1) := by decide +kernel
theorem dX6_setFormat_8 : decode cX6_setFormat 8 = .ok (.iconst 1, 1) := by decide +kernel
theorem dX6_setFormat_9 : decode cX6_setFormat 9 = .ok (.iconst 4, 1) := by decide +kernel
theorem dX6_setFormat_10 : decode cX6_setFormat 10 = .ok (.invokestatic 58, 3) := by decide +kernel
theorem dX6_setFormat_13 : decode cX6_setFormat 13 = .ok (.aload_n 0, 1) := by decide +kernel
theorem dX6_setFormat_14 : decode cX6_setFormat 14 = .ok (.getfield 26, 3) := by decide +kernel
theorem dX6_setFormat_17 : decode cX6_setFormat 17 = .ok (.iload_n 1, 1) := by decide +kernel
theorem dX6_setFormat_18 : decode cX6_setFormat 18 = .ok (.putfield 69, 3) := by decide +kernel
theorem dX6_setFormat_21 : decode cX6_setFormat 21 = .ok (.aload_n 0, 1) := by decide +kernel
theorem dX6_setFormat_22 : decode cX6_setFormat 22 = .ok (.getfield 26, 3) := by decide +kernel
theorem dX6_setFormat_25 : decode cX6_setFormat 25 = .ok (.iload_n 2, 1) := by decide +kernel
theorem dX6_setFormat_26 : decode cX6_setFormat 26 = .ok (.putfield 73, 3) := by decide +kernel
theorem dX6_setFormat_29 : decode cX6_setFormat 29 = .ok (.aload_n 0, 1) := by decide +kernel
theorem dX6_setFormat_30 : decode cX6_setFormat 30 = .ok (.getfield 26, 3) := by decide +kernel
theorem dX6_setFormat_33 : decode cX6_setFormat 33 = .ok (.aload_n 0, 1) := by decide +kernel
theorem dX6_setFormat_34 : decode cX6_setFormat 34 = .ok (.getfield 10, 3) := by decide +kernel
theorem dX6_setFormat_37 : decode cX6_setFormat 37 = .ok (.aload_n 0, 1) := by decide +kernel
theorem dX6_setFormat_38 : decode cX6_setFormat 38 = .ok (.getfield 19, 3) := by decide +kernel
theorem dX6_setFormat_41 : decode cX6_setFormat 41 = .ok (.invokevirtual 76, 3) := by decide +kernel
theorem dX6_setFormat_44 : decode cX6_setFormat 44 = .ok (.ireturn, 1) := by decide +kernel
set_option maxRecDepth 20000 in
theorem ggX6_ban_X6_needKind : GoodIn wsX6_ban wsX6_needKind := goodIn_ca (goodIn_r _ [8, 9, 10] (by decide +kernel) (by decide +kernel)) (goodIn_sub (fun _ h => List.mem_cons_of_mem _ (List.mem_append_right _ h)) (by decide +kernel))
set_option maxRecDepth 20000 in
theorem gX6_ban_X6_needKind : GoodIn wsX6_ban (va_wsS RX6 54 yX6_needKind wsX6_needKind) := goodIn_app (goodIn_of _ (by decide +kernel)) ggX6_ban_X6_needKind
set_option maxRecDepth 20000 in
theorem ggX6_ban_X0_countFitting : GoodIn wsX6_ban wsX0_countFitting := goodIn_r _ [15, 16, 17, 18, 19, 14, 20, 21, 22, 23, 24, 25, 26, 27, 28, 29, 30, 31, 32, 33, 34, 35, 36, 37, 38, 39, 40, 41, 42, 43, 56, 57, 58, 59, 60, 61, 62, 63, 64, 65, 51, 52, 53, 54, 55] (by decide +kernel) (by decide +kernel)
set_option maxRecDepth 20000 in
theorem gX6_ban_X0_countFitting : GoodIn wsX6_ban (wsV RX6 76 RX0 yX0_countFitting wsX0_countFitting) := goodIn_app (goodIn_of _ (by decide +kernel)) ggX6_ban_X0_countFitting
theorem dX6_ban_0 : decode cX6_ban 0 = .ok (.iload_n 1, 1) := by decide +kernel
theorem dX6_ban_1 : decode cX6_ban 1 = .ok (.invokestatic 54, 3) := by decide +kernel
theorem dX6_ban_4 : decode cX6_ban 4 = .ok (.aload_n 0, 1) := by decide +kernel
theorem dX6_ban_5 : decode cX6_ban 5 = .ok (.getfield 10, 3) := by decide +kernel
theorem dX6_ban_8 : decode cX6_ban 8 = .ok (.getfield 80, 3) := by decide +kernel
theorem dX6_ban_11 : decode cX6_ban 11 = .ok (.iload_n 1, 1) := by decide +kernel
theorem dX6_ban_12 : decode cX6_ban 12 = .ok (.iload_n 2, 1) := by decide +kernel
theorem dX6_ban_13 : decode cX6_ban 13 = .ok (.bastore, 1) := by decide +kernel
theorem dX6_ban_14 : decode cX6_ban 14 = .ok (.aload_n 0, 1) := by decide +kernel
theorem dX6_ban_15 : decode cX6_ban 15 = .ok (.getfield 26, 3) := by decide +kernel
theorem dX6_ban_18 : decode cX6_ban 18 = .ok (.aload_n 0, 1) := by decide +kernel
theorem dX6_ban_19 : decode cX6_ban 19 = .ok (.getfield 10, 3) := by decide +kernel
theorem dX6_ban_22 : decode cX6_ban 22 = .ok (.aload_n 0, 1) := by decide +kernel
theorem dX6_ban_23 : decode cX6_ban 23 = .ok (.getfield 19, 3) := by decide +kernel
theorem dX6_ban_26 : decode cX6_ban 26 = .ok (.invokevirtual 76, 3) := by decide +kernel
theorem dX6_ban_29 : decode cX6_ban 29 = .ok (.ireturn, 1) := by decide +kernel
set_option maxRecDepth 20000 in
theorem ggX6_print_X6_needKind : GoodIn wsX6_print wsX6_needKind := goodIn_ca (goodIn_r _ [10, 11, 12] (by decide +kernel) (by decide +kernel)) (goodIn_sub (fun _ h => List.mem_cons_of_mem _ (List.mem_append_right _ h)) (by decide +kernel))
set_option maxRecDepth 20000 in
theorem gX6_print_X6_needKind : GoodIn wsX6_print (va_wsS RX6 54 yX6_needKind wsX6_needKind) := goodIn_app (goodIn_of _ (by decide +kernel)) ggX6_print_X6_needKind
set_option maxRecDepth 20000 in
theorem ggX6_print_X6_needCollector : GoodIn wsX6_print wsX6_needCollector := goodIn_ca (goodIn_r _ [15, 11, 12] (by decide +kernel) (by decide +kernel)) (goodIn_sub (fun _ h => List.mem_cons_of_mem _ (List.mem_append_right _ h)) (by decide +kernel))
set_option maxRecDepth 20000 in
theorem gX6_print_X6_needCollector : GoodIn wsX6_print (va_wsS RX6 84 yX6_needCollector wsX6_needCollector) := goodIn_app (goodIn_of _ (by decide +kernel)) ggX6_print_X6_needCollector
set_option maxRecDepth 20000 in
theorem ggX6_print_X4_append : GoodIn wsX6_print wsX4_append := goodIn_r _ [20, 21, 22, 23, 24, 32, 33, 34, 35] (by decide +kernel) (by decide +kernel)
set_option maxRecDepth 20000 in
theorem gX6_print_X4_append : GoodIn wsX6_print (wsV RX6 100 RX4 yX4_append wsX4_append) := goodIn_app (goodIn_of _ (by decide +kernel)) ggX6_print_X4_append
theorem dX6_print_0 : decode cX6_print 0 = .ok (.iload_n 1, 1) := by decide +kernel
theorem dX6_print_1 : decode cX6_print 1 = .ok (.invokestatic 54, 3) := by decide +kernel
theorem dX6_print_4 : decode cX6_print 4 = .ok (.iload_n 2, 1) := by decide +kernel
theorem dX6_print_5 : decode cX6_print 5 = .ok (.invokestatic 84, 3) := by decide +kernel
theorem dX6_print_8 : decode cX6_print 8 = .ok (.aload_n 0, 1) := by decide +kernel
theorem dX6_print_9 : decode cX6_print 9 = .ok (.getfield 19, 3) := by decide +kernel
theorem dX6_print_12 : decode cX6_print 12 = .ok (.getfield 87, 3) := by decide +kernel
theorem dX6_print_15 : decode cX6_print 15 = .ok (.bipush 80, 2) := by decide +kernel
theorem dX6_print_17 : decode cX6_print 17 = .ok (.if_icmp .lt 13, 3) := by decide +kernel
theorem dX6_print_20 : decode cX6_print 20 = .ok (.new 90, 3) := by decide +kernel
theorem dX6_print_23 : decode cX6_print 23 = .ok (.dup, 1) := by decide +kernel
theorem dX6_print_24 : decode cX6_print 24 = .ok (.ldc 92, 2) := by decide +kernel
theorem dX6_print_26 : decode cX6_print 26 = .ok (.invokespecial 94, 3) := by decide +kernel
theorem dX6_print_29 : decode cX6_print 29 = .ok (.athrow, 1) := by decide +kernel
theorem dX6_print_30 : decode cX6_print 30 = .ok (.aload_n 0, 1) := by decide +kernel
theorem dX6_print_31 : decode cX6_print 31 = .ok (.getfield 10, 3) := by decide +kernel
theorem dX6_print_34 : decode cX6_print 34 = .ok (.getfield 97, 3) := by decide +kernel
theorem dX6_print_37 : decode cX6_print 37 = .ok (.iload_n 1, 1) := by decide +kernel
theorem dX6_print_38 : decode cX6_print 38 = .ok (.dup2, 1) := by decide +kernel
theorem dX6_print_39 : decode cX6_print 39 = .ok (.iaload, 1) := by decide +kernel
theorem dX6_print_40 : decode cX6_print 40 = .ok (.iconst 1, 1) := by decide +kernel
theorem dX6_print_41 : decode cX6_print 41 = .ok (.iadd, 1) := by decide +kernel
theorem dX6_print_42 : decode cX6_print 42 = .ok (.iastore, 1) := by decide +kernel
theorem dX6_print_43 : decode cX6_print 43 = .ok (.aload_n 0, 1) := by decide +kernel
theorem dX6_print_44 : decode cX6_print 44 = .ok (.getfield 19, 3) := by decide +kernel
theorem dX6_print_47 : decode cX6_print 47 = .ok (.iload_n 1, 1) := by decide +kernel
theorem dX6_print_48 : decode cX6_print 48 = .ok (.aload_n 0, 1) := by decide +kernel
theorem dX6_print_49 : decode cX6_print 49 = .ok (.getfield 10, 3) := by decide +kernel
theorem dX6_print_52 : decode cX6_print 52 = .ok (.getfield 97, 3) := by decide +kernel
theorem dX6_print_55 : decode cX6_print 55 = .ok (.iload_n 1, 1) := by decide +kernel
theorem dX6_print_56 : decode cX6_print 56 = .ok (.iaload, 1) := by decide +kernel
theorem dX6_print_57 : decode cX6_print 57 = .ok (.iload_n 2, 1) := by decide +kernel
theorem dX6_print_58 : decode cX6_print 58 = .ok (.invokevirtual 100, 3) := by decide +kernel
theorem dX6_print_61 : decode cX6_print 61 = .ok (.ireturn, 1) := by decide +kernel
set_option maxRecDepth 20000 in
theorem ggX6_deck_X6_needCollector : GoodIn wsX6_deck wsX6_needCollector := goodIn_ca (goodIn_r _ [8, 9, 10] (by decide +kernel) (by decide +kernel)) (goodIn_sub (fun _ h => List.mem_cons_of_mem _ (List.mem_append_right _ h)) (by decide +kernel))
set_option maxRecDepth 20000 in
theorem gX6_deck_X6_needCollector : GoodIn wsX6_deck (va_wsS RX6 84 yX6_needCollector wsX6_needCollector) := goodIn_app (goodIn_of _ (by decide +kernel)) ggX6_deck_X6_needCollector
set_option maxRecDepth 20000 in
theorem ggX6_deck_X0_append : GoodIn wsX6_deck wsX0_append := goodIn_r _ [15, 16, 17, 25, 26, 27, 28, 29, 30] (by decide +kernel) (by decide +kernel)
set_option maxRecDepth 20000 in
theorem gX6_deck_X0_append : GoodIn wsX6_deck (wsV RX6 107 RX0 yX0_append wsX0_append) := goodIn_app (goodIn_of _ (by decide +kernel)) ggX6_deck_X0_append
theorem dX6_deck_0 : decode cX6_deck 0 = .ok (.iload_n 1, 1) := by decide +kernel
theorem dX6_deck_1 : decode cX6_deck 1 = .ok (.invokestatic 84, 3) := by decide +kernel
theorem dX6_deck_4 : decode cX6_deck 4 = .ok (.aload_n 0, 1) := by decide +kernel
theorem dX6_deck_5 : decode cX6_deck 5 = .ok (.getfield 26, 3) := by decide +kernel
theorem dX6_deck_8 : decode cX6_deck 8 = .ok (.getfield 104, 3) := by decide +kernel
theorem dX6_deck_11 : decode cX6_deck 11 = .ok (.bipush 12, 2) := by decide +kernel
theorem dX6_deck_13 : decode cX6_deck 13 = .ok (.if_icmp .lt 13, 3) := by decide +kernel
theorem dX6_deck_16 : decode cX6_deck 16 = .ok (.new 90, 3) := by decide +kernel
theorem dX6_deck_19 : decode cX6_deck 19 = .ok (.dup, 1) := by decide +kernel
theorem dX6_deck_20 : decode cX6_deck 20 = .ok (.ldc 105, 2) := by decide +kernel
theorem dX6_deck_22 : decode cX6_deck 22 = .ok (.invokespecial 94, 3) := by decide +kernel
theorem dX6_deck_25 : decode cX6_deck 25 = .ok (.athrow, 1) := by decide +kernel
theorem dX6_deck_26 : decode cX6_deck 26 = .ok (.aload_n 0, 1) := by decide +kernel
theorem dX6_deck_27 : decode cX6_deck 27 = .ok (.getfield 26, 3) := by decide +kernel
theorem dX6_deck_30 : decode cX6_deck 30 = .ok (.iload_n 1, 1) := by decide +kernel
theorem dX6_deck_31 : decode cX6_deck 31 = .ok (.invokevirtual 107, 3) := by decide +kernel
theorem dX6_deck_34 : decode cX6_deck 34 = .ok (.ireturn, 1) := by decide +kernel
set_option maxRecDepth 20000 in
theorem ggX6_add_X6_needDeck : GoodIn wsX6_add wsX6_needDeck := goodIn_ca (goodIn_r _ [14, 15, 16, 7, 17, 34, 35, 36, 37, 38, 39, 40, 45, 46, 47, 48, 49, 50] (by decide +kernel) (by decide +kernel)) (goodIn_sub (fun _ h => List.mem_cons_of_mem _ (List.mem_append_right _ h)) (by decide +kernel))
set_option maxRecDepth 20000 in
theorem gX6_add_X6_needDeck : GoodIn wsX6_add (wsV RX6 110 RX6 yX6_needDeck wsX6_needDeck) := goodIn_app (goodIn_of _ (by decide +kernel)) ggX6_add_X6_needDeck
set_option maxRecDepth 20000 in
theorem ggX6_add_X6_needCard : GoodIn wsX6_add wsX6_needCard := goodIn_ca (goodIn_r _ [21, 15, 16, 5, 22, 34, 35, 36, 37, 38, 39, 40, 41, 42, 43, 44] (by decide +kernel) (by decide +kernel)) (goodIn_sub (fun _ h => List.mem_cons_of_mem _ (List.mem_append_right _ h)) (by decide +kernel))
set_option maxRecDepth 20000 in
theorem gX6_add_X6_needCard : GoodIn wsX6_add (wsV RX6 113 RX6 yX6_needCard wsX6_needCard) := goodIn_app (goodIn_of _ (by decide +kernel)) ggX6_add_X6_needCard
set_option maxRecDepth 20000 in
theorem ggX6_add_X0_holds : GoodIn wsX6_add wsX0_holds := goodIn_r _ [27, 28, 29, 45, 46, 47, 48, 49, 50] (by decide +kernel) (by decide +kernel)
set_option maxRecDepth 20000 in
theorem gX6_add_X0_holds : GoodIn wsX6_add (wsV RX6 127 RX0 yX0_holds wsX0_holds) := goodIn_app (goodIn_of _ (by decide +kernel)) ggX6_add_X0_holds
set_option maxRecDepth 20000 in
theorem ggX6_add_X0_putBehind : GoodIn wsX6_add wsX0_putBehind := goodIn_r _ [33, 29, 28, 45, 46, 47, 48, 49, 50] (by decide +kernel) (by decide +kernel)
set_option maxRecDepth 20000 in
theorem gX6_add_X0_putBehind : GoodIn wsX6_add (wsV RX6 138 RX0 yX0_putBehind wsX0_putBehind) := goodIn_app (goodIn_of _ (by decide +kernel)) ggX6_add_X0_putBehind
theorem dX6_add_0 : decode cX6_add 0 = .ok (.aload_n 0, 1) := by decide +kernel
theorem dX6_add_1 : decode cX6_add 1 = .ok (.iload_n 1, 1) := by decide +kernel
theorem dX6_add_2 : decode cX6_add 2 = .ok (.invokevirtual 110, 3) := by decide +kernel
theorem dX6_add_5 : decode cX6_add 5 = .ok (.aload_n 0, 1) := by decide +kernel
theorem dX6_add_6 : decode cX6_add 6 = .ok (.iload_n 2, 1) := by decide +kernel
theorem dX6_add_7 : decode cX6_add 7 = .ok (.invokevirtual 113, 3) := by decide +kernel
theorem dX6_add_10 : decode cX6_add 10 = .ok (.aload_n 0, 1) := by decide +kernel
theorem dX6_add_11 : decode cX6_add 11 = .ok (.getfield 19, 3) := by decide +kernel
theorem dX6_add_14 : decode cX6_add 14 = .ok (.getfield 116, 3) := by decide +kernel
theorem dX6_add_17 : decode cX6_add 17 = .ok (.iload_n 2, 1) := by decide +kernel
theorem dX6_add_18 : decode cX6_add 18 = .ok (.iaload, 1) := by decide +kernel
theorem dX6_add_19 : decode cX6_add 19 = .ok (.aload_n 0, 1) := by decide +kernel
theorem dX6_add_20 : decode cX6_add 20 = .ok (.getfield 26, 3) := by decide +kernel
theorem dX6_add_23 : decode cX6_add 23 = .ok (.getfield 119, 3) := by decide +kernel
theorem dX6_add_26 : decode cX6_add 26 = .ok (.iload_n 1, 1) := by decide +kernel
theorem dX6_add_27 : decode cX6_add 27 = .ok (.iaload, 1) := by decide +kernel
theorem dX6_add_28 : decode cX6_add 28 = .ok (.if_icmp .eq 13, 3) := by decide +kernel
theorem dX6_add_31 : decode cX6_add 31 = .ok (.new 122, 3) := by decide +kernel
theorem dX6_add_34 : decode cX6_add 34 = .ok (.dup, 1) := by decide +kernel
theorem dX6_add_35 : decode cX6_add 35 = .ok (.ldc 124, 2) := by decide +kernel
theorem dX6_add_37 : decode cX6_add 37 = .ok (.invokespecial 126, 3) := by decide +kernel
theorem dX6_add_40 : decode cX6_add 40 = .ok (.athrow, 1) := by decide +kernel
theorem dX6_add_41 : decode cX6_add 41 = .ok (.aload_n 0, 1) := by decide +kernel
theorem dX6_add_42 : decode cX6_add 42 = .ok (.getfield 26, 3) := by decide +kernel
theorem dX6_add_45 : decode cX6_add 45 = .ok (.iload_n 1, 1) := by decide +kernel
theorem dX6_add_46 : decode cX6_add 46 = .ok (.iload_n 2, 1) := by decide +kernel
theorem dX6_add_47 : decode cX6_add 47 = .ok (.invokevirtual 127, 3) := by decide +kernel
theorem dX6_add_50 : decode cX6_add 50 = .ok (.ifCond .eq 13, 3) := by decide +kernel
theorem dX6_add_53 : decode cX6_add 53 = .ok (.new 122, 3) := by decide +kernel
theorem dX6_add_56 : decode cX6_add 56 = .ok (.dup, 1) := by decide +kernel
theorem dX6_add_57 : decode cX6_add 57 = .ok (.ldc 131, 2) := by decide +kernel
theorem dX6_add_59 : decode cX6_add 59 = .ok (.invokespecial 126, 3) := by decide +kernel
theorem dX6_add_62 : decode cX6_add 62 = .ok (.athrow, 1) := by decide +kernel
theorem dX6_add_63 : decode cX6_add 63 = .ok (.aload_n 0, 1) := by decide +kernel
theorem dX6_add_64 : decode cX6_add 64 = .ok (.getfield 26, 3) := by decide +kernel
theorem dX6_add_67 : decode cX6_add 67 = .ok (.getfield 133, 3) := by decide +kernel
theorem dX6_add_70 : decode cX6_add 70 = .ok (.iload_n 1, 1) := by decide +kernel
theorem dX6_add_71 : decode cX6_add 71 = .ok (.iaload, 1) := by decide +kernel
theorem dX6_add_72 : decode cX6_add 72 = .ok (.bipush 10, 2) := by decide +kernel
theorem dX6_add_74 : decode cX6_add 74 = .ok (.if_icmp .lt 13, 3) := by decide +kernel
theorem dX6_add_77 : decode cX6_add 77 = .ok (.new 90, 3) := by decide +kernel
theorem dX6_add_80 : decode cX6_add 80 = .ok (.dup, 1) := by decide +kernel
theorem dX6_add_81 : decode cX6_add 81 = .ok (.ldc 136, 2) := by decide +kernel
theorem dX6_add_83 : decode cX6_add 83 = .ok (.invokespecial 94, 3) := by decide +kernel
theorem dX6_add_86 : decode cX6_add 86 = .ok (.athrow, 1) := by decide +kernel
theorem dX6_add_87 : decode cX6_add 87 = .ok (.aload_n 0, 1) := by decide +kernel
theorem dX6_add_88 : decode cX6_add 88 = .ok (.getfield 26, 3) := by decide +kernel
theorem dX6_add_91 : decode cX6_add 91 = .ok (.iload_n 1, 1) := by decide +kernel
theorem dX6_add_92 : decode cX6_add 92 = .ok (.iload_n 2, 1) := by decide +kernel
theorem dX6_add_93 : decode cX6_add 93 = .ok (.invokevirtual 138, 3) := by decide +kernel
theorem dX6_add_96 : decode cX6_add 96 = .ok (.ireturn, 1) := by decide +kernel
set_option maxRecDepth 20000 in
theorem ggX6_cut_X6_needDeck : GoodIn wsX6_cut wsX6_needDeck := goodIn_ca (goodIn_r _ [6, 7, 8, 1, 9, 22, 23, 24, 25, 26, 27, 28, 29, 30, 31, 32, 33, 34] (by decide +kernel) (by decide +kernel)) (goodIn_sub (fun _ h => List.mem_cons_of_mem _ (List.mem_append_right _ h)) (by decide +kernel))
set_option maxRecDepth 20000 in
theorem gX6_cut_X6_needDeck : GoodIn wsX6_cut (wsV RX6 110 RX6 yX6_needDeck wsX6_needDeck) := goodIn_app (goodIn_of _ (by decide +kernel)) ggX6_cut_X6_needDeck
set_option maxRecDepth 20000 in
theorem ggX6_cut_X6_needPlace : GoodIn wsX6_cut wsX6_needPlace := goodIn_ca (goodIn_r _ [13, 7, 8, 1, 14, 22, 23, 24, 25, 26, 27, 28, 29, 30, 31, 32, 33, 34] (by decide +kernel) (by decide +kernel)) (goodIn_sub (fun _ h => List.mem_cons_of_mem _ (List.mem_append_right _ h)) (by decide +kernel))
set_option maxRecDepth 20000 in
theorem gX6_cut_X6_needPlace : GoodIn wsX6_cut (wsV RX6 142 RX6 yX6_needPlace wsX6_needPlace) := goodIn_app (goodIn_of _ (by decide +kernel)) ggX6_cut_X6_needPlace
set_option maxRecDepth 20000 in
theorem ggX6_cut_X0_takeOut : GoodIn wsX6_cut wsX0_takeOut := goodIn_r _ [19, 20, 21, 29, 30, 31, 32, 33, 34] (by decide +kernel) (by decide +kernel)
set_option maxRecDepth 20000 in
theorem gX6_cut_X0_takeOut : GoodIn wsX6_cut (wsV RX6 146 RX0 yX0_takeOut wsX0_takeOut) := goodIn_app (goodIn_of _ (by decide +kernel)) ggX6_cut_X0_takeOut
theorem dX6_cut_0 : decode cX6_cut 0 = .ok (.aload_n 0, 1) := by decide +kernel
theorem dX6_cut_1 : decode cX6_cut 1 = .ok (.iload_n 1, 1) := by decide +kernel
theorem dX6_cut_2 : decode cX6_cut 2 = .ok (.invokevirtual 110, 3) := by decide +kernel
theorem dX6_cut_5 : decode cX6_cut 5 = .ok (.aload_n 0, 1) := by decide +kernel
theorem dX6_cut_6 : decode cX6_cut 6 = .ok (.iload_n 1, 1) := by decide +kernel
theorem dX6_cut_7 : decode cX6_cut 7 = .ok (.iload_n 2, 1) := by decide +kernel
theorem dX6_cut_8 : decode cX6_cut 8 = .ok (.invokevirtual 142, 3) := by decide +kernel
theorem dX6_cut_11 : decode cX6_cut 11 = .ok (.aload_n 0, 1) := by decide +kernel
theorem dX6_cut_12 : decode cX6_cut 12 = .ok (.getfield 26, 3) := by decide +kernel
theorem dX6_cut_15 : decode cX6_cut 15 = .ok (.iload_n 1, 1) := by decide +kernel
theorem dX6_cut_16 : decode cX6_cut 16 = .ok (.iload_n 2, 1) := by decide +kernel
theorem dX6_cut_17 : decode cX6_cut 17 = .ok (.invokevirtual 146, 3) := by decide +kernel
theorem dX6_cut_20 : decode cX6_cut 20 = .ok (.ireturn, 1) := by decide +kernel
set_option maxRecDepth 20000 in
theorem ggX6_play_X6_needDeck : GoodIn wsX6_play wsX6_needDeck := goodIn_ca (goodIn_r _ [13, 14, 15, 3, 16, 96, 97, 98, 99, 100, 101, 102, 103, 104, 105, 106, 107, 108] (by decide +kernel) (by decide +kernel)) (goodIn_sub (fun _ h => List.mem_cons_of_mem _ (List.mem_append_left _ (List.mem_append_right _ h))) (by decide +kernel))
set_option maxRecDepth 20000 in
theorem gX6_play_X6_needDeck : GoodIn wsX6_play (wsV RX6 110 RX6 yX6_needDeck wsX6_needDeck) := goodIn_app (goodIn_of _ (by decide +kernel)) ggX6_play_X6_needDeck
set_option maxRecDepth 20000 in
theorem ggX6_play_X6_needSeed : GoodIn wsX6_play wsX6_needSeed := goodIn_ca (goodIn_r _ [19, 1, 2] (by decide +kernel) (by decide +kernel)) (goodIn_sub (fun _ h => List.mem_cons_of_mem _ (List.mem_append_left _ (List.mem_append_left _ (List.mem_append_right _ h)))) (by decide +kernel))
set_option maxRecDepth 20000 in
theorem gX6_play_X6_needSeed : GoodIn wsX6_play (va_wsS RX6 149 yX6_needSeed wsX6_needSeed) := goodIn_app (goodIn_of _ (by decide +kernel)) ggX6_play_X6_needSeed
set_option maxRecDepth 20000 in
theorem ggX6_play_X6_needAllowed : GoodIn wsX6_play wsX6_needAllowed := goodIn_ca (goodIn_r _ [23, 24, 25, 3, 26, 27, 28, 29, 30, 31, 32, 33, 34, 35, 36, 37, 38, 39, 40, 41, 42, 43, 44, 45, 46, 47, 48, 49, 50, 51, 52, 53, 54, 55, 96, 97, 98, 99, 100, 101, 102, 103, 104, 105, 106, 107, 108, 112, 113, 114, 115, 116, 117, 118, 119, 120] (by decide +kernel) (by decide +kernel)) (goodIn_sub (fun _ h => List.mem_cons_of_mem _ (List.mem_append_right _ h)) (by decide +kernel))
set_option maxRecDepth 20000 in
theorem gX6_play_X6_needAllowed : GoodIn wsX6_play (wsV RX6 154 RX6 yX6_needAllowed wsX6_needAllowed) := goodIn_app (goodIn_of _ (by decide +kernel)) ggX6_play_X6_needAllowed
set_option maxRecDepth 20000 in
theorem ggX6_play_X5_start : GoodIn wsX6_play wsX5_start := goodIn_r _ [60, 61, 62, 63, 64, 65, 66, 67, 68, 69, 70, 71, 72, 73, 74, 75, 109, 110, 111, 103, 104, 105, 106, 107, 108, 121] (by decide +kernel) (by decide +kernel)
set_option maxRecDepth 20000 in
theorem gX6_play_X5_start : GoodIn wsX6_play (wsV RX6 157 RX5 yX5_start wsX5_start) := goodIn_app (goodIn_of _ (by decide +kernel)) ggX6_play_X5_start
set_option maxRecDepth 20000 in
theorem ggX6_play_X6_playRound : GoodIn wsX6_play wsX6_playRound := goodIn_r _ [79, 27, 80, 5, 81, 82, 6, 26, 83, 84, 85, 86, 87, 88, 59, 89, 63, 62, 96, 97, 98, 99, 100, 101, 102, 112, 113, 114, 115, 109, 110, 111, 121, 116, 117, 118, 119, 120] (by decide +kernel) (by decide +kernel)
set_option maxRecDepth 20000 in
theorem gX6_play_X6_playRound : GoodIn wsX6_play (wsV RX6 161 RX6 yX6_playRound wsX6_playRound) := goodIn_app (goodIn_of _ (by decide +kernel)) ggX6_play_X6_playRound
set_option maxRecDepth 20000 in
theorem ggX6_play_X6_giveWins : GoodIn wsX6_play wsX6_giveWins := goodIn_r _ [93, 3, 27, 26, 94, 95, 42, 43, 31, 44, 45, 46, 47, 48, 33, 36, 35, 49, 50, 51, 52, 53, 54, 55, 96, 97, 98, 99, 100, 101, 102, 116, 117, 118, 119, 120, 103, 104, 105, 106, 107, 108, 112, 113, 114, 115] (by decide +kernel) (by decide +kernel)
set_option maxRecDepth 20000 in
theorem gX6_play_X6_giveWins : GoodIn wsX6_play (wsV RX6 167 RX6 yX6_giveWins wsX6_giveWins) := goodIn_app (goodIn_of _ (by decide +kernel)) ggX6_play_X6_giveWins
theorem dX6_play_0 : decode cX6_play 0 = .ok (.aload_n 0, 1) := by decide +kernel
theorem dX6_play_1 : decode cX6_play 1 = .ok (.iload_n 1, 1) := by decide +kernel
theorem dX6_play_2 : decode cX6_play 2 = .ok (.invokevirtual 110, 3) := by decide +kernel
theorem dX6_play_5 : decode cX6_play 5 = .ok (.aload_n 0, 1) := by decide +kernel
theorem dX6_play_6 : decode cX6_play 6 = .ok (.iload_n 2, 1) := by decide +kernel
theorem dX6_play_7 : decode cX6_play 7 = .ok (.invokevirtual 110, 3) := by decide +kernel
theorem dX6_play_10 : decode cX6_play 10 = .ok (.iload_n 3, 1) := by decide +kernel
theorem dX6_play_11 : decode cX6_play 11 = .ok (.invokestatic 149, 3) := by decide +kernel
theorem dX6_play_14 : decode cX6_play 14 = .ok (.iload 4, 2) := by decide +kernel
theorem dX6_play_16 : decode cX6_play 16 = .ok (.invokestatic 149, 3) := by decide +kernel
theorem dX6_play_19 : decode cX6_play 19 = .ok (.aload_n 0, 1) := by decide +kernel
theorem dX6_play_20 : decode cX6_play 20 = .ok (.getfield 26, 3) := by decide +kernel
theorem dX6_play_23 : decode cX6_play 23 = .ok (.getfield 119, 3) := by decide +kernel
theorem dX6_play_26 : decode cX6_play 26 = .ok (.iload_n 1, 1) := by decide +kernel
theorem dX6_play_27 : decode cX6_play 27 = .ok (.iaload, 1) := by decide +kernel
theorem dX6_play_28 : decode cX6_play 28 = .ok (.aload_n 0, 1) := by decide +kernel
theorem dX6_play_29 : decode cX6_play 29 = .ok (.getfield 26, 3) := by decide +kernel
theorem dX6_play_32 : decode cX6_play 32 = .ok (.getfield 119, 3) := by decide +kernel
theorem dX6_play_35 : decode cX6_play 35 = .ok (.iload_n 2, 1) := by decide +kernel
theorem dX6_play_36 : decode cX6_play 36 = .ok (.iaload, 1) := by decide +kernel
theorem dX6_play_37 : decode cX6_play 37 = .ok (.if_icmp .ne 13, 3) := by decide +kernel
theorem dX6_play_40 : decode cX6_play 40 = .ok (.new 122, 3) := by decide +kernel
theorem dX6_play_43 : decode cX6_play 43 = .ok (.dup, 1) := by decide +kernel
theorem dX6_play_44 : decode cX6_play 44 = .ok (.ldc 152, 2) := by decide +kernel
theorem dX6_play_46 : decode cX6_play 46 = .ok (.invokespecial 126, 3) := by decide +kernel
theorem dX6_play_49 : decode cX6_play 49 = .ok (.athrow, 1) := by decide +kernel
theorem dX6_play_50 : decode cX6_play 50 = .ok (.aload_n 0, 1) := by decide +kernel
theorem dX6_play_51 : decode cX6_play 51 = .ok (.iload_n 1, 1) := by decide +kernel
theorem dX6_play_52 : decode cX6_play 52 = .ok (.invokevirtual 154, 3) := by decide +kernel
theorem dX6_play_55 : decode cX6_play 55 = .ok (.aload_n 0, 1) := by decide +kernel
theorem dX6_play_56 : decode cX6_play 56 = .ok (.iload_n 2, 1) := by decide +kernel
theorem dX6_play_57 : decode cX6_play 57 = .ok (.invokevirtual 154, 3) := by decide +kernel
theorem dX6_play_60 : decode cX6_play 60 = .ok (.aload_n 0, 1) := by decide +kernel
theorem dX6_play_61 : decode cX6_play 61 = .ok (.getfield 47, 3) := by decide +kernel
theorem dX6_play_64 : decode cX6_play 64 = .ok (.aload_n 0, 1) := by decide +kernel
theorem dX6_play_65 : decode cX6_play 65 = .ok (.getfield 26, 3) := by decide +kernel
theorem dX6_play_68 : decode cX6_play 68 = .ok (.iload_n 1, 1) := by decide +kernel
theorem dX6_play_69 : decode cX6_play 69 = .ok (.iload_n 3, 1) := by decide +kernel
theorem dX6_play_70 : decode cX6_play 70 = .ok (.invokevirtual 157, 3) := by decide +kernel
theorem dX6_play_73 : decode cX6_play 73 = .ok (.aload_n 0, 1) := by decide +kernel
theorem dX6_play_74 : decode cX6_play 74 = .ok (.getfield 51, 3) := by decide +kernel
theorem dX6_play_77 : decode cX6_play 77 = .ok (.aload_n 0, 1) := by decide +kernel
theorem dX6_play_78 : decode cX6_play 78 = .ok (.getfield 26, 3) := by decide +kernel
theorem dX6_play_81 : decode cX6_play 81 = .ok (.iload_n 2, 1) := by decide +kernel
theorem dX6_play_82 : decode cX6_play 82 = .ok (.iload 4, 2) := by decide +kernel
theorem dX6_play_84 : decode cX6_play 84 = .ok (.invokevirtual 157, 3) := by decide +kernel
theorem dX6_play_87 : decode cX6_play 87 = .ok (.iconst 0, 1) := by decide +kernel
theorem dX6_play_88 : decode cX6_play 88 = .ok (.istore 5, 2) := by decide +kernel
theorem dX6_play_90 : decode cX6_play 90 = .ok (.iload 5, 2) := by decide +kernel
theorem dX6_play_92 : decode cX6_play 92 = .ok (.aload_n 0, 1) := by decide +kernel
theorem dX6_play_93 : decode cX6_play 93 = .ok (.getfield 26, 3) := by decide +kernel
theorem dX6_play_96 : decode cX6_play 96 = .ok (.getfield 69, 3) := by decide +kernel
theorem dX6_play_99 : decode cX6_play 99 = .ok (.if_icmp .ge 15, 3) := by decide +kernel
theorem dX6_play_102 : decode cX6_play 102 = .ok (.aload_n 0, 1) := by decide +kernel
theorem dX6_play_103 : decode cX6_play 103 = .ok (.iload 5, 2) := by decide +kernel
theorem dX6_play_105 : decode cX6_play 105 = .ok (.invokevirtual 161, 3) := by decide +kernel
theorem dX6_play_108 : decode cX6_play 108 = .ok (.iinc 5 1, 3) := by decide +kernel
theorem dX6_play_111 : decode cX6_play 111 = .ok (.goto (-21), 3) := by decide +kernel
theorem dX6_play_114 : decode cX6_play 114 = .ok (.aload_n 0, 1) := by decide +kernel
theorem dX6_play_115 : decode cX6_play 115 = .ok (.getfield 47, 3) := by decide +kernel
theorem dX6_play_118 : decode cX6_play 118 = .ok (.getfield 164, 3) := by decide +kernel
theorem dX6_play_121 : decode cX6_play 121 = .ok (.aload_n 0, 1) := by decide +kernel
theorem dX6_play_122 : decode cX6_play 122 = .ok (.getfield 51, 3) := by decide +kernel
theorem dX6_play_125 : decode cX6_play 125 = .ok (.getfield 164, 3) := by decide +kernel
theorem dX6_play_128 : decode cX6_play 128 = .ok (.isub, 1) := by decide +kernel
theorem dX6_play_129 : decode cX6_play 129 = .ok (.istore 5, 2) := by decide +kernel
theorem dX6_play_131 : decode cX6_play 131 = .ok (.iload 5, 2) := by decide +kernel
theorem dX6_play_133 : decode cX6_play 133 = .ok (.ifCond .le 8, 3) := by decide +kernel
theorem dX6_play_136 : decode cX6_play 136 = .ok (.aload_n 0, 1) := by decide +kernel
theorem dX6_play_137 : decode cX6_play 137 = .ok (.iload_n 1, 1) := by decide +kernel
theorem dX6_play_138 : decode cX6_play 138 = .ok (.invokevirtual 167, 3) := by decide +kernel
theorem dX6_play_141 : decode cX6_play 141 = .ok (.iload 5, 2) := by decide +kernel
theorem dX6_play_143 : decode cX6_play 143 = .ok (.ifCond .ge 8, 3) := by decide +kernel
theorem dX6_play_146 : decode cX6_play 146 = .ok (.aload_n 0, 1) := by decide +kernel
theorem dX6_play_147 : decode cX6_play 147 = .ok (.iload_n 2, 1) := by decide +kernel
theorem dX6_play_148 : decode cX6_play 148 = .ok (.invokevirtual 167, 3) := by decide +kernel
theorem dX6_play_151 : decode cX6_play 151 = .ok (.iload 5, 2) := by decide +kernel
theorem dX6_play_153 : decode cX6_play 153 = .ok (.ireturn, 1) := by decide +kernel
set_option maxRecDepth 20000 in
theorem ggX6_offer_X6_needCard : GoodIn wsX6_offer wsX6_needCard := goodIn_ca (goodIn_r _ [13, 14, 15, 5, 16, 37, 38, 39, 40, 41, 42, 43, 44, 45, 46, 47] (by decide +kernel) (by decide +kernel)) (goodIn_sub (fun _ h => List.mem_cons_of_mem _ (List.mem_append_right _ h)) (by decide +kernel))
set_option maxRecDepth 20000 in
theorem gX6_offer_X6_needCard : GoodIn wsX6_offer (wsV RX6 113 RX6 yX6_needCard wsX6_needCard) := goodIn_app (goodIn_of _ (by decide +kernel)) ggX6_offer_X6_needCard
set_option maxRecDepth 20000 in
theorem ggX6_offer_X6_needKind : GoodIn wsX6_offer wsX6_needKind := goodIn_ca (goodIn_r _ [19, 14, 15] (by decide +kernel) (by decide +kernel)) (goodIn_sub (fun _ h => List.mem_cons_of_mem _ (List.mem_append_right _ h)) (by decide +kernel))
set_option maxRecDepth 20000 in
theorem gX6_offer_X6_needKind : GoodIn wsX6_offer (va_wsS RX6 54 yX6_needKind wsX6_needKind) := goodIn_app (goodIn_of _ (by decide +kernel)) ggX6_offer_X6_needKind
set_option maxRecDepth 20000 in
theorem ggX6_offer_X2_hasLive : GoodIn wsX6_offer wsX2_hasLive := goodIn_r _ [24, 25, 26, 27, 48, 49, 50, 51, 52, 53, 54] (by decide +kernel) (by decide +kernel)
set_option maxRecDepth 20000 in
theorem gX6_offer_X2_hasLive : GoodIn wsX6_offer (wsV RX6 175 RX2 yX2_hasLive wsX2_hasLive) := goodIn_app (goodIn_of _ (by decide +kernel)) ggX6_offer_X2_hasLive
set_option maxRecDepth 20000 in
theorem ggX6_offer_X2_append : GoodIn wsX6_offer wsX2_append := goodIn_r _ [31, 25, 27, 32, 33, 34, 35, 36, 26, 48, 49, 50, 51, 52, 53, 54, 44, 45, 46, 47] (by decide +kernel) (by decide +kernel)
set_option maxRecDepth 20000 in
theorem gX6_offer_X2_append : GoodIn wsX6_offer (wsV RX6 184 RX2 yX2_append wsX2_append) := goodIn_app (goodIn_of _ (by decide +kernel)) ggX6_offer_X2_append
theorem dX6_offer_0 : decode cX6_offer 0 = .ok (.aload_n 0, 1) := by decide +kernel
theorem dX6_offer_1 : decode cX6_offer 1 = .ok (.iload_n 1, 1) := by decide +kernel
theorem dX6_offer_2 : decode cX6_offer 2 = .ok (.invokevirtual 113, 3) := by decide +kernel
theorem dX6_offer_5 : decode cX6_offer 5 = .ok (.iload_n 2, 1) := by decide +kernel
theorem dX6_offer_6 : decode cX6_offer 6 = .ok (.invokestatic 54, 3) := by decide +kernel
theorem dX6_offer_9 : decode cX6_offer 9 = .ok (.aload_n 0, 1) := by decide +kernel
theorem dX6_offer_10 : decode cX6_offer 10 = .ok (.getfield 19, 3) := by decide +kernel
theorem dX6_offer_13 : decode cX6_offer 13 = .ok (.getfield 170, 3) := by decide +kernel
theorem dX6_offer_16 : decode cX6_offer 16 = .ok (.iload_n 1, 1) := by decide +kernel
theorem dX6_offer_17 : decode cX6_offer 17 = .ok (.iaload, 1) := by decide +kernel
theorem dX6_offer_18 : decode cX6_offer 18 = .ok (.iload_n 2, 1) := by decide +kernel
theorem dX6_offer_19 : decode cX6_offer 19 = .ok (.if_icmp .ne 13, 3) := by decide +kernel
theorem dX6_offer_22 : decode cX6_offer 22 = .ok (.new 122, 3) := by decide +kernel
theorem dX6_offer_25 : decode cX6_offer 25 = .ok (.dup, 1) := by decide +kernel
theorem dX6_offer_26 : decode cX6_offer 26 = .ok (.ldc 173, 2) := by decide +kernel
theorem dX6_offer_28 : decode cX6_offer 28 = .ok (.invokespecial 126, 3) := by decide +kernel
theorem dX6_offer_31 : decode cX6_offer 31 = .ok (.athrow, 1) := by decide +kernel
theorem dX6_offer_32 : decode cX6_offer 32 = .ok (.aload_n 0, 1) := by decide +kernel
theorem dX6_offer_33 : decode cX6_offer 33 = .ok (.getfield 33, 3) := by decide +kernel
theorem dX6_offer_36 : decode cX6_offer 36 = .ok (.iload_n 1, 1) := by decide +kernel
theorem dX6_offer_37 : decode cX6_offer 37 = .ok (.invokevirtual 175, 3) := by decide +kernel
theorem dX6_offer_40 : decode cX6_offer 40 = .ok (.ifCond .eq 13, 3) := by decide +kernel
theorem dX6_offer_43 : decode cX6_offer 43 = .ok (.new 90, 3) := by decide +kernel
theorem dX6_offer_46 : decode cX6_offer 46 = .ok (.dup, 1) := by decide +kernel
theorem dX6_offer_47 : decode cX6_offer 47 = .ok (.ldc 179, 2) := by decide +kernel
theorem dX6_offer_49 : decode cX6_offer 49 = .ok (.invokespecial 94, 3) := by decide +kernel
theorem dX6_offer_52 : decode cX6_offer 52 = .ok (.athrow, 1) := by decide +kernel
theorem dX6_offer_53 : decode cX6_offer 53 = .ok (.aload_n 0, 1) := by decide +kernel
theorem dX6_offer_54 : decode cX6_offer 54 = .ok (.getfield 33, 3) := by decide +kernel
theorem dX6_offer_57 : decode cX6_offer 57 = .ok (.getfield 181, 3) := by decide +kernel
theorem dX6_offer_60 : decode cX6_offer 60 = .ok (.bipush 40, 2) := by decide +kernel
theorem dX6_offer_62 : decode cX6_offer 62 = .ok (.if_icmp .lt 13, 3) := by decide +kernel
theorem dX6_offer_65 : decode cX6_offer 65 = .ok (.new 90, 3) := by decide +kernel
theorem dX6_offer_68 : decode cX6_offer 68 = .ok (.dup, 1) := by decide +kernel
theorem dX6_offer_69 : decode cX6_offer 69 = .ok (.ldc 182, 2) := by decide +kernel
theorem dX6_offer_71 : decode cX6_offer 71 = .ok (.invokespecial 94, 3) := by decide +kernel
theorem dX6_offer_74 : decode cX6_offer 74 = .ok (.athrow, 1) := by decide +kernel
theorem dX6_offer_75 : decode cX6_offer 75 = .ok (.aload_n 0, 1) := by decide +kernel
theorem dX6_offer_76 : decode cX6_offer 76 = .ok (.getfield 33, 3) := by decide +kernel
theorem dX6_offer_79 : decode cX6_offer 79 = .ok (.iload_n 1, 1) := by decide +kernel
theorem dX6_offer_80 : decode cX6_offer 80 = .ok (.iload_n 2, 1) := by decide +kernel
theorem dX6_offer_81 : decode cX6_offer 81 = .ok (.aload_n 0, 1) := by decide +kernel
theorem dX6_offer_82 : decode cX6_offer 82 = .ok (.getfield 19, 3) := by decide +kernel
theorem dX6_offer_85 : decode cX6_offer 85 = .ok (.invokevirtual 184, 3) := by decide +kernel
theorem dX6_offer_88 : decode cX6_offer 88 = .ok (.ireturn, 1) := by decide +kernel
set_option maxRecDepth 20000 in
theorem ggX6_takeBack_X6_needOffer : GoodIn wsX6_takeBack wsX6_needOffer := goodIn_ca (goodIn_r _ [10, 11, 12, 3, 13, 14, 15, 16, 17, 18, 19, 20, 21, 22, 23, 24, 25, 26, 27] (by decide +kernel) (by decide +kernel)) (goodIn_sub (fun _ h => List.mem_cons_of_mem _ (List.mem_append_right _ h)) (by decide +kernel))
set_option maxRecDepth 20000 in
theorem gX6_takeBack_X6_needOffer : GoodIn wsX6_takeBack (wsV RX6 187 RX6 yX6_needOffer wsX6_needOffer) := goodIn_app (goodIn_of _ (by decide +kernel)) ggX6_takeBack_X6_needOffer
theorem dX6_takeBack_0 : decode cX6_takeBack 0 = .ok (.aload_n 0, 1) := by decide +kernel
theorem dX6_takeBack_1 : decode cX6_takeBack 1 = .ok (.iload_n 1, 1) := by decide +kernel
theorem dX6_takeBack_2 : decode cX6_takeBack 2 = .ok (.invokevirtual 187, 3) := by decide +kernel
theorem dX6_takeBack_5 : decode cX6_takeBack 5 = .ok (.aload_n 0, 1) := by decide +kernel
theorem dX6_takeBack_6 : decode cX6_takeBack 6 = .ok (.getfield 33, 3) := by decide +kernel
theorem dX6_takeBack_9 : decode cX6_takeBack 9 = .ok (.getfield 190, 3) := by decide +kernel
theorem dX6_takeBack_12 : decode cX6_takeBack 12 = .ok (.iload_n 1, 1) := by decide +kernel
theorem dX6_takeBack_13 : decode cX6_takeBack 13 = .ok (.baload, 1) := by decide +kernel
theorem dX6_takeBack_14 : decode cX6_takeBack 14 = .ok (.ifCond .ne 13, 3) := by decide +kernel
theorem dX6_takeBack_17 : decode cX6_takeBack 17 = .ok (.new 90, 3) := by decide +kernel
theorem dX6_takeBack_20 : decode cX6_takeBack 20 = .ok (.dup, 1) := by decide +kernel
theorem dX6_takeBack_21 : decode cX6_takeBack 21 = .ok (.ldc 193, 2) := by decide +kernel
theorem dX6_takeBack_23 : decode cX6_takeBack 23 = .ok (.invokespecial 94, 3) := by decide +kernel
theorem dX6_takeBack_26 : decode cX6_takeBack 26 = .ok (.athrow, 1) := by decide +kernel
theorem dX6_takeBack_27 : decode cX6_takeBack 27 = .ok (.aload_n 0, 1) := by decide +kernel
theorem dX6_takeBack_28 : decode cX6_takeBack 28 = .ok (.getfield 33, 3) := by decide +kernel
theorem dX6_takeBack_31 : decode cX6_takeBack 31 = .ok (.getfield 190, 3) := by decide +kernel
theorem dX6_takeBack_34 : decode cX6_takeBack 34 = .ok (.iload_n 1, 1) := by decide +kernel
theorem dX6_takeBack_35 : decode cX6_takeBack 35 = .ok (.iconst 0, 1) := by decide +kernel
theorem dX6_takeBack_36 : decode cX6_takeBack 36 = .ok (.bastore, 1) := by decide +kernel
theorem dX6_takeBack_37 : decode cX6_takeBack 37 = .ok (.aload_n 0, 1) := by decide +kernel
theorem dX6_takeBack_38 : decode cX6_takeBack 38 = .ok (.getfield 33, 3) := by decide +kernel
theorem dX6_takeBack_41 : decode cX6_takeBack 41 = .ok (.getfield 195, 3) := by decide +kernel
theorem dX6_takeBack_44 : decode cX6_takeBack 44 = .ok (.iload_n 1, 1) := by decide +kernel
theorem dX6_takeBack_45 : decode cX6_takeBack 45 = .ok (.iaload, 1) := by decide +kernel
theorem dX6_takeBack_46 : decode cX6_takeBack 46 = .ok (.ireturn, 1) := by decide +kernel
set_option maxRecDepth 20000 in
theorem ggX6_trade_X2_findRing : GoodIn wsX6_trade wsX2_findRing := goodIn_r _ [12, 13, 14, 15, 16, 17, 11, 18, 19, 20, 21, 22, 23, 24, 25, 26, 27, 28, 29, 37, 38, 39, 40, 41, 42, 43] (by decide +kernel) (by decide +kernel)
set_option maxRecDepth 20000 in
theorem gX6_trade_X2_findRing : GoodIn wsX6_trade (wsV RX6 198 RX2 yX2_findRing wsX2_findRing) := goodIn_app (goodIn_of _ (by decide +kernel)) ggX6_trade_X2_findRing
theorem dX6_trade_0 : decode cX6_trade 0 = .ok (.aload_n 0, 1) := by decide +kernel
theorem dX6_trade_1 : decode cX6_trade 1 = .ok (.getfield 33, 3) := by decide +kernel
theorem dX6_trade_4 : decode cX6_trade 4 = .ok (.invokevirtual 198, 3) := by decide +kernel
theorem dX6_trade_7 : decode cX6_trade 7 = .ok (.istore_n 1, 1) := by decide +kernel
theorem dX6_trade_8 : decode cX6_trade 8 = .ok (.iconst 0, 1) := by decide +kernel
theorem dX6_trade_9 : decode cX6_trade 9 = .ok (.istore_n 2, 1) := by decide +kernel
theorem dX6_trade_10 : decode cX6_trade 10 = .ok (.iload_n 2, 1) := by decide +kernel
theorem dX6_trade_11 : decode cX6_trade 11 = .ok (.iload_n 1, 1) := by decide +kernel
theorem dX6_trade_12 : decode cX6_trade 12 = .ok (.if_icmp .ge 80, 3) := by decide +kernel
theorem dX6_trade_15 : decode cX6_trade 15 = .ok (.aload_n 0, 1) := by decide +kernel
theorem dX6_trade_16 : decode cX6_trade 16 = .ok (.getfield 33, 3) := by decide +kernel
theorem dX6_trade_19 : decode cX6_trade 19 = .ok (.getfield 202, 3) := by decide +kernel
theorem dX6_trade_22 : decode cX6_trade 22 = .ok (.iload_n 2, 1) := by decide +kernel
theorem dX6_trade_23 : decode cX6_trade 23 = .ok (.iaload, 1) := by decide +kernel
theorem dX6_trade_24 : decode cX6_trade 24 = .ok (.istore_n 3, 1) := by decide +kernel
theorem dX6_trade_25 : decode cX6_trade 25 = .ok (.aload_n 0, 1) := by decide +kernel
theorem dX6_trade_26 : decode cX6_trade 26 = .ok (.getfield 33, 3) := by decide +kernel
theorem dX6_trade_29 : decode cX6_trade 29 = .ok (.getfield 202, 3) := by decide +kernel
theorem dX6_trade_32 : decode cX6_trade 32 = .ok (.iload_n 2, 1) := by decide +kernel
theorem dX6_trade_33 : decode cX6_trade 33 = .ok (.iconst 1, 1) := by decide +kernel
theorem dX6_trade_34 : decode cX6_trade 34 = .ok (.iadd, 1) := by decide +kernel
theorem dX6_trade_35 : decode cX6_trade 35 = .ok (.iload_n 1, 1) := by decide +kernel
theorem dX6_trade_36 : decode cX6_trade 36 = .ok (.if_icmp .ge 9, 3) := by decide +kernel
theorem dX6_trade_39 : decode cX6_trade 39 = .ok (.iload_n 2, 1) := by decide +kernel
theorem dX6_trade_40 : decode cX6_trade 40 = .ok (.iconst 1, 1) := by decide +kernel
theorem dX6_trade_41 : decode cX6_trade 41 = .ok (.iadd, 1) := by decide +kernel
theorem dX6_trade_42 : decode cX6_trade 42 = .ok (.goto 4, 3) := by decide +kernel
theorem dX6_trade_45 : decode cX6_trade 45 = .ok (.iconst 0, 1) := by decide +kernel
theorem dX6_trade_46 : decode cX6_trade 46 = .ok (.iaload, 1) := by decide +kernel
theorem dX6_trade_47 : decode cX6_trade 47 = .ok (.istore 4, 2) := by decide +kernel
theorem dX6_trade_49 : decode cX6_trade 49 = .ok (.aload_n 0, 1) := by decide +kernel
theorem dX6_trade_50 : decode cX6_trade 50 = .ok (.getfield 19, 3) := by decide +kernel
theorem dX6_trade_53 : decode cX6_trade 53 = .ok (.getfield 116, 3) := by decide +kernel
theorem dX6_trade_56 : decode cX6_trade 56 = .ok (.aload_n 0, 1) := by decide +kernel
theorem dX6_trade_57 : decode cX6_trade 57 = .ok (.getfield 33, 3) := by decide +kernel
theorem dX6_trade_60 : decode cX6_trade 60 = .ok (.getfield 195, 3) := by decide +kernel
theorem dX6_trade_63 : decode cX6_trade 63 = .ok (.iload_n 3, 1) := by decide +kernel
theorem dX6_trade_64 : decode cX6_trade 64 = .ok (.iaload, 1) := by decide +kernel
theorem dX6_trade_65 : decode cX6_trade 65 = .ok (.aload_n 0, 1) := by decide +kernel
theorem dX6_trade_66 : decode cX6_trade 66 = .ok (.getfield 33, 3) := by decide +kernel
theorem dX6_trade_69 : decode cX6_trade 69 = .ok (.getfield 205, 3) := by decide +kernel
theorem dX6_trade_72 : decode cX6_trade 72 = .ok (.iload 4, 2) := by decide +kernel
theorem dX6_trade_74 : decode cX6_trade 74 = .ok (.iaload, 1) := by decide +kernel
theorem dX6_trade_75 : decode cX6_trade 75 = .ok (.iastore, 1) := by decide +kernel
theorem dX6_trade_76 : decode cX6_trade 76 = .ok (.aload_n 0, 1) := by decide +kernel
theorem dX6_trade_77 : decode cX6_trade 77 = .ok (.getfield 33, 3) := by decide +kernel
theorem dX6_trade_80 : decode cX6_trade 80 = .ok (.getfield 190, 3) := by decide +kernel
theorem dX6_trade_83 : decode cX6_trade 83 = .ok (.iload_n 3, 1) := by decide +kernel
theorem dX6_trade_84 : decode cX6_trade 84 = .ok (.iconst 0, 1) := by decide +kernel
theorem dX6_trade_85 : decode cX6_trade 85 = .ok (.bastore, 1) := by decide +kernel
theorem dX6_trade_86 : decode cX6_trade 86 = .ok (.iinc 2 1, 3) := by decide +kernel
theorem dX6_trade_89 : decode cX6_trade 89 = .ok (.goto (-79), 3) := by decide +kernel
theorem dX6_trade_92 : decode cX6_trade 92 = .ok (.iload_n 1, 1) := by decide +kernel
theorem dX6_trade_93 : decode cX6_trade 93 = .ok (.ireturn, 1) := by decide +kernel
theorem dX6_cards_0 : decode cX6_cards 0 = .ok (.aload_n 0, 1) := by decide +kernel
theorem dX6_cards_1 : decode cX6_cards 1 = .ok (.getfield 19, 3) := by decide +kernel
theorem dX6_cards_4 : decode cX6_cards 4 = .ok (.getfield 87, 3) := by decide +kernel
theorem dX6_cards_7 : decode cX6_cards 7 = .ok (.ireturn, 1) := by decide +kernel
set_option maxRecDepth 20000 in
theorem ggX6_printOf_X6_needCard : GoodIn wsX6_printOf wsX6_needCard := goodIn_ca (goodIn_r _ [8, 9, 10, 1, 11, 12, 13, 14, 15, 16, 17, 18, 19, 20, 21, 22] (by decide +kernel) (by decide +kernel)) (goodIn_sub (fun _ h => List.mem_cons_of_mem _ (List.mem_append_right _ h)) (by decide +kernel))
set_option maxRecDepth 20000 in
theorem gX6_printOf_X6_needCard : GoodIn wsX6_printOf (wsV RX6 113 RX6 yX6_needCard wsX6_needCard) := goodIn_app (goodIn_of _ (by decide +kernel)) ggX6_printOf_X6_needCard
theorem dX6_printOf_0 : decode cX6_printOf 0 = .ok (.aload_n 0, 1) := by decide +kernel
theorem dX6_printOf_1 : decode cX6_printOf 1 = .ok (.iload_n 1, 1) := by decide +kernel
theorem dX6_printOf_2 : decode cX6_printOf 2 = .ok (.invokevirtual 113, 3) := by decide +kernel
theorem dX6_printOf_5 : decode cX6_printOf 5 = .ok (.bipush 100, 2) := by decide +kernel
theorem dX6_printOf_7 : decode cX6_printOf 7 = .ok (.aload_n 0, 1) := by decide +kernel
theorem dX6_printOf_8 : decode cX6_printOf 8 = .ok (.getfield 19, 3) := by decide +kernel
theorem dX6_printOf_11 : decode cX6_printOf 11 = .ok (.getfield 170, 3) := by decide +kernel
theorem dX6_printOf_14 : decode cX6_printOf 14 = .ok (.iload_n 1, 1) := by decide +kernel
theorem dX6_printOf_15 : decode cX6_printOf 15 = .ok (.iaload, 1) := by decide +kernel
theorem dX6_printOf_16 : decode cX6_printOf 16 = .ok (.imul, 1) := by decide +kernel
theorem dX6_printOf_17 : decode cX6_printOf 17 = .ok (.aload_n 0, 1) := by decide +kernel
theorem dX6_printOf_18 : decode cX6_printOf 18 = .ok (.getfield 19, 3) := by decide +kernel
theorem dX6_printOf_21 : decode cX6_printOf 21 = .ok (.getfield 206, 3) := by decide +kernel
theorem dX6_printOf_24 : decode cX6_printOf 24 = .ok (.iload_n 1, 1) := by decide +kernel
theorem dX6_printOf_25 : decode cX6_printOf 25 = .ok (.iaload, 1) := by decide +kernel
theorem dX6_printOf_26 : decode cX6_printOf 26 = .ok (.iadd, 1) := by decide +kernel
theorem dX6_printOf_27 : decode cX6_printOf 27 = .ok (.ireturn, 1) := by decide +kernel
set_option maxRecDepth 20000 in
theorem ggX6_collectorOf_X6_needCard : GoodIn wsX6_collectorOf wsX6_needCard := goodIn_ca (goodIn_r _ [7, 8, 9, 1, 10, 11, 12, 13, 14, 15, 16, 17, 18, 19, 20, 21] (by decide +kernel) (by decide +kernel)) (goodIn_sub (fun _ h => List.mem_cons_of_mem _ (List.mem_append_right _ h)) (by decide +kernel))
set_option maxRecDepth 20000 in
theorem gX6_collectorOf_X6_needCard : GoodIn wsX6_collectorOf (wsV RX6 113 RX6 yX6_needCard wsX6_needCard) := goodIn_app (goodIn_of _ (by decide +kernel)) ggX6_collectorOf_X6_needCard
theorem dX6_collectorOf_0 : decode cX6_collectorOf 0 = .ok (.aload_n 0, 1) := by decide +kernel
theorem dX6_collectorOf_1 : decode cX6_collectorOf 1 = .ok (.iload_n 1, 1) := by decide +kernel
theorem dX6_collectorOf_2 : decode cX6_collectorOf 2 = .ok (.invokevirtual 113, 3) := by decide +kernel
theorem dX6_collectorOf_5 : decode cX6_collectorOf 5 = .ok (.aload_n 0, 1) := by decide +kernel
theorem dX6_collectorOf_6 : decode cX6_collectorOf 6 = .ok (.getfield 19, 3) := by decide +kernel
theorem dX6_collectorOf_9 : decode cX6_collectorOf 9 = .ok (.getfield 116, 3) := by decide +kernel
theorem dX6_collectorOf_12 : decode cX6_collectorOf 12 = .ok (.iload_n 1, 1) := by decide +kernel
theorem dX6_collectorOf_13 : decode cX6_collectorOf 13 = .ok (.iaload, 1) := by decide +kernel
theorem dX6_collectorOf_14 : decode cX6_collectorOf 14 = .ok (.ireturn, 1) := by decide +kernel
set_option maxRecDepth 20000 in
theorem ggX6_has_X6_needCollector : GoodIn wsX6_has wsX6_needCollector := goodIn_ca (goodIn_r _ [5, 6, 7] (by decide +kernel) (by decide +kernel)) (goodIn_sub (fun _ h => List.mem_cons_of_mem _ (List.mem_append_right _ h)) (by decide +kernel))
set_option maxRecDepth 20000 in
theorem gX6_has_X6_needCollector : GoodIn wsX6_has (va_wsS RX6 84 yX6_needCollector wsX6_needCollector) := goodIn_app (goodIn_of _ (by decide +kernel)) ggX6_has_X6_needCollector
set_option maxRecDepth 20000 in
theorem ggX6_has_X6_needKind : GoodIn wsX6_has wsX6_needKind := goodIn_ca (goodIn_r _ [10, 6, 7] (by decide +kernel) (by decide +kernel)) (goodIn_sub (fun _ h => List.mem_cons_of_mem _ (List.mem_append_right _ h)) (by decide +kernel))
set_option maxRecDepth 20000 in
theorem gX6_has_X6_needKind : GoodIn wsX6_has (va_wsS RX6 54 yX6_needKind wsX6_needKind) := goodIn_app (goodIn_of _ (by decide +kernel)) ggX6_has_X6_needKind
set_option maxRecDepth 20000 in
theorem ggX6_has_X4_countOf : GoodIn wsX6_has wsX4_countOf := goodIn_r _ [15, 16, 17, 18, 26, 27, 28, 29] (by decide +kernel) (by decide +kernel)
set_option maxRecDepth 20000 in
theorem gX6_has_X4_countOf : GoodIn wsX6_has (wsV RX6 209 RX4 yX4_countOf wsX4_countOf) := goodIn_app (goodIn_of _ (by decide +kernel)) ggX6_has_X4_countOf
theorem dX6_has_0 : decode cX6_has 0 = .ok (.iload_n 1, 1) := by decide +kernel
theorem dX6_has_1 : decode cX6_has 1 = .ok (.invokestatic 84, 3) := by decide +kernel
theorem dX6_has_4 : decode cX6_has 4 = .ok (.iload_n 2, 1) := by decide +kernel
theorem dX6_has_5 : decode cX6_has 5 = .ok (.invokestatic 54, 3) := by decide +kernel
theorem dX6_has_8 : decode cX6_has 8 = .ok (.aload_n 0, 1) := by decide +kernel
theorem dX6_has_9 : decode cX6_has 9 = .ok (.getfield 19, 3) := by decide +kernel
theorem dX6_has_12 : decode cX6_has 12 = .ok (.iload_n 1, 1) := by decide +kernel
theorem dX6_has_13 : decode cX6_has 13 = .ok (.iload_n 2, 1) := by decide +kernel
theorem dX6_has_14 : decode cX6_has 14 = .ok (.invokevirtual 209, 3) := by decide +kernel
theorem dX6_has_17 : decode cX6_has 17 = .ok (.ireturn, 1) := by decide +kernel
set_option maxRecDepth 20000 in
theorem ggX6_wins_X6_needKind : GoodIn wsX6_wins wsX6_needKind := goodIn_ca (goodIn_r _ [6, 7, 8] (by decide +kernel) (by decide +kernel)) (goodIn_sub (fun _ h => List.mem_cons_of_mem _ (List.mem_append_right _ h)) (by decide +kernel))
set_option maxRecDepth 20000 in
theorem gX6_wins_X6_needKind : GoodIn wsX6_wins (va_wsS RX6 54 yX6_needKind wsX6_needKind) := goodIn_app (goodIn_of _ (by decide +kernel)) ggX6_wins_X6_needKind
theorem dX6_wins_0 : decode cX6_wins 0 = .ok (.iload_n 1, 1) := by decide +kernel
theorem dX6_wins_1 : decode cX6_wins 1 = .ok (.invokestatic 54, 3) := by decide +kernel
theorem dX6_wins_4 : decode cX6_wins 4 = .ok (.aload_n 0, 1) := by decide +kernel
theorem dX6_wins_5 : decode cX6_wins 5 = .ok (.getfield 10, 3) := by decide +kernel
theorem dX6_wins_8 : decode cX6_wins 8 = .ok (.getfield 212, 3) := by decide +kernel
theorem dX6_wins_11 : decode cX6_wins 11 = .ok (.iload_n 1, 1) := by decide +kernel
theorem dX6_wins_12 : decode cX6_wins 12 = .ok (.iaload, 1) := by decide +kernel
theorem dX6_wins_13 : decode cX6_wins 13 = .ok (.ireturn, 1) := by decide +kernel
set_option maxRecDepth 20000 in
theorem ggX6_price_X6_needKind : GoodIn wsX6_price wsX6_needKind := goodIn_ca (goodIn_r _ [7, 8, 9] (by decide +kernel) (by decide +kernel)) (goodIn_sub (fun _ h => List.mem_cons_of_mem _ (List.mem_append_right _ h)) (by decide +kernel))
set_option maxRecDepth 20000 in
theorem gX6_price_X6_needKind : GoodIn wsX6_price (va_wsS RX6 54 yX6_needKind wsX6_needKind) := goodIn_app (goodIn_of _ (by decide +kernel)) ggX6_price_X6_needKind
theorem dX6_price_0 : decode cX6_price 0 = .ok (.iload_n 1, 1) := by decide +kernel
theorem dX6_price_1 : decode cX6_price 1 = .ok (.invokestatic 54, 3) := by decide +kernel
theorem dX6_price_4 : decode cX6_price 4 = .ok (.aload_n 0, 1) := by decide +kernel
theorem dX6_price_5 : decode cX6_price 5 = .ok (.getfield 10, 3) := by decide +kernel
theorem dX6_price_8 : decode cX6_price 8 = .ok (.getfield 97, 3) := by decide +kernel
theorem dX6_price_11 : decode cX6_price 11 = .ok (.iload_n 1, 1) := by decide +kernel
theorem dX6_price_12 : decode cX6_price 12 = .ok (.iaload, 1) := by decide +kernel
theorem dX6_price_13 : decode cX6_price 13 = .ok (.istore_n 2, 1) := by decide +kernel
theorem dX6_price_14 : decode cX6_price 14 = .ok (.iload_n 2, 1) := by decide +kernel
theorem dX6_price_15 : decode cX6_price 15 = .ok (.ifCond .gt 5, 3) := by decide +kernel
theorem dX6_price_18 : decode cX6_price 18 = .ok (.iconst 0, 1) := by decide +kernel
theorem dX6_price_19 : decode cX6_price 19 = .ok (.ireturn, 1) := by decide +kernel
theorem dX6_price_20 : decode cX6_price 20 = .ok (.aload_n 0, 1) := by decide +kernel
theorem dX6_price_21 : decode cX6_price 21 = .ok (.getfield 10, 3) := by decide +kernel
theorem dX6_price_24 : decode cX6_price 24 = .ok (.getfield 212, 3) := by decide +kernel
theorem dX6_price_27 : decode cX6_price 27 = .ok (.iload_n 1, 1) := by decide +kernel
theorem dX6_price_28 : decode cX6_price 28 = .ok (.iaload, 1) := by decide +kernel
theorem dX6_price_29 : decode cX6_price 29 = .ok (.iconst 1, 1) := by decide +kernel
theorem dX6_price_30 : decode cX6_price 30 = .ok (.iadd, 1) := by decide +kernel
theorem dX6_price_31 : decode cX6_price 31 = .ok (.bipush 100, 2) := by decide +kernel
theorem dX6_price_33 : decode cX6_price 33 = .ok (.imul, 1) := by decide +kernel
theorem dX6_price_34 : decode cX6_price 34 = .ok (.iload_n 2, 1) := by decide +kernel
theorem dX6_price_35 : decode cX6_price 35 = .ok (.idiv, 1) := by decide +kernel
theorem dX6_price_36 : decode cX6_price 36 = .ok (.ireturn, 1) := by decide +kernel
set_option maxRecDepth 20000 in
theorem ggX6_isAllowed_X6_needDeck : GoodIn wsX6_isAllowed wsX6_needDeck := goodIn_ca (goodIn_r _ [8, 9, 10, 1, 11, 40, 41, 42, 43, 44, 45, 46, 47, 48, 49, 50, 51, 52] (by decide +kernel) (by decide +kernel)) (goodIn_sub (fun _ h => List.mem_cons_of_mem _ (List.mem_append_right _ h)) (by decide +kernel))
set_option maxRecDepth 20000 in
theorem gX6_isAllowed_X6_needDeck : GoodIn wsX6_isAllowed (wsV RX6 110 RX6 yX6_needDeck wsX6_needDeck) := goodIn_app (goodIn_of _ (by decide +kernel)) ggX6_isAllowed_X6_needDeck
set_option maxRecDepth 20000 in
theorem ggX6_isAllowed_X0_fitsFormat : GoodIn wsX6_isAllowed wsX0_fitsFormat := goodIn_r _ [16, 17, 18, 19, 20, 21, 22, 23, 24, 25, 26, 27, 15, 28, 29, 30, 31, 32, 33, 34, 35, 36, 37, 38, 39, 47, 48, 49, 50, 51, 52, 53, 54, 55, 56, 57, 58, 59, 60, 61] (by decide +kernel) (by decide +kernel)
set_option maxRecDepth 20000 in
theorem gX6_isAllowed_X0_fitsFormat : GoodIn wsX6_isAllowed (wsV RX6 215 RX0 yX0_fitsFormat wsX0_fitsFormat) := goodIn_app (goodIn_of _ (by decide +kernel)) ggX6_isAllowed_X0_fitsFormat
theorem dX6_isAllowed_0 : decode cX6_isAllowed 0 = .ok (.aload_n 0, 1) := by decide +kernel
theorem dX6_isAllowed_1 : decode cX6_isAllowed 1 = .ok (.iload_n 1, 1) := by decide +kernel
theorem dX6_isAllowed_2 : decode cX6_isAllowed 2 = .ok (.invokevirtual 110, 3) := by decide +kernel
theorem dX6_isAllowed_5 : decode cX6_isAllowed 5 = .ok (.aload_n 0, 1) := by decide +kernel
theorem dX6_isAllowed_6 : decode cX6_isAllowed 6 = .ok (.getfield 26, 3) := by decide +kernel
theorem dX6_isAllowed_9 : decode cX6_isAllowed 9 = .ok (.iload_n 1, 1) := by decide +kernel
theorem dX6_isAllowed_10 : decode cX6_isAllowed 10 = .ok (.aload_n 0, 1) := by decide +kernel
theorem dX6_isAllowed_11 : decode cX6_isAllowed 11 = .ok (.getfield 10, 3) := by decide +kernel
end
section
theorem dX6_isAllowed_14 : decode cX6_isAllowed 14 = .ok (.aload_n 0, 1) := by decide +kernel
theorem dX6_isAllowed_15 : decode cX6_isAllowed 15 = .ok (.getfield 19, 3) := by decide +kernel
theorem dX6_isAllowed_18 : decode cX6_isAllowed 18 = .ok (.invokevirtual 215, 3) := by decide +kernel
theorem dX6_isAllowed_21 : decode cX6_isAllowed 21 = .ok (.ireturn, 1) := by decide +kernel
set_option maxRecDepth 20000 in
theorem ggX6_shuffled_X6_needDeck : GoodIn wsX6_shuffled wsX6_needDeck := goodIn_ca (goodIn_r _ [8, 9, 10, 2, 11, 34, 35, 36, 37, 38, 39, 40, 42, 43, 44, 45, 46, 47] (by decide +kernel) (by decide +kernel)) (goodIn_sub (fun _ h => List.mem_cons_of_mem _ (List.mem_append_left _ (List.mem_append_right _ h))) (by decide +kernel))
set_option maxRecDepth 20000 in
theorem gX6_shuffled_X6_needDeck : GoodIn wsX6_shuffled (wsV RX6 110 RX6 yX6_needDeck wsX6_needDeck) := goodIn_app (goodIn_of _ (by decide +kernel)) ggX6_shuffled_X6_needDeck
set_option maxRecDepth 20000 in
theorem ggX6_shuffled_X6_needPlace : GoodIn wsX6_shuffled wsX6_needPlace := goodIn_ca (goodIn_r _ [15, 9, 10, 2, 16, 34, 35, 36, 37, 38, 39, 40, 42, 43, 44, 45, 46, 47] (by decide +kernel) (by decide +kernel)) (goodIn_sub (fun _ h => List.mem_cons_of_mem _ (List.mem_append_left _ (List.mem_append_right _ h))) (by decide +kernel))
set_option maxRecDepth 20000 in
theorem gX6_shuffled_X6_needPlace : GoodIn wsX6_shuffled (wsV RX6 142 RX6 yX6_needPlace wsX6_needPlace) := goodIn_app (goodIn_of _ (by decide +kernel)) ggX6_shuffled_X6_needPlace
set_option maxRecDepth 20000 in
theorem ggX6_shuffled_X6_needSeed : GoodIn wsX6_shuffled wsX6_needSeed := goodIn_ca (goodIn_r _ [19, 20, 21] (by decide +kernel) (by decide +kernel)) (goodIn_sub (fun _ h => List.mem_cons_of_mem _ (List.mem_append_right _ h)) (by decide +kernel))
set_option maxRecDepth 20000 in
theorem gX6_shuffled_X6_needSeed : GoodIn wsX6_shuffled (va_wsS RX6 149 yX6_needSeed wsX6_needSeed) := goodIn_app (goodIn_of _ (by decide +kernel)) ggX6_shuffled_X6_needSeed
set_option maxRecDepth 20000 in
theorem ggX6_shuffled_X3_shuffle : GoodIn wsX6_shuffled wsX3_shuffle := goodIn_r _ [26, 27, 28, 29, 30, 31, 32, 33, 42, 43, 44, 45, 46, 47, 41] (by decide +kernel) (by decide +kernel)
set_option maxRecDepth 20000 in
theorem gX6_shuffled_X3_shuffle : GoodIn wsX6_shuffled (wsV RX6 219 RX3 yX3_shuffle wsX3_shuffle) := goodIn_app (goodIn_of _ (by decide +kernel)) ggX6_shuffled_X3_shuffle
theorem dX6_shuffled_0 : decode cX6_shuffled 0 = .ok (.aload_n 0, 1) := by decide +kernel
theorem dX6_shuffled_1 : decode cX6_shuffled 1 = .ok (.iload_n 1, 1) := by decide +kernel
theorem dX6_shuffled_2 : decode cX6_shuffled 2 = .ok (.invokevirtual 110, 3) := by decide +kernel
theorem dX6_shuffled_5 : decode cX6_shuffled 5 = .ok (.aload_n 0, 1) := by decide +kernel
theorem dX6_shuffled_6 : decode cX6_shuffled 6 = .ok (.iload_n 1, 1) := by decide +kernel
theorem dX6_shuffled_7 : decode cX6_shuffled 7 = .ok (.iload_n 3, 1) := by decide +kernel
theorem dX6_shuffled_8 : decode cX6_shuffled 8 = .ok (.invokevirtual 142, 3) := by decide +kernel
theorem dX6_shuffled_11 : decode cX6_shuffled 11 = .ok (.iload_n 2, 1) := by decide +kernel
theorem dX6_shuffled_12 : decode cX6_shuffled 12 = .ok (.invokestatic 149, 3) := by decide +kernel
theorem dX6_shuffled_15 : decode cX6_shuffled 15 = .ok (.aload_n 0, 1) := by decide +kernel
theorem dX6_shuffled_16 : decode cX6_shuffled 16 = .ok (.getfield 40, 3) := by decide +kernel
theorem dX6_shuffled_19 : decode cX6_shuffled 19 = .ok (.aload_n 0, 1) := by decide +kernel
theorem dX6_shuffled_20 : decode cX6_shuffled 20 = .ok (.getfield 26, 3) := by decide +kernel
theorem dX6_shuffled_23 : decode cX6_shuffled 23 = .ok (.iload_n 1, 1) := by decide +kernel
theorem dX6_shuffled_24 : decode cX6_shuffled 24 = .ok (.iload_n 2, 1) := by decide +kernel
theorem dX6_shuffled_25 : decode cX6_shuffled 25 = .ok (.invokevirtual 219, 3) := by decide +kernel
theorem dX6_shuffled_28 : decode cX6_shuffled 28 = .ok (.aload_n 0, 1) := by decide +kernel
theorem dX6_shuffled_29 : decode cX6_shuffled 29 = .ok (.getfield 40, 3) := by decide +kernel
theorem dX6_shuffled_32 : decode cX6_shuffled 32 = .ok (.getfield 222, 3) := by decide +kernel
theorem dX6_shuffled_35 : decode cX6_shuffled 35 = .ok (.iload_n 3, 1) := by decide +kernel
theorem dX6_shuffled_36 : decode cX6_shuffled 36 = .ok (.iaload, 1) := by decide +kernel
theorem dX6_shuffled_37 : decode cX6_shuffled 37 = .ok (.ireturn, 1) := by decide +kernel
set_option maxRecDepth 20000 in
theorem ggX6_orders_X6_needDeck : GoodIn wsX6_orders wsX6_needDeck := goodIn_ca (goodIn_r _ [8, 9, 10, 1, 11, 39, 40, 41, 42, 43, 44, 45, 46, 47, 48, 49, 50, 51] (by decide +kernel) (by decide +kernel)) (goodIn_sub (fun _ h => List.mem_cons_of_mem _ (List.mem_append_left _ (List.mem_append_right _ h))) (by decide +kernel))
set_option maxRecDepth 20000 in
theorem gX6_orders_X6_needDeck : GoodIn wsX6_orders (wsV RX6 110 RX6 yX6_needDeck wsX6_needDeck) := goodIn_app (goodIn_of _ (by decide +kernel)) ggX6_orders_X6_needDeck
set_option maxRecDepth 20000 in
theorem ggX6_orders_X6_needKind : GoodIn wsX6_orders wsX6_needKind := goodIn_ca (goodIn_r _ [14, 9, 10] (by decide +kernel) (by decide +kernel)) (goodIn_sub (fun _ h => List.mem_cons_of_mem _ (List.mem_append_left _ (List.mem_append_right _ h))) (by decide +kernel))
set_option maxRecDepth 20000 in
theorem gX6_orders_X6_needKind : GoodIn wsX6_orders (va_wsS RX6 54 yX6_needKind wsX6_needKind) := goodIn_app (goodIn_of _ (by decide +kernel)) ggX6_orders_X6_needKind
set_option maxRecDepth 20000 in
theorem ggX6_orders_X6_needRange : GoodIn wsX6_orders wsX6_needRange := goodIn_ca (goodIn_r _ [17, 18, 19] (by decide +kernel) (by decide +kernel)) (goodIn_sub (fun _ h => List.mem_cons_of_mem _ (List.mem_append_right _ h)) (by decide +kernel))
set_option maxRecDepth 20000 in
theorem gX6_orders_X6_needRange : GoodIn wsX6_orders (va_wsS RX6 58 yX6_needRange wsX6_needRange) := goodIn_app (goodIn_of _ (by decide +kernel)) ggX6_orders_X6_needRange
set_option maxRecDepth 20000 in
theorem ggX6_orders_X0_countOf : GoodIn wsX6_orders wsX0_countOf := goodIn_r _ [24, 25, 26, 27, 23, 28, 29, 30, 31, 32, 33, 34, 35, 36, 37, 38, 46, 47, 48, 49, 50, 51, 52, 53, 54, 55] (by decide +kernel) (by decide +kernel)
set_option maxRecDepth 20000 in
theorem gX6_orders_X0_countOf : GoodIn wsX6_orders (wsV RX6 225 RX0 yX0_countOf wsX0_countOf) := goodIn_app (goodIn_of _ (by decide +kernel)) ggX6_orders_X0_countOf
theorem dX6_orders_0 : decode cX6_orders 0 = .ok (.aload_n 0, 1) := by decide +kernel
theorem dX6_orders_1 : decode cX6_orders 1 = .ok (.iload_n 1, 1) := by decide +kernel
theorem dX6_orders_2 : decode cX6_orders 2 = .ok (.invokevirtual 110, 3) := by decide +kernel
theorem dX6_orders_5 : decode cX6_orders 5 = .ok (.iload_n 2, 1) := by decide +kernel
theorem dX6_orders_6 : decode cX6_orders 6 = .ok (.invokestatic 54, 3) := by decide +kernel
theorem dX6_orders_9 : decode cX6_orders 9 = .ok (.iload_n 3, 1) := by decide +kernel
theorem dX6_orders_10 : decode cX6_orders 10 = .ok (.iconst 1, 1) := by decide +kernel
theorem dX6_orders_11 : decode cX6_orders 11 = .ok (.bipush 10, 2) := by decide +kernel
theorem dX6_orders_13 : decode cX6_orders 13 = .ok (.invokestatic 58, 3) := by decide +kernel
theorem dX6_orders_16 : decode cX6_orders 16 = .ok (.aload_n 0, 1) := by decide +kernel
theorem dX6_orders_17 : decode cX6_orders 17 = .ok (.getfield 26, 3) := by decide +kernel
theorem dX6_orders_20 : decode cX6_orders 20 = .ok (.getfield 133, 3) := by decide +kernel
theorem dX6_orders_23 : decode cX6_orders 23 = .ok (.iload_n 1, 1) := by decide +kernel
theorem dX6_orders_24 : decode cX6_orders 24 = .ok (.iaload, 1) := by decide +kernel
theorem dX6_orders_25 : decode cX6_orders 25 = .ok (.istore 4, 2) := by decide +kernel
theorem dX6_orders_27 : decode cX6_orders 27 = .ok (.iload 4, 2) := by decide +kernel
theorem dX6_orders_29 : decode cX6_orders 29 = .ok (.aload_n 0, 1) := by decide +kernel
theorem dX6_orders_30 : decode cX6_orders 30 = .ok (.getfield 26, 3) := by decide +kernel
theorem dX6_orders_33 : decode cX6_orders 33 = .ok (.iload_n 1, 1) := by decide +kernel
theorem dX6_orders_34 : decode cX6_orders 34 = .ok (.iload_n 2, 1) := by decide +kernel
theorem dX6_orders_35 : decode cX6_orders 35 = .ok (.aload_n 0, 1) := by decide +kernel
theorem dX6_orders_36 : decode cX6_orders 36 = .ok (.getfield 19, 3) := by decide +kernel
theorem dX6_orders_39 : decode cX6_orders 39 = .ok (.invokevirtual 225, 3) := by decide +kernel
theorem dX6_orders_42 : decode cX6_orders 42 = .ok (.isub, 1) := by decide +kernel
theorem dX6_orders_43 : decode cX6_orders 43 = .ok (.istore 5, 2) := by decide +kernel
theorem dX6_orders_45 : decode cX6_orders 45 = .ok (.iconst 1, 1) := by decide +kernel
theorem dX6_orders_46 : decode cX6_orders 46 = .ok (.istore 6, 2) := by decide +kernel
theorem dX6_orders_48 : decode cX6_orders 48 = .ok (.iconst 1, 1) := by decide +kernel
theorem dX6_orders_49 : decode cX6_orders 49 = .ok (.istore 7, 2) := by decide +kernel
theorem dX6_orders_51 : decode cX6_orders 51 = .ok (.iconst 0, 1) := by decide +kernel
theorem dX6_orders_52 : decode cX6_orders 52 = .ok (.istore 8, 2) := by decide +kernel
theorem dX6_orders_54 : decode cX6_orders 54 = .ok (.iload 8, 2) := by decide +kernel
theorem dX6_orders_56 : decode cX6_orders 56 = .ok (.iload 4, 2) := by decide +kernel
theorem dX6_orders_58 : decode cX6_orders 58 = .ok (.if_icmp .ge 43, 3) := by decide +kernel
theorem dX6_orders_61 : decode cX6_orders 61 = .ok (.iload 6, 2) := by decide +kernel
theorem dX6_orders_63 : decode cX6_orders 63 = .ok (.iload 4, 2) := by decide +kernel
theorem dX6_orders_65 : decode cX6_orders 65 = .ok (.iload 8, 2) := by decide +kernel
theorem dX6_orders_67 : decode cX6_orders 67 = .ok (.isub, 1) := by decide +kernel
theorem dX6_orders_68 : decode cX6_orders 68 = .ok (.imul, 1) := by decide +kernel
theorem dX6_orders_69 : decode cX6_orders 69 = .ok (.istore 6, 2) := by decide +kernel
theorem dX6_orders_71 : decode cX6_orders 71 = .ok (.iload 7, 2) := by decide +kernel
theorem dX6_orders_73 : decode cX6_orders 73 = .ok (.iload 8, 2) := by decide +kernel
theorem dX6_orders_75 : decode cX6_orders 75 = .ok (.iload_n 3, 1) := by decide +kernel
theorem dX6_orders_76 : decode cX6_orders 76 = .ok (.if_icmp .ge 11, 3) := by decide +kernel
theorem dX6_orders_79 : decode cX6_orders 79 = .ok (.iload 5, 2) := by decide +kernel
theorem dX6_orders_81 : decode cX6_orders 81 = .ok (.iload 8, 2) := by decide +kernel
theorem dX6_orders_83 : decode cX6_orders 83 = .ok (.isub, 1) := by decide +kernel
theorem dX6_orders_84 : decode cX6_orders 84 = .ok (.goto 8, 3) := by decide +kernel
theorem dX6_orders_87 : decode cX6_orders 87 = .ok (.iload 4, 2) := by decide +kernel
theorem dX6_orders_89 : decode cX6_orders 89 = .ok (.iload 8, 2) := by decide +kernel
theorem dX6_orders_91 : decode cX6_orders 91 = .ok (.isub, 1) := by decide +kernel
theorem dX6_orders_92 : decode cX6_orders 92 = .ok (.imul, 1) := by decide +kernel
theorem dX6_orders_93 : decode cX6_orders 93 = .ok (.istore 7, 2) := by decide +kernel
theorem dX6_orders_95 : decode cX6_orders 95 = .ok (.iinc 8 1, 3) := by decide +kernel
theorem dX6_orders_98 : decode cX6_orders 98 = .ok (.goto (-44), 3) := by decide +kernel
theorem dX6_orders_101 : decode cX6_orders 101 = .ok (.iload 6, 2) := by decide +kernel
theorem dX6_orders_103 : decode cX6_orders 103 = .ok (.iload 7, 2) := by decide +kernel
theorem dX6_orders_105 : decode cX6_orders 105 = .ok (.isub, 1) := by decide +kernel
theorem dX6_orders_106 : decode cX6_orders 106 = .ok (.ireturn, 1) := by decide +kernel
set_option maxRecDepth 20000 in
theorem ggX6_ordersByAll_X6_needDeck : GoodIn wsX6_ordersByAll wsX6_needDeck := goodIn_ca (goodIn_r _ [10, 11, 12, 3, 13, 33, 34, 35, 36, 37, 38, 39, 40, 41, 42, 43, 44, 45] (by decide +kernel) (by decide +kernel)) (goodIn_sub (fun _ h => List.mem_cons_of_mem _ (List.mem_append_left _ (List.mem_append_right _ h))) (by decide +kernel))
set_option maxRecDepth 20000 in
theorem gX6_ordersByAll_X6_needDeck : GoodIn wsX6_ordersByAll (wsV RX6 110 RX6 yX6_needDeck wsX6_needDeck) := goodIn_app (goodIn_of _ (by decide +kernel)) ggX6_ordersByAll_X6_needDeck
set_option maxRecDepth 20000 in
theorem ggX6_ordersByAll_X6_needKind : GoodIn wsX6_ordersByAll wsX6_needKind := goodIn_ca (goodIn_r _ [16, 11, 12] (by decide +kernel) (by decide +kernel)) (goodIn_sub (fun _ h => List.mem_cons_of_mem _ (List.mem_append_left _ (List.mem_append_right _ h))) (by decide +kernel))
set_option maxRecDepth 20000 in
theorem gX6_ordersByAll_X6_needKind : GoodIn wsX6_ordersByAll (va_wsS RX6 54 yX6_needKind wsX6_needKind) := goodIn_app (goodIn_of _ (by decide +kernel)) ggX6_ordersByAll_X6_needKind
set_option maxRecDepth 20000 in
theorem ggX6_ordersByAll_X6_needRange : GoodIn wsX6_ordersByAll wsX6_needRange := goodIn_ca (goodIn_r _ [19, 20, 21] (by decide +kernel) (by decide +kernel)) (goodIn_sub (fun _ h => List.mem_cons_of_mem _ (List.mem_append_right _ h)) (by decide +kernel))
set_option maxRecDepth 20000 in
theorem gX6_ordersByAll_X6_needRange : GoodIn wsX6_ordersByAll (va_wsS RX6 58 yX6_needRange wsX6_needRange) := goodIn_app (goodIn_of _ (by decide +kernel)) ggX6_ordersByAll_X6_needRange
set_option maxRecDepth 20000 in
theorem ggX6_ordersByAll_X0_placesOf : GoodIn wsX6_ordersByAll wsX0_placesOf := goodIn_r _ [26, 27, 28, 29, 40, 41, 42, 43, 44, 45, 46, 47, 48, 49] (by decide +kernel) (by decide +kernel)
set_option maxRecDepth 20000 in
theorem gX6_ordersByAll_X0_placesOf : GoodIn wsX6_ordersByAll (wsV RX6 229 RX0 yX0_placesOf wsX0_placesOf) := goodIn_app (goodIn_of _ (by decide +kernel)) ggX6_ordersByAll_X0_placesOf
set_option maxRecDepth 20000 in
theorem ggX6_ordersByAll_X6_countOrders : GoodIn wsX6_ordersByAll wsX6_countOrders := goodIn_r _ [32, 30, 31, 9] (by decide +kernel) (by decide +kernel)
set_option maxRecDepth 20000 in
theorem gX6_ordersByAll_X6_countOrders : GoodIn wsX6_ordersByAll (va_wsS RX6 232 yX6_countOrders wsX6_countOrders) := goodIn_app (goodIn_of _ (by decide +kernel)) ggX6_ordersByAll_X6_countOrders
theorem dX6_ordersByAll_0 : decode cX6_ordersByAll 0 = .ok (.aload_n 0, 1) := by decide +kernel
theorem dX6_ordersByAll_1 : decode cX6_ordersByAll 1 = .ok (.iload_n 1, 1) := by decide +kernel
theorem dX6_ordersByAll_2 : decode cX6_ordersByAll 2 = .ok (.invokevirtual 110, 3) := by decide +kernel
theorem dX6_ordersByAll_5 : decode cX6_ordersByAll 5 = .ok (.iload_n 2, 1) := by decide +kernel
theorem dX6_ordersByAll_6 : decode cX6_ordersByAll 6 = .ok (.invokestatic 54, 3) := by decide +kernel
theorem dX6_ordersByAll_9 : decode cX6_ordersByAll 9 = .ok (.iload_n 3, 1) := by decide +kernel
theorem dX6_ordersByAll_10 : decode cX6_ordersByAll 10 = .ok (.iconst 1, 1) := by decide +kernel
theorem dX6_ordersByAll_11 : decode cX6_ordersByAll 11 = .ok (.bipush 10, 2) := by decide +kernel
theorem dX6_ordersByAll_13 : decode cX6_ordersByAll 13 = .ok (.invokestatic 58, 3) := by decide +kernel
theorem dX6_ordersByAll_16 : decode cX6_ordersByAll 16 = .ok (.aload_n 0, 1) := by decide +kernel
theorem dX6_ordersByAll_17 : decode cX6_ordersByAll 17 = .ok (.getfield 26, 3) := by decide +kernel
theorem dX6_ordersByAll_20 : decode cX6_ordersByAll 20 = .ok (.getfield 133, 3) := by decide +kernel
theorem dX6_ordersByAll_23 : decode cX6_ordersByAll 23 = .ok (.iload_n 1, 1) := by decide +kernel
theorem dX6_ordersByAll_24 : decode cX6_ordersByAll 24 = .ok (.iaload, 1) := by decide +kernel
theorem dX6_ordersByAll_25 : decode cX6_ordersByAll 25 = .ok (.istore 4, 2) := by decide +kernel
theorem dX6_ordersByAll_27 : decode cX6_ordersByAll 27 = .ok (.iload 4, 2) := by decide +kernel
theorem dX6_ordersByAll_29 : decode cX6_ordersByAll 29 = .ok (.bipush 7, 2) := by decide +kernel
theorem dX6_ordersByAll_31 : decode cX6_ordersByAll 31 = .ok (.if_icmp .le 13, 3) := by decide +kernel
theorem dX6_ordersByAll_34 : decode cX6_ordersByAll 34 = .ok (.new 90, 3) := by decide +kernel
theorem dX6_ordersByAll_37 : decode cX6_ordersByAll 37 = .ok (.dup, 1) := by decide +kernel
theorem dX6_ordersByAll_38 : decode cX6_ordersByAll 38 = .ok (.ldc 227, 2) := by decide +kernel
theorem dX6_ordersByAll_40 : decode cX6_ordersByAll 40 = .ok (.invokespecial 94, 3) := by decide +kernel
theorem dX6_ordersByAll_43 : decode cX6_ordersByAll 43 = .ok (.athrow, 1) := by decide +kernel
theorem dX6_ordersByAll_44 : decode cX6_ordersByAll 44 = .ok (.aload_n 0, 1) := by decide +kernel
theorem dX6_ordersByAll_45 : decode cX6_ordersByAll 45 = .ok (.getfield 26, 3) := by decide +kernel
theorem dX6_ordersByAll_48 : decode cX6_ordersByAll 48 = .ok (.iload_n 1, 1) := by decide +kernel
theorem dX6_ordersByAll_49 : decode cX6_ordersByAll 49 = .ok (.iload_n 2, 1) := by decide +kernel
theorem dX6_ordersByAll_50 : decode cX6_ordersByAll 50 = .ok (.aload_n 0, 1) := by decide +kernel
theorem dX6_ordersByAll_51 : decode cX6_ordersByAll 51 = .ok (.getfield 19, 3) := by decide +kernel
theorem dX6_ordersByAll_54 : decode cX6_ordersByAll 54 = .ok (.invokevirtual 229, 3) := by decide +kernel
theorem dX6_ordersByAll_57 : decode cX6_ordersByAll 57 = .ok (.istore 5, 2) := by decide +kernel
theorem dX6_ordersByAll_59 : decode cX6_ordersByAll 59 = .ok (.iconst 0, 1) := by decide +kernel
theorem dX6_ordersByAll_60 : decode cX6_ordersByAll 60 = .ok (.iload 4, 2) := by decide +kernel
theorem dX6_ordersByAll_62 : decode cX6_ordersByAll 62 = .ok (.iconst 0, 1) := by decide +kernel
theorem dX6_ordersByAll_63 : decode cX6_ordersByAll 63 = .ok (.iload 5, 2) := by decide +kernel
theorem dX6_ordersByAll_65 : decode cX6_ordersByAll 65 = .ok (.iload_n 3, 1) := by decide +kernel
theorem dX6_ordersByAll_66 : decode cX6_ordersByAll 66 = .ok (.iconst 0, 1) := by decide +kernel
theorem dX6_ordersByAll_67 : decode cX6_ordersByAll 67 = .ok (.invokestatic 232, 3) := by decide +kernel
theorem dX6_ordersByAll_70 : decode cX6_ordersByAll 70 = .ok (.ireturn, 1) := by decide +kernel
set_option maxRecDepth 20000 in
theorem ggX6_isOpen_X6_needOffer : GoodIn wsX6_isOpen wsX6_needOffer := goodIn_ca (goodIn_r _ [7, 8, 9, 1, 10, 11, 12, 13, 14, 15, 16, 17, 18, 19, 20, 21, 22, 23, 24] (by decide +kernel) (by decide +kernel)) (goodIn_sub (fun _ h => List.mem_cons_of_mem _ (List.mem_append_right _ h)) (by decide +kernel))
set_option maxRecDepth 20000 in
theorem gX6_isOpen_X6_needOffer : GoodIn wsX6_isOpen (wsV RX6 187 RX6 yX6_needOffer wsX6_needOffer) := goodIn_app (goodIn_of _ (by decide +kernel)) ggX6_isOpen_X6_needOffer
theorem dX6_isOpen_0 : decode cX6_isOpen 0 = .ok (.aload_n 0, 1) := by decide +kernel
theorem dX6_isOpen_1 : decode cX6_isOpen 1 = .ok (.iload_n 1, 1) := by decide +kernel
theorem dX6_isOpen_2 : decode cX6_isOpen 2 = .ok (.invokevirtual 187, 3) := by decide +kernel
theorem dX6_isOpen_5 : decode cX6_isOpen 5 = .ok (.aload_n 0, 1) := by decide +kernel
theorem dX6_isOpen_6 : decode cX6_isOpen 6 = .ok (.getfield 33, 3) := by decide +kernel
theorem dX6_isOpen_9 : decode cX6_isOpen 9 = .ok (.getfield 190, 3) := by decide +kernel
theorem dX6_isOpen_12 : decode cX6_isOpen 12 = .ok (.iload_n 1, 1) := by decide +kernel
theorem dX6_isOpen_13 : decode cX6_isOpen 13 = .ok (.baload, 1) := by decide +kernel
theorem dX6_isOpen_14 : decode cX6_isOpen 14 = .ok (.ireturn, 1) := by decide +kernel
set_option maxRecDepth 20000 in
theorem ggX6_ring_X2_findRing : GoodIn wsX6_ring wsX2_findRing := goodIn_r _ [9, 10, 11, 12, 13, 14, 8, 15, 16, 17, 18, 19, 20, 21, 22, 23, 24, 25, 26, 34, 35, 36, 37, 38, 39, 40] (by decide +kernel) (by decide +kernel)
set_option maxRecDepth 20000 in
theorem gX6_ring_X2_findRing : GoodIn wsX6_ring (wsV RX6 198 RX2 yX2_findRing wsX2_findRing) := goodIn_app (goodIn_of _ (by decide +kernel)) ggX6_ring_X2_findRing
theorem dX6_ring_0 : decode cX6_ring 0 = .ok (.iload_n 1, 1) := by decide +kernel
theorem dX6_ring_1 : decode cX6_ring 1 = .ok (.ifCond .ge 13, 3) := by decide +kernel
theorem dX6_ring_4 : decode cX6_ring 4 = .ok (.new 236, 3) := by decide +kernel
theorem dX6_ring_7 : decode cX6_ring 7 = .ok (.dup, 1) := by decide +kernel
theorem dX6_ring_8 : decode cX6_ring 8 = .ok (.ldc 238, 2) := by decide +kernel
theorem dX6_ring_10 : decode cX6_ring 10 = .ok (.invokespecial 240, 3) := by decide +kernel
theorem dX6_ring_13 : decode cX6_ring 13 = .ok (.athrow, 1) := by decide +kernel
theorem dX6_ring_14 : decode cX6_ring 14 = .ok (.iload_n 1, 1) := by decide +kernel
theorem dX6_ring_15 : decode cX6_ring 15 = .ok (.aload_n 0, 1) := by decide +kernel
theorem dX6_ring_16 : decode cX6_ring 16 = .ok (.getfield 33, 3) := by decide +kernel
theorem dX6_ring_19 : decode cX6_ring 19 = .ok (.invokevirtual 198, 3) := by decide +kernel
theorem dX6_ring_22 : decode cX6_ring 22 = .ok (.if_icmp .ge 15, 3) := by decide +kernel
theorem dX6_ring_25 : decode cX6_ring 25 = .ok (.aload_n 0, 1) := by decide +kernel
theorem dX6_ring_26 : decode cX6_ring 26 = .ok (.getfield 33, 3) := by decide +kernel
theorem dX6_ring_29 : decode cX6_ring 29 = .ok (.getfield 202, 3) := by decide +kernel
theorem dX6_ring_32 : decode cX6_ring 32 = .ok (.iload_n 1, 1) := by decide +kernel
theorem dX6_ring_33 : decode cX6_ring 33 = .ok (.iaload, 1) := by decide +kernel
theorem dX6_ring_34 : decode cX6_ring 34 = .ok (.goto 4, 3) := by decide +kernel
theorem dX6_ring_37 : decode cX6_ring 37 = .ok (.iconst (-1), 1) := by decide +kernel
theorem dX6_ring_38 : decode cX6_ring 38 = .ok (.ireturn, 1) := by decide +kernel
theorem dX6_needKind_0 : decode cX6_needKind 0 = .ok (.iload_n 0, 1) := by decide +kernel
theorem dX6_needKind_1 : decode cX6_needKind 1 = .ok (.ifCond .lt 9, 3) := by decide +kernel
theorem dX6_needKind_4 : decode cX6_needKind 4 = .ok (.iload_n 0, 1) := by decide +kernel
theorem dX6_needKind_5 : decode cX6_needKind 5 = .ok (.bipush 16, 2) := by decide +kernel
theorem dX6_needKind_7 : decode cX6_needKind 7 = .ok (.if_icmp .lt 13, 3) := by decide +kernel
theorem dX6_needKind_10 : decode cX6_needKind 10 = .ok (.new 236, 3) := by decide +kernel
theorem dX6_needKind_13 : decode cX6_needKind 13 = .ok (.dup, 1) := by decide +kernel
theorem dX6_needKind_14 : decode cX6_needKind 14 = .ok (.ldc 241, 2) := by decide +kernel
theorem dX6_needKind_16 : decode cX6_needKind 16 = .ok (.invokespecial 240, 3) := by decide +kernel
theorem dX6_needKind_19 : decode cX6_needKind 19 = .ok (.athrow, 1) := by decide +kernel
theorem dX6_needKind_20 : decode cX6_needKind 20 = .ok (.return_, 1) := by decide +kernel
theorem dX6_needCollector_0 : decode cX6_needCollector 0 = .ok (.iload_n 0, 1) := by decide +kernel
theorem dX6_needCollector_1 : decode cX6_needCollector 1 = .ok (.ifCond .lt 9, 3) := by decide +kernel
theorem dX6_needCollector_4 : decode cX6_needCollector 4 = .ok (.iload_n 0, 1) := by decide +kernel
theorem dX6_needCollector_5 : decode cX6_needCollector 5 = .ok (.bipush 6, 2) := by decide +kernel
theorem dX6_needCollector_7 : decode cX6_needCollector 7 = .ok (.if_icmp .lt 13, 3) := by decide +kernel
theorem dX6_needCollector_10 : decode cX6_needCollector 10 = .ok (.new 236, 3) := by decide +kernel
theorem dX6_needCollector_13 : decode cX6_needCollector 13 = .ok (.dup, 1) := by decide +kernel
theorem dX6_needCollector_14 : decode cX6_needCollector 14 = .ok (.ldc 243, 2) := by decide +kernel
theorem dX6_needCollector_16 : decode cX6_needCollector 16 = .ok (.invokespecial 240, 3) := by decide +kernel
theorem dX6_needCollector_19 : decode cX6_needCollector 19 = .ok (.athrow, 1) := by decide +kernel
theorem dX6_needCollector_20 : decode cX6_needCollector 20 = .ok (.return_, 1) := by decide +kernel
theorem dX6_needCard_0 : decode cX6_needCard 0 = .ok (.iload_n 1, 1) := by decide +kernel
theorem dX6_needCard_1 : decode cX6_needCard 1 = .ok (.ifCond .lt 14, 3) := by decide +kernel
theorem dX6_needCard_4 : decode cX6_needCard 4 = .ok (.iload_n 1, 1) := by decide +kernel
theorem dX6_needCard_5 : decode cX6_needCard 5 = .ok (.aload_n 0, 1) := by decide +kernel
theorem dX6_needCard_6 : decode cX6_needCard 6 = .ok (.getfield 19, 3) := by decide +kernel
theorem dX6_needCard_9 : decode cX6_needCard 9 = .ok (.getfield 87, 3) := by decide +kernel
theorem dX6_needCard_12 : decode cX6_needCard 12 = .ok (.if_icmp .lt 13, 3) := by decide +kernel
theorem dX6_needCard_15 : decode cX6_needCard 15 = .ok (.new 236, 3) := by decide +kernel
theorem dX6_needCard_18 : decode cX6_needCard 18 = .ok (.dup, 1) := by decide +kernel
theorem dX6_needCard_19 : decode cX6_needCard 19 = .ok (.ldc 245, 2) := by decide +kernel
theorem dX6_needCard_21 : decode cX6_needCard 21 = .ok (.invokespecial 240, 3) := by decide +kernel
theorem dX6_needCard_24 : decode cX6_needCard 24 = .ok (.athrow, 1) := by decide +kernel
theorem dX6_needCard_25 : decode cX6_needCard 25 = .ok (.return_, 1) := by decide +kernel
theorem dX6_needDeck_0 : decode cX6_needDeck 0 = .ok (.iload_n 1, 1) := by decide +kernel
theorem dX6_needDeck_1 : decode cX6_needDeck 1 = .ok (.ifCond .lt 14, 3) := by decide +kernel
theorem dX6_needDeck_4 : decode cX6_needDeck 4 = .ok (.iload_n 1, 1) := by decide +kernel
theorem dX6_needDeck_5 : decode cX6_needDeck 5 = .ok (.aload_n 0, 1) := by decide +kernel
theorem dX6_needDeck_6 : decode cX6_needDeck 6 = .ok (.getfield 26, 3) := by decide +kernel
theorem dX6_needDeck_9 : decode cX6_needDeck 9 = .ok (.getfield 104, 3) := by decide +kernel
theorem dX6_needDeck_12 : decode cX6_needDeck 12 = .ok (.if_icmp .lt 13, 3) := by decide +kernel
theorem dX6_needDeck_15 : decode cX6_needDeck 15 = .ok (.new 236, 3) := by decide +kernel
theorem dX6_needDeck_18 : decode cX6_needDeck 18 = .ok (.dup, 1) := by decide +kernel
theorem dX6_needDeck_19 : decode cX6_needDeck 19 = .ok (.ldc 247, 2) := by decide +kernel
theorem dX6_needDeck_21 : decode cX6_needDeck 21 = .ok (.invokespecial 240, 3) := by decide +kernel
theorem dX6_needDeck_24 : decode cX6_needDeck 24 = .ok (.athrow, 1) := by decide +kernel
theorem dX6_needDeck_25 : decode cX6_needDeck 25 = .ok (.return_, 1) := by decide +kernel
theorem dX6_needPlace_0 : decode cX6_needPlace 0 = .ok (.iload_n 2, 1) := by decide +kernel
theorem dX6_needPlace_1 : decode cX6_needPlace 1 = .ok (.ifCond .lt 16, 3) := by decide +kernel
theorem dX6_needPlace_4 : decode cX6_needPlace 4 = .ok (.iload_n 2, 1) := by decide +kernel
theorem dX6_needPlace_5 : decode cX6_needPlace 5 = .ok (.aload_n 0, 1) := by decide +kernel
theorem dX6_needPlace_6 : decode cX6_needPlace 6 = .ok (.getfield 26, 3) := by decide +kernel
theorem dX6_needPlace_9 : decode cX6_needPlace 9 = .ok (.getfield 133, 3) := by decide +kernel
theorem dX6_needPlace_12 : decode cX6_needPlace 12 = .ok (.iload_n 1, 1) := by decide +kernel
theorem dX6_needPlace_13 : decode cX6_needPlace 13 = .ok (.iaload, 1) := by decide +kernel
theorem dX6_needPlace_14 : decode cX6_needPlace 14 = .ok (.if_icmp .lt 13, 3) := by decide +kernel
theorem dX6_needPlace_17 : decode cX6_needPlace 17 = .ok (.new 236, 3) := by decide +kernel
theorem dX6_needPlace_20 : decode cX6_needPlace 20 = .ok (.dup, 1) := by decide +kernel
theorem dX6_needPlace_21 : decode cX6_needPlace 21 = .ok (.ldc 249, 2) := by decide +kernel
theorem dX6_needPlace_23 : decode cX6_needPlace 23 = .ok (.invokespecial 240, 3) := by decide +kernel
theorem dX6_needPlace_26 : decode cX6_needPlace 26 = .ok (.athrow, 1) := by decide +kernel
theorem dX6_needPlace_27 : decode cX6_needPlace 27 = .ok (.return_, 1) := by decide +kernel
theorem dX6_needOffer_0 : decode cX6_needOffer 0 = .ok (.iload_n 1, 1) := by decide +kernel
theorem dX6_needOffer_1 : decode cX6_needOffer 1 = .ok (.ifCond .lt 14, 3) := by decide +kernel
theorem dX6_needOffer_4 : decode cX6_needOffer 4 = .ok (.iload_n 1, 1) := by decide +kernel
theorem dX6_needOffer_5 : decode cX6_needOffer 5 = .ok (.aload_n 0, 1) := by decide +kernel
theorem dX6_needOffer_6 : decode cX6_needOffer 6 = .ok (.getfield 33, 3) := by decide +kernel
theorem dX6_needOffer_9 : decode cX6_needOffer 9 = .ok (.getfield 181, 3) := by decide +kernel
theorem dX6_needOffer_12 : decode cX6_needOffer 12 = .ok (.if_icmp .lt 13, 3) := by decide +kernel
theorem dX6_needOffer_15 : decode cX6_needOffer 15 = .ok (.new 236, 3) := by decide +kernel
theorem dX6_needOffer_18 : decode cX6_needOffer 18 = .ok (.dup, 1) := by decide +kernel
theorem dX6_needOffer_19 : decode cX6_needOffer 19 = .ok (.ldc 251, 2) := by decide +kernel
theorem dX6_needOffer_21 : decode cX6_needOffer 21 = .ok (.invokespecial 240, 3) := by decide +kernel
theorem dX6_needOffer_24 : decode cX6_needOffer 24 = .ok (.athrow, 1) := by decide +kernel
theorem dX6_needOffer_25 : decode cX6_needOffer 25 = .ok (.return_, 1) := by decide +kernel
theorem dX6_needRange_0 : decode cX6_needRange 0 = .ok (.iload_n 0, 1) := by decide +kernel
theorem dX6_needRange_1 : decode cX6_needRange 1 = .ok (.iload_n 1, 1) := by decide +kernel
theorem dX6_needRange_2 : decode cX6_needRange 2 = .ok (.if_icmp .lt 8, 3) := by decide +kernel
theorem dX6_needRange_5 : decode cX6_needRange 5 = .ok (.iload_n 0, 1) := by decide +kernel
theorem dX6_needRange_6 : decode cX6_needRange 6 = .ok (.iload_n 2, 1) := by decide +kernel
theorem dX6_needRange_7 : decode cX6_needRange 7 = .ok (.if_icmp .le 13, 3) := by decide +kernel
theorem dX6_needRange_10 : decode cX6_needRange 10 = .ok (.new 122, 3) := by decide +kernel
theorem dX6_needRange_13 : decode cX6_needRange 13 = .ok (.dup, 1) := by decide +kernel
theorem dX6_needRange_14 : decode cX6_needRange 14 = .ok (.ldc 253, 2) := by decide +kernel
theorem dX6_needRange_16 : decode cX6_needRange 16 = .ok (.invokespecial 126, 3) := by decide +kernel
theorem dX6_needRange_19 : decode cX6_needRange 19 = .ok (.athrow, 1) := by decide +kernel
theorem dX6_needRange_20 : decode cX6_needRange 20 = .ok (.return_, 1) := by decide +kernel
theorem dX6_needSeed_0 : decode cX6_needSeed 0 = .ok (.iload_n 0, 1) := by decide +kernel
theorem dX6_needSeed_1 : decode cX6_needSeed 1 = .ok (.ifCond .ge 13, 3) := by decide +kernel
theorem dX6_needSeed_4 : decode cX6_needSeed 4 = .ok (.new 122, 3) := by decide +kernel
theorem dX6_needSeed_7 : decode cX6_needSeed 7 = .ok (.dup, 1) := by decide +kernel
theorem dX6_needSeed_8 : decode cX6_needSeed 8 = .ok (.ldc 255, 2) := by decide +kernel
theorem dX6_needSeed_10 : decode cX6_needSeed 10 = .ok (.invokespecial 126, 3) := by decide +kernel
theorem dX6_needSeed_13 : decode cX6_needSeed 13 = .ok (.athrow, 1) := by decide +kernel
theorem dX6_needSeed_14 : decode cX6_needSeed 14 = .ok (.return_, 1) := by decide +kernel
set_option maxRecDepth 20000 in
theorem ggX6_needAllowed_X0_fitsFormat : GoodIn wsX6_needAllowed wsX0_fitsFormat := goodIn_r _ [10, 11, 12, 13, 14, 15, 16, 17, 18, 19, 20, 21, 9, 22, 23, 24, 25, 26, 27, 28, 29, 30, 31, 32, 33, 41, 42, 43, 44, 45, 46, 47, 48, 49, 50, 51, 52, 53, 54, 55] (by decide +kernel) (by decide +kernel)
set_option maxRecDepth 20000 in
theorem gX6_needAllowed_X0_fitsFormat : GoodIn wsX6_needAllowed (wsV RX6 215 RX0 yX0_fitsFormat wsX0_fitsFormat) := goodIn_app (goodIn_of _ (by decide +kernel)) ggX6_needAllowed_X0_fitsFormat
theorem dX6_needAllowed_0 : decode cX6_needAllowed 0 = .ok (.aload_n 0, 1) := by decide +kernel
theorem dX6_needAllowed_1 : decode cX6_needAllowed 1 = .ok (.getfield 26, 3) := by decide +kernel
theorem dX6_needAllowed_4 : decode cX6_needAllowed 4 = .ok (.iload_n 1, 1) := by decide +kernel
theorem dX6_needAllowed_5 : decode cX6_needAllowed 5 = .ok (.aload_n 0, 1) := by decide +kernel
theorem dX6_needAllowed_6 : decode cX6_needAllowed 6 = .ok (.getfield 10, 3) := by decide +kernel
theorem dX6_needAllowed_9 : decode cX6_needAllowed 9 = .ok (.aload_n 0, 1) := by decide +kernel
theorem dX6_needAllowed_10 : decode cX6_needAllowed 10 = .ok (.getfield 19, 3) := by decide +kernel
theorem dX6_needAllowed_13 : decode cX6_needAllowed 13 = .ok (.invokevirtual 215, 3) := by decide +kernel
theorem dX6_needAllowed_16 : decode cX6_needAllowed 16 = .ok (.ifCond .ne 14, 3) := by decide +kernel
theorem dX6_needAllowed_19 : decode cX6_needAllowed 19 = .ok (.new 90, 3) := by decide +kernel
theorem dX6_needAllowed_22 : decode cX6_needAllowed 22 = .ok (.dup, 1) := by decide +kernel
theorem dX6_needAllowed_23 : decode cX6_needAllowed 23 = .ok (.ldc_w 257, 3) := by decide +kernel
theorem dX6_needAllowed_26 : decode cX6_needAllowed 26 = .ok (.invokespecial 94, 3) := by decide +kernel
theorem dX6_needAllowed_29 : decode cX6_needAllowed 29 = .ok (.athrow, 1) := by decide +kernel
theorem dX6_needAllowed_30 : decode cX6_needAllowed 30 = .ok (.return_, 1) := by decide +kernel
set_option maxRecDepth 20000 in
theorem ggX6_playRound_X5_endRound : GoodIn wsX6_playRound wsX5_endRound := goodIn_r _ [15, 16, 17, 29, 30, 31] (by decide +kernel) (by decide +kernel)
set_option maxRecDepth 20000 in
theorem gX6_playRound_X5_endRound : GoodIn wsX6_playRound (wsV RX6 263 RX5 yX5_endRound wsX5_endRound) := goodIn_app (goodIn_of _ (by decide +kernel)) ggX6_playRound_X5_endRound
theorem dX6_playRound_0 : decode cX6_playRound 0 = .ok (.aload_n 0, 1) := by decide +kernel
theorem dX6_playRound_1 : decode cX6_playRound 1 = .ok (.getfield 19, 3) := by decide +kernel
theorem dX6_playRound_4 : decode cX6_playRound 4 = .ok (.getfield 170, 3) := by decide +kernel
theorem dX6_playRound_7 : decode cX6_playRound 7 = .ok (.aload_n 0, 1) := by decide +kernel
theorem dX6_playRound_8 : decode cX6_playRound 8 = .ok (.getfield 47, 3) := by decide +kernel
theorem dX6_playRound_11 : decode cX6_playRound 11 = .ok (.getfield 259, 3) := by decide +kernel
theorem dX6_playRound_14 : decode cX6_playRound 14 = .ok (.getfield 222, 3) := by decide +kernel
theorem dX6_playRound_17 : decode cX6_playRound 17 = .ok (.iload_n 1, 1) := by decide +kernel
theorem dX6_playRound_18 : decode cX6_playRound 18 = .ok (.iaload, 1) := by decide +kernel
theorem dX6_playRound_19 : decode cX6_playRound 19 = .ok (.iaload, 1) := by decide +kernel
theorem dX6_playRound_20 : decode cX6_playRound 20 = .ok (.istore_n 2, 1) := by decide +kernel
theorem dX6_playRound_21 : decode cX6_playRound 21 = .ok (.aload_n 0, 1) := by decide +kernel
theorem dX6_playRound_22 : decode cX6_playRound 22 = .ok (.getfield 19, 3) := by decide +kernel
theorem dX6_playRound_25 : decode cX6_playRound 25 = .ok (.getfield 170, 3) := by decide +kernel
theorem dX6_playRound_28 : decode cX6_playRound 28 = .ok (.aload_n 0, 1) := by decide +kernel
theorem dX6_playRound_29 : decode cX6_playRound 29 = .ok (.getfield 51, 3) := by decide +kernel
theorem dX6_playRound_32 : decode cX6_playRound 32 = .ok (.getfield 259, 3) := by decide +kernel
theorem dX6_playRound_35 : decode cX6_playRound 35 = .ok (.getfield 222, 3) := by decide +kernel
theorem dX6_playRound_38 : decode cX6_playRound 38 = .ok (.iload_n 1, 1) := by decide +kernel
theorem dX6_playRound_39 : decode cX6_playRound 39 = .ok (.iaload, 1) := by decide +kernel
theorem dX6_playRound_40 : decode cX6_playRound 40 = .ok (.iaload, 1) := by decide +kernel
theorem dX6_playRound_41 : decode cX6_playRound 41 = .ok (.istore_n 3, 1) := by decide +kernel
theorem dX6_playRound_42 : decode cX6_playRound 42 = .ok (.aload_n 0, 1) := by decide +kernel
theorem dX6_playRound_43 : decode cX6_playRound 43 = .ok (.getfield 10, 3) := by decide +kernel
theorem dX6_playRound_46 : decode cX6_playRound 46 = .ok (.getfield 62, 3) := by decide +kernel
theorem dX6_playRound_49 : decode cX6_playRound 49 = .ok (.iload_n 2, 1) := by decide +kernel
theorem dX6_playRound_50 : decode cX6_playRound 50 = .ok (.iaload, 1) := by decide +kernel
theorem dX6_playRound_51 : decode cX6_playRound 51 = .ok (.aload_n 0, 1) := by decide +kernel
theorem dX6_playRound_52 : decode cX6_playRound 52 = .ok (.getfield 47, 3) := by decide +kernel
theorem dX6_playRound_55 : decode cX6_playRound 55 = .ok (.getfield 260, 3) := by decide +kernel
theorem dX6_playRound_58 : decode cX6_playRound 58 = .ok (.iadd, 1) := by decide +kernel
theorem dX6_playRound_59 : decode cX6_playRound 59 = .ok (.istore 4, 2) := by decide +kernel
theorem dX6_playRound_61 : decode cX6_playRound 61 = .ok (.aload_n 0, 1) := by decide +kernel
theorem dX6_playRound_62 : decode cX6_playRound 62 = .ok (.getfield 10, 3) := by decide +kernel
theorem dX6_playRound_65 : decode cX6_playRound 65 = .ok (.getfield 62, 3) := by decide +kernel
theorem dX6_playRound_68 : decode cX6_playRound 68 = .ok (.iload_n 3, 1) := by decide +kernel
theorem dX6_playRound_69 : decode cX6_playRound 69 = .ok (.iaload, 1) := by decide +kernel
theorem dX6_playRound_70 : decode cX6_playRound 70 = .ok (.aload_n 0, 1) := by decide +kernel
theorem dX6_playRound_71 : decode cX6_playRound 71 = .ok (.getfield 51, 3) := by decide +kernel
theorem dX6_playRound_74 : decode cX6_playRound 74 = .ok (.getfield 260, 3) := by decide +kernel
theorem dX6_playRound_77 : decode cX6_playRound 77 = .ok (.iadd, 1) := by decide +kernel
theorem dX6_playRound_78 : decode cX6_playRound 78 = .ok (.istore 5, 2) := by decide +kernel
theorem dX6_playRound_80 : decode cX6_playRound 80 = .ok (.aload_n 0, 1) := by decide +kernel
theorem dX6_playRound_81 : decode cX6_playRound 81 = .ok (.getfield 10, 3) := by decide +kernel
theorem dX6_playRound_84 : decode cX6_playRound 84 = .ok (.getfield 66, 3) := by decide +kernel
theorem dX6_playRound_87 : decode cX6_playRound 87 = .ok (.iload_n 2, 1) := by decide +kernel
theorem dX6_playRound_88 : decode cX6_playRound 88 = .ok (.iaload, 1) := by decide +kernel
theorem dX6_playRound_89 : decode cX6_playRound 89 = .ok (.istore 6, 2) := by decide +kernel
theorem dX6_playRound_91 : decode cX6_playRound 91 = .ok (.aload_n 0, 1) := by decide +kernel
theorem dX6_playRound_92 : decode cX6_playRound 92 = .ok (.getfield 10, 3) := by decide +kernel
theorem dX6_playRound_95 : decode cX6_playRound 95 = .ok (.getfield 66, 3) := by decide +kernel
theorem dX6_playRound_98 : decode cX6_playRound 98 = .ok (.iload_n 3, 1) := by decide +kernel
theorem dX6_playRound_99 : decode cX6_playRound 99 = .ok (.iaload, 1) := by decide +kernel
theorem dX6_playRound_100 : decode cX6_playRound 100 = .ok (.istore 7, 2) := by decide +kernel
theorem dX6_playRound_102 : decode cX6_playRound 102 = .ok (.aload_n 0, 1) := by decide +kernel
theorem dX6_playRound_103 : decode cX6_playRound 103 = .ok (.getfield 47, 3) := by decide +kernel
theorem dX6_playRound_106 : decode cX6_playRound 106 = .ok (.iload 4, 2) := by decide +kernel
theorem dX6_playRound_108 : decode cX6_playRound 108 = .ok (.iload 5, 2) := by decide +kernel
theorem dX6_playRound_110 : decode cX6_playRound 110 = .ok (.if_icmp .le 7, 3) := by decide +kernel
theorem dX6_playRound_113 : decode cX6_playRound 113 = .ok (.iconst 1, 1) := by decide +kernel
theorem dX6_playRound_114 : decode cX6_playRound 114 = .ok (.goto 4, 3) := by decide +kernel
theorem dX6_playRound_117 : decode cX6_playRound 117 = .ok (.iconst 0, 1) := by decide +kernel
theorem dX6_playRound_118 : decode cX6_playRound 118 = .ok (.iload 6, 2) := by decide +kernel
theorem dX6_playRound_120 : decode cX6_playRound 120 = .ok (.iload 7, 2) := by decide +kernel
theorem dX6_playRound_122 : decode cX6_playRound 122 = .ok (.invokevirtual 263, 3) := by decide +kernel
theorem dX6_playRound_125 : decode cX6_playRound 125 = .ok (.aload_n 0, 1) := by decide +kernel
theorem dX6_playRound_126 : decode cX6_playRound 126 = .ok (.getfield 51, 3) := by decide +kernel
theorem dX6_playRound_129 : decode cX6_playRound 129 = .ok (.iload 5, 2) := by decide +kernel
theorem dX6_playRound_131 : decode cX6_playRound 131 = .ok (.iload 4, 2) := by decide +kernel
theorem dX6_playRound_133 : decode cX6_playRound 133 = .ok (.if_icmp .le 7, 3) := by decide +kernel
theorem dX6_playRound_136 : decode cX6_playRound 136 = .ok (.iconst 1, 1) := by decide +kernel
theorem dX6_playRound_137 : decode cX6_playRound 137 = .ok (.goto 4, 3) := by decide +kernel
theorem dX6_playRound_140 : decode cX6_playRound 140 = .ok (.iconst 0, 1) := by decide +kernel
theorem dX6_playRound_141 : decode cX6_playRound 141 = .ok (.iload 7, 2) := by decide +kernel
theorem dX6_playRound_143 : decode cX6_playRound 143 = .ok (.iload 6, 2) := by decide +kernel
theorem dX6_playRound_145 : decode cX6_playRound 145 = .ok (.invokevirtual 263, 3) := by decide +kernel
theorem dX6_playRound_148 : decode cX6_playRound 148 = .ok (.return_, 1) := by decide +kernel
set_option maxRecDepth 20000 in
theorem ggX6_giveWins_X0_countOf : GoodIn wsX6_giveWins wsX0_countOf := goodIn_r _ [9, 10, 11, 12, 8, 13, 14, 15, 16, 17, 18, 19, 20, 21, 22, 23, 36, 37, 38, 39, 40, 41, 42, 43, 44, 45] (by decide +kernel) (by decide +kernel)
set_option maxRecDepth 20000 in
theorem gX6_giveWins_X0_countOf : GoodIn wsX6_giveWins (wsV RX6 225 RX0 yX0_countOf wsX0_countOf) := goodIn_app (goodIn_of _ (by decide +kernel)) ggX6_giveWins_X0_countOf
theorem dX6_giveWins_0 : decode cX6_giveWins 0 = .ok (.iconst 0, 1) := by decide +kernel
theorem dX6_giveWins_1 : decode cX6_giveWins 1 = .ok (.istore_n 2, 1) := by decide +kernel
theorem dX6_giveWins_2 : decode cX6_giveWins 2 = .ok (.iload_n 2, 1) := by decide +kernel
theorem dX6_giveWins_3 : decode cX6_giveWins 3 = .ok (.bipush 16, 2) := by decide +kernel
theorem dX6_giveWins_5 : decode cX6_giveWins 5 = .ok (.if_icmp .ge 38, 3) := by decide +kernel
theorem dX6_giveWins_8 : decode cX6_giveWins 8 = .ok (.aload_n 0, 1) := by decide +kernel
theorem dX6_giveWins_9 : decode cX6_giveWins 9 = .ok (.getfield 26, 3) := by decide +kernel
theorem dX6_giveWins_12 : decode cX6_giveWins 12 = .ok (.iload_n 1, 1) := by decide +kernel
theorem dX6_giveWins_13 : decode cX6_giveWins 13 = .ok (.iload_n 2, 1) := by decide +kernel
theorem dX6_giveWins_14 : decode cX6_giveWins 14 = .ok (.aload_n 0, 1) := by decide +kernel
theorem dX6_giveWins_15 : decode cX6_giveWins 15 = .ok (.getfield 19, 3) := by decide +kernel
theorem dX6_giveWins_18 : decode cX6_giveWins 18 = .ok (.invokevirtual 225, 3) := by decide +kernel
theorem dX6_giveWins_21 : decode cX6_giveWins 21 = .ok (.ifCond .le 16, 3) := by decide +kernel
theorem dX6_giveWins_24 : decode cX6_giveWins 24 = .ok (.aload_n 0, 1) := by decide +kernel
theorem dX6_giveWins_25 : decode cX6_giveWins 25 = .ok (.getfield 10, 3) := by decide +kernel
theorem dX6_giveWins_28 : decode cX6_giveWins 28 = .ok (.getfield 212, 3) := by decide +kernel
theorem dX6_giveWins_31 : decode cX6_giveWins 31 = .ok (.iload_n 2, 1) := by decide +kernel
theorem dX6_giveWins_32 : decode cX6_giveWins 32 = .ok (.dup2, 1) := by decide +kernel
theorem dX6_giveWins_33 : decode cX6_giveWins 33 = .ok (.iaload, 1) := by decide +kernel
theorem dX6_giveWins_34 : decode cX6_giveWins 34 = .ok (.iconst 1, 1) := by decide +kernel
theorem dX6_giveWins_35 : decode cX6_giveWins 35 = .ok (.iadd, 1) := by decide +kernel
theorem dX6_giveWins_36 : decode cX6_giveWins 36 = .ok (.iastore, 1) := by decide +kernel
theorem dX6_giveWins_37 : decode cX6_giveWins 37 = .ok (.iinc 2 1, 3) := by decide +kernel
theorem dX6_giveWins_40 : decode cX6_giveWins 40 = .ok (.goto (-38), 3) := by decide +kernel
theorem dX6_giveWins_43 : decode cX6_giveWins 43 = .ok (.return_, 1) := by decide +kernel
set_option maxRecDepth 20000 in
theorem ggX6_countOrders_X6_countOrders : GoodIn wsX6_countOrders wsX6_countOrders := goodIn_r _ [0, 1, 2, 3] (by decide +kernel) (by decide +kernel)
set_option maxRecDepth 20000 in
theorem gX6_countOrders_X6_countOrders : GoodIn wsX6_countOrders (va_wsS RX6 232 yX6_countOrders wsX6_countOrders) := goodIn_app (goodIn_of _ (by decide +kernel)) ggX6_countOrders_X6_countOrders
theorem dX6_countOrders_0 : decode cX6_countOrders 0 = .ok (.iload_n 0, 1) := by decide +kernel
theorem dX6_countOrders_1 : decode cX6_countOrders 1 = .ok (.iload_n 1, 1) := by decide +kernel
theorem dX6_countOrders_2 : decode cX6_countOrders 2 = .ok (.if_icmp .ge 9, 3) := by decide +kernel
theorem dX6_countOrders_5 : decode cX6_countOrders 5 = .ok (.iload_n 0, 1) := by decide +kernel
theorem dX6_countOrders_6 : decode cX6_countOrders 6 = .ok (.bipush 7, 2) := by decide +kernel
theorem dX6_countOrders_8 : decode cX6_countOrders 8 = .ok (.if_icmp .lt 14, 3) := by decide +kernel
theorem dX6_countOrders_11 : decode cX6_countOrders 11 = .ok (.iload 5, 2) := by decide +kernel
theorem dX6_countOrders_13 : decode cX6_countOrders 13 = .ok (.ifCond .eq 7, 3) := by decide +kernel
theorem dX6_countOrders_16 : decode cX6_countOrders 16 = .ok (.iconst 1, 1) := by decide +kernel
theorem dX6_countOrders_17 : decode cX6_countOrders 17 = .ok (.goto 4, 3) := by decide +kernel
theorem dX6_countOrders_20 : decode cX6_countOrders 20 = .ok (.iconst 0, 1) := by decide +kernel
theorem dX6_countOrders_21 : decode cX6_countOrders 21 = .ok (.ireturn, 1) := by decide +kernel
theorem dX6_countOrders_22 : decode cX6_countOrders 22 = .ok (.iconst 0, 1) := by decide +kernel
theorem dX6_countOrders_23 : decode cX6_countOrders 23 = .ok (.istore 6, 2) := by decide +kernel
theorem dX6_countOrders_25 : decode cX6_countOrders 25 = .ok (.iconst 0, 1) := by decide +kernel
theorem dX6_countOrders_26 : decode cX6_countOrders 26 = .ok (.istore 7, 2) := by decide +kernel
theorem dX6_countOrders_28 : decode cX6_countOrders 28 = .ok (.iload 7, 2) := by decide +kernel
theorem dX6_countOrders_30 : decode cX6_countOrders 30 = .ok (.iload_n 1, 1) := by decide +kernel
theorem dX6_countOrders_31 : decode cX6_countOrders 31 = .ok (.if_icmp .ge 68, 3) := by decide +kernel
theorem dX6_countOrders_34 : decode cX6_countOrders 34 = .ok (.iconst 1, 1) := by decide +kernel
theorem dX6_countOrders_35 : decode cX6_countOrders 35 = .ok (.iload 7, 2) := by decide +kernel
theorem dX6_countOrders_37 : decode cX6_countOrders 37 = .ok (.ishl, 1) := by decide +kernel
theorem dX6_countOrders_38 : decode cX6_countOrders 38 = .ok (.istore 8, 2) := by decide +kernel
theorem dX6_countOrders_40 : decode cX6_countOrders 40 = .ok (.iload_n 2, 1) := by decide +kernel
theorem dX6_countOrders_41 : decode cX6_countOrders 41 = .ok (.iload 8, 2) := by decide +kernel
theorem dX6_countOrders_43 : decode cX6_countOrders 43 = .ok (.iand, 1) := by decide +kernel
theorem dX6_countOrders_44 : decode cX6_countOrders 44 = .ok (.ifCond .ne 49, 3) := by decide +kernel
theorem dX6_countOrders_47 : decode cX6_countOrders 47 = .ok (.iload 5, 2) := by decide +kernel
theorem dX6_countOrders_49 : decode cX6_countOrders 49 = .ok (.ifCond .ne 16, 3) := by decide +kernel
theorem dX6_countOrders_52 : decode cX6_countOrders 52 = .ok (.iload_n 0, 1) := by decide +kernel
theorem dX6_countOrders_53 : decode cX6_countOrders 53 = .ok (.iload 4, 2) := by decide +kernel
theorem dX6_countOrders_55 : decode cX6_countOrders 55 = .ok (.if_icmp .ge 14, 3) := by decide +kernel
theorem dX6_countOrders_58 : decode cX6_countOrders 58 = .ok (.iload_n 3, 1) := by decide +kernel
theorem dX6_countOrders_59 : decode cX6_countOrders 59 = .ok (.iload 8, 2) := by decide +kernel
theorem dX6_countOrders_61 : decode cX6_countOrders 61 = .ok (.iand, 1) := by decide +kernel
theorem dX6_countOrders_62 : decode cX6_countOrders 62 = .ok (.ifCond .eq 7, 3) := by decide +kernel
theorem dX6_countOrders_65 : decode cX6_countOrders 65 = .ok (.iconst 1, 1) := by decide +kernel
theorem dX6_countOrders_66 : decode cX6_countOrders 66 = .ok (.goto 4, 3) := by decide +kernel
theorem dX6_countOrders_69 : decode cX6_countOrders 69 = .ok (.iconst 0, 1) := by decide +kernel
theorem dX6_countOrders_70 : decode cX6_countOrders 70 = .ok (.istore 9, 2) := by decide +kernel
theorem dX6_countOrders_72 : decode cX6_countOrders 72 = .ok (.iload 6, 2) := by decide +kernel
theorem dX6_countOrders_74 : decode cX6_countOrders 74 = .ok (.iload_n 0, 1) := by decide +kernel
theorem dX6_countOrders_75 : decode cX6_countOrders 75 = .ok (.iconst 1, 1) := by decide +kernel
theorem dX6_countOrders_76 : decode cX6_countOrders 76 = .ok (.iadd, 1) := by decide +kernel
theorem dX6_countOrders_77 : decode cX6_countOrders 77 = .ok (.iload_n 1, 1) := by decide +kernel
theorem dX6_countOrders_78 : decode cX6_countOrders 78 = .ok (.iload_n 2, 1) := by decide +kernel
theorem dX6_countOrders_79 : decode cX6_countOrders 79 = .ok (.iload 8, 2) := by decide +kernel
theorem dX6_countOrders_81 : decode cX6_countOrders 81 = .ok (.ior, 1) := by decide +kernel
theorem dX6_countOrders_82 : decode cX6_countOrders 82 = .ok (.iload_n 3, 1) := by decide +kernel
theorem dX6_countOrders_83 : decode cX6_countOrders 83 = .ok (.iload 4, 2) := by decide +kernel
theorem dX6_countOrders_85 : decode cX6_countOrders 85 = .ok (.iload 9, 2) := by decide +kernel
theorem dX6_countOrders_87 : decode cX6_countOrders 87 = .ok (.invokestatic 232, 3) := by decide +kernel
theorem dX6_countOrders_90 : decode cX6_countOrders 90 = .ok (.iadd, 1) := by decide +kernel
theorem dX6_countOrders_91 : decode cX6_countOrders 91 = .ok (.istore 6, 2) := by decide +kernel
theorem dX6_countOrders_93 : decode cX6_countOrders 93 = .ok (.iinc 7 1, 3) := by decide +kernel
theorem dX6_countOrders_96 : decode cX6_countOrders 96 = .ok (.goto (-68), 3) := by decide +kernel
theorem dX6_countOrders_99 : decode cX6_countOrders 99 = .ok (.iload 6, 2) := by decide +kernel
theorem dX6_countOrders_101 : decode cX6_countOrders 101 = .ok (.ireturn, 1) := by decide +kernel
theorem dX7_init_0 : decode cX7_init 0 = .ok (.aload_n 0, 1) := by decide +kernel
theorem dX7_init_1 : decode cX7_init 1 = .ok (.invokespecial 1, 3) := by decide +kernel
theorem dX7_init_4 : decode cX7_init 4 = .ok (.aload_n 0, 1) := by decide +kernel
theorem dX7_init_5 : decode cX7_init 5 = .ok (.bipush 16, 2) := by decide +kernel
theorem dX7_init_7 : decode cX7_init 7 = .ok (.newarray .int, 2) := by decide +kernel
theorem dX7_init_9 : decode cX7_init 9 = .ok (.putfield 7, 3) := by decide +kernel
theorem dX7_init_12 : decode cX7_init 12 = .ok (.aload_n 0, 1) := by decide +kernel
theorem dX7_init_13 : decode cX7_init 13 = .ok (.bipush 16, 2) := by decide +kernel
theorem dX7_init_15 : decode cX7_init 15 = .ok (.newarray .int, 2) := by decide +kernel
theorem dX7_init_17 : decode cX7_init 17 = .ok (.putfield 13, 3) := by decide +kernel
theorem dX7_init_20 : decode cX7_init 20 = .ok (.aload_n 0, 1) := by decide +kernel
theorem dX7_init_21 : decode cX7_init 21 = .ok (.bipush 16, 2) := by decide +kernel
theorem dX7_init_23 : decode cX7_init 23 = .ok (.newarray .boolean, 2) := by decide +kernel
theorem dX7_init_25 : decode cX7_init 25 = .ok (.putfield 16, 3) := by decide +kernel
theorem dX7_init_28 : decode cX7_init 28 = .ok (.aload_n 0, 1) := by decide +kernel
theorem dX7_init_29 : decode cX7_init 29 = .ok (.bipush 16, 2) := by decide +kernel
theorem dX7_init_31 : decode cX7_init 31 = .ok (.newarray .int, 2) := by decide +kernel
theorem dX7_init_33 : decode cX7_init 33 = .ok (.putfield 20, 3) := by decide +kernel
theorem dX7_init_36 : decode cX7_init 36 = .ok (.aload_n 0, 1) := by decide +kernel
theorem dX7_init_37 : decode cX7_init 37 = .ok (.bipush 16, 2) := by decide +kernel
theorem dX7_init_39 : decode cX7_init 39 = .ok (.newarray .int, 2) := by decide +kernel
theorem dX7_init_41 : decode cX7_init 41 = .ok (.putfield 23, 3) := by decide +kernel
theorem dX7_init_44 : decode cX7_init 44 = .ok (.aload_n 0, 1) := by decide +kernel
theorem dX7_init_45 : decode cX7_init 45 = .ok (.iconst 4, 1) := by decide +kernel
theorem dX7_init_46 : decode cX7_init 46 = .ok (.putfield 26, 3) := by decide +kernel
theorem dX7_init_49 : decode cX7_init 49 = .ok (.aload_n 0, 1) := by decide +kernel
theorem dX7_init_50 : decode cX7_init 50 = .ok (.iconst 2, 1) := by decide +kernel
theorem dX7_init_51 : decode cX7_init 51 = .ok (.putfield 30, 3) := by decide +kernel
theorem dX7_init_54 : decode cX7_init 54 = .ok (.aload_n 0, 1) := by decide +kernel
theorem dX7_init_55 : decode cX7_init 55 = .ok (.bipush 80, 2) := by decide +kernel
theorem dX7_init_57 : decode cX7_init 57 = .ok (.newarray .int, 2) := by decide +kernel
theorem dX7_init_59 : decode cX7_init 59 = .ok (.putfield 33, 3) := by decide +kernel
theorem dX7_init_62 : decode cX7_init 62 = .ok (.aload_n 0, 1) := by decide +kernel
theorem dX7_init_63 : decode cX7_init 63 = .ok (.bipush 80, 2) := by decide +kernel
theorem dX7_init_65 : decode cX7_init 65 = .ok (.newarray .int, 2) := by decide +kernel
theorem dX7_init_67 : decode cX7_init 67 = .ok (.putfield 36, 3) := by decide +kernel
theorem dX7_init_70 : decode cX7_init 70 = .ok (.aload_n 0, 1) := by decide +kernel
theorem dX7_init_71 : decode cX7_init 71 = .ok (.bipush 80, 2) := by decide +kernel
theorem dX7_init_73 : decode cX7_init 73 = .ok (.newarray .int, 2) := by decide +kernel
theorem dX7_init_75 : decode cX7_init 75 = .ok (.putfield 39, 3) := by decide +kernel
theorem dX7_init_78 : decode cX7_init 78 = .ok (.aload_n 0, 1) := by decide +kernel
theorem dX7_init_79 : decode cX7_init 79 = .ok (.bipush 12, 2) := by decide +kernel
theorem dX7_init_81 : decode cX7_init 81 = .ok (.newarray .int, 2) := by decide +kernel
theorem dX7_init_83 : decode cX7_init 83 = .ok (.putfield 42, 3) := by decide +kernel
theorem dX7_init_86 : decode cX7_init 86 = .ok (.aload_n 0, 1) := by decide +kernel
theorem dX7_init_87 : decode cX7_init 87 = .ok (.bipush 12, 2) := by decide +kernel
theorem dX7_init_89 : decode cX7_init 89 = .ok (.newarray .int, 2) := by decide +kernel
theorem dX7_init_91 : decode cX7_init 91 = .ok (.putfield 45, 3) := by decide +kernel
theorem dX7_init_94 : decode cX7_init 94 = .ok (.aload_n 0, 1) := by decide +kernel
theorem dX7_init_95 : decode cX7_init 95 = .ok (.bipush 120, 2) := by decide +kernel
theorem dX7_init_97 : decode cX7_init 97 = .ok (.newarray .int, 2) := by decide +kernel
theorem dX7_init_99 : decode cX7_init 99 = .ok (.putfield 48, 3) := by decide +kernel
theorem dX7_init_102 : decode cX7_init 102 = .ok (.aload_n 0, 1) := by decide +kernel
theorem dX7_init_103 : decode cX7_init 103 = .ok (.bipush 20, 2) := by decide +kernel
theorem dX7_init_105 : decode cX7_init 105 = .ok (.newarray .int, 2) := by decide +kernel
theorem dX7_init_107 : decode cX7_init 107 = .ok (.putfield 51, 3) := by decide +kernel
theorem dX7_init_110 : decode cX7_init 110 = .ok (.aload_n 0, 1) := by decide +kernel
theorem dX7_init_111 : decode cX7_init 111 = .ok (.bipush 40, 2) := by decide +kernel
theorem dX7_init_113 : decode cX7_init 113 = .ok (.newarray .int, 2) := by decide +kernel
theorem dX7_init_115 : decode cX7_init 115 = .ok (.putfield 54, 3) := by decide +kernel
theorem dX7_init_118 : decode cX7_init 118 = .ok (.aload_n 0, 1) := by decide +kernel
theorem dX7_init_119 : decode cX7_init 119 = .ok (.bipush 40, 2) := by decide +kernel
theorem dX7_init_121 : decode cX7_init 121 = .ok (.newarray .int, 2) := by decide +kernel
theorem dX7_init_123 : decode cX7_init 123 = .ok (.putfield 57, 3) := by decide +kernel
theorem dX7_init_126 : decode cX7_init 126 = .ok (.aload_n 0, 1) := by decide +kernel
theorem dX7_init_127 : decode cX7_init 127 = .ok (.bipush 40, 2) := by decide +kernel
theorem dX7_init_129 : decode cX7_init 129 = .ok (.newarray .int, 2) := by decide +kernel
theorem dX7_init_131 : decode cX7_init 131 = .ok (.putfield 60, 3) := by decide +kernel
theorem dX7_init_134 : decode cX7_init 134 = .ok (.aload_n 0, 1) := by decide +kernel
theorem dX7_init_135 : decode cX7_init 135 = .ok (.bipush 40, 2) := by decide +kernel
theorem dX7_init_137 : decode cX7_init 137 = .ok (.newarray .boolean, 2) := by decide +kernel
theorem dX7_init_139 : decode cX7_init 139 = .ok (.putfield 63, 3) := by decide +kernel
theorem dX7_init_142 : decode cX7_init 142 = .ok (.aload_n 0, 1) := by decide +kernel
theorem dX7_init_143 : decode cX7_init 143 = .ok (.iconst 4, 1) := by decide +kernel
theorem dX7_init_144 : decode cX7_init 144 = .ok (.newarray .int, 2) := by decide +kernel
theorem dX7_init_146 : decode cX7_init 146 = .ok (.putfield 66, 3) := by decide +kernel
theorem dX7_init_149 : decode cX7_init 149 = .ok (.return_, 1) := by decide +kernel
theorem dX7_thrown_0 : decode cX7_thrown 0 = .ok (.aload_n 0, 1) := by decide +kernel
theorem dX7_thrown_1 : decode cX7_thrown 1 = .ok (.getfield 69, 3) := by decide +kernel
theorem dX7_thrown_4 : decode cX7_thrown 4 = .ok (.ireturn, 1) := by decide +kernel
theorem dX7_in_0 : decode cX7_in 0 = .ok (.iload_n 0, 1) := by decide +kernel
theorem dX7_in_1 : decode cX7_in 1 = .ok (.iload_n 1, 1) := by decide +kernel
theorem dX7_in_2 : decode cX7_in 2 = .ok (.if_icmp .lt 12, 3) := by decide +kernel
theorem dX7_in_5 : decode cX7_in 5 = .ok (.iload_n 0, 1) := by decide +kernel
theorem dX7_in_6 : decode cX7_in 6 = .ok (.iload_n 2, 1) := by decide +kernel
theorem dX7_in_7 : decode cX7_in 7 = .ok (.if_icmp .gt 7, 3) := by decide +kernel
theorem dX7_in_10 : decode cX7_in 10 = .ok (.iconst 1, 1) := by decide +kernel
theorem dX7_in_11 : decode cX7_in 11 = .ok (.goto 4, 3) := by decide +kernel
theorem dX7_in_14 : decode cX7_in 14 = .ok (.iconst 0, 1) := by decide +kernel
theorem dX7_in_15 : decode cX7_in 15 = .ok (.ireturn, 1) := by decide +kernel
theorem dX7_goes_0 : decode cX7_goes 0 = .ok (.aload_n 0, 1) := by decide +kernel
theorem dX7_goes_1 : decode cX7_goes 1 = .ok (.iload_n 1, 1) := by decide +kernel
theorem dX7_goes_2 : decode cX7_goes 2 = .ok (.ifCond .ne 7, 3) := by decide +kernel
theorem dX7_goes_5 : decode cX7_goes 5 = .ok (.iconst 1, 1) := by decide +kernel
theorem dX7_goes_6 : decode cX7_goes 6 = .ok (.goto 20, 3) := by decide +kernel
theorem dX7_goes_9 : decode cX7_goes 9 = .ok (.iload_n 2, 1) := by decide +kernel
theorem dX7_goes_10 : decode cX7_goes 10 = .ok (.ifCond .ne 7, 3) := by decide +kernel
theorem dX7_goes_13 : decode cX7_goes 13 = .ok (.iconst 2, 1) := by decide +kernel
theorem dX7_goes_14 : decode cX7_goes 14 = .ok (.goto 12, 3) := by decide +kernel
theorem dX7_goes_17 : decode cX7_goes 17 = .ok (.iload_n 3, 1) := by decide +kernel
theorem dX7_goes_18 : decode cX7_goes 18 = .ok (.ifCond .ne 7, 3) := by decide +kernel
theorem dX7_goes_21 : decode cX7_goes 21 = .ok (.iconst 3, 1) := by decide +kernel
theorem dX7_goes_22 : decode cX7_goes 22 = .ok (.goto 4, 3) := by decide +kernel
theorem dX7_goes_25 : decode cX7_goes 25 = .ok (.iconst 0, 1) := by decide +kernel
theorem dX7_goes_26 : decode cX7_goes 26 = .ok (.putfield 69, 3) := by decide +kernel
theorem dX7_goes_29 : decode cX7_goes 29 = .ok (.aload_n 0, 1) := by decide +kernel
theorem dX7_goes_30 : decode cX7_goes 30 = .ok (.getfield 69, 3) := by decide +kernel
theorem dX7_goes_33 : decode cX7_goes 33 = .ok (.ifCond .ne 7, 3) := by decide +kernel
theorem dX7_goes_36 : decode cX7_goes 36 = .ok (.iconst 1, 1) := by decide +kernel
theorem dX7_goes_37 : decode cX7_goes 37 = .ok (.goto 4, 3) := by decide +kernel
theorem dX7_goes_40 : decode cX7_goes 40 = .ok (.iconst 0, 1) := by decide +kernel
theorem dX7_goes_41 : decode cX7_goes 41 = .ok (.ireturn, 1) := by decide +kernel
theorem dX7_told_0 : decode cX7_told 0 = .ok (.aload_n 0, 1) := by decide +kernel
theorem dX7_told_1 : decode cX7_told 1 = .ok (.iconst 0, 1) := by decide +kernel
theorem dX7_told_2 : decode cX7_told 2 = .ok (.putfield 69, 3) := by decide +kernel
theorem dX7_told_5 : decode cX7_told 5 = .ok (.iload_n 1, 1) := by decide +kernel
theorem dX7_told_6 : decode cX7_told 6 = .ok (.ireturn, 1) := by decide +kernel
set_option maxRecDepth 20000 in
theorem ggX7_isKind_X7_in : GoodIn wsX7_isKind wsX7_in := goodIn_r _ [4] (by decide +kernel) (by decide +kernel)
set_option maxRecDepth 20000 in
theorem gX7_isKind_X7_in : GoodIn wsX7_isKind (va_wsS RX7 72 yX7_in wsX7_in) := goodIn_app (goodIn_of _ (by decide +kernel)) ggX7_isKind_X7_in
theorem dX7_isKind_0 : decode cX7_isKind 0 = .ok (.iload_n 0, 1) := by decide +kernel
theorem dX7_isKind_1 : decode cX7_isKind 1 = .ok (.iconst 0, 1) := by decide +kernel
theorem dX7_isKind_2 : decode cX7_isKind 2 = .ok (.bipush 15, 2) := by decide +kernel
theorem dX7_isKind_4 : decode cX7_isKind 4 = .ok (.invokestatic 72, 3) := by decide +kernel
theorem dX7_isKind_7 : decode cX7_isKind 7 = .ok (.ireturn, 1) := by decide +kernel
set_option maxRecDepth 20000 in
theorem ggX7_isCollector_X7_in : GoodIn wsX7_isCollector wsX7_in := goodIn_r _ [4] (by decide +kernel) (by decide +kernel)
set_option maxRecDepth 20000 in
theorem gX7_isCollector_X7_in : GoodIn wsX7_isCollector (va_wsS RX7 72 yX7_in wsX7_in) := goodIn_app (goodIn_of _ (by decide +kernel)) ggX7_isCollector_X7_in
theorem dX7_isCollector_0 : decode cX7_isCollector 0 = .ok (.iload_n 0, 1) := by decide +kernel
theorem dX7_isCollector_1 : decode cX7_isCollector 1 = .ok (.iconst 0, 1) := by decide +kernel
theorem dX7_isCollector_2 : decode cX7_isCollector 2 = .ok (.iconst 5, 1) := by decide +kernel
theorem dX7_isCollector_3 : decode cX7_isCollector 3 = .ok (.invokestatic 72, 3) := by decide +kernel
theorem dX7_isCollector_6 : decode cX7_isCollector 6 = .ok (.ireturn, 1) := by decide +kernel
set_option maxRecDepth 20000 in
theorem ggX7_isCard_X7_in : GoodIn wsX7_isCard wsX7_in := goodIn_r _ [5] (by decide +kernel) (by decide +kernel)
set_option maxRecDepth 20000 in
theorem gX7_isCard_X7_in : GoodIn wsX7_isCard (va_wsS RX7 72 yX7_in wsX7_in) := goodIn_app (goodIn_of _ (by decide +kernel)) ggX7_isCard_X7_in
theorem dX7_isCard_0 : decode cX7_isCard 0 = .ok (.iload_n 1, 1) := by decide +kernel
theorem dX7_isCard_1 : decode cX7_isCard 1 = .ok (.iconst 0, 1) := by decide +kernel
theorem dX7_isCard_2 : decode cX7_isCard 2 = .ok (.aload_n 0, 1) := by decide +kernel
theorem dX7_isCard_3 : decode cX7_isCard 3 = .ok (.getfield 76, 3) := by decide +kernel
theorem dX7_isCard_6 : decode cX7_isCard 6 = .ok (.iconst 1, 1) := by decide +kernel
theorem dX7_isCard_7 : decode cX7_isCard 7 = .ok (.isub, 1) := by decide +kernel
theorem dX7_isCard_8 : decode cX7_isCard 8 = .ok (.invokestatic 72, 3) := by decide +kernel
theorem dX7_isCard_11 : decode cX7_isCard 11 = .ok (.ireturn, 1) := by decide +kernel
set_option maxRecDepth 20000 in
theorem ggX7_isDeck_X7_in : GoodIn wsX7_isDeck wsX7_in := goodIn_r _ [5] (by decide +kernel) (by decide +kernel)
set_option maxRecDepth 20000 in
theorem gX7_isDeck_X7_in : GoodIn wsX7_isDeck (va_wsS RX7 72 yX7_in wsX7_in) := goodIn_app (goodIn_of _ (by decide +kernel)) ggX7_isDeck_X7_in
theorem dX7_isDeck_0 : decode cX7_isDeck 0 = .ok (.iload_n 1, 1) := by decide +kernel
theorem dX7_isDeck_1 : decode cX7_isDeck 1 = .ok (.iconst 0, 1) := by decide +kernel
theorem dX7_isDeck_2 : decode cX7_isDeck 2 = .ok (.aload_n 0, 1) := by decide +kernel
theorem dX7_isDeck_3 : decode cX7_isDeck 3 = .ok (.getfield 79, 3) := by decide +kernel
theorem dX7_isDeck_6 : decode cX7_isDeck 6 = .ok (.iconst 1, 1) := by decide +kernel
theorem dX7_isDeck_7 : decode cX7_isDeck 7 = .ok (.isub, 1) := by decide +kernel
theorem dX7_isDeck_8 : decode cX7_isDeck 8 = .ok (.invokestatic 72, 3) := by decide +kernel
theorem dX7_isDeck_11 : decode cX7_isDeck 11 = .ok (.ireturn, 1) := by decide +kernel
set_option maxRecDepth 20000 in
theorem ggX7_isOffer_X7_in : GoodIn wsX7_isOffer wsX7_in := goodIn_r _ [5] (by decide +kernel) (by decide +kernel)
set_option maxRecDepth 20000 in
theorem gX7_isOffer_X7_in : GoodIn wsX7_isOffer (va_wsS RX7 72 yX7_in wsX7_in) := goodIn_app (goodIn_of _ (by decide +kernel)) ggX7_isOffer_X7_in
theorem dX7_isOffer_0 : decode cX7_isOffer 0 = .ok (.iload_n 1, 1) := by decide +kernel
theorem dX7_isOffer_1 : decode cX7_isOffer 1 = .ok (.iconst 0, 1) := by decide +kernel
theorem dX7_isOffer_2 : decode cX7_isOffer 2 = .ok (.aload_n 0, 1) := by decide +kernel
theorem dX7_isOffer_3 : decode cX7_isOffer 3 = .ok (.getfield 82, 3) := by decide +kernel
theorem dX7_isOffer_6 : decode cX7_isOffer 6 = .ok (.iconst 1, 1) := by decide +kernel
theorem dX7_isOffer_7 : decode cX7_isOffer 7 = .ok (.isub, 1) := by decide +kernel
theorem dX7_isOffer_8 : decode cX7_isOffer 8 = .ok (.invokestatic 72, 3) := by decide +kernel
theorem dX7_isOffer_11 : decode cX7_isOffer 11 = .ok (.ireturn, 1) := by decide +kernel
set_option maxRecDepth 20000 in
theorem ggX7_setKind_X7_isKind : GoodIn wsX7_setKind wsX7_isKind := goodIn_r _ [6, 7, 8, 5, 9] (by decide +kernel) (by decide +kernel)
set_option maxRecDepth 20000 in
theorem gX7_setKind_X7_isKind : GoodIn wsX7_setKind (va_wsS RX7 85 yX7_isKind wsX7_isKind) := goodIn_app (goodIn_of _ (by decide +kernel)) ggX7_setKind_X7_isKind
set_option maxRecDepth 20000 in
theorem ggX7_setKind_X7_in : GoodIn wsX7_setKind wsX7_in := goodIn_r _ [9] (by decide +kernel) (by decide +kernel)
set_option maxRecDepth 20000 in
theorem gX7_setKind_X7_in : GoodIn wsX7_setKind (va_wsS RX7 72 yX7_in wsX7_in) := goodIn_app (goodIn_of _ (by decide +kernel)) ggX7_setKind_X7_in
set_option maxRecDepth 20000 in
theorem ggX7_setKind_X7_goes : GoodIn wsX7_setKind wsX7_goes := goodIn_r _ [13, 14, 15, 16, 17, 18, 19, 20, 21, 22, 23, 24, 25, 26, 27, 28, 29, 30, 31, 32, 33, 34, 35, 36, 37] (by decide +kernel) (by decide +kernel)
set_option maxRecDepth 20000 in
theorem gX7_setKind_X7_goes : GoodIn wsX7_setKind (wsV RX7 89 RX7 yX7_goes wsX7_goes) := goodIn_app (goodIn_of _ (by decide +kernel)) ggX7_setKind_X7_goes
theorem dX7_setKind_0 : decode cX7_setKind 0 = .ok (.aload_n 0, 1) := by decide +kernel
theorem dX7_setKind_1 : decode cX7_setKind 1 = .ok (.iload_n 1, 1) := by decide +kernel
theorem dX7_setKind_2 : decode cX7_setKind 2 = .ok (.invokestatic 85, 3) := by decide +kernel
theorem dX7_setKind_5 : decode cX7_setKind 5 = .ok (.iload_n 2, 1) := by decide +kernel
theorem dX7_setKind_6 : decode cX7_setKind 6 = .ok (.iconst 0, 1) := by decide +kernel
theorem dX7_setKind_7 : decode cX7_setKind 7 = .ok (.bipush 9, 2) := by decide +kernel
theorem dX7_setKind_9 : decode cX7_setKind 9 = .ok (.invokestatic 72, 3) := by decide +kernel
theorem dX7_setKind_12 : decode cX7_setKind 12 = .ok (.ifCond .eq 16, 3) := by decide +kernel
theorem dX7_setKind_15 : decode cX7_setKind 15 = .ok (.iload_n 3, 1) := by decide +kernel
theorem dX7_setKind_16 : decode cX7_setKind 16 = .ok (.iconst 0, 1) := by decide +kernel
theorem dX7_setKind_17 : decode cX7_setKind 17 = .ok (.iconst 3, 1) := by decide +kernel
theorem dX7_setKind_18 : decode cX7_setKind 18 = .ok (.invokestatic 72, 3) := by decide +kernel
theorem dX7_setKind_21 : decode cX7_setKind 21 = .ok (.ifCond .eq 7, 3) := by decide +kernel
theorem dX7_setKind_24 : decode cX7_setKind 24 = .ok (.iconst 1, 1) := by decide +kernel
theorem dX7_setKind_25 : decode cX7_setKind 25 = .ok (.goto 4, 3) := by decide +kernel
theorem dX7_setKind_28 : decode cX7_setKind 28 = .ok (.iconst 0, 1) := by decide +kernel
theorem dX7_setKind_29 : decode cX7_setKind 29 = .ok (.iconst 1, 1) := by decide +kernel
theorem dX7_setKind_30 : decode cX7_setKind 30 = .ok (.invokevirtual 89, 3) := by decide +kernel
theorem dX7_setKind_33 : decode cX7_setKind 33 = .ok (.ifCond .ne 5, 3) := by decide +kernel
theorem dX7_setKind_36 : decode cX7_setKind 36 = .ok (.iconst 0, 1) := by decide +kernel
theorem dX7_setKind_37 : decode cX7_setKind 37 = .ok (.ireturn, 1) := by decide +kernel
theorem dX7_setKind_38 : decode cX7_setKind 38 = .ok (.aload_n 0, 1) := by decide +kernel
theorem dX7_setKind_39 : decode cX7_setKind 39 = .ok (.getfield 7, 3) := by decide +kernel
theorem dX7_setKind_42 : decode cX7_setKind 42 = .ok (.iload_n 1, 1) := by decide +kernel
theorem dX7_setKind_43 : decode cX7_setKind 43 = .ok (.iaload, 1) := by decide +kernel
theorem dX7_setKind_44 : decode cX7_setKind 44 = .ok (.istore 4, 2) := by decide +kernel
theorem dX7_setKind_46 : decode cX7_setKind 46 = .ok (.aload_n 0, 1) := by decide +kernel
theorem dX7_setKind_47 : decode cX7_setKind 47 = .ok (.getfield 7, 3) := by decide +kernel
theorem dX7_setKind_50 : decode cX7_setKind 50 = .ok (.iload_n 1, 1) := by decide +kernel
theorem dX7_setKind_51 : decode cX7_setKind 51 = .ok (.iload_n 2, 1) := by decide +kernel
theorem dX7_setKind_52 : decode cX7_setKind 52 = .ok (.iastore, 1) := by decide +kernel
theorem dX7_setKind_53 : decode cX7_setKind 53 = .ok (.aload_n 0, 1) := by decide +kernel
theorem dX7_setKind_54 : decode cX7_setKind 54 = .ok (.getfield 13, 3) := by decide +kernel
theorem dX7_setKind_57 : decode cX7_setKind 57 = .ok (.iload_n 1, 1) := by decide +kernel
theorem dX7_setKind_58 : decode cX7_setKind 58 = .ok (.iload_n 3, 1) := by decide +kernel
theorem dX7_setKind_59 : decode cX7_setKind 59 = .ok (.iastore, 1) := by decide +kernel
theorem dX7_setKind_60 : decode cX7_setKind 60 = .ok (.iload 4, 2) := by decide +kernel
theorem dX7_setKind_62 : decode cX7_setKind 62 = .ok (.ireturn, 1) := by decide +kernel
theorem dX7_kindAt_0 : decode cX7_kindAt 0 = .ok (.aload_n 0, 1) := by decide +kernel
theorem dX7_kindAt_1 : decode cX7_kindAt 1 = .ok (.getfield 33, 3) := by decide +kernel
theorem dX7_kindAt_4 : decode cX7_kindAt 4 = .ok (.aload_n 0, 1) := by decide +kernel
theorem dX7_kindAt_5 : decode cX7_kindAt 5 = .ok (.getfield 48, 3) := by decide +kernel
theorem dX7_kindAt_8 : decode cX7_kindAt 8 = .ok (.bipush 10, 2) := by decide +kernel
theorem dX7_kindAt_10 : decode cX7_kindAt 10 = .ok (.iload_n 1, 1) := by decide +kernel
theorem dX7_kindAt_11 : decode cX7_kindAt 11 = .ok (.imul, 1) := by decide +kernel
theorem dX7_kindAt_12 : decode cX7_kindAt 12 = .ok (.iload_n 2, 1) := by decide +kernel
theorem dX7_kindAt_13 : decode cX7_kindAt 13 = .ok (.iadd, 1) := by decide +kernel
theorem dX7_kindAt_14 : decode cX7_kindAt 14 = .ok (.iaload, 1) := by decide +kernel
theorem dX7_kindAt_15 : decode cX7_kindAt 15 = .ok (.iaload, 1) := by decide +kernel
theorem dX7_kindAt_16 : decode cX7_kindAt 16 = .ok (.ireturn, 1) := by decide +kernel
set_option maxRecDepth 20000 in
theorem ggX7_manyOf_X7_kindAt : GoodIn wsX7_manyOf wsX7_kindAt := goodIn_r _ [6, 7, 8, 9, 10, 11, 12, 13, 14, 15, 16, 17, 18, 19, 20, 21, 22, 23, 24, 25, 26, 27, 28, 29, 30, 31] (by decide +kernel) (by decide +kernel)
set_option maxRecDepth 20000 in
theorem gX7_manyOf_X7_kindAt : GoodIn wsX7_manyOf (wsV RX7 93 RX7 yX7_kindAt wsX7_kindAt) := goodIn_app (goodIn_of _ (by decide +kernel)) ggX7_manyOf_X7_kindAt
theorem dX7_manyOf_0 : decode cX7_manyOf 0 = .ok (.iconst 0, 1) := by decide +kernel
theorem dX7_manyOf_1 : decode cX7_manyOf 1 = .ok (.istore_n 3, 1) := by decide +kernel
theorem dX7_manyOf_2 : decode cX7_manyOf 2 = .ok (.iconst 0, 1) := by decide +kernel
theorem dX7_manyOf_3 : decode cX7_manyOf 3 = .ok (.istore 4, 2) := by decide +kernel
theorem dX7_manyOf_5 : decode cX7_manyOf 5 = .ok (.iload 4, 2) := by decide +kernel
theorem dX7_manyOf_7 : decode cX7_manyOf 7 = .ok (.aload_n 0, 1) := by decide +kernel
theorem dX7_manyOf_8 : decode cX7_manyOf 8 = .ok (.getfield 45, 3) := by decide +kernel
theorem dX7_manyOf_11 : decode cX7_manyOf 11 = .ok (.iload_n 1, 1) := by decide +kernel
theorem dX7_manyOf_12 : decode cX7_manyOf 12 = .ok (.iaload, 1) := by decide +kernel
theorem dX7_manyOf_13 : decode cX7_manyOf 13 = .ok (.if_icmp .ge 28, 3) := by decide +kernel
theorem dX7_manyOf_16 : decode cX7_manyOf 16 = .ok (.iload_n 3, 1) := by decide +kernel
theorem dX7_manyOf_17 : decode cX7_manyOf 17 = .ok (.aload_n 0, 1) := by decide +kernel
theorem dX7_manyOf_18 : decode cX7_manyOf 18 = .ok (.iload_n 1, 1) := by decide +kernel
theorem dX7_manyOf_19 : decode cX7_manyOf 19 = .ok (.iload 4, 2) := by decide +kernel
theorem dX7_manyOf_21 : decode cX7_manyOf 21 = .ok (.invokevirtual 93, 3) := by decide +kernel
theorem dX7_manyOf_24 : decode cX7_manyOf 24 = .ok (.iload_n 2, 1) := by decide +kernel
theorem dX7_manyOf_25 : decode cX7_manyOf 25 = .ok (.if_icmp .ne 7, 3) := by decide +kernel
theorem dX7_manyOf_28 : decode cX7_manyOf 28 = .ok (.iconst 1, 1) := by decide +kernel
theorem dX7_manyOf_29 : decode cX7_manyOf 29 = .ok (.goto 4, 3) := by decide +kernel
theorem dX7_manyOf_32 : decode cX7_manyOf 32 = .ok (.iconst 0, 1) := by decide +kernel
theorem dX7_manyOf_33 : decode cX7_manyOf 33 = .ok (.iadd, 1) := by decide +kernel
theorem dX7_manyOf_34 : decode cX7_manyOf 34 = .ok (.istore_n 3, 1) := by decide +kernel
theorem dX7_manyOf_35 : decode cX7_manyOf 35 = .ok (.iinc 4 1, 3) := by decide +kernel
theorem dX7_manyOf_38 : decode cX7_manyOf 38 = .ok (.goto (-33), 3) := by decide +kernel
theorem dX7_manyOf_41 : decode cX7_manyOf 41 = .ok (.iload_n 3, 1) := by decide +kernel
theorem dX7_manyOf_42 : decode cX7_manyOf 42 = .ok (.ireturn, 1) := by decide +kernel
set_option maxRecDepth 20000 in
theorem ggX7_allows_X7_kindAt : GoodIn wsX7_allows wsX7_kindAt := goodIn_r _ [12, 13, 4, 18, 19, 20, 21, 22, 23, 24, 25, 26, 27, 28, 29, 30, 31, 32, 33, 34, 35, 36, 37, 38, 39, 40] (by decide +kernel) (by decide +kernel)
set_option maxRecDepth 20000 in
theorem gX7_allows_X7_kindAt : GoodIn wsX7_allows (wsV RX7 93 RX7 yX7_kindAt wsX7_kindAt) := goodIn_app (goodIn_of _ (by decide +kernel)) ggX7_allows_X7_kindAt
set_option maxRecDepth 20000 in
theorem ggX7_allows_X7_manyOf : GoodIn wsX7_allows wsX7_manyOf := goodIn_r _ [17, 1, 8, 9, 10, 11, 12, 13, 4, 18, 19, 20, 21, 22, 23, 24, 25, 26, 27, 28, 29, 30, 31, 32, 33, 34, 35, 36, 37, 38, 39, 40] (by decide +kernel) (by decide +kernel)
set_option maxRecDepth 20000 in
theorem gX7_allows_X7_manyOf : GoodIn wsX7_allows (wsV RX7 97 RX7 yX7_manyOf wsX7_manyOf) := goodIn_app (goodIn_of _ (by decide +kernel)) ggX7_allows_X7_manyOf
theorem dX7_allows_0 : decode cX7_allows 0 = .ok (.aload_n 0, 1) := by decide +kernel
theorem dX7_allows_1 : decode cX7_allows 1 = .ok (.getfield 45, 3) := by decide +kernel
theorem dX7_allows_4 : decode cX7_allows 4 = .ok (.iload_n 1, 1) := by decide +kernel
theorem dX7_allows_5 : decode cX7_allows 5 = .ok (.iaload, 1) := by decide +kernel
theorem dX7_allows_6 : decode cX7_allows 6 = .ok (.aload_n 0, 1) := by decide +kernel
theorem dX7_allows_7 : decode cX7_allows 7 = .ok (.getfield 26, 3) := by decide +kernel
theorem dX7_allows_10 : decode cX7_allows 10 = .ok (.if_icmp .ne 7, 3) := by decide +kernel
theorem dX7_allows_13 : decode cX7_allows 13 = .ok (.iconst 1, 1) := by decide +kernel
theorem dX7_allows_14 : decode cX7_allows 14 = .ok (.goto 4, 3) := by decide +kernel
theorem dX7_allows_17 : decode cX7_allows 17 = .ok (.iconst 0, 1) := by decide +kernel
theorem dX7_allows_18 : decode cX7_allows 18 = .ok (.istore_n 2, 1) := by decide +kernel
theorem dX7_allows_19 : decode cX7_allows 19 = .ok (.iconst 0, 1) := by decide +kernel
theorem dX7_allows_20 : decode cX7_allows 20 = .ok (.istore_n 3, 1) := by decide +kernel
theorem dX7_allows_21 : decode cX7_allows 21 = .ok (.iload_n 3, 1) := by decide +kernel
theorem dX7_allows_22 : decode cX7_allows 22 = .ok (.aload_n 0, 1) := by decide +kernel
theorem dX7_allows_23 : decode cX7_allows 23 = .ok (.getfield 45, 3) := by decide +kernel
theorem dX7_allows_26 : decode cX7_allows 26 = .ok (.iload_n 1, 1) := by decide +kernel
theorem dX7_allows_27 : decode cX7_allows 27 = .ok (.iaload, 1) := by decide +kernel
theorem dX7_allows_28 : decode cX7_allows 28 = .ok (.if_icmp .ge 88, 3) := by decide +kernel
theorem dX7_allows_31 : decode cX7_allows 31 = .ok (.aload_n 0, 1) := by decide +kernel
theorem dX7_allows_32 : decode cX7_allows 32 = .ok (.getfield 39, 3) := by decide +kernel
theorem dX7_allows_35 : decode cX7_allows 35 = .ok (.aload_n 0, 1) := by decide +kernel
theorem dX7_allows_36 : decode cX7_allows 36 = .ok (.getfield 48, 3) := by decide +kernel
theorem dX7_allows_39 : decode cX7_allows 39 = .ok (.bipush 10, 2) := by decide +kernel
theorem dX7_allows_41 : decode cX7_allows 41 = .ok (.iload_n 1, 1) := by decide +kernel
theorem dX7_allows_42 : decode cX7_allows 42 = .ok (.imul, 1) := by decide +kernel
theorem dX7_allows_43 : decode cX7_allows 43 = .ok (.iload_n 3, 1) := by decide +kernel
theorem dX7_allows_44 : decode cX7_allows 44 = .ok (.iadd, 1) := by decide +kernel
theorem dX7_allows_45 : decode cX7_allows 45 = .ok (.iaload, 1) := by decide +kernel
theorem dX7_allows_46 : decode cX7_allows 46 = .ok (.iaload, 1) := by decide +kernel
theorem dX7_allows_47 : decode cX7_allows 47 = .ok (.aload_n 0, 1) := by decide +kernel
theorem dX7_allows_48 : decode cX7_allows 48 = .ok (.getfield 42, 3) := by decide +kernel
theorem dX7_allows_51 : decode cX7_allows 51 = .ok (.iload_n 1, 1) := by decide +kernel
theorem dX7_allows_52 : decode cX7_allows 52 = .ok (.iaload, 1) := by decide +kernel
theorem dX7_allows_53 : decode cX7_allows 53 = .ok (.if_icmp .ne 7, 3) := by decide +kernel
theorem dX7_allows_56 : decode cX7_allows 56 = .ok (.iconst 1, 1) := by decide +kernel
theorem dX7_allows_57 : decode cX7_allows 57 = .ok (.goto 4, 3) := by decide +kernel
theorem dX7_allows_60 : decode cX7_allows 60 = .ok (.iconst 0, 1) := by decide +kernel
theorem dX7_allows_61 : decode cX7_allows 61 = .ok (.istore 4, 2) := by decide +kernel
theorem dX7_allows_63 : decode cX7_allows 63 = .ok (.iload_n 2, 1) := by decide +kernel
theorem dX7_allows_64 : decode cX7_allows 64 = .ok (.ifCond .eq 44, 3) := by decide +kernel
theorem dX7_allows_67 : decode cX7_allows 67 = .ok (.iload 4, 2) := by decide +kernel
theorem dX7_allows_69 : decode cX7_allows 69 = .ok (.ifCond .eq 39, 3) := by decide +kernel
theorem dX7_allows_72 : decode cX7_allows 72 = .ok (.aload_n 0, 1) := by decide +kernel
theorem dX7_allows_73 : decode cX7_allows 73 = .ok (.getfield 16, 3) := by decide +kernel
theorem dX7_allows_76 : decode cX7_allows 76 = .ok (.aload_n 0, 1) := by decide +kernel
theorem dX7_allows_77 : decode cX7_allows 77 = .ok (.iload_n 1, 1) := by decide +kernel
theorem dX7_allows_78 : decode cX7_allows 78 = .ok (.iload_n 3, 1) := by decide +kernel
theorem dX7_allows_79 : decode cX7_allows 79 = .ok (.invokevirtual 93, 3) := by decide +kernel
theorem dX7_allows_82 : decode cX7_allows 82 = .ok (.baload, 1) := by decide +kernel
theorem dX7_allows_83 : decode cX7_allows 83 = .ok (.ifCond .ne 25, 3) := by decide +kernel
theorem dX7_allows_86 : decode cX7_allows 86 = .ok (.aload_n 0, 1) := by decide +kernel
theorem dX7_allows_87 : decode cX7_allows 87 = .ok (.iload_n 1, 1) := by decide +kernel
theorem dX7_allows_88 : decode cX7_allows 88 = .ok (.aload_n 0, 1) := by decide +kernel
theorem dX7_allows_89 : decode cX7_allows 89 = .ok (.iload_n 1, 1) := by decide +kernel
theorem dX7_allows_90 : decode cX7_allows 90 = .ok (.iload_n 3, 1) := by decide +kernel
theorem dX7_allows_91 : decode cX7_allows 91 = .ok (.invokevirtual 93, 3) := by decide +kernel
theorem dX7_allows_94 : decode cX7_allows 94 = .ok (.invokevirtual 97, 3) := by decide +kernel
theorem dX7_allows_97 : decode cX7_allows 97 = .ok (.aload_n 0, 1) := by decide +kernel
theorem dX7_allows_98 : decode cX7_allows 98 = .ok (.getfield 30, 3) := by decide +kernel
theorem dX7_allows_101 : decode cX7_allows 101 = .ok (.if_icmp .gt 7, 3) := by decide +kernel
theorem dX7_allows_104 : decode cX7_allows 104 = .ok (.iconst 1, 1) := by decide +kernel
theorem dX7_allows_105 : decode cX7_allows 105 = .ok (.goto 4, 3) := by decide +kernel
theorem dX7_allows_108 : decode cX7_allows 108 = .ok (.iconst 0, 1) := by decide +kernel
theorem dX7_allows_109 : decode cX7_allows 109 = .ok (.istore_n 2, 1) := by decide +kernel
theorem dX7_allows_110 : decode cX7_allows 110 = .ok (.iinc 3 1, 3) := by decide +kernel
theorem dX7_allows_113 : decode cX7_allows 113 = .ok (.goto (-92), 3) := by decide +kernel
theorem dX7_allows_116 : decode cX7_allows 116 = .ok (.iload_n 2, 1) := by decide +kernel
theorem dX7_allows_117 : decode cX7_allows 117 = .ok (.ireturn, 1) := by decide +kernel
set_option maxRecDepth 20000 in
theorem ggX7_manyAllowed_X7_allows : GoodIn wsX7_manyAllowed wsX7_allows := goodIn_r _ [6, 7, 8, 9, 10, 11, 12, 13, 14, 15, 16, 5, 17, 18, 19, 20, 21, 22, 23, 24, 25, 26, 27, 28, 29, 30, 31, 32, 33, 34, 35, 36, 37, 38, 39, 40, 41, 42, 43, 44, 45] (by decide +kernel) (by decide +kernel)
set_option maxRecDepth 20000 in
theorem gX7_manyAllowed_X7_allows : GoodIn wsX7_manyAllowed (wsV RX7 100 RX7 yX7_allows wsX7_allows) := goodIn_app (goodIn_of _ (by decide +kernel)) ggX7_manyAllowed_X7_allows
theorem dX7_manyAllowed_0 : decode cX7_manyAllowed 0 = .ok (.iconst 0, 1) := by decide +kernel
theorem dX7_manyAllowed_1 : decode cX7_manyAllowed 1 = .ok (.istore_n 1, 1) := by decide +kernel
theorem dX7_manyAllowed_2 : decode cX7_manyAllowed 2 = .ok (.iconst 0, 1) := by decide +kernel
theorem dX7_manyAllowed_3 : decode cX7_manyAllowed 3 = .ok (.istore_n 2, 1) := by decide +kernel
theorem dX7_manyAllowed_4 : decode cX7_manyAllowed 4 = .ok (.iload_n 2, 1) := by decide +kernel
theorem dX7_manyAllowed_5 : decode cX7_manyAllowed 5 = .ok (.aload_n 0, 1) := by decide +kernel
theorem dX7_manyAllowed_6 : decode cX7_manyAllowed 6 = .ok (.getfield 79, 3) := by decide +kernel
theorem dX7_manyAllowed_9 : decode cX7_manyAllowed 9 = .ok (.if_icmp .ge 25, 3) := by decide +kernel
theorem dX7_manyAllowed_12 : decode cX7_manyAllowed 12 = .ok (.iload_n 1, 1) := by decide +kernel
theorem dX7_manyAllowed_13 : decode cX7_manyAllowed 13 = .ok (.aload_n 0, 1) := by decide +kernel
theorem dX7_manyAllowed_14 : decode cX7_manyAllowed 14 = .ok (.iload_n 2, 1) := by decide +kernel
theorem dX7_manyAllowed_15 : decode cX7_manyAllowed 15 = .ok (.invokevirtual 100, 3) := by decide +kernel
theorem dX7_manyAllowed_18 : decode cX7_manyAllowed 18 = .ok (.ifCond .eq 7, 3) := by decide +kernel
theorem dX7_manyAllowed_21 : decode cX7_manyAllowed 21 = .ok (.iconst 1, 1) := by decide +kernel
theorem dX7_manyAllowed_22 : decode cX7_manyAllowed 22 = .ok (.goto 4, 3) := by decide +kernel
theorem dX7_manyAllowed_25 : decode cX7_manyAllowed 25 = .ok (.iconst 0, 1) := by decide +kernel
theorem dX7_manyAllowed_26 : decode cX7_manyAllowed 26 = .ok (.iadd, 1) := by decide +kernel
theorem dX7_manyAllowed_27 : decode cX7_manyAllowed 27 = .ok (.istore_n 1, 1) := by decide +kernel
theorem dX7_manyAllowed_28 : decode cX7_manyAllowed 28 = .ok (.iinc 2 1, 3) := by decide +kernel
theorem dX7_manyAllowed_31 : decode cX7_manyAllowed 31 = .ok (.goto (-27), 3) := by decide +kernel
theorem dX7_manyAllowed_34 : decode cX7_manyAllowed 34 = .ok (.iload_n 1, 1) := by decide +kernel
theorem dX7_manyAllowed_35 : decode cX7_manyAllowed 35 = .ok (.ireturn, 1) := by decide +kernel
set_option maxRecDepth 20000 in
theorem ggX7_setFormat_X7_in : GoodIn wsX7_setFormat wsX7_in := goodIn_r _ [6] (by decide +kernel) (by decide +kernel)
set_option maxRecDepth 20000 in
theorem gX7_setFormat_X7_in : GoodIn wsX7_setFormat (va_wsS RX7 72 yX7_in wsX7_in) := goodIn_app (goodIn_of _ (by decide +kernel)) ggX7_setFormat_X7_in
set_option maxRecDepth 20000 in
theorem ggX7_setFormat_X7_goes : GoodIn wsX7_setFormat wsX7_goes := goodIn_r _ [10, 11, 35, 36, 37, 38, 39, 40, 41, 42, 43, 44, 45, 46, 47, 48, 49, 50, 51, 52, 53, 54, 55, 56, 57] (by decide +kernel) (by decide +kernel)
set_option maxRecDepth 20000 in
theorem gX7_setFormat_X7_goes : GoodIn wsX7_setFormat (wsV RX7 89 RX7 yX7_goes wsX7_goes) := goodIn_app (goodIn_of _ (by decide +kernel)) ggX7_setFormat_X7_goes
set_option maxRecDepth 20000 in
theorem ggX7_setFormat_X7_manyAllowed : GoodIn wsX7_setFormat wsX7_manyAllowed := goodIn_r _ [15, 16, 17, 18, 19, 5, 20, 21, 1, 22, 23, 24, 25, 2, 26, 27, 28, 29, 30, 31, 32, 33, 34, 35, 36, 37, 38, 39, 40, 41, 42, 43, 44, 45, 46, 47, 48, 49, 50, 51, 52, 53, 54, 55, 56, 57] (by decide +kernel) (by decide +kernel)
set_option maxRecDepth 20000 in
theorem gX7_setFormat_X7_manyAllowed : GoodIn wsX7_setFormat (wsV RX7 103 RX7 yX7_manyAllowed wsX7_manyAllowed) := goodIn_app (goodIn_of _ (by decide +kernel)) ggX7_setFormat_X7_manyAllowed
theorem dX7_setFormat_0 : decode cX7_setFormat 0 = .ok (.aload_n 0, 1) := by decide +kernel
theorem dX7_setFormat_1 : decode cX7_setFormat 1 = .ok (.iload_n 1, 1) := by decide +kernel
theorem dX7_setFormat_2 : decode cX7_setFormat 2 = .ok (.iconst 4, 1) := by decide +kernel
theorem dX7_setFormat_3 : decode cX7_setFormat 3 = .ok (.bipush 10, 2) := by decide +kernel
theorem dX7_setFormat_5 : decode cX7_setFormat 5 = .ok (.invokestatic 72, 3) := by decide +kernel
theorem dX7_setFormat_8 : decode cX7_setFormat 8 = .ok (.ifCond .eq 16, 3) := by decide +kernel
theorem dX7_setFormat_11 : decode cX7_setFormat 11 = .ok (.iload_n 2, 1) := by decide +kernel
theorem dX7_setFormat_12 : decode cX7_setFormat 12 = .ok (.iconst 1, 1) := by decide +kernel
theorem dX7_setFormat_13 : decode cX7_setFormat 13 = .ok (.iconst 4, 1) := by decide +kernel
theorem dX7_setFormat_14 : decode cX7_setFormat 14 = .ok (.invokestatic 72, 3) := by decide +kernel
theorem dX7_setFormat_17 : decode cX7_setFormat 17 = .ok (.ifCond .eq 7, 3) := by decide +kernel
theorem dX7_setFormat_20 : decode cX7_setFormat 20 = .ok (.iconst 1, 1) := by decide +kernel
theorem dX7_setFormat_21 : decode cX7_setFormat 21 = .ok (.goto 4, 3) := by decide +kernel
theorem dX7_setFormat_24 : decode cX7_setFormat 24 = .ok (.iconst 0, 1) := by decide +kernel
theorem dX7_setFormat_25 : decode cX7_setFormat 25 = .ok (.iconst 1, 1) := by decide +kernel
theorem dX7_setFormat_26 : decode cX7_setFormat 26 = .ok (.iconst 1, 1) := by decide +kernel
theorem dX7_setFormat_27 : decode cX7_setFormat 27 = .ok (.invokevirtual 89, 3) := by decide +kernel
theorem dX7_setFormat_30 : decode cX7_setFormat 30 = .ok (.ifCond .ne 5, 3) := by decide +kernel
theorem dX7_setFormat_33 : decode cX7_setFormat 33 = .ok (.iconst 0, 1) := by decide +kernel
theorem dX7_setFormat_34 : decode cX7_setFormat 34 = .ok (.ireturn, 1) := by decide +kernel
theorem dX7_setFormat_35 : decode cX7_setFormat 35 = .ok (.aload_n 0, 1) := by decide +kernel
theorem dX7_setFormat_36 : decode cX7_setFormat 36 = .ok (.iload_n 1, 1) := by decide +kernel
theorem dX7_setFormat_37 : decode cX7_setFormat 37 = .ok (.putfield 26, 3) := by decide +kernel
theorem dX7_setFormat_40 : decode cX7_setFormat 40 = .ok (.aload_n 0, 1) := by decide +kernel
theorem dX7_setFormat_41 : decode cX7_setFormat 41 = .ok (.iload_n 2, 1) := by decide +kernel
theorem dX7_setFormat_42 : decode cX7_setFormat 42 = .ok (.putfield 30, 3) := by decide +kernel
theorem dX7_setFormat_45 : decode cX7_setFormat 45 = .ok (.aload_n 0, 1) := by decide +kernel
theorem dX7_setFormat_46 : decode cX7_setFormat 46 = .ok (.invokevirtual 103, 3) := by decide +kernel
theorem dX7_setFormat_49 : decode cX7_setFormat 49 = .ok (.ireturn, 1) := by decide +kernel
set_option maxRecDepth 20000 in
theorem ggX7_ban_X7_isKind : GoodIn wsX7_ban wsX7_isKind := goodIn_r _ [5, 6, 7, 4, 8] (by decide +kernel) (by decide +kernel)
set_option maxRecDepth 20000 in
theorem gX7_ban_X7_isKind : GoodIn wsX7_ban (va_wsS RX7 85 yX7_isKind wsX7_isKind) := goodIn_app (goodIn_of _ (by decide +kernel)) ggX7_ban_X7_isKind
set_option maxRecDepth 20000 in
theorem ggX7_ban_X7_goes : GoodIn wsX7_ban wsX7_goes := goodIn_r _ [12, 13, 38, 39, 40, 41, 42, 43, 44, 45, 46, 47, 48, 49, 50, 51, 52, 53, 54, 55, 56, 57, 58, 59, 60] (by decide +kernel) (by decide +kernel)
set_option maxRecDepth 20000 in
theorem gX7_ban_X7_goes : GoodIn wsX7_ban (wsV RX7 89 RX7 yX7_goes wsX7_goes) := goodIn_app (goodIn_of _ (by decide +kernel)) ggX7_ban_X7_goes
set_option maxRecDepth 20000 in
theorem ggX7_ban_X7_manyAllowed : GoodIn wsX7_ban wsX7_manyAllowed := goodIn_r _ [17, 18, 19, 20, 21, 4, 22, 23, 24, 25, 26, 27, 1, 28, 29, 30, 31, 32, 33, 34, 35, 36, 37, 38, 39, 40, 41, 42, 43, 44, 45, 46, 47, 48, 49, 50, 51, 52, 53, 54, 55, 56, 57, 58, 59, 60] (by decide +kernel) (by decide +kernel)
set_option maxRecDepth 20000 in
theorem gX7_ban_X7_manyAllowed : GoodIn wsX7_ban (wsV RX7 103 RX7 yX7_manyAllowed wsX7_manyAllowed) := goodIn_app (goodIn_of _ (by decide +kernel)) ggX7_ban_X7_manyAllowed
theorem dX7_ban_0 : decode cX7_ban 0 = .ok (.aload_n 0, 1) := by decide +kernel
theorem dX7_ban_1 : decode cX7_ban 1 = .ok (.iload_n 1, 1) := by decide +kernel
theorem dX7_ban_2 : decode cX7_ban 2 = .ok (.invokestatic 85, 3) := by decide +kernel
theorem dX7_ban_5 : decode cX7_ban 5 = .ok (.iconst 1, 1) := by decide +kernel
theorem dX7_ban_6 : decode cX7_ban 6 = .ok (.iconst 1, 1) := by decide +kernel
theorem dX7_ban_7 : decode cX7_ban 7 = .ok (.invokevirtual 89, 3) := by decide +kernel
theorem dX7_ban_10 : decode cX7_ban 10 = .ok (.ifCond .ne 5, 3) := by decide +kernel
theorem dX7_ban_13 : decode cX7_ban 13 = .ok (.iconst 0, 1) := by decide +kernel
theorem dX7_ban_14 : decode cX7_ban 14 = .ok (.ireturn, 1) := by decide +kernel
theorem dX7_ban_15 : decode cX7_ban 15 = .ok (.aload_n 0, 1) := by decide +kernel
theorem dX7_ban_16 : decode cX7_ban 16 = .ok (.getfield 16, 3) := by decide +kernel
theorem dX7_ban_19 : decode cX7_ban 19 = .ok (.iload_n 1, 1) := by decide +kernel
theorem dX7_ban_20 : decode cX7_ban 20 = .ok (.iload_n 2, 1) := by decide +kernel
theorem dX7_ban_21 : decode cX7_ban 21 = .ok (.bastore, 1) := by decide +kernel
theorem dX7_ban_22 : decode cX7_ban 22 = .ok (.aload_n 0, 1) := by decide +kernel
theorem dX7_ban_23 : decode cX7_ban 23 = .ok (.invokevirtual 103, 3) := by decide +kernel
theorem dX7_ban_26 : decode cX7_ban 26 = .ok (.ireturn, 1) := by decide +kernel
set_option maxRecDepth 20000 in
theorem ggX7_print_X7_isKind : GoodIn wsX7_print wsX7_isKind := goodIn_r _ [9, 10, 11, 8, 12] (by decide +kernel) (by decide +kernel)
set_option maxRecDepth 20000 in
theorem gX7_print_X7_isKind : GoodIn wsX7_print (va_wsS RX7 85 yX7_isKind wsX7_isKind) := goodIn_app (goodIn_of _ (by decide +kernel)) ggX7_print_X7_isKind
set_option maxRecDepth 20000 in
theorem ggX7_print_X7_isCollector : GoodIn wsX7_print wsX7_isCollector := goodIn_r _ [15, 10, 11, 8, 12] (by decide +kernel) (by decide +kernel)
set_option maxRecDepth 20000 in
theorem gX7_print_X7_isCollector : GoodIn wsX7_print (va_wsS RX7 107 yX7_isCollector wsX7_isCollector) := goodIn_app (goodIn_of _ (by decide +kernel)) ggX7_print_X7_isCollector
set_option maxRecDepth 20000 in
theorem ggX7_print_X7_goes : GoodIn wsX7_print wsX7_goes := goodIn_r _ [19, 20, 21, 22, 23, 24, 25, 26, 27, 28, 29, 30, 31, 32, 33, 34, 35, 36, 37, 38, 39, 40, 41, 42, 43] (by decide +kernel) (by decide +kernel)
set_option maxRecDepth 20000 in
theorem gX7_print_X7_goes : GoodIn wsX7_print (wsV RX7 89 RX7 yX7_goes wsX7_goes) := goodIn_app (goodIn_of _ (by decide +kernel)) ggX7_print_X7_goes
theorem dX7_print_0 : decode cX7_print 0 = .ok (.aload_n 0, 1) := by decide +kernel
theorem dX7_print_1 : decode cX7_print 1 = .ok (.iload_n 1, 1) := by decide +kernel
theorem dX7_print_2 : decode cX7_print 2 = .ok (.invokestatic 85, 3) := by decide +kernel
theorem dX7_print_5 : decode cX7_print 5 = .ok (.ifCond .eq 14, 3) := by decide +kernel
theorem dX7_print_8 : decode cX7_print 8 = .ok (.iload_n 2, 1) := by decide +kernel
theorem dX7_print_9 : decode cX7_print 9 = .ok (.invokestatic 107, 3) := by decide +kernel
theorem dX7_print_12 : decode cX7_print 12 = .ok (.ifCond .eq 7, 3) := by decide +kernel
theorem dX7_print_15 : decode cX7_print 15 = .ok (.iconst 1, 1) := by decide +kernel
theorem dX7_print_16 : decode cX7_print 16 = .ok (.goto 4, 3) := by decide +kernel
theorem dX7_print_19 : decode cX7_print 19 = .ok (.iconst 0, 1) := by decide +kernel
theorem dX7_print_20 : decode cX7_print 20 = .ok (.aload_n 0, 1) := by decide +kernel
theorem dX7_print_21 : decode cX7_print 21 = .ok (.getfield 76, 3) := by decide +kernel
theorem dX7_print_24 : decode cX7_print 24 = .ok (.bipush 80, 2) := by decide +kernel
theorem dX7_print_26 : decode cX7_print 26 = .ok (.if_icmp .ge 7, 3) := by decide +kernel
theorem dX7_print_29 : decode cX7_print 29 = .ok (.iconst 1, 1) := by decide +kernel
theorem dX7_print_30 : decode cX7_print 30 = .ok (.goto 4, 3) := by decide +kernel
theorem dX7_print_33 : decode cX7_print 33 = .ok (.iconst 0, 1) := by decide +kernel
theorem dX7_print_34 : decode cX7_print 34 = .ok (.iconst 1, 1) := by decide +kernel
theorem dX7_print_35 : decode cX7_print 35 = .ok (.invokevirtual 89, 3) := by decide +kernel
theorem dX7_print_38 : decode cX7_print 38 = .ok (.ifCond .ne 5, 3) := by decide +kernel
theorem dX7_print_41 : decode cX7_print 41 = .ok (.iconst 0, 1) := by decide +kernel
theorem dX7_print_42 : decode cX7_print 42 = .ok (.ireturn, 1) := by decide +kernel
theorem dX7_print_43 : decode cX7_print 43 = .ok (.aload_n 0, 1) := by decide +kernel
theorem dX7_print_44 : decode cX7_print 44 = .ok (.getfield 20, 3) := by decide +kernel
theorem dX7_print_47 : decode cX7_print 47 = .ok (.iload_n 1, 1) := by decide +kernel
theorem dX7_print_48 : decode cX7_print 48 = .ok (.dup2, 1) := by decide +kernel
theorem dX7_print_49 : decode cX7_print 49 = .ok (.iaload, 1) := by decide +kernel
theorem dX7_print_50 : decode cX7_print 50 = .ok (.iconst 1, 1) := by decide +kernel
theorem dX7_print_51 : decode cX7_print 51 = .ok (.iadd, 1) := by decide +kernel
theorem dX7_print_52 : decode cX7_print 52 = .ok (.iastore, 1) := by decide +kernel
theorem dX7_print_53 : decode cX7_print 53 = .ok (.aload_n 0, 1) := by decide +kernel
theorem dX7_print_54 : decode cX7_print 54 = .ok (.getfield 33, 3) := by decide +kernel
theorem dX7_print_57 : decode cX7_print 57 = .ok (.aload_n 0, 1) := by decide +kernel
theorem dX7_print_58 : decode cX7_print 58 = .ok (.getfield 76, 3) := by decide +kernel
theorem dX7_print_61 : decode cX7_print 61 = .ok (.iload_n 1, 1) := by decide +kernel
theorem dX7_print_62 : decode cX7_print 62 = .ok (.iastore, 1) := by decide +kernel
theorem dX7_print_63 : decode cX7_print 63 = .ok (.aload_n 0, 1) := by decide +kernel
theorem dX7_print_64 : decode cX7_print 64 = .ok (.getfield 36, 3) := by decide +kernel
theorem dX7_print_67 : decode cX7_print 67 = .ok (.aload_n 0, 1) := by decide +kernel
theorem dX7_print_68 : decode cX7_print 68 = .ok (.getfield 76, 3) := by decide +kernel
theorem dX7_print_71 : decode cX7_print 71 = .ok (.aload_n 0, 1) := by decide +kernel
theorem dX7_print_72 : decode cX7_print 72 = .ok (.getfield 20, 3) := by decide +kernel
theorem dX7_print_75 : decode cX7_print 75 = .ok (.iload_n 1, 1) := by decide +kernel
theorem dX7_print_76 : decode cX7_print 76 = .ok (.iaload, 1) := by decide +kernel
theorem dX7_print_77 : decode cX7_print 77 = .ok (.iastore, 1) := by decide +kernel
theorem dX7_print_78 : decode cX7_print 78 = .ok (.aload_n 0, 1) := by decide +kernel
theorem dX7_print_79 : decode cX7_print 79 = .ok (.getfield 39, 3) := by decide +kernel
theorem dX7_print_82 : decode cX7_print 82 = .ok (.aload_n 0, 1) := by decide +kernel
theorem dX7_print_83 : decode cX7_print 83 = .ok (.getfield 76, 3) := by decide +kernel
theorem dX7_print_86 : decode cX7_print 86 = .ok (.iload_n 2, 1) := by decide +kernel
theorem dX7_print_87 : decode cX7_print 87 = .ok (.iastore, 1) := by decide +kernel
theorem dX7_print_88 : decode cX7_print 88 = .ok (.aload_n 0, 1) := by decide +kernel
theorem dX7_print_89 : decode cX7_print 89 = .ok (.dup, 1) := by decide +kernel
theorem dX7_print_90 : decode cX7_print 90 = .ok (.getfield 76, 3) := by decide +kernel
theorem dX7_print_93 : decode cX7_print 93 = .ok (.iconst 1, 1) := by decide +kernel
theorem dX7_print_94 : decode cX7_print 94 = .ok (.iadd, 1) := by decide +kernel
theorem dX7_print_95 : decode cX7_print 95 = .ok (.putfield 76, 3) := by decide +kernel
theorem dX7_print_98 : decode cX7_print 98 = .ok (.aload_n 0, 1) := by decide +kernel
theorem dX7_print_99 : decode cX7_print 99 = .ok (.getfield 76, 3) := by decide +kernel
theorem dX7_print_102 : decode cX7_print 102 = .ok (.iconst 1, 1) := by decide +kernel
theorem dX7_print_103 : decode cX7_print 103 = .ok (.isub, 1) := by decide +kernel
theorem dX7_print_104 : decode cX7_print 104 = .ok (.ireturn, 1) := by decide +kernel
set_option maxRecDepth 20000 in
theorem ggX7_deck_X7_isCollector : GoodIn wsX7_deck wsX7_isCollector := goodIn_r _ [6, 7, 8, 5, 9] (by decide +kernel) (by decide +kernel)
set_option maxRecDepth 20000 in
theorem gX7_deck_X7_isCollector : GoodIn wsX7_deck (va_wsS RX7 107 yX7_isCollector wsX7_isCollector) := goodIn_app (goodIn_of _ (by decide +kernel)) ggX7_deck_X7_isCollector
set_option maxRecDepth 20000 in
theorem ggX7_deck_X7_goes : GoodIn wsX7_deck wsX7_goes := goodIn_r _ [13, 14, 15, 16, 17, 18, 19, 20, 21, 22, 23, 24, 25, 26, 27, 28, 29, 30, 31, 32, 33, 34, 35, 36, 37] (by decide +kernel) (by decide +kernel)
set_option maxRecDepth 20000 in
theorem gX7_deck_X7_goes : GoodIn wsX7_deck (wsV RX7 89 RX7 yX7_goes wsX7_goes) := goodIn_app (goodIn_of _ (by decide +kernel)) ggX7_deck_X7_goes
theorem dX7_deck_0 : decode cX7_deck 0 = .ok (.aload_n 0, 1) := by decide +kernel
theorem dX7_deck_1 : decode cX7_deck 1 = .ok (.iload_n 1, 1) := by decide +kernel
theorem dX7_deck_2 : decode cX7_deck 2 = .ok (.invokestatic 107, 3) := by decide +kernel
theorem dX7_deck_5 : decode cX7_deck 5 = .ok (.aload_n 0, 1) := by decide +kernel
theorem dX7_deck_6 : decode cX7_deck 6 = .ok (.getfield 79, 3) := by decide +kernel
theorem dX7_deck_9 : decode cX7_deck 9 = .ok (.bipush 12, 2) := by decide +kernel
theorem dX7_deck_11 : decode cX7_deck 11 = .ok (.if_icmp .ge 7, 3) := by decide +kernel
theorem dX7_deck_14 : decode cX7_deck 14 = .ok (.iconst 1, 1) := by decide +kernel
theorem dX7_deck_15 : decode cX7_deck 15 = .ok (.goto 4, 3) := by decide +kernel
theorem dX7_deck_18 : decode cX7_deck 18 = .ok (.iconst 0, 1) := by decide +kernel
theorem dX7_deck_19 : decode cX7_deck 19 = .ok (.iconst 1, 1) := by decide +kernel
theorem dX7_deck_20 : decode cX7_deck 20 = .ok (.invokevirtual 89, 3) := by decide +kernel
theorem dX7_deck_23 : decode cX7_deck 23 = .ok (.ifCond .ne 5, 3) := by decide +kernel
theorem dX7_deck_26 : decode cX7_deck 26 = .ok (.iconst 0, 1) := by decide +kernel
theorem dX7_deck_27 : decode cX7_deck 27 = .ok (.ireturn, 1) := by decide +kernel
theorem dX7_deck_28 : decode cX7_deck 28 = .ok (.aload_n 0, 1) := by decide +kernel
theorem dX7_deck_29 : decode cX7_deck 29 = .ok (.getfield 42, 3) := by decide +kernel
theorem dX7_deck_32 : decode cX7_deck 32 = .ok (.aload_n 0, 1) := by decide +kernel
theorem dX7_deck_33 : decode cX7_deck 33 = .ok (.getfield 79, 3) := by decide +kernel
theorem dX7_deck_36 : decode cX7_deck 36 = .ok (.iload_n 1, 1) := by decide +kernel
theorem dX7_deck_37 : decode cX7_deck 37 = .ok (.iastore, 1) := by decide +kernel
theorem dX7_deck_38 : decode cX7_deck 38 = .ok (.aload_n 0, 1) := by decide +kernel
theorem dX7_deck_39 : decode cX7_deck 39 = .ok (.dup, 1) := by decide +kernel
theorem dX7_deck_40 : decode cX7_deck 40 = .ok (.getfield 79, 3) := by decide +kernel
theorem dX7_deck_43 : decode cX7_deck 43 = .ok (.iconst 1, 1) := by decide +kernel
theorem dX7_deck_44 : decode cX7_deck 44 = .ok (.iadd, 1) := by decide +kernel
theorem dX7_deck_45 : decode cX7_deck 45 = .ok (.putfield 79, 3) := by decide +kernel
theorem dX7_deck_48 : decode cX7_deck 48 = .ok (.aload_n 0, 1) := by decide +kernel
theorem dX7_deck_49 : decode cX7_deck 49 = .ok (.getfield 79, 3) := by decide +kernel
theorem dX7_deck_52 : decode cX7_deck 52 = .ok (.iconst 1, 1) := by decide +kernel
theorem dX7_deck_53 : decode cX7_deck 53 = .ok (.isub, 1) := by decide +kernel
theorem dX7_deck_54 : decode cX7_deck 54 = .ok (.ireturn, 1) := by decide +kernel
theorem dX7_isIn_0 : decode cX7_isIn 0 = .ok (.iconst 0, 1) := by decide +kernel
theorem dX7_isIn_1 : decode cX7_isIn 1 = .ok (.istore_n 3, 1) := by decide +kernel
theorem dX7_isIn_2 : decode cX7_isIn 2 = .ok (.iconst 0, 1) := by decide +kernel
theorem dX7_isIn_3 : decode cX7_isIn 3 = .ok (.istore 4, 2) := by decide +kernel
theorem dX7_isIn_5 : decode cX7_isIn 5 = .ok (.iload 4, 2) := by decide +kernel
theorem dX7_isIn_7 : decode cX7_isIn 7 = .ok (.aload_n 0, 1) := by decide +kernel
theorem dX7_isIn_8 : decode cX7_isIn 8 = .ok (.getfield 45, 3) := by decide +kernel
theorem dX7_isIn_11 : decode cX7_isIn 11 = .ok (.iload_n 1, 1) := by decide +kernel
theorem dX7_isIn_12 : decode cX7_isIn 12 = .ok (.iaload, 1) := by decide +kernel
theorem dX7_isIn_13 : decode cX7_isIn 13 = .ok (.if_icmp .ge 35, 3) := by decide +kernel
theorem dX7_isIn_16 : decode cX7_isIn 16 = .ok (.iload_n 3, 1) := by decide +kernel
theorem dX7_isIn_17 : decode cX7_isIn 17 = .ok (.ifCond .ne 19, 3) := by decide +kernel
theorem dX7_isIn_20 : decode cX7_isIn 20 = .ok (.aload_n 0, 1) := by decide +kernel
theorem dX7_isIn_21 : decode cX7_isIn 21 = .ok (.getfield 48, 3) := by decide +kernel
theorem dX7_isIn_24 : decode cX7_isIn 24 = .ok (.bipush 10, 2) := by decide +kernel
theorem dX7_isIn_26 : decode cX7_isIn 26 = .ok (.iload_n 1, 1) := by decide +kernel
theorem dX7_isIn_27 : decode cX7_isIn 27 = .ok (.imul, 1) := by decide +kernel
theorem dX7_isIn_28 : decode cX7_isIn 28 = .ok (.iload 4, 2) := by decide +kernel
theorem dX7_isIn_30 : decode cX7_isIn 30 = .ok (.iadd, 1) := by decide +kernel
theorem dX7_isIn_31 : decode cX7_isIn 31 = .ok (.iaload, 1) := by decide +kernel
theorem dX7_isIn_32 : decode cX7_isIn 32 = .ok (.iload_n 2, 1) := by decide +kernel
theorem dX7_isIn_33 : decode cX7_isIn 33 = .ok (.if_icmp .ne 7, 3) := by decide +kernel
theorem dX7_isIn_36 : decode cX7_isIn 36 = .ok (.iconst 1, 1) := by decide +kernel
theorem dX7_isIn_37 : decode cX7_isIn 37 = .ok (.goto 4, 3) := by decide +kernel
theorem dX7_isIn_40 : decode cX7_isIn 40 = .ok (.iconst 0, 1) := by decide +kernel
theorem dX7_isIn_41 : decode cX7_isIn 41 = .ok (.istore_n 3, 1) := by decide +kernel
theorem dX7_isIn_42 : decode cX7_isIn 42 = .ok (.iinc 4 1, 3) := by decide +kernel
theorem dX7_isIn_45 : decode cX7_isIn 45 = .ok (.goto (-40), 3) := by decide +kernel
theorem dX7_isIn_48 : decode cX7_isIn 48 = .ok (.iload_n 3, 1) := by decide +kernel
theorem dX7_isIn_49 : decode cX7_isIn 49 = .ok (.ireturn, 1) := by decide +kernel
set_option maxRecDepth 20000 in
theorem ggX7_add_X7_isDeck : GoodIn wsX7_add wsX7_isDeck := goodIn_r _ [9, 10, 11, 12, 8, 13, 28, 29, 30, 31, 32, 33, 34, 35, 36, 37, 38, 39, 40, 41, 42, 43, 44, 45, 46, 47, 48, 49, 50] (by decide +kernel) (by decide +kernel)
set_option maxRecDepth 20000 in
theorem gX7_add_X7_isDeck : GoodIn wsX7_add (wsV RX7 110 RX7 yX7_isDeck wsX7_isDeck) := goodIn_app (goodIn_of _ (by decide +kernel)) ggX7_add_X7_isDeck
set_option maxRecDepth 20000 in
theorem ggX7_add_X7_isCard : GoodIn wsX7_add wsX7_isCard := goodIn_r _ [17, 18, 11, 12, 8, 13, 28, 29, 30, 31, 32, 33, 34, 35, 36, 37, 38, 39, 40, 41, 42, 43, 44, 45, 46, 47, 48, 49, 50] (by decide +kernel) (by decide +kernel)
set_option maxRecDepth 20000 in
theorem gX7_add_X7_isCard : GoodIn wsX7_add (wsV RX7 113 RX7 yX7_isCard wsX7_isCard) := goodIn_app (goodIn_of _ (by decide +kernel)) ggX7_add_X7_isCard
set_option maxRecDepth 20000 in
theorem ggX7_add_X7_isIn : GoodIn wsX7_add wsX7_isIn := goodIn_r _ [22, 3, 4, 28, 29, 30, 31, 32, 33, 34, 35, 36, 37, 38, 39, 40, 41, 42, 43, 44, 45, 46, 47, 48, 49, 50] (by decide +kernel) (by decide +kernel)
set_option maxRecDepth 20000 in
theorem gX7_add_X7_isIn : GoodIn wsX7_add (wsV RX7 116 RX7 yX7_isIn wsX7_isIn) := goodIn_app (goodIn_of _ (by decide +kernel)) ggX7_add_X7_isIn
set_option maxRecDepth 20000 in
theorem ggX7_add_X7_goes : GoodIn wsX7_add wsX7_goes := goodIn_r _ [26, 27, 28, 29, 30, 31, 32, 33, 34, 35, 36, 37, 38, 39, 40, 41, 42, 43, 44, 45, 46, 47, 48, 49, 50] (by decide +kernel) (by decide +kernel)
set_option maxRecDepth 20000 in
theorem gX7_add_X7_goes : GoodIn wsX7_add (wsV RX7 89 RX7 yX7_goes wsX7_goes) := goodIn_app (goodIn_of _ (by decide +kernel)) ggX7_add_X7_goes
theorem dX7_add_0 : decode cX7_add 0 = .ok (.aload_n 0, 1) := by decide +kernel
theorem dX7_add_1 : decode cX7_add 1 = .ok (.iload_n 1, 1) := by decide +kernel
theorem dX7_add_2 : decode cX7_add 2 = .ok (.invokevirtual 110, 3) := by decide +kernel
theorem dX7_add_5 : decode cX7_add 5 = .ok (.ifCond .eq 15, 3) := by decide +kernel
theorem dX7_add_8 : decode cX7_add 8 = .ok (.aload_n 0, 1) := by decide +kernel
theorem dX7_add_9 : decode cX7_add 9 = .ok (.iload_n 2, 1) := by decide +kernel
theorem dX7_add_10 : decode cX7_add 10 = .ok (.invokevirtual 113, 3) := by decide +kernel
theorem dX7_add_13 : decode cX7_add 13 = .ok (.ifCond .eq 7, 3) := by decide +kernel
theorem dX7_add_16 : decode cX7_add 16 = .ok (.iconst 1, 1) := by decide +kernel
theorem dX7_add_17 : decode cX7_add 17 = .ok (.goto 4, 3) := by decide +kernel
theorem dX7_add_20 : decode cX7_add 20 = .ok (.iconst 0, 1) := by decide +kernel
theorem dX7_add_21 : decode cX7_add 21 = .ok (.istore_n 3, 1) := by decide +kernel
theorem dX7_add_22 : decode cX7_add 22 = .ok (.iload_n 3, 1) := by decide +kernel
theorem dX7_add_23 : decode cX7_add 23 = .ok (.ifCond .eq 31, 3) := by decide +kernel
theorem dX7_add_26 : decode cX7_add 26 = .ok (.aload_n 0, 1) := by decide +kernel
theorem dX7_add_27 : decode cX7_add 27 = .ok (.getfield 39, 3) := by decide +kernel
theorem dX7_add_30 : decode cX7_add 30 = .ok (.iload_n 2, 1) := by decide +kernel
theorem dX7_add_31 : decode cX7_add 31 = .ok (.iaload, 1) := by decide +kernel
theorem dX7_add_32 : decode cX7_add 32 = .ok (.aload_n 0, 1) := by decide +kernel
theorem dX7_add_33 : decode cX7_add 33 = .ok (.getfield 42, 3) := by decide +kernel
theorem dX7_add_36 : decode cX7_add 36 = .ok (.iload_n 1, 1) := by decide +kernel
theorem dX7_add_37 : decode cX7_add 37 = .ok (.iaload, 1) := by decide +kernel
theorem dX7_add_38 : decode cX7_add 38 = .ok (.if_icmp .ne 16, 3) := by decide +kernel
theorem dX7_add_41 : decode cX7_add 41 = .ok (.aload_n 0, 1) := by decide +kernel
theorem dX7_add_42 : decode cX7_add 42 = .ok (.iload_n 1, 1) := by decide +kernel
theorem dX7_add_43 : decode cX7_add 43 = .ok (.iload_n 2, 1) := by decide +kernel
theorem dX7_add_44 : decode cX7_add 44 = .ok (.invokevirtual 116, 3) := by decide +kernel
theorem dX7_add_47 : decode cX7_add 47 = .ok (.ifCond .ne 7, 3) := by decide +kernel
theorem dX7_add_50 : decode cX7_add 50 = .ok (.iconst 1, 1) := by decide +kernel
theorem dX7_add_51 : decode cX7_add 51 = .ok (.goto 4, 3) := by decide +kernel
theorem dX7_add_54 : decode cX7_add 54 = .ok (.iconst 0, 1) := by decide +kernel
theorem dX7_add_55 : decode cX7_add 55 = .ok (.istore 4, 2) := by decide +kernel
theorem dX7_add_57 : decode cX7_add 57 = .ok (.aload_n 0, 1) := by decide +kernel
theorem dX7_add_58 : decode cX7_add 58 = .ok (.iload_n 3, 1) := by decide +kernel
theorem dX7_add_59 : decode cX7_add 59 = .ok (.iload 4, 2) := by decide +kernel
theorem dX7_add_61 : decode cX7_add 61 = .ok (.iload_n 3, 1) := by decide +kernel
theorem dX7_add_62 : decode cX7_add 62 = .ok (.ifCond .eq 18, 3) := by decide +kernel
theorem dX7_add_65 : decode cX7_add 65 = .ok (.aload_n 0, 1) := by decide +kernel
theorem dX7_add_66 : decode cX7_add 66 = .ok (.getfield 45, 3) := by decide +kernel
theorem dX7_add_69 : decode cX7_add 69 = .ok (.iload_n 1, 1) := by decide +kernel
theorem dX7_add_70 : decode cX7_add 70 = .ok (.iaload, 1) := by decide +kernel
theorem dX7_add_71 : decode cX7_add 71 = .ok (.bipush 10, 2) := by decide +kernel
theorem dX7_add_73 : decode cX7_add 73 = .ok (.if_icmp .ge 7, 3) := by decide +kernel
theorem dX7_add_76 : decode cX7_add 76 = .ok (.iconst 1, 1) := by decide +kernel
theorem dX7_add_77 : decode cX7_add 77 = .ok (.goto 4, 3) := by decide +kernel
theorem dX7_add_80 : decode cX7_add 80 = .ok (.iconst 0, 1) := by decide +kernel
theorem dX7_add_81 : decode cX7_add 81 = .ok (.invokevirtual 89, 3) := by decide +kernel
theorem dX7_add_84 : decode cX7_add 84 = .ok (.ifCond .ne 5, 3) := by decide +kernel
theorem dX7_add_87 : decode cX7_add 87 = .ok (.iconst 0, 1) := by decide +kernel
theorem dX7_add_88 : decode cX7_add 88 = .ok (.ireturn, 1) := by decide +kernel
theorem dX7_add_89 : decode cX7_add 89 = .ok (.aload_n 0, 1) := by decide +kernel
theorem dX7_add_90 : decode cX7_add 90 = .ok (.getfield 48, 3) := by decide +kernel
theorem dX7_add_93 : decode cX7_add 93 = .ok (.bipush 10, 2) := by decide +kernel
theorem dX7_add_95 : decode cX7_add 95 = .ok (.iload_n 1, 1) := by decide +kernel
theorem dX7_add_96 : decode cX7_add 96 = .ok (.imul, 1) := by decide +kernel
theorem dX7_add_97 : decode cX7_add 97 = .ok (.aload_n 0, 1) := by decide +kernel
theorem dX7_add_98 : decode cX7_add 98 = .ok (.getfield 45, 3) := by decide +kernel
theorem dX7_add_101 : decode cX7_add 101 = .ok (.iload_n 1, 1) := by decide +kernel
theorem dX7_add_102 : decode cX7_add 102 = .ok (.iaload, 1) := by decide +kernel
theorem dX7_add_103 : decode cX7_add 103 = .ok (.iadd, 1) := by decide +kernel
theorem dX7_add_104 : decode cX7_add 104 = .ok (.iload_n 2, 1) := by decide +kernel
theorem dX7_add_105 : decode cX7_add 105 = .ok (.iastore, 1) := by decide +kernel
theorem dX7_add_106 : decode cX7_add 106 = .ok (.aload_n 0, 1) := by decide +kernel
theorem dX7_add_107 : decode cX7_add 107 = .ok (.getfield 45, 3) := by decide +kernel
theorem dX7_add_110 : decode cX7_add 110 = .ok (.iload_n 1, 1) := by decide +kernel
theorem dX7_add_111 : decode cX7_add 111 = .ok (.dup2, 1) := by decide +kernel
theorem dX7_add_112 : decode cX7_add 112 = .ok (.iaload, 1) := by decide +kernel
theorem dX7_add_113 : decode cX7_add 113 = .ok (.iconst 1, 1) := by decide +kernel
theorem dX7_add_114 : decode cX7_add 114 = .ok (.iadd, 1) := by decide +kernel
theorem dX7_add_115 : decode cX7_add 115 = .ok (.iastore, 1) := by decide +kernel
theorem dX7_add_116 : decode cX7_add 116 = .ok (.aload_n 0, 1) := by decide +kernel
theorem dX7_add_117 : decode cX7_add 117 = .ok (.getfield 45, 3) := by decide +kernel
theorem dX7_add_120 : decode cX7_add 120 = .ok (.iload_n 1, 1) := by decide +kernel
theorem dX7_add_121 : decode cX7_add 121 = .ok (.iaload, 1) := by decide +kernel
theorem dX7_add_122 : decode cX7_add 122 = .ok (.ireturn, 1) := by decide +kernel
set_option maxRecDepth 20000 in
theorem ggX7_cut_X7_isDeck : GoodIn wsX7_cut wsX7_isDeck := goodIn_r _ [7, 8, 9, 10, 6, 11, 17, 18, 19, 20, 21, 22, 23, 24, 25, 26, 27, 28, 29, 30, 31, 32, 33, 34, 35, 36, 37, 38, 39] (by decide +kernel) (by decide +kernel)
set_option maxRecDepth 20000 in
theorem gX7_cut_X7_isDeck : GoodIn wsX7_cut (wsV RX7 110 RX7 yX7_isDeck wsX7_isDeck) := goodIn_app (goodIn_of _ (by decide +kernel)) ggX7_cut_X7_isDeck
set_option maxRecDepth 20000 in
theorem ggX7_cut_X7_in : GoodIn wsX7_cut wsX7_in := goodIn_r _ [11] (by decide +kernel) (by decide +kernel)
set_option maxRecDepth 20000 in
theorem gX7_cut_X7_in : GoodIn wsX7_cut (va_wsS RX7 72 yX7_in wsX7_in) := goodIn_app (goodIn_of _ (by decide +kernel)) ggX7_cut_X7_in
set_option maxRecDepth 20000 in
theorem ggX7_cut_X7_goes : GoodIn wsX7_cut wsX7_goes := goodIn_r _ [15, 16, 17, 18, 19, 20, 21, 22, 23, 24, 25, 26, 27, 28, 29, 30, 31, 32, 33, 34, 35, 36, 37, 38, 39] (by decide +kernel) (by decide +kernel)
set_option maxRecDepth 20000 in
theorem gX7_cut_X7_goes : GoodIn wsX7_cut (wsV RX7 89 RX7 yX7_goes wsX7_goes) := goodIn_app (goodIn_of _ (by decide +kernel)) ggX7_cut_X7_goes
theorem dX7_cut_0 : decode cX7_cut 0 = .ok (.aload_n 0, 1) := by decide +kernel
theorem dX7_cut_1 : decode cX7_cut 1 = .ok (.iload_n 1, 1) := by decide +kernel
theorem dX7_cut_2 : decode cX7_cut 2 = .ok (.invokevirtual 110, 3) := by decide +kernel
theorem dX7_cut_5 : decode cX7_cut 5 = .ok (.istore_n 3, 1) := by decide +kernel
theorem dX7_cut_6 : decode cX7_cut 6 = .ok (.aload_n 0, 1) := by decide +kernel
theorem dX7_cut_7 : decode cX7_cut 7 = .ok (.iload_n 3, 1) := by decide +kernel
theorem dX7_cut_8 : decode cX7_cut 8 = .ok (.ifCond .eq 31, 3) := by decide +kernel
theorem dX7_cut_11 : decode cX7_cut 11 = .ok (.iload_n 2, 1) := by decide +kernel
theorem dX7_cut_12 : decode cX7_cut 12 = .ok (.iconst 0, 1) := by decide +kernel
theorem dX7_cut_13 : decode cX7_cut 13 = .ok (.aload_n 0, 1) := by decide +kernel
theorem dX7_cut_14 : decode cX7_cut 14 = .ok (.getfield 45, 3) := by decide +kernel
theorem dX7_cut_17 : decode cX7_cut 17 = .ok (.iload_n 3, 1) := by decide +kernel
theorem dX7_cut_18 : decode cX7_cut 18 = .ok (.ifCond .eq 7, 3) := by decide +kernel
theorem dX7_cut_21 : decode cX7_cut 21 = .ok (.iload_n 1, 1) := by decide +kernel
theorem dX7_cut_22 : decode cX7_cut 22 = .ok (.goto 4, 3) := by decide +kernel
theorem dX7_cut_25 : decode cX7_cut 25 = .ok (.iconst 0, 1) := by decide +kernel
theorem dX7_cut_26 : decode cX7_cut 26 = .ok (.iaload, 1) := by decide +kernel
theorem dX7_cut_27 : decode cX7_cut 27 = .ok (.iconst 1, 1) := by decide +kernel
theorem dX7_cut_28 : decode cX7_cut 28 = .ok (.isub, 1) := by decide +kernel
theorem dX7_cut_29 : decode cX7_cut 29 = .ok (.invokestatic 72, 3) := by decide +kernel
theorem dX7_cut_32 : decode cX7_cut 32 = .ok (.ifCond .eq 7, 3) := by decide +kernel
theorem dX7_cut_35 : decode cX7_cut 35 = .ok (.iconst 1, 1) := by decide +kernel
theorem dX7_cut_36 : decode cX7_cut 36 = .ok (.goto 4, 3) := by decide +kernel
theorem dX7_cut_39 : decode cX7_cut 39 = .ok (.iconst 0, 1) := by decide +kernel
theorem dX7_cut_40 : decode cX7_cut 40 = .ok (.iconst 1, 1) := by decide +kernel
theorem dX7_cut_41 : decode cX7_cut 41 = .ok (.iconst 1, 1) := by decide +kernel
theorem dX7_cut_42 : decode cX7_cut 42 = .ok (.invokevirtual 89, 3) := by decide +kernel
theorem dX7_cut_45 : decode cX7_cut 45 = .ok (.ifCond .ne 5, 3) := by decide +kernel
theorem dX7_cut_48 : decode cX7_cut 48 = .ok (.iconst 0, 1) := by decide +kernel
theorem dX7_cut_49 : decode cX7_cut 49 = .ok (.ireturn, 1) := by decide +kernel
theorem dX7_cut_50 : decode cX7_cut 50 = .ok (.aload_n 0, 1) := by decide +kernel
theorem dX7_cut_51 : decode cX7_cut 51 = .ok (.getfield 48, 3) := by decide +kernel
theorem dX7_cut_54 : decode cX7_cut 54 = .ok (.bipush 10, 2) := by decide +kernel
theorem dX7_cut_56 : decode cX7_cut 56 = .ok (.iload_n 1, 1) := by decide +kernel
theorem dX7_cut_57 : decode cX7_cut 57 = .ok (.imul, 1) := by decide +kernel
theorem dX7_cut_58 : decode cX7_cut 58 = .ok (.iload_n 2, 1) := by decide +kernel
theorem dX7_cut_59 : decode cX7_cut 59 = .ok (.iadd, 1) := by decide +kernel
theorem dX7_cut_60 : decode cX7_cut 60 = .ok (.iaload, 1) := by decide +kernel
theorem dX7_cut_61 : decode cX7_cut 61 = .ok (.istore 4, 2) := by decide +kernel
theorem dX7_cut_63 : decode cX7_cut 63 = .ok (.aload_n 0, 1) := by decide +kernel
theorem dX7_cut_64 : decode cX7_cut 64 = .ok (.getfield 45, 3) := by decide +kernel
theorem dX7_cut_67 : decode cX7_cut 67 = .ok (.iload_n 1, 1) := by decide +kernel
theorem dX7_cut_68 : decode cX7_cut 68 = .ok (.dup2, 1) := by decide +kernel
theorem dX7_cut_69 : decode cX7_cut 69 = .ok (.iaload, 1) := by decide +kernel
theorem dX7_cut_70 : decode cX7_cut 70 = .ok (.iconst 1, 1) := by decide +kernel
theorem dX7_cut_71 : decode cX7_cut 71 = .ok (.isub, 1) := by decide +kernel
theorem dX7_cut_72 : decode cX7_cut 72 = .ok (.iastore, 1) := by decide +kernel
theorem dX7_cut_73 : decode cX7_cut 73 = .ok (.iload_n 2, 1) := by decide +kernel
theorem dX7_cut_74 : decode cX7_cut 74 = .ok (.istore 5, 2) := by decide +kernel
theorem dX7_cut_76 : decode cX7_cut 76 = .ok (.iload 5, 2) := by decide +kernel
theorem dX7_cut_78 : decode cX7_cut 78 = .ok (.aload_n 0, 1) := by decide +kernel
theorem dX7_cut_79 : decode cX7_cut 79 = .ok (.getfield 45, 3) := by decide +kernel
theorem dX7_cut_82 : decode cX7_cut 82 = .ok (.iload_n 1, 1) := by decide +kernel
theorem dX7_cut_83 : decode cX7_cut 83 = .ok (.iaload, 1) := by decide +kernel
theorem dX7_cut_84 : decode cX7_cut 84 = .ok (.if_icmp .ge 35, 3) := by decide +kernel
theorem dX7_cut_87 : decode cX7_cut 87 = .ok (.aload_n 0, 1) := by decide +kernel
theorem dX7_cut_88 : decode cX7_cut 88 = .ok (.getfield 48, 3) := by decide +kernel
theorem dX7_cut_91 : decode cX7_cut 91 = .ok (.bipush 10, 2) := by decide +kernel
theorem dX7_cut_93 : decode cX7_cut 93 = .ok (.iload_n 1, 1) := by decide +kernel
theorem dX7_cut_94 : decode cX7_cut 94 = .ok (.imul, 1) := by decide +kernel
theorem dX7_cut_95 : decode cX7_cut 95 = .ok (.iload 5, 2) := by decide +kernel
theorem dX7_cut_97 : decode cX7_cut 97 = .ok (.iadd, 1) := by decide +kernel
theorem dX7_cut_98 : decode cX7_cut 98 = .ok (.aload_n 0, 1) := by decide +kernel
theorem dX7_cut_99 : decode cX7_cut 99 = .ok (.getfield 48, 3) := by decide +kernel
theorem dX7_cut_102 : decode cX7_cut 102 = .ok (.bipush 10, 2) := by decide +kernel
theorem dX7_cut_104 : decode cX7_cut 104 = .ok (.iload_n 1, 1) := by decide +kernel
theorem dX7_cut_105 : decode cX7_cut 105 = .ok (.imul, 1) := by decide +kernel
theorem dX7_cut_106 : decode cX7_cut 106 = .ok (.iload 5, 2) := by decide +kernel
theorem dX7_cut_108 : decode cX7_cut 108 = .ok (.iadd, 1) := by decide +kernel
theorem dX7_cut_109 : decode cX7_cut 109 = .ok (.iconst 1, 1) := by decide +kernel
theorem dX7_cut_110 : decode cX7_cut 110 = .ok (.iadd, 1) := by decide +kernel
theorem dX7_cut_111 : decode cX7_cut 111 = .ok (.iaload, 1) := by decide +kernel
theorem dX7_cut_112 : decode cX7_cut 112 = .ok (.iastore, 1) := by decide +kernel
theorem dX7_cut_113 : decode cX7_cut 113 = .ok (.iinc 5 1, 3) := by decide +kernel
theorem dX7_cut_116 : decode cX7_cut 116 = .ok (.goto (-40), 3) := by decide +kernel
theorem dX7_cut_119 : decode cX7_cut 119 = .ok (.iload 4, 2) := by decide +kernel
theorem dX7_cut_121 : decode cX7_cut 121 = .ok (.ireturn, 1) := by decide +kernel
theorem dX7_shuffles_0 : decode cX7_shuffles 0 = .ok (.iconst 0, 1) := by decide +kernel
theorem dX7_shuffles_1 : decode cX7_shuffles 1 = .ok (.istore 4, 2) := by decide +kernel
theorem dX7_shuffles_3 : decode cX7_shuffles 3 = .ok (.iload 4, 2) := by decide +kernel
theorem dX7_shuffles_5 : decode cX7_shuffles 5 = .ok (.aload_n 0, 1) := by decide +kernel
theorem dX7_shuffles_6 : decode cX7_shuffles 6 = .ok (.getfield 45, 3) := by decide +kernel
theorem dX7_shuffles_9 : decode cX7_shuffles 9 = .ok (.iload_n 1, 1) := by decide +kernel
theorem dX7_shuffles_10 : decode cX7_shuffles 10 = .ok (.iaload, 1) := by decide +kernel
theorem dX7_shuffles_11 : decode cX7_shuffles 11 = .ok (.if_icmp .ge 30, 3) := by decide +kernel
theorem dX7_shuffles_14 : decode cX7_shuffles 14 = .ok (.aload_n 0, 1) := by decide +kernel
theorem dX7_shuffles_15 : decode cX7_shuffles 15 = .ok (.getfield 51, 3) := by decide +kernel
theorem dX7_shuffles_18 : decode cX7_shuffles 18 = .ok (.iload_n 3, 1) := by decide +kernel
theorem dX7_shuffles_19 : decode cX7_shuffles 19 = .ok (.iload 4, 2) := by decide +kernel
theorem dX7_shuffles_21 : decode cX7_shuffles 21 = .ok (.iadd, 1) := by decide +kernel
theorem dX7_shuffles_22 : decode cX7_shuffles 22 = .ok (.aload_n 0, 1) := by decide +kernel
theorem dX7_shuffles_23 : decode cX7_shuffles 23 = .ok (.getfield 48, 3) := by decide +kernel
theorem dX7_shuffles_26 : decode cX7_shuffles 26 = .ok (.bipush 10, 2) := by decide +kernel
theorem dX7_shuffles_28 : decode cX7_shuffles 28 = .ok (.iload_n 1, 1) := by decide +kernel
theorem dX7_shuffles_29 : decode cX7_shuffles 29 = .ok (.imul, 1) := by decide +kernel
theorem dX7_shuffles_30 : decode cX7_shuffles 30 = .ok (.iload 4, 2) := by decide +kernel
theorem dX7_shuffles_32 : decode cX7_shuffles 32 = .ok (.iadd, 1) := by decide +kernel
theorem dX7_shuffles_33 : decode cX7_shuffles 33 = .ok (.iaload, 1) := by decide +kernel
theorem dX7_shuffles_34 : decode cX7_shuffles 34 = .ok (.iastore, 1) := by decide +kernel
theorem dX7_shuffles_35 : decode cX7_shuffles 35 = .ok (.iinc 4 1, 3) := by decide +kernel
theorem dX7_shuffles_38 : decode cX7_shuffles 38 = .ok (.goto (-35), 3) := by decide +kernel
theorem dX7_shuffles_41 : decode cX7_shuffles 41 = .ok (.iload_n 2, 1) := by decide +kernel
theorem dX7_shuffles_42 : decode cX7_shuffles 42 = .ok (.i2l, 1) := by decide +kernel
theorem dX7_shuffles_43 : decode cX7_shuffles 43 = .ok (.lstore 4, 2) := by decide +kernel
theorem dX7_shuffles_45 : decode cX7_shuffles 45 = .ok (.aload_n 0, 1) := by decide +kernel
theorem dX7_shuffles_46 : decode cX7_shuffles 46 = .ok (.getfield 45, 3) := by decide +kernel
theorem dX7_shuffles_49 : decode cX7_shuffles 49 = .ok (.iload_n 1, 1) := by decide +kernel
theorem dX7_shuffles_50 : decode cX7_shuffles 50 = .ok (.iaload, 1) := by decide +kernel
theorem dX7_shuffles_51 : decode cX7_shuffles 51 = .ok (.iconst 1, 1) := by decide +kernel
theorem dX7_shuffles_52 : decode cX7_shuffles 52 = .ok (.isub, 1) := by decide +kernel
theorem dX7_shuffles_53 : decode cX7_shuffles 53 = .ok (.istore 6, 2) := by decide +kernel
theorem dX7_shuffles_55 : decode cX7_shuffles 55 = .ok (.iload 6, 2) := by decide +kernel
theorem dX7_shuffles_57 : decode cX7_shuffles 57 = .ok (.iconst 1, 1) := by decide +kernel
theorem dX7_shuffles_58 : decode cX7_shuffles 58 = .ok (.if_icmp .lt 80, 3) := by decide +kernel
theorem dX7_shuffles_61 : decode cX7_shuffles 61 = .ok (.lload 4, 2) := by decide +kernel
theorem dX7_shuffles_63 : decode cX7_shuffles 63 = .ok (.ldc2_w 120, 3) := by decide +kernel
theorem dX7_shuffles_66 : decode cX7_shuffles 66 = .ok (.lmul, 1) := by decide +kernel
theorem dX7_shuffles_67 : decode cX7_shuffles 67 = .ok (.ldc2_w 122, 3) := by decide +kernel
theorem dX7_shuffles_70 : decode cX7_shuffles 70 = .ok (.ladd, 1) := by decide +kernel
theorem dX7_shuffles_71 : decode cX7_shuffles 71 = .ok (.ldc2_w 124, 3) := by decide +kernel
theorem dX7_shuffles_74 : decode cX7_shuffles 74 = .ok (.lrem, 1) := by decide +kernel
theorem dX7_shuffles_75 : decode cX7_shuffles 75 = .ok (.lstore 4, 2) := by decide +kernel
theorem dX7_shuffles_77 : decode cX7_shuffles 77 = .ok (.lload 4, 2) := by decide +kernel
theorem dX7_shuffles_79 : decode cX7_shuffles 79 = .ok (.ldc2_w 126, 3) := by decide +kernel
theorem dX7_shuffles_82 : decode cX7_shuffles 82 = .ok (.ldiv, 1) := by decide +kernel
theorem dX7_shuffles_83 : decode cX7_shuffles 83 = .ok (.iload 6, 2) := by decide +kernel
theorem dX7_shuffles_85 : decode cX7_shuffles 85 = .ok (.iconst 1, 1) := by decide +kernel
theorem dX7_shuffles_86 : decode cX7_shuffles 86 = .ok (.iadd, 1) := by decide +kernel
theorem dX7_shuffles_87 : decode cX7_shuffles 87 = .ok (.i2l, 1) := by decide +kernel
theorem dX7_shuffles_88 : decode cX7_shuffles 88 = .ok (.lrem, 1) := by decide +kernel
theorem dX7_shuffles_89 : decode cX7_shuffles 89 = .ok (.l2i, 1) := by decide +kernel
theorem dX7_shuffles_90 : decode cX7_shuffles 90 = .ok (.istore 7, 2) := by decide +kernel
theorem dX7_shuffles_92 : decode cX7_shuffles 92 = .ok (.aload_n 0, 1) := by decide +kernel
theorem dX7_shuffles_93 : decode cX7_shuffles 93 = .ok (.getfield 51, 3) := by decide +kernel
theorem dX7_shuffles_96 : decode cX7_shuffles 96 = .ok (.iload_n 3, 1) := by decide +kernel
theorem dX7_shuffles_97 : decode cX7_shuffles 97 = .ok (.iload 6, 2) := by decide +kernel
theorem dX7_shuffles_99 : decode cX7_shuffles 99 = .ok (.iadd, 1) := by decide +kernel
theorem dX7_shuffles_100 : decode cX7_shuffles 100 = .ok (.iaload, 1) := by decide +kernel
theorem dX7_shuffles_101 : decode cX7_shuffles 101 = .ok (.istore 8, 2) := by decide +kernel
theorem dX7_shuffles_103 : decode cX7_shuffles 103 = .ok (.aload_n 0, 1) := by decide +kernel
theorem dX7_shuffles_104 : decode cX7_shuffles 104 = .ok (.getfield 51, 3) := by decide +kernel
theorem dX7_shuffles_107 : decode cX7_shuffles 107 = .ok (.iload_n 3, 1) := by decide +kernel
theorem dX7_shuffles_108 : decode cX7_shuffles 108 = .ok (.iload 6, 2) := by decide +kernel
theorem dX7_shuffles_110 : decode cX7_shuffles 110 = .ok (.iadd, 1) := by decide +kernel
theorem dX7_shuffles_111 : decode cX7_shuffles 111 = .ok (.aload_n 0, 1) := by decide +kernel
theorem dX7_shuffles_112 : decode cX7_shuffles 112 = .ok (.getfield 51, 3) := by decide +kernel
theorem dX7_shuffles_115 : decode cX7_shuffles 115 = .ok (.iload_n 3, 1) := by decide +kernel
theorem dX7_shuffles_116 : decode cX7_shuffles 116 = .ok (.iload 7, 2) := by decide +kernel
theorem dX7_shuffles_118 : decode cX7_shuffles 118 = .ok (.iadd, 1) := by decide +kernel
theorem dX7_shuffles_119 : decode cX7_shuffles 119 = .ok (.iaload, 1) := by decide +kernel
theorem dX7_shuffles_120 : decode cX7_shuffles 120 = .ok (.iastore, 1) := by decide +kernel
theorem dX7_shuffles_121 : decode cX7_shuffles 121 = .ok (.aload_n 0, 1) := by decide +kernel
theorem dX7_shuffles_122 : decode cX7_shuffles 122 = .ok (.getfield 51, 3) := by decide +kernel
theorem dX7_shuffles_125 : decode cX7_shuffles 125 = .ok (.iload_n 3, 1) := by decide +kernel
theorem dX7_shuffles_126 : decode cX7_shuffles 126 = .ok (.iload 7, 2) := by decide +kernel
theorem dX7_shuffles_128 : decode cX7_shuffles 128 = .ok (.iadd, 1) := by decide +kernel
theorem dX7_shuffles_129 : decode cX7_shuffles 129 = .ok (.iload 8, 2) := by decide +kernel
theorem dX7_shuffles_131 : decode cX7_shuffles 131 = .ok (.iastore, 1) := by decide +kernel
theorem dX7_shuffles_132 : decode cX7_shuffles 132 = .ok (.iinc 6 (-1), 3) := by decide +kernel
theorem dX7_shuffles_135 : decode cX7_shuffles 135 = .ok (.goto (-80), 3) := by decide +kernel
theorem dX7_shuffles_138 : decode cX7_shuffles 138 = .ok (.return_, 1) := by decide +kernel
theorem dX7_effect_0 : decode cX7_effect 0 = .ok (.aload_n 0, 1) := by decide +kernel
theorem dX7_effect_1 : decode cX7_effect 1 = .ok (.getfield 13, 3) := by decide +kernel
theorem dX7_effect_4 : decode cX7_effect 4 = .ok (.iload_n 2, 1) := by decide +kernel
theorem dX7_effect_5 : decode cX7_effect 5 = .ok (.iaload, 1) := by decide +kernel
theorem dX7_effect_6 : decode cX7_effect 6 = .ok (.iconst 3, 1) := by decide +kernel
theorem dX7_effect_7 : decode cX7_effect 7 = .ok (.if_icmp .ne 7, 3) := by decide +kernel
theorem dX7_effect_10 : decode cX7_effect 10 = .ok (.iconst 0, 1) := by decide +kernel
theorem dX7_effect_11 : decode cX7_effect 11 = .ok (.goto 9, 3) := by decide +kernel
theorem dX7_effect_14 : decode cX7_effect 14 = .ok (.aload_n 0, 1) := by decide +kernel
theorem dX7_effect_15 : decode cX7_effect 15 = .ok (.getfield 13, 3) := by decide +kernel
theorem dX7_effect_18 : decode cX7_effect 18 = .ok (.iload_n 1, 1) := by decide +kernel
theorem dX7_effect_19 : decode cX7_effect 19 = .ok (.iaload, 1) := by decide +kernel
theorem dX7_effect_20 : decode cX7_effect 20 = .ok (.istore 4, 2) := by decide +kernel
theorem dX7_effect_22 : decode cX7_effect 22 = .ok (.iload 4, 2) := by decide +kernel
theorem dX7_effect_24 : decode cX7_effect 24 = .ok (.iconst 1, 1) := by decide +kernel
theorem dX7_effect_25 : decode cX7_effect 25 = .ok (.if_icmp .ne 11, 3) := by decide +kernel
theorem dX7_effect_28 : decode cX7_effect 28 = .ok (.iload_n 3, 1) := by decide +kernel
theorem dX7_effect_29 : decode cX7_effect 29 = .ok (.ifCond .eq 7, 3) := by decide +kernel
theorem dX7_effect_32 : decode cX7_effect 32 = .ok (.iconst 1, 1) := by decide +kernel
theorem dX7_effect_33 : decode cX7_effect 33 = .ok (.goto 18, 3) := by decide +kernel
theorem dX7_effect_36 : decode cX7_effect 36 = .ok (.iload 4, 2) := by decide +kernel
theorem dX7_effect_38 : decode cX7_effect 38 = .ok (.iconst 2, 1) := by decide +kernel
theorem dX7_effect_39 : decode cX7_effect 39 = .ok (.if_icmp .ne 11, 3) := by decide +kernel
theorem dX7_effect_42 : decode cX7_effect 42 = .ok (.iload_n 3, 1) := by decide +kernel
theorem dX7_effect_43 : decode cX7_effect 43 = .ok (.ifCond .ne 7, 3) := by decide +kernel
theorem dX7_effect_46 : decode cX7_effect 46 = .ok (.iconst 2, 1) := by decide +kernel
theorem dX7_effect_47 : decode cX7_effect 47 = .ok (.goto 4, 3) := by decide +kernel
theorem dX7_effect_50 : decode cX7_effect 50 = .ok (.iconst 0, 1) := by decide +kernel
theorem dX7_effect_51 : decode cX7_effect 51 = .ok (.ireturn, 1) := by decide +kernel
set_option maxRecDepth 20000 in
theorem ggX7_wonBy_X7_manyOf : GoodIn wsX7_wonBy wsX7_manyOf := goodIn_r _ [6, 7, 8, 9, 10, 5, 11, 12, 13, 14, 15, 16, 17, 18, 19, 20, 21, 22, 23, 24, 25, 26, 27, 28, 29, 30, 31, 32, 33, 34, 35, 36] (by decide +kernel) (by decide +kernel)
set_option maxRecDepth 20000 in
theorem gX7_wonBy_X7_manyOf : GoodIn wsX7_wonBy (wsV RX7 97 RX7 yX7_manyOf wsX7_manyOf) := goodIn_app (goodIn_of _ (by decide +kernel)) ggX7_wonBy_X7_manyOf
theorem dX7_wonBy_0 : decode cX7_wonBy 0 = .ok (.iconst 0, 1) := by decide +kernel
theorem dX7_wonBy_1 : decode cX7_wonBy 1 = .ok (.istore_n 2, 1) := by decide +kernel
theorem dX7_wonBy_2 : decode cX7_wonBy 2 = .ok (.iload_n 2, 1) := by decide +kernel
theorem dX7_wonBy_3 : decode cX7_wonBy 3 = .ok (.bipush 16, 2) := by decide +kernel
theorem dX7_wonBy_5 : decode cX7_wonBy 5 = .ok (.if_icmp .ge 32, 3) := by decide +kernel
theorem dX7_wonBy_8 : decode cX7_wonBy 8 = .ok (.aload_n 0, 1) := by decide +kernel
theorem dX7_wonBy_9 : decode cX7_wonBy 9 = .ok (.getfield 23, 3) := by decide +kernel
theorem dX7_wonBy_12 : decode cX7_wonBy 12 = .ok (.iload_n 2, 1) := by decide +kernel
theorem dX7_wonBy_13 : decode cX7_wonBy 13 = .ok (.dup2, 1) := by decide +kernel
theorem dX7_wonBy_14 : decode cX7_wonBy 14 = .ok (.iaload, 1) := by decide +kernel
theorem dX7_wonBy_15 : decode cX7_wonBy 15 = .ok (.aload_n 0, 1) := by decide +kernel
theorem dX7_wonBy_16 : decode cX7_wonBy 16 = .ok (.iload_n 1, 1) := by decide +kernel
theorem dX7_wonBy_17 : decode cX7_wonBy 17 = .ok (.iload_n 2, 1) := by decide +kernel
theorem dX7_wonBy_18 : decode cX7_wonBy 18 = .ok (.invokevirtual 97, 3) := by decide +kernel
theorem dX7_wonBy_21 : decode cX7_wonBy 21 = .ok (.ifCond .le 7, 3) := by decide +kernel
theorem dX7_wonBy_24 : decode cX7_wonBy 24 = .ok (.iconst 1, 1) := by decide +kernel
theorem dX7_wonBy_25 : decode cX7_wonBy 25 = .ok (.goto 4, 3) := by decide +kernel
theorem dX7_wonBy_28 : decode cX7_wonBy 28 = .ok (.iconst 0, 1) := by decide +kernel
theorem dX7_wonBy_29 : decode cX7_wonBy 29 = .ok (.iadd, 1) := by decide +kernel
theorem dX7_wonBy_30 : decode cX7_wonBy 30 = .ok (.iastore, 1) := by decide +kernel
theorem dX7_wonBy_31 : decode cX7_wonBy 31 = .ok (.iinc 2 1, 3) := by decide +kernel
theorem dX7_wonBy_34 : decode cX7_wonBy 34 = .ok (.goto (-32), 3) := by decide +kernel
theorem dX7_wonBy_37 : decode cX7_wonBy 37 = .ok (.return_, 1) := by decide +kernel
set_option maxRecDepth 20000 in
theorem ggX7_play_X7_isDeck : GoodIn wsX7_play wsX7_isDeck := goodIn_r _ [10, 11, 12, 13, 9, 14, 55, 56, 57, 58, 59, 60, 61, 62, 63, 64, 65, 66, 67, 68, 69, 70, 71, 72, 73, 74, 75, 76, 77] (by decide +kernel) (by decide +kernel)
set_option maxRecDepth 20000 in
theorem gX7_play_X7_isDeck : GoodIn wsX7_play (wsV RX7 110 RX7 yX7_isDeck wsX7_isDeck) := goodIn_app (goodIn_of _ (by decide +kernel)) ggX7_play_X7_isDeck
set_option maxRecDepth 20000 in
theorem ggX7_play_X7_allows : GoodIn wsX7_play wsX7_allows := goodIn_r _ [18, 19, 2, 20, 21, 1, 22, 23, 24, 25, 26, 9, 27, 3, 28, 29, 30, 31, 55, 56, 57, 58, 59, 60, 61, 62, 63, 64, 65, 66, 67, 68, 69, 70, 71, 72, 73, 74, 75, 76, 77] (by decide +kernel) (by decide +kernel)
set_option maxRecDepth 20000 in
theorem gX7_play_X7_allows : GoodIn wsX7_play (wsV RX7 100 RX7 yX7_allows wsX7_allows) := goodIn_app (goodIn_of _ (by decide +kernel)) ggX7_play_X7_allows
set_option maxRecDepth 20000 in
theorem ggX7_play_X7_goes : GoodIn wsX7_play wsX7_goes := goodIn_r _ [35, 36, 55, 56, 57, 58, 59, 60, 61, 62, 63, 64, 65, 66, 67, 68, 69, 70, 71, 72, 73, 74, 75, 76, 77] (by decide +kernel) (by decide +kernel)
set_option maxRecDepth 20000 in
theorem gX7_play_X7_goes : GoodIn wsX7_play (wsV RX7 89 RX7 yX7_goes wsX7_goes) := goodIn_app (goodIn_of _ (by decide +kernel)) ggX7_play_X7_goes
set_option maxRecDepth 20000 in
theorem ggX7_play_X7_shuffles : GoodIn wsX7_play wsX7_shuffles := goodIn_r _ [40, 19, 4, 21, 41, 42, 43, 44, 55, 56, 57, 58, 59, 60, 61, 62, 63, 64, 65, 66, 67, 68, 69, 70, 71, 72, 73, 74, 75, 76, 77] (by decide +kernel) (by decide +kernel)
set_option maxRecDepth 20000 in
theorem gX7_play_X7_shuffles : GoodIn wsX7_play (wsV RX7 128 RX7 yX7_shuffles wsX7_shuffles) := goodIn_app (goodIn_of _ (by decide +kernel)) ggX7_play_X7_shuffles
set_option maxRecDepth 20000 in
theorem ggX7_play_X7_effect : GoodIn wsX7_play wsX7_effect := goodIn_r _ [48, 49, 55, 56, 57, 58, 59, 60, 61, 62, 63, 64, 65, 66, 67, 68, 69, 70, 71, 72, 73, 74, 75, 76, 77] (by decide +kernel) (by decide +kernel)
set_option maxRecDepth 20000 in
theorem gX7_play_X7_effect : GoodIn wsX7_play (wsV RX7 132 RX7 yX7_effect wsX7_effect) := goodIn_app (goodIn_of _ (by decide +kernel)) ggX7_play_X7_effect
set_option maxRecDepth 20000 in
theorem ggX7_play_X7_wonBy : GoodIn wsX7_play wsX7_wonBy := goodIn_r _ [53, 54, 28, 29, 30, 9, 31, 19, 24, 25, 26, 27, 3, 21, 55, 56, 57, 58, 59, 60, 61, 62, 63, 64, 65, 66, 67, 68, 69, 70, 71, 72, 73, 74, 75, 76, 77] (by decide +kernel) (by decide +kernel)
set_option maxRecDepth 20000 in
theorem gX7_play_X7_wonBy : GoodIn wsX7_play (wsV RX7 136 RX7 yX7_wonBy wsX7_wonBy) := goodIn_app (goodIn_of _ (by decide +kernel)) ggX7_play_X7_wonBy
theorem dX7_play_0 : decode cX7_play 0 = .ok (.aload_n 0, 1) := by decide +kernel
end
section
theorem dX7_play_1 : decode cX7_play 1 = .ok (.iload_n 1, 1) := by decide +kernel
theorem dX7_play_2 : decode cX7_play 2 = .ok (.invokevirtual 110, 3) := by decide +kernel
theorem dX7_play_5 : decode cX7_play 5 = .ok (.ifCond .eq 15, 3) := by decide +kernel
theorem dX7_play_8 : decode cX7_play 8 = .ok (.aload_n 0, 1) := by decide +kernel
theorem dX7_play_9 : decode cX7_play 9 = .ok (.iload_n 2, 1) := by decide +kernel
theorem dX7_play_10 : decode cX7_play 10 = .ok (.invokevirtual 110, 3) := by decide +kernel
theorem dX7_play_13 : decode cX7_play 13 = .ok (.ifCond .eq 7, 3) := by decide +kernel
theorem dX7_play_16 : decode cX7_play 16 = .ok (.iconst 1, 1) := by decide +kernel
theorem dX7_play_17 : decode cX7_play 17 = .ok (.goto 4, 3) := by decide +kernel
theorem dX7_play_20 : decode cX7_play 20 = .ok (.iconst 0, 1) := by decide +kernel
theorem dX7_play_21 : decode cX7_play 21 = .ok (.istore 5, 2) := by decide +kernel
theorem dX7_play_23 : decode cX7_play 23 = .ok (.iload 5, 2) := by decide +kernel
theorem dX7_play_25 : decode cX7_play 25 = .ok (.ifCond .eq 31, 3) := by decide +kernel
theorem dX7_play_28 : decode cX7_play 28 = .ok (.iload_n 3, 1) := by decide +kernel
theorem dX7_play_29 : decode cX7_play 29 = .ok (.ifCond .lt 27, 3) := by decide +kernel
theorem dX7_play_32 : decode cX7_play 32 = .ok (.iload 4, 2) := by decide +kernel
theorem dX7_play_34 : decode cX7_play 34 = .ok (.ifCond .lt 22, 3) := by decide +kernel
theorem dX7_play_37 : decode cX7_play 37 = .ok (.aload_n 0, 1) := by decide +kernel
theorem dX7_play_38 : decode cX7_play 38 = .ok (.getfield 42, 3) := by decide +kernel
theorem dX7_play_41 : decode cX7_play 41 = .ok (.iload_n 1, 1) := by decide +kernel
theorem dX7_play_42 : decode cX7_play 42 = .ok (.iaload, 1) := by decide +kernel
theorem dX7_play_43 : decode cX7_play 43 = .ok (.aload_n 0, 1) := by decide +kernel
theorem dX7_play_44 : decode cX7_play 44 = .ok (.getfield 42, 3) := by decide +kernel
theorem dX7_play_47 : decode cX7_play 47 = .ok (.iload_n 2, 1) := by decide +kernel
theorem dX7_play_48 : decode cX7_play 48 = .ok (.iaload, 1) := by decide +kernel
theorem dX7_play_49 : decode cX7_play 49 = .ok (.if_icmp .eq 7, 3) := by decide +kernel
theorem dX7_play_52 : decode cX7_play 52 = .ok (.iconst 1, 1) := by decide +kernel
theorem dX7_play_53 : decode cX7_play 53 = .ok (.goto 4, 3) := by decide +kernel
theorem dX7_play_56 : decode cX7_play 56 = .ok (.iconst 0, 1) := by decide +kernel
theorem dX7_play_57 : decode cX7_play 57 = .ok (.istore 6, 2) := by decide +kernel
theorem dX7_play_59 : decode cX7_play 59 = .ok (.aload_n 0, 1) := by decide +kernel
theorem dX7_play_60 : decode cX7_play 60 = .ok (.iload 5, 2) := by decide +kernel
theorem dX7_play_62 : decode cX7_play 62 = .ok (.iload 6, 2) := by decide +kernel
theorem dX7_play_64 : decode cX7_play 64 = .ok (.iload 6, 2) := by decide +kernel
theorem dX7_play_66 : decode cX7_play 66 = .ok (.ifCond .eq 23, 3) := by decide +kernel
theorem dX7_play_69 : decode cX7_play 69 = .ok (.aload_n 0, 1) := by decide +kernel
theorem dX7_play_70 : decode cX7_play 70 = .ok (.iload_n 1, 1) := by decide +kernel
theorem dX7_play_71 : decode cX7_play 71 = .ok (.invokevirtual 100, 3) := by decide +kernel
theorem dX7_play_74 : decode cX7_play 74 = .ok (.ifCond .eq 15, 3) := by decide +kernel
theorem dX7_play_77 : decode cX7_play 77 = .ok (.aload_n 0, 1) := by decide +kernel
theorem dX7_play_78 : decode cX7_play 78 = .ok (.iload_n 2, 1) := by decide +kernel
theorem dX7_play_79 : decode cX7_play 79 = .ok (.invokevirtual 100, 3) := by decide +kernel
theorem dX7_play_82 : decode cX7_play 82 = .ok (.ifCond .eq 7, 3) := by decide +kernel
theorem dX7_play_85 : decode cX7_play 85 = .ok (.iconst 1, 1) := by decide +kernel
theorem dX7_play_86 : decode cX7_play 86 = .ok (.goto 4, 3) := by decide +kernel
theorem dX7_play_89 : decode cX7_play 89 = .ok (.iconst 0, 1) := by decide +kernel
theorem dX7_play_90 : decode cX7_play 90 = .ok (.invokevirtual 89, 3) := by decide +kernel
theorem dX7_play_93 : decode cX7_play 93 = .ok (.ifCond .ne 5, 3) := by decide +kernel
theorem dX7_play_96 : decode cX7_play 96 = .ok (.iconst 0, 1) := by decide +kernel
theorem dX7_play_97 : decode cX7_play 97 = .ok (.ireturn, 1) := by decide +kernel
theorem dX7_play_98 : decode cX7_play 98 = .ok (.aload_n 0, 1) := by decide +kernel
theorem dX7_play_99 : decode cX7_play 99 = .ok (.iload_n 1, 1) := by decide +kernel
theorem dX7_play_100 : decode cX7_play 100 = .ok (.iload_n 3, 1) := by decide +kernel
theorem dX7_play_101 : decode cX7_play 101 = .ok (.iconst 0, 1) := by decide +kernel
theorem dX7_play_102 : decode cX7_play 102 = .ok (.invokevirtual 128, 3) := by decide +kernel
theorem dX7_play_105 : decode cX7_play 105 = .ok (.aload_n 0, 1) := by decide +kernel
theorem dX7_play_106 : decode cX7_play 106 = .ok (.iload_n 2, 1) := by decide +kernel
theorem dX7_play_107 : decode cX7_play 107 = .ok (.iload 4, 2) := by decide +kernel
theorem dX7_play_109 : decode cX7_play 109 = .ok (.bipush 10, 2) := by decide +kernel
theorem dX7_play_111 : decode cX7_play 111 = .ok (.invokevirtual 128, 3) := by decide +kernel
theorem dX7_play_114 : decode cX7_play 114 = .ok (.iconst 0, 1) := by decide +kernel
theorem dX7_play_115 : decode cX7_play 115 = .ok (.istore 7, 2) := by decide +kernel
theorem dX7_play_117 : decode cX7_play 117 = .ok (.iconst 0, 1) := by decide +kernel
theorem dX7_play_118 : decode cX7_play 118 = .ok (.istore 8, 2) := by decide +kernel
theorem dX7_play_120 : decode cX7_play 120 = .ok (.iconst 0, 1) := by decide +kernel
theorem dX7_play_121 : decode cX7_play 121 = .ok (.istore 9, 2) := by decide +kernel
theorem dX7_play_123 : decode cX7_play 123 = .ok (.iconst 0, 1) := by decide +kernel
theorem dX7_play_124 : decode cX7_play 124 = .ok (.istore 10, 2) := by decide +kernel
theorem dX7_play_126 : decode cX7_play 126 = .ok (.iload 10, 2) := by decide +kernel
theorem dX7_play_128 : decode cX7_play 128 = .ok (.aload_n 0, 1) := by decide +kernel
theorem dX7_play_129 : decode cX7_play 129 = .ok (.getfield 26, 3) := by decide +kernel
theorem dX7_play_132 : decode cX7_play 132 = .ok (.if_icmp .ge 177, 3) := by decide +kernel
theorem dX7_play_135 : decode cX7_play 135 = .ok (.aload_n 0, 1) := by decide +kernel
theorem dX7_play_136 : decode cX7_play 136 = .ok (.getfield 33, 3) := by decide +kernel
theorem dX7_play_139 : decode cX7_play 139 = .ok (.aload_n 0, 1) := by decide +kernel
theorem dX7_play_140 : decode cX7_play 140 = .ok (.getfield 51, 3) := by decide +kernel
theorem dX7_play_143 : decode cX7_play 143 = .ok (.iload 10, 2) := by decide +kernel
theorem dX7_play_145 : decode cX7_play 145 = .ok (.iaload, 1) := by decide +kernel
theorem dX7_play_146 : decode cX7_play 146 = .ok (.iaload, 1) := by decide +kernel
theorem dX7_play_147 : decode cX7_play 147 = .ok (.istore 11, 2) := by decide +kernel
theorem dX7_play_149 : decode cX7_play 149 = .ok (.aload_n 0, 1) := by decide +kernel
theorem dX7_play_150 : decode cX7_play 150 = .ok (.getfield 33, 3) := by decide +kernel
theorem dX7_play_153 : decode cX7_play 153 = .ok (.aload_n 0, 1) := by decide +kernel
theorem dX7_play_154 : decode cX7_play 154 = .ok (.getfield 51, 3) := by decide +kernel
theorem dX7_play_157 : decode cX7_play 157 = .ok (.bipush 10, 2) := by decide +kernel
theorem dX7_play_159 : decode cX7_play 159 = .ok (.iload 10, 2) := by decide +kernel
theorem dX7_play_161 : decode cX7_play 161 = .ok (.iadd, 1) := by decide +kernel
theorem dX7_play_162 : decode cX7_play 162 = .ok (.iaload, 1) := by decide +kernel
theorem dX7_play_163 : decode cX7_play 163 = .ok (.iaload, 1) := by decide +kernel
theorem dX7_play_164 : decode cX7_play 164 = .ok (.istore 12, 2) := by decide +kernel
theorem dX7_play_166 : decode cX7_play 166 = .ok (.aload_n 0, 1) := by decide +kernel
theorem dX7_play_167 : decode cX7_play 167 = .ok (.getfield 7, 3) := by decide +kernel
theorem dX7_play_170 : decode cX7_play 170 = .ok (.iload 11, 2) := by decide +kernel
theorem dX7_play_172 : decode cX7_play 172 = .ok (.iaload, 1) := by decide +kernel
theorem dX7_play_173 : decode cX7_play 173 = .ok (.iload 8, 2) := by decide +kernel
theorem dX7_play_175 : decode cX7_play 175 = .ok (.iadd, 1) := by decide +kernel
theorem dX7_play_176 : decode cX7_play 176 = .ok (.aload_n 0, 1) := by decide +kernel
theorem dX7_play_177 : decode cX7_play 177 = .ok (.getfield 7, 3) := by decide +kernel
theorem dX7_play_180 : decode cX7_play 180 = .ok (.iload 12, 2) := by decide +kernel
theorem dX7_play_182 : decode cX7_play 182 = .ok (.iaload, 1) := by decide +kernel
theorem dX7_play_183 : decode cX7_play 183 = .ok (.isub, 1) := by decide +kernel
theorem dX7_play_184 : decode cX7_play 184 = .ok (.iload 9, 2) := by decide +kernel
theorem dX7_play_186 : decode cX7_play 186 = .ok (.isub, 1) := by decide +kernel
theorem dX7_play_187 : decode cX7_play 187 = .ok (.istore 13, 2) := by decide +kernel
theorem dX7_play_189 : decode cX7_play 189 = .ok (.aload_n 0, 1) := by decide +kernel
theorem dX7_play_190 : decode cX7_play 190 = .ok (.iload 11, 2) := by decide +kernel
theorem dX7_play_192 : decode cX7_play 192 = .ok (.iload 12, 2) := by decide +kernel
theorem dX7_play_194 : decode cX7_play 194 = .ok (.iload 13, 2) := by decide +kernel
theorem dX7_play_196 : decode cX7_play 196 = .ok (.ifCond .le 7, 3) := by decide +kernel
theorem dX7_play_199 : decode cX7_play 199 = .ok (.iconst 1, 1) := by decide +kernel
theorem dX7_play_200 : decode cX7_play 200 = .ok (.goto 4, 3) := by decide +kernel
theorem dX7_play_203 : decode cX7_play 203 = .ok (.iconst 0, 1) := by decide +kernel
theorem dX7_play_204 : decode cX7_play 204 = .ok (.invokevirtual 132, 3) := by decide +kernel
theorem dX7_play_207 : decode cX7_play 207 = .ok (.istore 14, 2) := by decide +kernel
theorem dX7_play_209 : decode cX7_play 209 = .ok (.aload_n 0, 1) := by decide +kernel
theorem dX7_play_210 : decode cX7_play 210 = .ok (.iload 12, 2) := by decide +kernel
theorem dX7_play_212 : decode cX7_play 212 = .ok (.iload 11, 2) := by decide +kernel
theorem dX7_play_214 : decode cX7_play 214 = .ok (.iload 13, 2) := by decide +kernel
theorem dX7_play_216 : decode cX7_play 216 = .ok (.ifCond .ge 7, 3) := by decide +kernel
theorem dX7_play_219 : decode cX7_play 219 = .ok (.iconst 1, 1) := by decide +kernel
theorem dX7_play_220 : decode cX7_play 220 = .ok (.goto 4, 3) := by decide +kernel
theorem dX7_play_223 : decode cX7_play 223 = .ok (.iconst 0, 1) := by decide +kernel
theorem dX7_play_224 : decode cX7_play 224 = .ok (.invokevirtual 132, 3) := by decide +kernel
theorem dX7_play_227 : decode cX7_play 227 = .ok (.istore 15, 2) := by decide +kernel
theorem dX7_play_229 : decode cX7_play 229 = .ok (.iload 7, 2) := by decide +kernel
theorem dX7_play_231 : decode cX7_play 231 = .ok (.iload 13, 2) := by decide +kernel
theorem dX7_play_233 : decode cX7_play 233 = .ok (.ifCond .le 7, 3) := by decide +kernel
theorem dX7_play_236 : decode cX7_play 236 = .ok (.iconst 1, 1) := by decide +kernel
theorem dX7_play_237 : decode cX7_play 237 = .ok (.goto 13, 3) := by decide +kernel
theorem dX7_play_240 : decode cX7_play 240 = .ok (.iload 13, 2) := by decide +kernel
theorem dX7_play_242 : decode cX7_play 242 = .ok (.ifCond .ge 7, 3) := by decide +kernel
theorem dX7_play_245 : decode cX7_play 245 = .ok (.iconst (-1), 1) := by decide +kernel
theorem dX7_play_246 : decode cX7_play 246 = .ok (.goto 4, 3) := by decide +kernel
theorem dX7_play_249 : decode cX7_play 249 = .ok (.iconst 0, 1) := by decide +kernel
theorem dX7_play_250 : decode cX7_play 250 = .ok (.iload 14, 2) := by decide +kernel
theorem dX7_play_252 : decode cX7_play 252 = .ok (.iconst 1, 1) := by decide +kernel
theorem dX7_play_253 : decode cX7_play 253 = .ok (.if_icmp .ne 7, 3) := by decide +kernel
theorem dX7_play_256 : decode cX7_play 256 = .ok (.iconst 1, 1) := by decide +kernel
theorem dX7_play_257 : decode cX7_play 257 = .ok (.goto 4, 3) := by decide +kernel
theorem dX7_play_260 : decode cX7_play 260 = .ok (.iconst 0, 1) := by decide +kernel
theorem dX7_play_261 : decode cX7_play 261 = .ok (.iadd, 1) := by decide +kernel
theorem dX7_play_262 : decode cX7_play 262 = .ok (.iload 15, 2) := by decide +kernel
theorem dX7_play_264 : decode cX7_play 264 = .ok (.iconst 1, 1) := by decide +kernel
theorem dX7_play_265 : decode cX7_play 265 = .ok (.if_icmp .ne 7, 3) := by decide +kernel
theorem dX7_play_268 : decode cX7_play 268 = .ok (.iconst 1, 1) := by decide +kernel
theorem dX7_play_269 : decode cX7_play 269 = .ok (.goto 4, 3) := by decide +kernel
theorem dX7_play_272 : decode cX7_play 272 = .ok (.iconst 0, 1) := by decide +kernel
theorem dX7_play_273 : decode cX7_play 273 = .ok (.isub, 1) := by decide +kernel
theorem dX7_play_274 : decode cX7_play 274 = .ok (.iadd, 1) := by decide +kernel
theorem dX7_play_275 : decode cX7_play 275 = .ok (.istore 7, 2) := by decide +kernel
theorem dX7_play_277 : decode cX7_play 277 = .ok (.iload 14, 2) := by decide +kernel
theorem dX7_play_279 : decode cX7_play 279 = .ok (.iconst 2, 1) := by decide +kernel
theorem dX7_play_280 : decode cX7_play 280 = .ok (.if_icmp .ne 7, 3) := by decide +kernel
theorem dX7_play_283 : decode cX7_play 283 = .ok (.iconst 2, 1) := by decide +kernel
theorem dX7_play_284 : decode cX7_play 284 = .ok (.goto 4, 3) := by decide +kernel
theorem dX7_play_287 : decode cX7_play 287 = .ok (.iconst 0, 1) := by decide +kernel
theorem dX7_play_288 : decode cX7_play 288 = .ok (.istore 8, 2) := by decide +kernel
theorem dX7_play_290 : decode cX7_play 290 = .ok (.iload 15, 2) := by decide +kernel
theorem dX7_play_292 : decode cX7_play 292 = .ok (.iconst 2, 1) := by decide +kernel
theorem dX7_play_293 : decode cX7_play 293 = .ok (.if_icmp .ne 7, 3) := by decide +kernel
theorem dX7_play_296 : decode cX7_play 296 = .ok (.iconst 2, 1) := by decide +kernel
theorem dX7_play_297 : decode cX7_play 297 = .ok (.goto 4, 3) := by decide +kernel
theorem dX7_play_300 : decode cX7_play 300 = .ok (.iconst 0, 1) := by decide +kernel
theorem dX7_play_301 : decode cX7_play 301 = .ok (.istore 9, 2) := by decide +kernel
theorem dX7_play_303 : decode cX7_play 303 = .ok (.iinc 10 1, 3) := by decide +kernel
theorem dX7_play_306 : decode cX7_play 306 = .ok (.goto (-180), 3) := by decide +kernel
theorem dX7_play_309 : decode cX7_play 309 = .ok (.iload 7, 2) := by decide +kernel
theorem dX7_play_311 : decode cX7_play 311 = .ok (.ifCond .eq 17, 3) := by decide +kernel
theorem dX7_play_314 : decode cX7_play 314 = .ok (.aload_n 0, 1) := by decide +kernel
theorem dX7_play_315 : decode cX7_play 315 = .ok (.iload 7, 2) := by decide +kernel
theorem dX7_play_317 : decode cX7_play 317 = .ok (.ifCond .le 7, 3) := by decide +kernel
theorem dX7_play_320 : decode cX7_play 320 = .ok (.iload_n 1, 1) := by decide +kernel
theorem dX7_play_321 : decode cX7_play 321 = .ok (.goto 4, 3) := by decide +kernel
theorem dX7_play_324 : decode cX7_play 324 = .ok (.iload_n 2, 1) := by decide +kernel
theorem dX7_play_325 : decode cX7_play 325 = .ok (.invokevirtual 136, 3) := by decide +kernel
theorem dX7_play_328 : decode cX7_play 328 = .ok (.iload 7, 2) := by decide +kernel
theorem dX7_play_330 : decode cX7_play 330 = .ok (.ireturn, 1) := by decide +kernel
theorem dX7_opens_0 : decode cX7_opens 0 = .ok (.aload_n 0, 1) := by decide +kernel
theorem dX7_opens_1 : decode cX7_opens 1 = .ok (.getfield 63, 3) := by decide +kernel
theorem dX7_opens_4 : decode cX7_opens 4 = .ok (.iload_n 1, 1) := by decide +kernel
theorem dX7_opens_5 : decode cX7_opens 5 = .ok (.baload, 1) := by decide +kernel
theorem dX7_opens_6 : decode cX7_opens 6 = .ok (.ifCond .ne 27, 3) := by decide +kernel
theorem dX7_opens_9 : decode cX7_opens 9 = .ok (.aload_n 0, 1) := by decide +kernel
theorem dX7_opens_10 : decode cX7_opens 10 = .ok (.getfield 39, 3) := by decide +kernel
theorem dX7_opens_13 : decode cX7_opens 13 = .ok (.aload_n 0, 1) := by decide +kernel
theorem dX7_opens_14 : decode cX7_opens 14 = .ok (.getfield 54, 3) := by decide +kernel
theorem dX7_opens_17 : decode cX7_opens 17 = .ok (.iload_n 1, 1) := by decide +kernel
theorem dX7_opens_18 : decode cX7_opens 18 = .ok (.iaload, 1) := by decide +kernel
theorem dX7_opens_19 : decode cX7_opens 19 = .ok (.iaload, 1) := by decide +kernel
theorem dX7_opens_20 : decode cX7_opens 20 = .ok (.aload_n 0, 1) := by decide +kernel
theorem dX7_opens_21 : decode cX7_opens 21 = .ok (.getfield 57, 3) := by decide +kernel
theorem dX7_opens_24 : decode cX7_opens 24 = .ok (.iload_n 1, 1) := by decide +kernel
theorem dX7_opens_25 : decode cX7_opens 25 = .ok (.iaload, 1) := by decide +kernel
theorem dX7_opens_26 : decode cX7_opens 26 = .ok (.if_icmp .ne 7, 3) := by decide +kernel
theorem dX7_opens_29 : decode cX7_opens 29 = .ok (.iconst 1, 1) := by decide +kernel
theorem dX7_opens_30 : decode cX7_opens 30 = .ok (.goto 4, 3) := by decide +kernel
theorem dX7_opens_33 : decode cX7_opens 33 = .ok (.iconst 0, 1) := by decide +kernel
theorem dX7_opens_34 : decode cX7_opens 34 = .ok (.ireturn, 1) := by decide +kernel
set_option maxRecDepth 20000 in
theorem ggX7_offer_X7_isCard : GoodIn wsX7_offer wsX7_isCard := goodIn_r _ [11, 12, 13, 14, 10, 15, 29, 30, 31, 32, 33, 34, 35, 36, 37, 38, 39, 40, 41, 42, 43, 44, 45, 46, 47, 48, 49, 50, 51] (by decide +kernel) (by decide +kernel)
set_option maxRecDepth 20000 in
theorem gX7_offer_X7_isCard : GoodIn wsX7_offer (wsV RX7 113 RX7 yX7_isCard wsX7_isCard) := goodIn_app (goodIn_of _ (by decide +kernel)) ggX7_offer_X7_isCard
set_option maxRecDepth 20000 in
theorem ggX7_offer_X7_isKind : GoodIn wsX7_offer wsX7_isKind := goodIn_r _ [18, 13, 14, 10, 15] (by decide +kernel) (by decide +kernel)
set_option maxRecDepth 20000 in
theorem gX7_offer_X7_isKind : GoodIn wsX7_offer (va_wsS RX7 85 yX7_isKind wsX7_isKind) := goodIn_app (goodIn_of _ (by decide +kernel)) ggX7_offer_X7_isKind
set_option maxRecDepth 20000 in
theorem ggX7_offer_X7_opens : GoodIn wsX7_offer wsX7_opens := goodIn_r _ [22, 23, 5, 2, 4, 29, 30, 31, 32, 33, 34, 35, 36, 37, 38, 39, 40, 41, 42, 43, 44, 45, 46, 47, 48, 49, 50, 51] (by decide +kernel) (by decide +kernel)
set_option maxRecDepth 20000 in
theorem gX7_offer_X7_opens : GoodIn wsX7_offer (wsV RX7 140 RX7 yX7_opens wsX7_opens) := goodIn_app (goodIn_of _ (by decide +kernel)) ggX7_offer_X7_opens
set_option maxRecDepth 20000 in
theorem ggX7_offer_X7_goes : GoodIn wsX7_offer wsX7_goes := goodIn_r _ [27, 28, 29, 30, 31, 32, 33, 34, 35, 36, 37, 38, 39, 40, 41, 42, 43, 44, 45, 46, 47, 48, 49, 50, 51] (by decide +kernel) (by decide +kernel)
set_option maxRecDepth 20000 in
theorem gX7_offer_X7_goes : GoodIn wsX7_offer (wsV RX7 89 RX7 yX7_goes wsX7_goes) := goodIn_app (goodIn_of _ (by decide +kernel)) ggX7_offer_X7_goes
theorem dX7_offer_0 : decode cX7_offer 0 = .ok (.aload_n 0, 1) := by decide +kernel
theorem dX7_offer_1 : decode cX7_offer 1 = .ok (.iload_n 1, 1) := by decide +kernel
theorem dX7_offer_2 : decode cX7_offer 2 = .ok (.invokevirtual 113, 3) := by decide +kernel
theorem dX7_offer_5 : decode cX7_offer 5 = .ok (.ifCond .eq 14, 3) := by decide +kernel
theorem dX7_offer_8 : decode cX7_offer 8 = .ok (.iload_n 2, 1) := by decide +kernel
theorem dX7_offer_9 : decode cX7_offer 9 = .ok (.invokestatic 85, 3) := by decide +kernel
theorem dX7_offer_12 : decode cX7_offer 12 = .ok (.ifCond .eq 7, 3) := by decide +kernel
theorem dX7_offer_15 : decode cX7_offer 15 = .ok (.iconst 1, 1) := by decide +kernel
theorem dX7_offer_16 : decode cX7_offer 16 = .ok (.goto 4, 3) := by decide +kernel
theorem dX7_offer_19 : decode cX7_offer 19 = .ok (.iconst 0, 1) := by decide +kernel
theorem dX7_offer_20 : decode cX7_offer 20 = .ok (.istore_n 3, 1) := by decide +kernel
theorem dX7_offer_21 : decode cX7_offer 21 = .ok (.aload_n 0, 1) := by decide +kernel
theorem dX7_offer_22 : decode cX7_offer 22 = .ok (.getfield 82, 3) := by decide +kernel
theorem dX7_offer_25 : decode cX7_offer 25 = .ok (.bipush 40, 2) := by decide +kernel
theorem dX7_offer_27 : decode cX7_offer 27 = .ok (.if_icmp .ge 7, 3) := by decide +kernel
theorem dX7_offer_30 : decode cX7_offer 30 = .ok (.iconst 1, 1) := by decide +kernel
theorem dX7_offer_31 : decode cX7_offer 31 = .ok (.goto 4, 3) := by decide +kernel
theorem dX7_offer_34 : decode cX7_offer 34 = .ok (.iconst 0, 1) := by decide +kernel
theorem dX7_offer_35 : decode cX7_offer 35 = .ok (.istore 4, 2) := by decide +kernel
theorem dX7_offer_37 : decode cX7_offer 37 = .ok (.iconst 0, 1) := by decide +kernel
theorem dX7_offer_38 : decode cX7_offer 38 = .ok (.istore 5, 2) := by decide +kernel
theorem dX7_offer_40 : decode cX7_offer 40 = .ok (.iload 5, 2) := by decide +kernel
theorem dX7_offer_42 : decode cX7_offer 42 = .ok (.aload_n 0, 1) := by decide +kernel
theorem dX7_offer_43 : decode cX7_offer 43 = .ok (.getfield 82, 3) := by decide +kernel
theorem dX7_offer_46 : decode cX7_offer 46 = .ok (.if_icmp .ge 41, 3) := by decide +kernel
theorem dX7_offer_49 : decode cX7_offer 49 = .ok (.iload 4, 2) := by decide +kernel
theorem dX7_offer_51 : decode cX7_offer 51 = .ok (.ifCond .eq 27, 3) := by decide +kernel
theorem dX7_offer_54 : decode cX7_offer 54 = .ok (.aload_n 0, 1) := by decide +kernel
theorem dX7_offer_55 : decode cX7_offer 55 = .ok (.getfield 54, 3) := by decide +kernel
theorem dX7_offer_58 : decode cX7_offer 58 = .ok (.iload 5, 2) := by decide +kernel
theorem dX7_offer_60 : decode cX7_offer 60 = .ok (.iaload, 1) := by decide +kernel
theorem dX7_offer_61 : decode cX7_offer 61 = .ok (.iload_n 1, 1) := by decide +kernel
theorem dX7_offer_62 : decode cX7_offer 62 = .ok (.if_icmp .ne 12, 3) := by decide +kernel
theorem dX7_offer_65 : decode cX7_offer 65 = .ok (.aload_n 0, 1) := by decide +kernel
theorem dX7_offer_66 : decode cX7_offer 66 = .ok (.iload 5, 2) := by decide +kernel
theorem dX7_offer_68 : decode cX7_offer 68 = .ok (.invokevirtual 140, 3) := by decide +kernel
theorem dX7_offer_71 : decode cX7_offer 71 = .ok (.ifCond .ne 7, 3) := by decide +kernel
theorem dX7_offer_74 : decode cX7_offer 74 = .ok (.iconst 1, 1) := by decide +kernel
theorem dX7_offer_75 : decode cX7_offer 75 = .ok (.goto 4, 3) := by decide +kernel
theorem dX7_offer_78 : decode cX7_offer 78 = .ok (.iconst 0, 1) := by decide +kernel
theorem dX7_offer_79 : decode cX7_offer 79 = .ok (.istore 4, 2) := by decide +kernel
theorem dX7_offer_81 : decode cX7_offer 81 = .ok (.iinc 5 1, 3) := by decide +kernel
theorem dX7_offer_84 : decode cX7_offer 84 = .ok (.goto (-44), 3) := by decide +kernel
theorem dX7_offer_87 : decode cX7_offer 87 = .ok (.aload_n 0, 1) := by decide +kernel
theorem dX7_offer_88 : decode cX7_offer 88 = .ok (.iload_n 3, 1) := by decide +kernel
theorem dX7_offer_89 : decode cX7_offer 89 = .ok (.iload_n 3, 1) := by decide +kernel
theorem dX7_offer_90 : decode cX7_offer 90 = .ok (.ifCond .eq 17, 3) := by decide +kernel
theorem dX7_offer_93 : decode cX7_offer 93 = .ok (.aload_n 0, 1) := by decide +kernel
theorem dX7_offer_94 : decode cX7_offer 94 = .ok (.getfield 33, 3) := by decide +kernel
theorem dX7_offer_97 : decode cX7_offer 97 = .ok (.iload_n 1, 1) := by decide +kernel
theorem dX7_offer_98 : decode cX7_offer 98 = .ok (.iaload, 1) := by decide +kernel
theorem dX7_offer_99 : decode cX7_offer 99 = .ok (.iload_n 2, 1) := by decide +kernel
theorem dX7_offer_100 : decode cX7_offer 100 = .ok (.if_icmp .eq 7, 3) := by decide +kernel
theorem dX7_offer_103 : decode cX7_offer 103 = .ok (.iconst 1, 1) := by decide +kernel
theorem dX7_offer_104 : decode cX7_offer 104 = .ok (.goto 4, 3) := by decide +kernel
theorem dX7_offer_107 : decode cX7_offer 107 = .ok (.iconst 0, 1) := by decide +kernel
theorem dX7_offer_108 : decode cX7_offer 108 = .ok (.iload 4, 2) := by decide +kernel
theorem dX7_offer_110 : decode cX7_offer 110 = .ok (.invokevirtual 89, 3) := by decide +kernel
theorem dX7_offer_113 : decode cX7_offer 113 = .ok (.ifCond .ne 5, 3) := by decide +kernel
theorem dX7_offer_116 : decode cX7_offer 116 = .ok (.iconst 0, 1) := by decide +kernel
theorem dX7_offer_117 : decode cX7_offer 117 = .ok (.ireturn, 1) := by decide +kernel
theorem dX7_offer_118 : decode cX7_offer 118 = .ok (.aload_n 0, 1) := by decide +kernel
theorem dX7_offer_119 : decode cX7_offer 119 = .ok (.getfield 54, 3) := by decide +kernel
theorem dX7_offer_122 : decode cX7_offer 122 = .ok (.aload_n 0, 1) := by decide +kernel
theorem dX7_offer_123 : decode cX7_offer 123 = .ok (.getfield 82, 3) := by decide +kernel
theorem dX7_offer_126 : decode cX7_offer 126 = .ok (.iload_n 1, 1) := by decide +kernel
theorem dX7_offer_127 : decode cX7_offer 127 = .ok (.iastore, 1) := by decide +kernel
theorem dX7_offer_128 : decode cX7_offer 128 = .ok (.aload_n 0, 1) := by decide +kernel
theorem dX7_offer_129 : decode cX7_offer 129 = .ok (.getfield 57, 3) := by decide +kernel
theorem dX7_offer_132 : decode cX7_offer 132 = .ok (.aload_n 0, 1) := by decide +kernel
theorem dX7_offer_133 : decode cX7_offer 133 = .ok (.getfield 82, 3) := by decide +kernel
theorem dX7_offer_136 : decode cX7_offer 136 = .ok (.aload_n 0, 1) := by decide +kernel
theorem dX7_offer_137 : decode cX7_offer 137 = .ok (.getfield 39, 3) := by decide +kernel
theorem dX7_offer_140 : decode cX7_offer 140 = .ok (.iload_n 1, 1) := by decide +kernel
theorem dX7_offer_141 : decode cX7_offer 141 = .ok (.iaload, 1) := by decide +kernel
theorem dX7_offer_142 : decode cX7_offer 142 = .ok (.iastore, 1) := by decide +kernel
theorem dX7_offer_143 : decode cX7_offer 143 = .ok (.aload_n 0, 1) := by decide +kernel
theorem dX7_offer_144 : decode cX7_offer 144 = .ok (.getfield 60, 3) := by decide +kernel
theorem dX7_offer_147 : decode cX7_offer 147 = .ok (.aload_n 0, 1) := by decide +kernel
theorem dX7_offer_148 : decode cX7_offer 148 = .ok (.getfield 82, 3) := by decide +kernel
theorem dX7_offer_151 : decode cX7_offer 151 = .ok (.iload_n 2, 1) := by decide +kernel
theorem dX7_offer_152 : decode cX7_offer 152 = .ok (.iastore, 1) := by decide +kernel
theorem dX7_offer_153 : decode cX7_offer 153 = .ok (.aload_n 0, 1) := by decide +kernel
theorem dX7_offer_154 : decode cX7_offer 154 = .ok (.dup, 1) := by decide +kernel
theorem dX7_offer_155 : decode cX7_offer 155 = .ok (.getfield 82, 3) := by decide +kernel
theorem dX7_offer_158 : decode cX7_offer 158 = .ok (.iconst 1, 1) := by decide +kernel
theorem dX7_offer_159 : decode cX7_offer 159 = .ok (.iadd, 1) := by decide +kernel
theorem dX7_offer_160 : decode cX7_offer 160 = .ok (.putfield 82, 3) := by decide +kernel
theorem dX7_offer_163 : decode cX7_offer 163 = .ok (.aload_n 0, 1) := by decide +kernel
theorem dX7_offer_164 : decode cX7_offer 164 = .ok (.getfield 82, 3) := by decide +kernel
theorem dX7_offer_167 : decode cX7_offer 167 = .ok (.iconst 1, 1) := by decide +kernel
theorem dX7_offer_168 : decode cX7_offer 168 = .ok (.isub, 1) := by decide +kernel
theorem dX7_offer_169 : decode cX7_offer 169 = .ok (.ireturn, 1) := by decide +kernel
set_option maxRecDepth 20000 in
theorem ggX7_takeBack_X7_isOffer : GoodIn wsX7_takeBack wsX7_isOffer := goodIn_r _ [7, 8, 9, 10, 6, 11, 23, 24, 25, 26, 27, 28, 29, 30, 31, 32, 33, 34, 35, 36, 37, 38, 39, 40, 41, 42, 43, 44, 45] (by decide +kernel) (by decide +kernel)
set_option maxRecDepth 20000 in
theorem gX7_takeBack_X7_isOffer : GoodIn wsX7_takeBack (wsV RX7 143 RX7 yX7_isOffer wsX7_isOffer) := goodIn_app (goodIn_of _ (by decide +kernel)) ggX7_takeBack_X7_isOffer
set_option maxRecDepth 20000 in
theorem ggX7_takeBack_X7_opens : GoodIn wsX7_takeBack wsX7_opens := goodIn_r _ [15, 1, 16, 2, 17, 23, 24, 25, 26, 27, 28, 29, 30, 31, 32, 33, 34, 35, 36, 37, 38, 39, 40, 41, 42, 43, 44, 45] (by decide +kernel) (by decide +kernel)
set_option maxRecDepth 20000 in
theorem gX7_takeBack_X7_opens : GoodIn wsX7_takeBack (wsV RX7 140 RX7 yX7_opens wsX7_opens) := goodIn_app (goodIn_of _ (by decide +kernel)) ggX7_takeBack_X7_opens
set_option maxRecDepth 20000 in
theorem ggX7_takeBack_X7_goes : GoodIn wsX7_takeBack wsX7_goes := goodIn_r _ [21, 22, 23, 24, 25, 26, 27, 28, 29, 30, 31, 32, 33, 34, 35, 36, 37, 38, 39, 40, 41, 42, 43, 44, 45] (by decide +kernel) (by decide +kernel)
set_option maxRecDepth 20000 in
theorem gX7_takeBack_X7_goes : GoodIn wsX7_takeBack (wsV RX7 89 RX7 yX7_goes wsX7_goes) := goodIn_app (goodIn_of _ (by decide +kernel)) ggX7_takeBack_X7_goes
theorem dX7_takeBack_0 : decode cX7_takeBack 0 = .ok (.aload_n 0, 1) := by decide +kernel
theorem dX7_takeBack_1 : decode cX7_takeBack 1 = .ok (.iload_n 1, 1) := by decide +kernel
theorem dX7_takeBack_2 : decode cX7_takeBack 2 = .ok (.invokevirtual 143, 3) := by decide +kernel
theorem dX7_takeBack_5 : decode cX7_takeBack 5 = .ok (.istore_n 2, 1) := by decide +kernel
theorem dX7_takeBack_6 : decode cX7_takeBack 6 = .ok (.aload_n 0, 1) := by decide +kernel
theorem dX7_takeBack_7 : decode cX7_takeBack 7 = .ok (.iload_n 2, 1) := by decide +kernel
theorem dX7_takeBack_8 : decode cX7_takeBack 8 = .ok (.iload_n 2, 1) := by decide +kernel
theorem dX7_takeBack_9 : decode cX7_takeBack 9 = .ok (.ifCond .eq 15, 3) := by decide +kernel
theorem dX7_takeBack_12 : decode cX7_takeBack 12 = .ok (.aload_n 0, 1) := by decide +kernel
theorem dX7_takeBack_13 : decode cX7_takeBack 13 = .ok (.iload_n 1, 1) := by decide +kernel
theorem dX7_takeBack_14 : decode cX7_takeBack 14 = .ok (.invokevirtual 140, 3) := by decide +kernel
theorem dX7_takeBack_17 : decode cX7_takeBack 17 = .ok (.ifCond .eq 7, 3) := by decide +kernel
theorem dX7_takeBack_20 : decode cX7_takeBack 20 = .ok (.iconst 1, 1) := by decide +kernel
theorem dX7_takeBack_21 : decode cX7_takeBack 21 = .ok (.goto 4, 3) := by decide +kernel
theorem dX7_takeBack_24 : decode cX7_takeBack 24 = .ok (.iconst 0, 1) := by decide +kernel
theorem dX7_takeBack_25 : decode cX7_takeBack 25 = .ok (.iconst 1, 1) := by decide +kernel
theorem dX7_takeBack_26 : decode cX7_takeBack 26 = .ok (.invokevirtual 89, 3) := by decide +kernel
theorem dX7_takeBack_29 : decode cX7_takeBack 29 = .ok (.ifCond .ne 5, 3) := by decide +kernel
theorem dX7_takeBack_32 : decode cX7_takeBack 32 = .ok (.iconst 0, 1) := by decide +kernel
theorem dX7_takeBack_33 : decode cX7_takeBack 33 = .ok (.ireturn, 1) := by decide +kernel
theorem dX7_takeBack_34 : decode cX7_takeBack 34 = .ok (.aload_n 0, 1) := by decide +kernel
theorem dX7_takeBack_35 : decode cX7_takeBack 35 = .ok (.getfield 63, 3) := by decide +kernel
theorem dX7_takeBack_38 : decode cX7_takeBack 38 = .ok (.iload_n 1, 1) := by decide +kernel
theorem dX7_takeBack_39 : decode cX7_takeBack 39 = .ok (.iconst 1, 1) := by decide +kernel
theorem dX7_takeBack_40 : decode cX7_takeBack 40 = .ok (.bastore, 1) := by decide +kernel
theorem dX7_takeBack_41 : decode cX7_takeBack 41 = .ok (.aload_n 0, 1) := by decide +kernel
theorem dX7_takeBack_42 : decode cX7_takeBack 42 = .ok (.getfield 54, 3) := by decide +kernel
theorem dX7_takeBack_45 : decode cX7_takeBack 45 = .ok (.iload_n 1, 1) := by decide +kernel
theorem dX7_takeBack_46 : decode cX7_takeBack 46 = .ok (.iaload, 1) := by decide +kernel
theorem dX7_takeBack_47 : decode cX7_takeBack 47 = .ok (.ireturn, 1) := by decide +kernel
theorem dX7_gives_0 : decode cX7_gives 0 = .ok (.aload_n 0, 1) := by decide +kernel
theorem dX7_gives_1 : decode cX7_gives 1 = .ok (.getfield 57, 3) := by decide +kernel
theorem dX7_gives_4 : decode cX7_gives 4 = .ok (.iload_n 1, 1) := by decide +kernel
theorem dX7_gives_5 : decode cX7_gives 5 = .ok (.iaload, 1) := by decide +kernel
theorem dX7_gives_6 : decode cX7_gives 6 = .ok (.aload_n 0, 1) := by decide +kernel
theorem dX7_gives_7 : decode cX7_gives 7 = .ok (.getfield 57, 3) := by decide +kernel
theorem dX7_gives_10 : decode cX7_gives 10 = .ok (.iload_n 2, 1) := by decide +kernel
theorem dX7_gives_11 : decode cX7_gives 11 = .ok (.iaload, 1) := by decide +kernel
theorem dX7_gives_12 : decode cX7_gives 12 = .ok (.if_icmp .eq 27, 3) := by decide +kernel
theorem dX7_gives_15 : decode cX7_gives 15 = .ok (.aload_n 0, 1) := by decide +kernel
theorem dX7_gives_16 : decode cX7_gives 16 = .ok (.getfield 33, 3) := by decide +kernel
theorem dX7_gives_19 : decode cX7_gives 19 = .ok (.aload_n 0, 1) := by decide +kernel
theorem dX7_gives_20 : decode cX7_gives 20 = .ok (.getfield 54, 3) := by decide +kernel
theorem dX7_gives_23 : decode cX7_gives 23 = .ok (.iload_n 1, 1) := by decide +kernel
theorem dX7_gives_24 : decode cX7_gives 24 = .ok (.iaload, 1) := by decide +kernel
theorem dX7_gives_25 : decode cX7_gives 25 = .ok (.iaload, 1) := by decide +kernel
theorem dX7_gives_26 : decode cX7_gives 26 = .ok (.aload_n 0, 1) := by decide +kernel
theorem dX7_gives_27 : decode cX7_gives 27 = .ok (.getfield 60, 3) := by decide +kernel
theorem dX7_gives_30 : decode cX7_gives 30 = .ok (.iload_n 2, 1) := by decide +kernel
theorem dX7_gives_31 : decode cX7_gives 31 = .ok (.iaload, 1) := by decide +kernel
theorem dX7_gives_32 : decode cX7_gives 32 = .ok (.if_icmp .ne 7, 3) := by decide +kernel
theorem dX7_gives_35 : decode cX7_gives 35 = .ok (.iconst 1, 1) := by decide +kernel
theorem dX7_gives_36 : decode cX7_gives 36 = .ok (.goto 4, 3) := by decide +kernel
theorem dX7_gives_39 : decode cX7_gives 39 = .ok (.iconst 0, 1) := by decide +kernel
theorem dX7_gives_40 : decode cX7_gives 40 = .ok (.ireturn, 1) := by decide +kernel
set_option maxRecDepth 20000 in
theorem ggX7_fits_X7_opens : GoodIn wsX7_fits wsX7_opens := goodIn_r _ [7, 8, 9, 10, 2, 17, 18, 19, 20, 21, 22, 23, 24, 25, 26, 27, 28, 29, 30, 31, 32, 33, 34, 35, 36, 37, 38, 39] (by decide +kernel) (by decide +kernel)
set_option maxRecDepth 20000 in
theorem gX7_fits_X7_opens : GoodIn wsX7_fits (wsV RX7 140 RX7 yX7_opens wsX7_opens) := goodIn_app (goodIn_of _ (by decide +kernel)) ggX7_fits_X7_opens
set_option maxRecDepth 20000 in
theorem ggX7_fits_X7_gives : GoodIn wsX7_fits wsX7_gives := goodIn_r _ [14, 2, 15, 10, 16, 17, 18, 19, 20, 21, 22, 23, 24, 25, 26, 27, 28, 29, 30, 31, 32, 33, 34, 35, 36, 37, 38, 39] (by decide +kernel) (by decide +kernel)
set_option maxRecDepth 20000 in
theorem gX7_fits_X7_gives : GoodIn wsX7_fits (wsV RX7 146 RX7 yX7_gives wsX7_gives) := goodIn_app (goodIn_of _ (by decide +kernel)) ggX7_fits_X7_gives
theorem dX7_fits_0 : decode cX7_fits 0 = .ok (.aload_n 0, 1) := by decide +kernel
theorem dX7_fits_1 : decode cX7_fits 1 = .ok (.getfield 66, 3) := by decide +kernel
theorem dX7_fits_4 : decode cX7_fits 4 = .ok (.iload_n 1, 1) := by decide +kernel
theorem dX7_fits_5 : decode cX7_fits 5 = .ok (.iaload, 1) := by decide +kernel
theorem dX7_fits_6 : decode cX7_fits 6 = .ok (.istore_n 3, 1) := by decide +kernel
theorem dX7_fits_7 : decode cX7_fits 7 = .ok (.aload_n 0, 1) := by decide +kernel
theorem dX7_fits_8 : decode cX7_fits 8 = .ok (.iload_n 3, 1) := by decide +kernel
theorem dX7_fits_9 : decode cX7_fits 9 = .ok (.invokevirtual 140, 3) := by decide +kernel
theorem dX7_fits_12 : decode cX7_fits 12 = .ok (.ifCond .eq 37, 3) := by decide +kernel
theorem dX7_fits_15 : decode cX7_fits 15 = .ok (.iload_n 1, 1) := by decide +kernel
theorem dX7_fits_16 : decode cX7_fits 16 = .ok (.ifCond .eq 29, 3) := by decide +kernel
theorem dX7_fits_19 : decode cX7_fits 19 = .ok (.iload_n 3, 1) := by decide +kernel
theorem dX7_fits_20 : decode cX7_fits 20 = .ok (.aload_n 0, 1) := by decide +kernel
theorem dX7_fits_21 : decode cX7_fits 21 = .ok (.getfield 66, 3) := by decide +kernel
theorem dX7_fits_24 : decode cX7_fits 24 = .ok (.iconst 0, 1) := by decide +kernel
theorem dX7_fits_25 : decode cX7_fits 25 = .ok (.iaload, 1) := by decide +kernel
theorem dX7_fits_26 : decode cX7_fits 26 = .ok (.if_icmp .le 23, 3) := by decide +kernel
theorem dX7_fits_29 : decode cX7_fits 29 = .ok (.aload_n 0, 1) := by decide +kernel
theorem dX7_fits_30 : decode cX7_fits 30 = .ok (.aload_n 0, 1) := by decide +kernel
theorem dX7_fits_31 : decode cX7_fits 31 = .ok (.getfield 66, 3) := by decide +kernel
theorem dX7_fits_34 : decode cX7_fits 34 = .ok (.iload_n 1, 1) := by decide +kernel
theorem dX7_fits_35 : decode cX7_fits 35 = .ok (.iconst 1, 1) := by decide +kernel
theorem dX7_fits_36 : decode cX7_fits 36 = .ok (.isub, 1) := by decide +kernel
theorem dX7_fits_37 : decode cX7_fits 37 = .ok (.iaload, 1) := by decide +kernel
theorem dX7_fits_38 : decode cX7_fits 38 = .ok (.iload_n 3, 1) := by decide +kernel
theorem dX7_fits_39 : decode cX7_fits 39 = .ok (.invokevirtual 146, 3) := by decide +kernel
theorem dX7_fits_42 : decode cX7_fits 42 = .ok (.ifCond .eq 7, 3) := by decide +kernel
theorem dX7_fits_45 : decode cX7_fits 45 = .ok (.iconst 1, 1) := by decide +kernel
theorem dX7_fits_46 : decode cX7_fits 46 = .ok (.goto 4, 3) := by decide +kernel
theorem dX7_fits_49 : decode cX7_fits 49 = .ok (.iconst 0, 1) := by decide +kernel
theorem dX7_fits_50 : decode cX7_fits 50 = .ok (.istore 4, 2) := by decide +kernel
theorem dX7_fits_52 : decode cX7_fits 52 = .ok (.iconst 0, 1) := by decide +kernel
theorem dX7_fits_53 : decode cX7_fits 53 = .ok (.istore 5, 2) := by decide +kernel
theorem dX7_fits_55 : decode cX7_fits 55 = .ok (.iload 5, 2) := by decide +kernel
theorem dX7_fits_57 : decode cX7_fits 57 = .ok (.iload_n 1, 1) := by decide +kernel
theorem dX7_fits_58 : decode cX7_fits 58 = .ok (.if_icmp .ge 42, 3) := by decide +kernel
theorem dX7_fits_61 : decode cX7_fits 61 = .ok (.iload 4, 2) := by decide +kernel
theorem dX7_fits_63 : decode cX7_fits 63 = .ok (.ifCond .eq 28, 3) := by decide +kernel
theorem dX7_fits_66 : decode cX7_fits 66 = .ok (.aload_n 0, 1) := by decide +kernel
theorem dX7_fits_67 : decode cX7_fits 67 = .ok (.getfield 57, 3) := by decide +kernel
theorem dX7_fits_70 : decode cX7_fits 70 = .ok (.aload_n 0, 1) := by decide +kernel
theorem dX7_fits_71 : decode cX7_fits 71 = .ok (.getfield 66, 3) := by decide +kernel
theorem dX7_fits_74 : decode cX7_fits 74 = .ok (.iload 5, 2) := by decide +kernel
theorem dX7_fits_76 : decode cX7_fits 76 = .ok (.iaload, 1) := by decide +kernel
theorem dX7_fits_77 : decode cX7_fits 77 = .ok (.iaload, 1) := by decide +kernel
theorem dX7_fits_78 : decode cX7_fits 78 = .ok (.aload_n 0, 1) := by decide +kernel
theorem dX7_fits_79 : decode cX7_fits 79 = .ok (.getfield 57, 3) := by decide +kernel
theorem dX7_fits_82 : decode cX7_fits 82 = .ok (.iload_n 3, 1) := by decide +kernel
theorem dX7_fits_83 : decode cX7_fits 83 = .ok (.iaload, 1) := by decide +kernel
theorem dX7_fits_84 : decode cX7_fits 84 = .ok (.if_icmp .eq 7, 3) := by decide +kernel
theorem dX7_fits_87 : decode cX7_fits 87 = .ok (.iconst 1, 1) := by decide +kernel
theorem dX7_fits_88 : decode cX7_fits 88 = .ok (.goto 4, 3) := by decide +kernel
theorem dX7_fits_91 : decode cX7_fits 91 = .ok (.iconst 0, 1) := by decide +kernel
theorem dX7_fits_92 : decode cX7_fits 92 = .ok (.istore 4, 2) := by decide +kernel
theorem dX7_fits_94 : decode cX7_fits 94 = .ok (.iinc 5 1, 3) := by decide +kernel
theorem dX7_fits_97 : decode cX7_fits 97 = .ok (.goto (-42), 3) := by decide +kernel
theorem dX7_fits_100 : decode cX7_fits 100 = .ok (.iload 4, 2) := by decide +kernel
theorem dX7_fits_102 : decode cX7_fits 102 = .ok (.ifCond .eq 28, 3) := by decide +kernel
theorem dX7_fits_105 : decode cX7_fits 105 = .ok (.iload_n 1, 1) := by decide +kernel
theorem dX7_fits_106 : decode cX7_fits 106 = .ok (.iload_n 2, 1) := by decide +kernel
theorem dX7_fits_107 : decode cX7_fits 107 = .ok (.iconst 1, 1) := by decide +kernel
theorem dX7_fits_108 : decode cX7_fits 108 = .ok (.isub, 1) := by decide +kernel
theorem dX7_fits_109 : decode cX7_fits 109 = .ok (.if_icmp .lt 17, 3) := by decide +kernel
theorem dX7_fits_112 : decode cX7_fits 112 = .ok (.aload_n 0, 1) := by decide +kernel
theorem dX7_fits_113 : decode cX7_fits 113 = .ok (.iload_n 3, 1) := by decide +kernel
theorem dX7_fits_114 : decode cX7_fits 114 = .ok (.aload_n 0, 1) := by decide +kernel
theorem dX7_fits_115 : decode cX7_fits 115 = .ok (.getfield 66, 3) := by decide +kernel
theorem dX7_fits_118 : decode cX7_fits 118 = .ok (.iconst 0, 1) := by decide +kernel
theorem dX7_fits_119 : decode cX7_fits 119 = .ok (.iaload, 1) := by decide +kernel
theorem dX7_fits_120 : decode cX7_fits 120 = .ok (.invokevirtual 146, 3) := by decide +kernel
theorem dX7_fits_123 : decode cX7_fits 123 = .ok (.ifCond .eq 7, 3) := by decide +kernel
theorem dX7_fits_126 : decode cX7_fits 126 = .ok (.iconst 1, 1) := by decide +kernel
theorem dX7_fits_127 : decode cX7_fits 127 = .ok (.goto 4, 3) := by decide +kernel
theorem dX7_fits_130 : decode cX7_fits 130 = .ok (.iconst 0, 1) := by decide +kernel
theorem dX7_fits_131 : decode cX7_fits 131 = .ok (.ireturn, 1) := by decide +kernel
set_option maxRecDepth 20000 in
theorem ggX7_hasRing_X7_fits : GoodIn wsX7_hasRing wsX7_fits := goodIn_r _ [7, 1, 8, 9, 10, 11, 6, 12, 13, 14, 15, 16, 17, 18, 19, 20, 21, 22, 23, 24, 25, 26, 27, 28, 29, 30, 31, 32, 33, 34, 35, 36, 37, 38, 39, 40, 41, 42, 43, 44] (by decide +kernel) (by decide +kernel)
set_option maxRecDepth 20000 in
theorem gX7_hasRing_X7_fits : GoodIn wsX7_hasRing (wsV RX7 149 RX7 yX7_fits wsX7_fits) := goodIn_app (goodIn_of _ (by decide +kernel)) ggX7_hasRing_X7_fits
theorem dX7_hasRing_0 : decode cX7_hasRing 0 = .ok (.iconst 0, 1) := by decide +kernel
theorem dX7_hasRing_1 : decode cX7_hasRing 1 = .ok (.istore_n 2, 1) := by decide +kernel
theorem dX7_hasRing_2 : decode cX7_hasRing 2 = .ok (.aload_n 0, 1) := by decide +kernel
theorem dX7_hasRing_3 : decode cX7_hasRing 3 = .ok (.getfield 66, 3) := by decide +kernel
theorem dX7_hasRing_6 : decode cX7_hasRing 6 = .ok (.iconst 0, 1) := by decide +kernel
theorem dX7_hasRing_7 : decode cX7_hasRing 7 = .ok (.iconst (-1), 1) := by decide +kernel
theorem dX7_hasRing_8 : decode cX7_hasRing 8 = .ok (.iastore, 1) := by decide +kernel
theorem dX7_hasRing_9 : decode cX7_hasRing 9 = .ok (.iload_n 2, 1) := by decide +kernel
theorem dX7_hasRing_10 : decode cX7_hasRing 10 = .ok (.ifCond .lt 63, 3) := by decide +kernel
theorem dX7_hasRing_13 : decode cX7_hasRing 13 = .ok (.aload_n 0, 1) := by decide +kernel
theorem dX7_hasRing_14 : decode cX7_hasRing 14 = .ok (.getfield 66, 3) := by decide +kernel
theorem dX7_hasRing_17 : decode cX7_hasRing 17 = .ok (.iload_n 2, 1) := by decide +kernel
theorem dX7_hasRing_18 : decode cX7_hasRing 18 = .ok (.dup2, 1) := by decide +kernel
theorem dX7_hasRing_19 : decode cX7_hasRing 19 = .ok (.iaload, 1) := by decide +kernel
theorem dX7_hasRing_20 : decode cX7_hasRing 20 = .ok (.iconst 1, 1) := by decide +kernel
theorem dX7_hasRing_21 : decode cX7_hasRing 21 = .ok (.iadd, 1) := by decide +kernel
theorem dX7_hasRing_22 : decode cX7_hasRing 22 = .ok (.iastore, 1) := by decide +kernel
theorem dX7_hasRing_23 : decode cX7_hasRing 23 = .ok (.aload_n 0, 1) := by decide +kernel
theorem dX7_hasRing_24 : decode cX7_hasRing 24 = .ok (.getfield 66, 3) := by decide +kernel
theorem dX7_hasRing_27 : decode cX7_hasRing 27 = .ok (.iload_n 2, 1) := by decide +kernel
theorem dX7_hasRing_28 : decode cX7_hasRing 28 = .ok (.iaload, 1) := by decide +kernel
theorem dX7_hasRing_29 : decode cX7_hasRing 29 = .ok (.aload_n 0, 1) := by decide +kernel
theorem dX7_hasRing_30 : decode cX7_hasRing 30 = .ok (.getfield 82, 3) := by decide +kernel
theorem dX7_hasRing_33 : decode cX7_hasRing 33 = .ok (.if_icmp .ne 9, 3) := by decide +kernel
theorem dX7_hasRing_36 : decode cX7_hasRing 36 = .ok (.iinc 2 (-1), 3) := by decide +kernel
theorem dX7_hasRing_39 : decode cX7_hasRing 39 = .ok (.goto (-30), 3) := by decide +kernel
theorem dX7_hasRing_42 : decode cX7_hasRing 42 = .ok (.aload_n 0, 1) := by decide +kernel
theorem dX7_hasRing_43 : decode cX7_hasRing 43 = .ok (.iload_n 2, 1) := by decide +kernel
theorem dX7_hasRing_44 : decode cX7_hasRing 44 = .ok (.iload_n 1, 1) := by decide +kernel
theorem dX7_hasRing_45 : decode cX7_hasRing 45 = .ok (.invokevirtual 149, 3) := by decide +kernel
theorem dX7_hasRing_48 : decode cX7_hasRing 48 = .ok (.ifCond .eq (-39), 3) := by decide +kernel
theorem dX7_hasRing_51 : decode cX7_hasRing 51 = .ok (.iload_n 2, 1) := by decide +kernel
theorem dX7_hasRing_52 : decode cX7_hasRing 52 = .ok (.iload_n 1, 1) := by decide +kernel
theorem dX7_hasRing_53 : decode cX7_hasRing 53 = .ok (.iconst 1, 1) := by decide +kernel
theorem dX7_hasRing_54 : decode cX7_hasRing 54 = .ok (.isub, 1) := by decide +kernel
theorem dX7_hasRing_55 : decode cX7_hasRing 55 = .ok (.if_icmp .ne 5, 3) := by decide +kernel
theorem dX7_hasRing_58 : decode cX7_hasRing 58 = .ok (.iconst 1, 1) := by decide +kernel
theorem dX7_hasRing_59 : decode cX7_hasRing 59 = .ok (.ireturn, 1) := by decide +kernel
theorem dX7_hasRing_60 : decode cX7_hasRing 60 = .ok (.iinc 2 1, 3) := by decide +kernel
theorem dX7_hasRing_63 : decode cX7_hasRing 63 = .ok (.aload_n 0, 1) := by decide +kernel
theorem dX7_hasRing_64 : decode cX7_hasRing 64 = .ok (.getfield 66, 3) := by decide +kernel
theorem dX7_hasRing_67 : decode cX7_hasRing 67 = .ok (.iload_n 2, 1) := by decide +kernel
theorem dX7_hasRing_68 : decode cX7_hasRing 68 = .ok (.iconst (-1), 1) := by decide +kernel
theorem dX7_hasRing_69 : decode cX7_hasRing 69 = .ok (.iastore, 1) := by decide +kernel
theorem dX7_hasRing_70 : decode cX7_hasRing 70 = .ok (.goto (-61), 3) := by decide +kernel
theorem dX7_hasRing_73 : decode cX7_hasRing 73 = .ok (.iconst 0, 1) := by decide +kernel
theorem dX7_hasRing_74 : decode cX7_hasRing 74 = .ok (.ireturn, 1) := by decide +kernel
set_option maxRecDepth 20000 in
theorem ggX7_first_X7_hasRing : GoodIn wsX7_first wsX7_hasRing := goodIn_r _ [5, 6, 7, 8, 9, 10, 4, 11, 12, 13, 14, 15, 16, 17, 18, 19, 20, 21, 22, 23, 24, 25, 26, 27, 28, 29, 30, 31, 32, 33, 34, 35, 36, 37, 38, 39, 40, 41, 42, 43, 44, 45, 46, 47, 48] (by decide +kernel) (by decide +kernel)
set_option maxRecDepth 20000 in
theorem gX7_first_X7_hasRing : GoodIn wsX7_first (wsV RX7 152 RX7 yX7_hasRing wsX7_hasRing) := goodIn_app (goodIn_of _ (by decide +kernel)) ggX7_first_X7_hasRing
theorem dX7_first_0 : decode cX7_first 0 = .ok (.aload_n 0, 1) := by decide +kernel
theorem dX7_first_1 : decode cX7_first 1 = .ok (.iconst 2, 1) := by decide +kernel
theorem dX7_first_2 : decode cX7_first 2 = .ok (.invokevirtual 152, 3) := by decide +kernel
theorem dX7_first_5 : decode cX7_first 5 = .ok (.ifCond .eq 7, 3) := by decide +kernel
theorem dX7_first_8 : decode cX7_first 8 = .ok (.iconst 2, 1) := by decide +kernel
theorem dX7_first_9 : decode cX7_first 9 = .ok (.goto 28, 3) := by decide +kernel
theorem dX7_first_12 : decode cX7_first 12 = .ok (.aload_n 0, 1) := by decide +kernel
theorem dX7_first_13 : decode cX7_first 13 = .ok (.iconst 3, 1) := by decide +kernel
theorem dX7_first_14 : decode cX7_first 14 = .ok (.invokevirtual 152, 3) := by decide +kernel
theorem dX7_first_17 : decode cX7_first 17 = .ok (.ifCond .eq 7, 3) := by decide +kernel
theorem dX7_first_20 : decode cX7_first 20 = .ok (.iconst 3, 1) := by decide +kernel
theorem dX7_first_21 : decode cX7_first 21 = .ok (.goto 16, 3) := by decide +kernel
theorem dX7_first_24 : decode cX7_first 24 = .ok (.aload_n 0, 1) := by decide +kernel
theorem dX7_first_25 : decode cX7_first 25 = .ok (.iconst 4, 1) := by decide +kernel
theorem dX7_first_26 : decode cX7_first 26 = .ok (.invokevirtual 152, 3) := by decide +kernel
theorem dX7_first_29 : decode cX7_first 29 = .ok (.ifCond .eq 7, 3) := by decide +kernel
theorem dX7_first_32 : decode cX7_first 32 = .ok (.iconst 4, 1) := by decide +kernel
theorem dX7_first_33 : decode cX7_first 33 = .ok (.goto 4, 3) := by decide +kernel
theorem dX7_first_36 : decode cX7_first 36 = .ok (.iconst 0, 1) := by decide +kernel
theorem dX7_first_37 : decode cX7_first 37 = .ok (.ireturn, 1) := by decide +kernel
set_option maxRecDepth 20000 in
theorem ggX7_trade_X7_first : GoodIn wsX7_trade wsX7_first := goodIn_r _ [11, 12, 13, 14, 10, 15, 2, 16, 17, 18, 19, 20, 5, 21, 22, 23, 24, 6, 3, 4, 25, 26, 27, 28, 29, 30, 31, 32, 33, 34, 35, 36, 37, 38, 39, 40, 41, 42, 43, 44, 45, 46, 47, 48, 49, 50, 51, 52, 53] (by decide +kernel) (by decide +kernel)
set_option maxRecDepth 20000 in
theorem gX7_trade_X7_first : GoodIn wsX7_trade (wsV RX7 155 RX7 yX7_first wsX7_first) := goodIn_app (goodIn_of _ (by decide +kernel)) ggX7_trade_X7_first
theorem dX7_trade_0 : decode cX7_trade 0 = .ok (.aload_n 0, 1) := by decide +kernel
theorem dX7_trade_1 : decode cX7_trade 1 = .ok (.iconst 0, 1) := by decide +kernel
theorem dX7_trade_2 : decode cX7_trade 2 = .ok (.putfield 69, 3) := by decide +kernel
theorem dX7_trade_5 : decode cX7_trade 5 = .ok (.aload_n 0, 1) := by decide +kernel
theorem dX7_trade_6 : decode cX7_trade 6 = .ok (.invokevirtual 155, 3) := by decide +kernel
theorem dX7_trade_9 : decode cX7_trade 9 = .ok (.istore_n 1, 1) := by decide +kernel
theorem dX7_trade_10 : decode cX7_trade 10 = .ok (.iconst 0, 1) := by decide +kernel
theorem dX7_trade_11 : decode cX7_trade 11 = .ok (.istore_n 2, 1) := by decide +kernel
theorem dX7_trade_12 : decode cX7_trade 12 = .ok (.iload_n 2, 1) := by decide +kernel
theorem dX7_trade_13 : decode cX7_trade 13 = .ok (.iload_n 1, 1) := by decide +kernel
theorem dX7_trade_14 : decode cX7_trade 14 = .ok (.if_icmp .ge 63, 3) := by decide +kernel
theorem dX7_trade_17 : decode cX7_trade 17 = .ok (.aload_n 0, 1) := by decide +kernel
theorem dX7_trade_18 : decode cX7_trade 18 = .ok (.getfield 66, 3) := by decide +kernel
theorem dX7_trade_21 : decode cX7_trade 21 = .ok (.iload_n 2, 1) := by decide +kernel
theorem dX7_trade_22 : decode cX7_trade 22 = .ok (.iconst 1, 1) := by decide +kernel
theorem dX7_trade_23 : decode cX7_trade 23 = .ok (.iadd, 1) := by decide +kernel
theorem dX7_trade_24 : decode cX7_trade 24 = .ok (.iload_n 1, 1) := by decide +kernel
theorem dX7_trade_25 : decode cX7_trade 25 = .ok (.if_icmp .ne 7, 3) := by decide +kernel
theorem dX7_trade_28 : decode cX7_trade 28 = .ok (.iconst 0, 1) := by decide +kernel
theorem dX7_trade_29 : decode cX7_trade 29 = .ok (.goto 6, 3) := by decide +kernel
theorem dX7_trade_32 : decode cX7_trade 32 = .ok (.iload_n 2, 1) := by decide +kernel
theorem dX7_trade_33 : decode cX7_trade 33 = .ok (.iconst 1, 1) := by decide +kernel
theorem dX7_trade_34 : decode cX7_trade 34 = .ok (.iadd, 1) := by decide +kernel
theorem dX7_trade_35 : decode cX7_trade 35 = .ok (.iaload, 1) := by decide +kernel
theorem dX7_trade_36 : decode cX7_trade 36 = .ok (.istore_n 3, 1) := by decide +kernel
theorem dX7_trade_37 : decode cX7_trade 37 = .ok (.aload_n 0, 1) := by decide +kernel
theorem dX7_trade_38 : decode cX7_trade 38 = .ok (.getfield 39, 3) := by decide +kernel
theorem dX7_trade_41 : decode cX7_trade 41 = .ok (.aload_n 0, 1) := by decide +kernel
theorem dX7_trade_42 : decode cX7_trade 42 = .ok (.getfield 54, 3) := by decide +kernel
theorem dX7_trade_45 : decode cX7_trade 45 = .ok (.aload_n 0, 1) := by decide +kernel
theorem dX7_trade_46 : decode cX7_trade 46 = .ok (.getfield 66, 3) := by decide +kernel
theorem dX7_trade_49 : decode cX7_trade 49 = .ok (.iload_n 2, 1) := by decide +kernel
theorem dX7_trade_50 : decode cX7_trade 50 = .ok (.iaload, 1) := by decide +kernel
theorem dX7_trade_51 : decode cX7_trade 51 = .ok (.iaload, 1) := by decide +kernel
theorem dX7_trade_52 : decode cX7_trade 52 = .ok (.aload_n 0, 1) := by decide +kernel
theorem dX7_trade_53 : decode cX7_trade 53 = .ok (.getfield 57, 3) := by decide +kernel
theorem dX7_trade_56 : decode cX7_trade 56 = .ok (.iload_n 3, 1) := by decide +kernel
theorem dX7_trade_57 : decode cX7_trade 57 = .ok (.iaload, 1) := by decide +kernel
theorem dX7_trade_58 : decode cX7_trade 58 = .ok (.iastore, 1) := by decide +kernel
theorem dX7_trade_59 : decode cX7_trade 59 = .ok (.aload_n 0, 1) := by decide +kernel
theorem dX7_trade_60 : decode cX7_trade 60 = .ok (.getfield 63, 3) := by decide +kernel
theorem dX7_trade_63 : decode cX7_trade 63 = .ok (.aload_n 0, 1) := by decide +kernel
theorem dX7_trade_64 : decode cX7_trade 64 = .ok (.getfield 66, 3) := by decide +kernel
theorem dX7_trade_67 : decode cX7_trade 67 = .ok (.iload_n 2, 1) := by decide +kernel
theorem dX7_trade_68 : decode cX7_trade 68 = .ok (.iaload, 1) := by decide +kernel
theorem dX7_trade_69 : decode cX7_trade 69 = .ok (.iconst 1, 1) := by decide +kernel
theorem dX7_trade_70 : decode cX7_trade 70 = .ok (.bastore, 1) := by decide +kernel
theorem dX7_trade_71 : decode cX7_trade 71 = .ok (.iinc 2 1, 3) := by decide +kernel
theorem dX7_trade_74 : decode cX7_trade 74 = .ok (.goto (-62), 3) := by decide +kernel
theorem dX7_trade_77 : decode cX7_trade 77 = .ok (.iload_n 1, 1) := by decide +kernel
theorem dX7_trade_78 : decode cX7_trade 78 = .ok (.ireturn, 1) := by decide +kernel
set_option maxRecDepth 20000 in
theorem ggX7_cards_X7_told : GoodIn wsX7_cards wsX7_told := goodIn_r _ [6, 7, 8, 9, 10, 11, 12, 13, 14, 15, 16, 17, 18, 19, 20, 21, 22, 23, 24, 25, 26, 27, 28, 29, 30] (by decide +kernel) (by decide +kernel)
set_option maxRecDepth 20000 in
theorem gX7_cards_X7_told : GoodIn wsX7_cards (wsV RX7 158 RX7 yX7_told wsX7_told) := goodIn_app (goodIn_of _ (by decide +kernel)) ggX7_cards_X7_told
theorem dX7_cards_0 : decode cX7_cards 0 = .ok (.aload_n 0, 1) := by decide +kernel
theorem dX7_cards_1 : decode cX7_cards 1 = .ok (.aload_n 0, 1) := by decide +kernel
theorem dX7_cards_2 : decode cX7_cards 2 = .ok (.getfield 76, 3) := by decide +kernel
theorem dX7_cards_5 : decode cX7_cards 5 = .ok (.invokevirtual 158, 3) := by decide +kernel
theorem dX7_cards_8 : decode cX7_cards 8 = .ok (.ireturn, 1) := by decide +kernel
set_option maxRecDepth 20000 in
theorem ggX7_printOf_X7_isCard : GoodIn wsX7_printOf wsX7_isCard := goodIn_r _ [7, 8, 9, 10, 6, 11, 17, 18, 19, 20, 21, 22, 23, 24, 25, 26, 27, 28, 29, 30, 31, 32, 33, 34, 35, 36, 37, 38, 39] (by decide +kernel) (by decide +kernel)
set_option maxRecDepth 20000 in
theorem gX7_printOf_X7_isCard : GoodIn wsX7_printOf (wsV RX7 113 RX7 yX7_isCard wsX7_isCard) := goodIn_app (goodIn_of _ (by decide +kernel)) ggX7_printOf_X7_isCard
set_option maxRecDepth 20000 in
theorem ggX7_printOf_X7_goes : GoodIn wsX7_printOf wsX7_goes := goodIn_r _ [15, 16, 17, 18, 19, 20, 21, 22, 23, 24, 25, 26, 27, 28, 29, 30, 31, 32, 33, 34, 35, 36, 37, 38, 39] (by decide +kernel) (by decide +kernel)
set_option maxRecDepth 20000 in
theorem gX7_printOf_X7_goes : GoodIn wsX7_printOf (wsV RX7 89 RX7 yX7_goes wsX7_goes) := goodIn_app (goodIn_of _ (by decide +kernel)) ggX7_printOf_X7_goes
theorem dX7_printOf_0 : decode cX7_printOf 0 = .ok (.aload_n 0, 1) := by decide +kernel
theorem dX7_printOf_1 : decode cX7_printOf 1 = .ok (.aload_n 0, 1) := by decide +kernel
theorem dX7_printOf_2 : decode cX7_printOf 2 = .ok (.iload_n 1, 1) := by decide +kernel
theorem dX7_printOf_3 : decode cX7_printOf 3 = .ok (.invokevirtual 113, 3) := by decide +kernel
theorem dX7_printOf_6 : decode cX7_printOf 6 = .ok (.iconst 1, 1) := by decide +kernel
theorem dX7_printOf_7 : decode cX7_printOf 7 = .ok (.iconst 1, 1) := by decide +kernel
theorem dX7_printOf_8 : decode cX7_printOf 8 = .ok (.invokevirtual 89, 3) := by decide +kernel
theorem dX7_printOf_11 : decode cX7_printOf 11 = .ok (.ifCond .eq 22, 3) := by decide +kernel
theorem dX7_printOf_14 : decode cX7_printOf 14 = .ok (.bipush 100, 2) := by decide +kernel
theorem dX7_printOf_16 : decode cX7_printOf 16 = .ok (.aload_n 0, 1) := by decide +kernel
theorem dX7_printOf_17 : decode cX7_printOf 17 = .ok (.getfield 33, 3) := by decide +kernel
theorem dX7_printOf_20 : decode cX7_printOf 20 = .ok (.iload_n 1, 1) := by decide +kernel
theorem dX7_printOf_21 : decode cX7_printOf 21 = .ok (.iaload, 1) := by decide +kernel
theorem dX7_printOf_22 : decode cX7_printOf 22 = .ok (.imul, 1) := by decide +kernel
theorem dX7_printOf_23 : decode cX7_printOf 23 = .ok (.aload_n 0, 1) := by decide +kernel
theorem dX7_printOf_24 : decode cX7_printOf 24 = .ok (.getfield 36, 3) := by decide +kernel
theorem dX7_printOf_27 : decode cX7_printOf 27 = .ok (.iload_n 1, 1) := by decide +kernel
theorem dX7_printOf_28 : decode cX7_printOf 28 = .ok (.iaload, 1) := by decide +kernel
theorem dX7_printOf_29 : decode cX7_printOf 29 = .ok (.iadd, 1) := by decide +kernel
theorem dX7_printOf_30 : decode cX7_printOf 30 = .ok (.goto 4, 3) := by decide +kernel
theorem dX7_printOf_33 : decode cX7_printOf 33 = .ok (.iconst 0, 1) := by decide +kernel
theorem dX7_printOf_34 : decode cX7_printOf 34 = .ok (.ireturn, 1) := by decide +kernel
set_option maxRecDepth 20000 in
theorem ggX7_collectorOf_X7_isCard : GoodIn wsX7_collectorOf wsX7_isCard := goodIn_r _ [6, 7, 8, 9, 5, 10, 16, 17, 18, 19, 20, 21, 22, 23, 24, 25, 26, 27, 28, 29, 30, 31, 32, 33, 34, 35, 36, 37, 38] (by decide +kernel) (by decide +kernel)
set_option maxRecDepth 20000 in
theorem gX7_collectorOf_X7_isCard : GoodIn wsX7_collectorOf (wsV RX7 113 RX7 yX7_isCard wsX7_isCard) := goodIn_app (goodIn_of _ (by decide +kernel)) ggX7_collectorOf_X7_isCard
set_option maxRecDepth 20000 in
theorem ggX7_collectorOf_X7_goes : GoodIn wsX7_collectorOf wsX7_goes := goodIn_r _ [14, 15, 16, 17, 18, 19, 20, 21, 22, 23, 24, 25, 26, 27, 28, 29, 30, 31, 32, 33, 34, 35, 36, 37, 38] (by decide +kernel) (by decide +kernel)
set_option maxRecDepth 20000 in
theorem gX7_collectorOf_X7_goes : GoodIn wsX7_collectorOf (wsV RX7 89 RX7 yX7_goes wsX7_goes) := goodIn_app (goodIn_of _ (by decide +kernel)) ggX7_collectorOf_X7_goes
theorem dX7_collectorOf_0 : decode cX7_collectorOf 0 = .ok (.aload_n 0, 1) := by decide +kernel
theorem dX7_collectorOf_1 : decode cX7_collectorOf 1 = .ok (.aload_n 0, 1) := by decide +kernel
theorem dX7_collectorOf_2 : decode cX7_collectorOf 2 = .ok (.iload_n 1, 1) := by decide +kernel
theorem dX7_collectorOf_3 : decode cX7_collectorOf 3 = .ok (.invokevirtual 113, 3) := by decide +kernel
theorem dX7_collectorOf_6 : decode cX7_collectorOf 6 = .ok (.iconst 1, 1) := by decide +kernel
theorem dX7_collectorOf_7 : decode cX7_collectorOf 7 = .ok (.iconst 1, 1) := by decide +kernel
theorem dX7_collectorOf_8 : decode cX7_collectorOf 8 = .ok (.invokevirtual 89, 3) := by decide +kernel
theorem dX7_collectorOf_11 : decode cX7_collectorOf 11 = .ok (.ifCond .eq 12, 3) := by decide +kernel
theorem dX7_collectorOf_14 : decode cX7_collectorOf 14 = .ok (.aload_n 0, 1) := by decide +kernel
theorem dX7_collectorOf_15 : decode cX7_collectorOf 15 = .ok (.getfield 39, 3) := by decide +kernel
theorem dX7_collectorOf_18 : decode cX7_collectorOf 18 = .ok (.iload_n 1, 1) := by decide +kernel
theorem dX7_collectorOf_19 : decode cX7_collectorOf 19 = .ok (.iaload, 1) := by decide +kernel
theorem dX7_collectorOf_20 : decode cX7_collectorOf 20 = .ok (.goto 4, 3) := by decide +kernel
theorem dX7_collectorOf_23 : decode cX7_collectorOf 23 = .ok (.iconst 0, 1) := by decide +kernel
theorem dX7_collectorOf_24 : decode cX7_collectorOf 24 = .ok (.ireturn, 1) := by decide +kernel
set_option maxRecDepth 20000 in
theorem ggX7_has_X7_isCollector : GoodIn wsX7_has wsX7_isCollector := goodIn_r _ [7, 8, 9, 6, 10] (by decide +kernel) (by decide +kernel)
set_option maxRecDepth 20000 in
theorem gX7_has_X7_isCollector : GoodIn wsX7_has (va_wsS RX7 107 yX7_isCollector wsX7_isCollector) := goodIn_app (goodIn_of _ (by decide +kernel)) ggX7_has_X7_isCollector
set_option maxRecDepth 20000 in
theorem ggX7_has_X7_isKind : GoodIn wsX7_has wsX7_isKind := goodIn_r _ [13, 8, 9, 6, 10] (by decide +kernel) (by decide +kernel)
set_option maxRecDepth 20000 in
theorem gX7_has_X7_isKind : GoodIn wsX7_has (va_wsS RX7 85 yX7_isKind wsX7_isKind) := goodIn_app (goodIn_of _ (by decide +kernel)) ggX7_has_X7_isKind
set_option maxRecDepth 20000 in
theorem ggX7_has_X7_goes : GoodIn wsX7_has wsX7_goes := goodIn_r _ [17, 18, 19, 20, 21, 22, 23, 24, 25, 26, 27, 28, 29, 30, 31, 32, 33, 34, 35, 36, 37, 38, 39, 40, 41] (by decide +kernel) (by decide +kernel)
set_option maxRecDepth 20000 in
theorem gX7_has_X7_goes : GoodIn wsX7_has (wsV RX7 89 RX7 yX7_goes wsX7_goes) := goodIn_app (goodIn_of _ (by decide +kernel)) ggX7_has_X7_goes
theorem dX7_has_0 : decode cX7_has 0 = .ok (.iconst 0, 1) := by decide +kernel
theorem dX7_has_1 : decode cX7_has 1 = .ok (.istore_n 3, 1) := by decide +kernel
theorem dX7_has_2 : decode cX7_has 2 = .ok (.aload_n 0, 1) := by decide +kernel
theorem dX7_has_3 : decode cX7_has 3 = .ok (.iload_n 1, 1) := by decide +kernel
theorem dX7_has_4 : decode cX7_has 4 = .ok (.invokestatic 107, 3) := by decide +kernel
theorem dX7_has_7 : decode cX7_has 7 = .ok (.ifCond .eq 14, 3) := by decide +kernel
theorem dX7_has_10 : decode cX7_has 10 = .ok (.iload_n 2, 1) := by decide +kernel
theorem dX7_has_11 : decode cX7_has 11 = .ok (.invokestatic 85, 3) := by decide +kernel
theorem dX7_has_14 : decode cX7_has 14 = .ok (.ifCond .eq 7, 3) := by decide +kernel
theorem dX7_has_17 : decode cX7_has 17 = .ok (.iconst 1, 1) := by decide +kernel
theorem dX7_has_18 : decode cX7_has 18 = .ok (.goto 4, 3) := by decide +kernel
theorem dX7_has_21 : decode cX7_has 21 = .ok (.iconst 0, 1) := by decide +kernel
theorem dX7_has_22 : decode cX7_has 22 = .ok (.iconst 1, 1) := by decide +kernel
theorem dX7_has_23 : decode cX7_has 23 = .ok (.iconst 1, 1) := by decide +kernel
theorem dX7_has_24 : decode cX7_has 24 = .ok (.invokevirtual 89, 3) := by decide +kernel
theorem dX7_has_27 : decode cX7_has 27 = .ok (.istore 4, 2) := by decide +kernel
theorem dX7_has_29 : decode cX7_has 29 = .ok (.iconst 0, 1) := by decide +kernel
theorem dX7_has_30 : decode cX7_has 30 = .ok (.istore 5, 2) := by decide +kernel
theorem dX7_has_32 : decode cX7_has 32 = .ok (.iload 5, 2) := by decide +kernel
theorem dX7_has_34 : decode cX7_has 34 = .ok (.aload_n 0, 1) := by decide +kernel
theorem dX7_has_35 : decode cX7_has 35 = .ok (.getfield 76, 3) := by decide +kernel
theorem dX7_has_38 : decode cX7_has 38 = .ok (.if_icmp .ge 44, 3) := by decide +kernel
theorem dX7_has_41 : decode cX7_has 41 = .ok (.iload 4, 2) := by decide +kernel
theorem dX7_has_43 : decode cX7_has 43 = .ok (.ifCond .eq 39, 3) := by decide +kernel
theorem dX7_has_46 : decode cX7_has 46 = .ok (.iload_n 3, 1) := by decide +kernel
theorem dX7_has_47 : decode cX7_has 47 = .ok (.aload_n 0, 1) := by decide +kernel
theorem dX7_has_48 : decode cX7_has 48 = .ok (.getfield 39, 3) := by decide +kernel
theorem dX7_has_51 : decode cX7_has 51 = .ok (.iload 5, 2) := by decide +kernel
theorem dX7_has_53 : decode cX7_has 53 = .ok (.iaload, 1) := by decide +kernel
theorem dX7_has_54 : decode cX7_has 54 = .ok (.iload_n 1, 1) := by decide +kernel
theorem dX7_has_55 : decode cX7_has 55 = .ok (.if_icmp .ne 18, 3) := by decide +kernel
theorem dX7_has_58 : decode cX7_has 58 = .ok (.aload_n 0, 1) := by decide +kernel
theorem dX7_has_59 : decode cX7_has 59 = .ok (.getfield 33, 3) := by decide +kernel
theorem dX7_has_62 : decode cX7_has 62 = .ok (.iload 5, 2) := by decide +kernel
theorem dX7_has_64 : decode cX7_has 64 = .ok (.iaload, 1) := by decide +kernel
theorem dX7_has_65 : decode cX7_has 65 = .ok (.iload_n 2, 1) := by decide +kernel
theorem dX7_has_66 : decode cX7_has 66 = .ok (.if_icmp .ne 7, 3) := by decide +kernel
theorem dX7_has_69 : decode cX7_has 69 = .ok (.iconst 1, 1) := by decide +kernel
theorem dX7_has_70 : decode cX7_has 70 = .ok (.goto 4, 3) := by decide +kernel
theorem dX7_has_73 : decode cX7_has 73 = .ok (.iconst 0, 1) := by decide +kernel
theorem dX7_has_74 : decode cX7_has 74 = .ok (.iadd, 1) := by decide +kernel
theorem dX7_has_75 : decode cX7_has 75 = .ok (.istore_n 3, 1) := by decide +kernel
theorem dX7_has_76 : decode cX7_has 76 = .ok (.iinc 5 1, 3) := by decide +kernel
theorem dX7_has_79 : decode cX7_has 79 = .ok (.goto (-47), 3) := by decide +kernel
theorem dX7_has_82 : decode cX7_has 82 = .ok (.iload_n 3, 1) := by decide +kernel
theorem dX7_has_83 : decode cX7_has 83 = .ok (.ireturn, 1) := by decide +kernel
set_option maxRecDepth 20000 in
theorem ggX7_wins_X7_isKind : GoodIn wsX7_wins wsX7_isKind := goodIn_r _ [5, 6, 7, 4, 8] (by decide +kernel) (by decide +kernel)
set_option maxRecDepth 20000 in
theorem gX7_wins_X7_isKind : GoodIn wsX7_wins (va_wsS RX7 85 yX7_isKind wsX7_isKind) := goodIn_app (goodIn_of _ (by decide +kernel)) ggX7_wins_X7_isKind
set_option maxRecDepth 20000 in
theorem ggX7_wins_X7_goes : GoodIn wsX7_wins wsX7_goes := goodIn_r _ [12, 13, 14, 15, 16, 17, 18, 19, 20, 21, 22, 23, 24, 25, 26, 27, 28, 29, 30, 31, 32, 33, 34, 35, 36] (by decide +kernel) (by decide +kernel)
set_option maxRecDepth 20000 in
theorem gX7_wins_X7_goes : GoodIn wsX7_wins (wsV RX7 89 RX7 yX7_goes wsX7_goes) := goodIn_app (goodIn_of _ (by decide +kernel)) ggX7_wins_X7_goes
theorem dX7_wins_0 : decode cX7_wins 0 = .ok (.aload_n 0, 1) := by decide +kernel
theorem dX7_wins_1 : decode cX7_wins 1 = .ok (.iload_n 1, 1) := by decide +kernel
theorem dX7_wins_2 : decode cX7_wins 2 = .ok (.invokestatic 85, 3) := by decide +kernel
theorem dX7_wins_5 : decode cX7_wins 5 = .ok (.iconst 1, 1) := by decide +kernel
theorem dX7_wins_6 : decode cX7_wins 6 = .ok (.iconst 1, 1) := by decide +kernel
theorem dX7_wins_7 : decode cX7_wins 7 = .ok (.invokevirtual 89, 3) := by decide +kernel
theorem dX7_wins_10 : decode cX7_wins 10 = .ok (.ifCond .eq 12, 3) := by decide +kernel
theorem dX7_wins_13 : decode cX7_wins 13 = .ok (.aload_n 0, 1) := by decide +kernel
theorem dX7_wins_14 : decode cX7_wins 14 = .ok (.getfield 23, 3) := by decide +kernel
theorem dX7_wins_17 : decode cX7_wins 17 = .ok (.iload_n 1, 1) := by decide +kernel
theorem dX7_wins_18 : decode cX7_wins 18 = .ok (.iaload, 1) := by decide +kernel
theorem dX7_wins_19 : decode cX7_wins 19 = .ok (.goto 4, 3) := by decide +kernel
theorem dX7_wins_22 : decode cX7_wins 22 = .ok (.iconst 0, 1) := by decide +kernel
theorem dX7_wins_23 : decode cX7_wins 23 = .ok (.ireturn, 1) := by decide +kernel
set_option maxRecDepth 20000 in
theorem ggX7_price_X7_isKind : GoodIn wsX7_price wsX7_isKind := goodIn_r _ [6, 7, 8, 5, 9] (by decide +kernel) (by decide +kernel)
set_option maxRecDepth 20000 in
theorem gX7_price_X7_isKind : GoodIn wsX7_price (va_wsS RX7 85 yX7_isKind wsX7_isKind) := goodIn_app (goodIn_of _ (by decide +kernel)) ggX7_price_X7_isKind
set_option maxRecDepth 20000 in
theorem ggX7_price_X7_goes : GoodIn wsX7_price wsX7_goes := goodIn_r _ [13, 14, 15, 16, 17, 18, 19, 20, 21, 22, 23, 24, 25, 26, 27, 28, 29, 30, 31, 32, 33, 34, 35, 36, 37] (by decide +kernel) (by decide +kernel)
set_option maxRecDepth 20000 in
theorem gX7_price_X7_goes : GoodIn wsX7_price (wsV RX7 89 RX7 yX7_goes wsX7_goes) := goodIn_app (goodIn_of _ (by decide +kernel)) ggX7_price_X7_goes
theorem dX7_price_0 : decode cX7_price 0 = .ok (.aload_n 0, 1) := by decide +kernel
theorem dX7_price_1 : decode cX7_price 1 = .ok (.iload_n 1, 1) := by decide +kernel
theorem dX7_price_2 : decode cX7_price 2 = .ok (.invokestatic 85, 3) := by decide +kernel
theorem dX7_price_5 : decode cX7_price 5 = .ok (.iconst 1, 1) := by decide +kernel
theorem dX7_price_6 : decode cX7_price 6 = .ok (.iconst 1, 1) := by decide +kernel
theorem dX7_price_7 : decode cX7_price 7 = .ok (.invokevirtual 89, 3) := by decide +kernel
theorem dX7_price_10 : decode cX7_price 10 = .ok (.ifCond .eq 33, 3) := by decide +kernel
theorem dX7_price_13 : decode cX7_price 13 = .ok (.aload_n 0, 1) := by decide +kernel
theorem dX7_price_14 : decode cX7_price 14 = .ok (.getfield 20, 3) := by decide +kernel
theorem dX7_price_17 : decode cX7_price 17 = .ok (.iload_n 1, 1) := by decide +kernel
theorem dX7_price_18 : decode cX7_price 18 = .ok (.iaload, 1) := by decide +kernel
theorem dX7_price_19 : decode cX7_price 19 = .ok (.ifCond .le 24, 3) := by decide +kernel
theorem dX7_price_22 : decode cX7_price 22 = .ok (.bipush 100, 2) := by decide +kernel
theorem dX7_price_24 : decode cX7_price 24 = .ok (.aload_n 0, 1) := by decide +kernel
theorem dX7_price_25 : decode cX7_price 25 = .ok (.getfield 23, 3) := by decide +kernel
theorem dX7_price_28 : decode cX7_price 28 = .ok (.iload_n 1, 1) := by decide +kernel
theorem dX7_price_29 : decode cX7_price 29 = .ok (.iaload, 1) := by decide +kernel
theorem dX7_price_30 : decode cX7_price 30 = .ok (.iconst 1, 1) := by decide +kernel
theorem dX7_price_31 : decode cX7_price 31 = .ok (.iadd, 1) := by decide +kernel
theorem dX7_price_32 : decode cX7_price 32 = .ok (.imul, 1) := by decide +kernel
theorem dX7_price_33 : decode cX7_price 33 = .ok (.aload_n 0, 1) := by decide +kernel
theorem dX7_price_34 : decode cX7_price 34 = .ok (.getfield 20, 3) := by decide +kernel
theorem dX7_price_37 : decode cX7_price 37 = .ok (.iload_n 1, 1) := by decide +kernel
theorem dX7_price_38 : decode cX7_price 38 = .ok (.iaload, 1) := by decide +kernel
theorem dX7_price_39 : decode cX7_price 39 = .ok (.idiv, 1) := by decide +kernel
theorem dX7_price_40 : decode cX7_price 40 = .ok (.goto 4, 3) := by decide +kernel
theorem dX7_price_43 : decode cX7_price 43 = .ok (.iconst 0, 1) := by decide +kernel
theorem dX7_price_44 : decode cX7_price 44 = .ok (.ireturn, 1) := by decide +kernel
set_option maxRecDepth 20000 in
theorem ggX7_isAllowed_X7_isDeck : GoodIn wsX7_isAllowed wsX7_isDeck := goodIn_r _ [5, 6, 7, 8, 4, 9, 35, 36, 37, 38, 39, 40, 41, 42, 43, 44, 45, 46, 47, 48, 49, 50, 51, 52, 53, 54, 55, 56, 57] (by decide +kernel) (by decide +kernel)
set_option maxRecDepth 20000 in
theorem gX7_isAllowed_X7_isDeck : GoodIn wsX7_isAllowed (wsV RX7 110 RX7 yX7_isDeck wsX7_isDeck) := goodIn_app (goodIn_of _ (by decide +kernel)) ggX7_isAllowed_X7_isDeck
set_option maxRecDepth 20000 in
theorem ggX7_isAllowed_X7_goes : GoodIn wsX7_isAllowed wsX7_goes := goodIn_r _ [13, 14, 35, 36, 37, 38, 39, 40, 41, 42, 43, 44, 45, 46, 47, 48, 49, 50, 51, 52, 53, 54, 55, 56, 57] (by decide +kernel) (by decide +kernel)
set_option maxRecDepth 20000 in
theorem gX7_isAllowed_X7_goes : GoodIn wsX7_isAllowed (wsV RX7 89 RX7 yX7_goes wsX7_goes) := goodIn_app (goodIn_of _ (by decide +kernel)) ggX7_isAllowed_X7_goes
set_option maxRecDepth 20000 in
theorem ggX7_isAllowed_X7_allows : GoodIn wsX7_isAllowed wsX7_allows := goodIn_r _ [18, 19, 20, 21, 22, 23, 24, 25, 26, 27, 28, 4, 29, 30, 31, 32, 33, 34, 35, 36, 37, 38, 39, 40, 41, 42, 43, 44, 45, 46, 47, 48, 49, 50, 51, 52, 53, 54, 55, 56, 57] (by decide +kernel) (by decide +kernel)
set_option maxRecDepth 20000 in
theorem gX7_isAllowed_X7_allows : GoodIn wsX7_isAllowed (wsV RX7 100 RX7 yX7_allows wsX7_allows) := goodIn_app (goodIn_of _ (by decide +kernel)) ggX7_isAllowed_X7_allows
theorem dX7_isAllowed_0 : decode cX7_isAllowed 0 = .ok (.aload_n 0, 1) := by decide +kernel
theorem dX7_isAllowed_1 : decode cX7_isAllowed 1 = .ok (.aload_n 0, 1) := by decide +kernel
theorem dX7_isAllowed_2 : decode cX7_isAllowed 2 = .ok (.iload_n 1, 1) := by decide +kernel
theorem dX7_isAllowed_3 : decode cX7_isAllowed 3 = .ok (.invokevirtual 110, 3) := by decide +kernel
theorem dX7_isAllowed_6 : decode cX7_isAllowed 6 = .ok (.iconst 1, 1) := by decide +kernel
theorem dX7_isAllowed_7 : decode cX7_isAllowed 7 = .ok (.iconst 1, 1) := by decide +kernel
theorem dX7_isAllowed_8 : decode cX7_isAllowed 8 = .ok (.invokevirtual 89, 3) := by decide +kernel
theorem dX7_isAllowed_11 : decode cX7_isAllowed 11 = .ok (.ifCond .eq 15, 3) := by decide +kernel
theorem dX7_isAllowed_14 : decode cX7_isAllowed 14 = .ok (.aload_n 0, 1) := by decide +kernel
theorem dX7_isAllowed_15 : decode cX7_isAllowed 15 = .ok (.iload_n 1, 1) := by decide +kernel
theorem dX7_isAllowed_16 : decode cX7_isAllowed 16 = .ok (.invokevirtual 100, 3) := by decide +kernel
theorem dX7_isAllowed_19 : decode cX7_isAllowed 19 = .ok (.ifCond .eq 7, 3) := by decide +kernel
theorem dX7_isAllowed_22 : decode cX7_isAllowed 22 = .ok (.iconst 1, 1) := by decide +kernel
theorem dX7_isAllowed_23 : decode cX7_isAllowed 23 = .ok (.goto 4, 3) := by decide +kernel
theorem dX7_isAllowed_26 : decode cX7_isAllowed 26 = .ok (.iconst 0, 1) := by decide +kernel
theorem dX7_isAllowed_27 : decode cX7_isAllowed 27 = .ok (.ireturn, 1) := by decide +kernel
set_option maxRecDepth 20000 in
theorem ggX7_shuffled_X7_isDeck : GoodIn wsX7_shuffled wsX7_isDeck := goodIn_r _ [7, 8, 9, 10, 6, 11, 26, 27, 28, 29, 30, 31, 32, 33, 34, 35, 36, 37, 38, 39, 40, 41, 42, 43, 44, 45, 46, 47, 48] (by decide +kernel) (by decide +kernel)
set_option maxRecDepth 20000 in
theorem gX7_shuffled_X7_isDeck : GoodIn wsX7_shuffled (wsV RX7 110 RX7 yX7_isDeck wsX7_isDeck) := goodIn_app (goodIn_of _ (by decide +kernel)) ggX7_shuffled_X7_isDeck
set_option maxRecDepth 20000 in
theorem ggX7_shuffled_X7_in : GoodIn wsX7_shuffled wsX7_in := goodIn_r _ [11] (by decide +kernel) (by decide +kernel)
set_option maxRecDepth 20000 in
theorem gX7_shuffled_X7_in : GoodIn wsX7_shuffled (va_wsS RX7 72 yX7_in wsX7_in) := goodIn_app (goodIn_of _ (by decide +kernel)) ggX7_shuffled_X7_in
set_option maxRecDepth 20000 in
theorem ggX7_shuffled_X7_goes : GoodIn wsX7_shuffled wsX7_goes := goodIn_r _ [15, 16, 26, 27, 28, 29, 30, 31, 32, 33, 34, 35, 36, 37, 38, 39, 40, 41, 42, 43, 44, 45, 46, 47, 48] (by decide +kernel) (by decide +kernel)
set_option maxRecDepth 20000 in
theorem gX7_shuffled_X7_goes : GoodIn wsX7_shuffled (wsV RX7 89 RX7 yX7_goes wsX7_goes) := goodIn_app (goodIn_of _ (by decide +kernel)) ggX7_shuffled_X7_goes
set_option maxRecDepth 20000 in
theorem ggX7_shuffled_X7_shuffles : GoodIn wsX7_shuffled wsX7_shuffles := goodIn_r _ [20, 1, 2, 21, 22, 23, 24, 25, 26, 27, 28, 29, 30, 31, 32, 33, 34, 35, 36, 37, 38, 39, 40, 41, 42, 43, 44, 45, 46, 47, 48] (by decide +kernel) (by decide +kernel)
set_option maxRecDepth 20000 in
theorem gX7_shuffled_X7_shuffles : GoodIn wsX7_shuffled (wsV RX7 128 RX7 yX7_shuffles wsX7_shuffles) := goodIn_app (goodIn_of _ (by decide +kernel)) ggX7_shuffled_X7_shuffles
theorem dX7_shuffled_0 : decode cX7_shuffled 0 = .ok (.aload_n 0, 1) := by decide +kernel
theorem dX7_shuffled_1 : decode cX7_shuffled 1 = .ok (.iload_n 1, 1) := by decide +kernel
theorem dX7_shuffled_2 : decode cX7_shuffled 2 = .ok (.invokevirtual 110, 3) := by decide +kernel
theorem dX7_shuffled_5 : decode cX7_shuffled 5 = .ok (.istore 4, 2) := by decide +kernel
theorem dX7_shuffled_7 : decode cX7_shuffled 7 = .ok (.aload_n 0, 1) := by decide +kernel
theorem dX7_shuffled_8 : decode cX7_shuffled 8 = .ok (.iload 4, 2) := by decide +kernel
theorem dX7_shuffled_10 : decode cX7_shuffled 10 = .ok (.ifCond .eq 32, 3) := by decide +kernel
theorem dX7_shuffled_13 : decode cX7_shuffled 13 = .ok (.iload_n 3, 1) := by decide +kernel
theorem dX7_shuffled_14 : decode cX7_shuffled 14 = .ok (.iconst 0, 1) := by decide +kernel
theorem dX7_shuffled_15 : decode cX7_shuffled 15 = .ok (.aload_n 0, 1) := by decide +kernel
theorem dX7_shuffled_16 : decode cX7_shuffled 16 = .ok (.getfield 45, 3) := by decide +kernel
theorem dX7_shuffled_19 : decode cX7_shuffled 19 = .ok (.iload 4, 2) := by decide +kernel
theorem dX7_shuffled_21 : decode cX7_shuffled 21 = .ok (.ifCond .eq 7, 3) := by decide +kernel
theorem dX7_shuffled_24 : decode cX7_shuffled 24 = .ok (.iload_n 1, 1) := by decide +kernel
theorem dX7_shuffled_25 : decode cX7_shuffled 25 = .ok (.goto 4, 3) := by decide +kernel
theorem dX7_shuffled_28 : decode cX7_shuffled 28 = .ok (.iconst 0, 1) := by decide +kernel
theorem dX7_shuffled_29 : decode cX7_shuffled 29 = .ok (.iaload, 1) := by decide +kernel
theorem dX7_shuffled_30 : decode cX7_shuffled 30 = .ok (.iconst 1, 1) := by decide +kernel
theorem dX7_shuffled_31 : decode cX7_shuffled 31 = .ok (.isub, 1) := by decide +kernel
theorem dX7_shuffled_32 : decode cX7_shuffled 32 = .ok (.invokestatic 72, 3) := by decide +kernel
theorem dX7_shuffled_35 : decode cX7_shuffled 35 = .ok (.ifCond .eq 7, 3) := by decide +kernel
theorem dX7_shuffled_38 : decode cX7_shuffled 38 = .ok (.iconst 1, 1) := by decide +kernel
theorem dX7_shuffled_39 : decode cX7_shuffled 39 = .ok (.goto 4, 3) := by decide +kernel
theorem dX7_shuffled_42 : decode cX7_shuffled 42 = .ok (.iconst 0, 1) := by decide +kernel
theorem dX7_shuffled_43 : decode cX7_shuffled 43 = .ok (.iload_n 2, 1) := by decide +kernel
theorem dX7_shuffled_44 : decode cX7_shuffled 44 = .ok (.ifCond .lt 7, 3) := by decide +kernel
theorem dX7_shuffled_47 : decode cX7_shuffled 47 = .ok (.iconst 1, 1) := by decide +kernel
theorem dX7_shuffled_48 : decode cX7_shuffled 48 = .ok (.goto 4, 3) := by decide +kernel
theorem dX7_shuffled_51 : decode cX7_shuffled 51 = .ok (.iconst 0, 1) := by decide +kernel
theorem dX7_shuffled_52 : decode cX7_shuffled 52 = .ok (.iconst 1, 1) := by decide +kernel
theorem dX7_shuffled_53 : decode cX7_shuffled 53 = .ok (.invokevirtual 89, 3) := by decide +kernel
theorem dX7_shuffled_56 : decode cX7_shuffled 56 = .ok (.ifCond .ne 5, 3) := by decide +kernel
theorem dX7_shuffled_59 : decode cX7_shuffled 59 = .ok (.iconst 0, 1) := by decide +kernel
theorem dX7_shuffled_60 : decode cX7_shuffled 60 = .ok (.ireturn, 1) := by decide +kernel
theorem dX7_shuffled_61 : decode cX7_shuffled 61 = .ok (.aload_n 0, 1) := by decide +kernel
theorem dX7_shuffled_62 : decode cX7_shuffled 62 = .ok (.iload_n 1, 1) := by decide +kernel
theorem dX7_shuffled_63 : decode cX7_shuffled 63 = .ok (.iload_n 2, 1) := by decide +kernel
theorem dX7_shuffled_64 : decode cX7_shuffled 64 = .ok (.iconst 0, 1) := by decide +kernel
theorem dX7_shuffled_65 : decode cX7_shuffled 65 = .ok (.invokevirtual 128, 3) := by decide +kernel
theorem dX7_shuffled_68 : decode cX7_shuffled 68 = .ok (.aload_n 0, 1) := by decide +kernel
theorem dX7_shuffled_69 : decode cX7_shuffled 69 = .ok (.getfield 51, 3) := by decide +kernel
theorem dX7_shuffled_72 : decode cX7_shuffled 72 = .ok (.iload_n 3, 1) := by decide +kernel
theorem dX7_shuffled_73 : decode cX7_shuffled 73 = .ok (.iaload, 1) := by decide +kernel
theorem dX7_shuffled_74 : decode cX7_shuffled 74 = .ok (.ireturn, 1) := by decide +kernel
set_option maxRecDepth 20000 in
theorem ggX7_ordersOf_X7_manyOf : GoodIn wsX7_ordersOf wsX7_manyOf := goodIn_r _ [6, 1, 7, 8, 9, 5, 10, 11, 12, 13, 14, 15, 16, 17, 18, 19, 20, 21, 22, 23, 24, 25, 26, 27, 28, 29, 30, 31, 32, 33, 34, 35] (by decide +kernel) (by decide +kernel)
set_option maxRecDepth 20000 in
theorem gX7_ordersOf_X7_manyOf : GoodIn wsX7_ordersOf (wsV RX7 97 RX7 yX7_manyOf wsX7_manyOf) := goodIn_app (goodIn_of _ (by decide +kernel)) ggX7_ordersOf_X7_manyOf
theorem dX7_ordersOf_0 : decode cX7_ordersOf 0 = .ok (.iload_n 3, 1) := by decide +kernel
theorem dX7_ordersOf_1 : decode cX7_ordersOf 1 = .ok (.aload_n 0, 1) := by decide +kernel
theorem dX7_ordersOf_2 : decode cX7_ordersOf 2 = .ok (.getfield 45, 3) := by decide +kernel
theorem dX7_ordersOf_5 : decode cX7_ordersOf 5 = .ok (.iload_n 1, 1) := by decide +kernel
theorem dX7_ordersOf_6 : decode cX7_ordersOf 6 = .ok (.iaload, 1) := by decide +kernel
theorem dX7_ordersOf_7 : decode cX7_ordersOf 7 = .ok (.if_icmp .ge 7, 3) := by decide +kernel
theorem dX7_ordersOf_10 : decode cX7_ordersOf 10 = .ok (.iload_n 3, 1) := by decide +kernel
theorem dX7_ordersOf_11 : decode cX7_ordersOf 11 = .ok (.goto 9, 3) := by decide +kernel
theorem dX7_ordersOf_14 : decode cX7_ordersOf 14 = .ok (.aload_n 0, 1) := by decide +kernel
theorem dX7_ordersOf_15 : decode cX7_ordersOf 15 = .ok (.getfield 45, 3) := by decide +kernel
theorem dX7_ordersOf_18 : decode cX7_ordersOf 18 = .ok (.iload_n 1, 1) := by decide +kernel
theorem dX7_ordersOf_19 : decode cX7_ordersOf 19 = .ok (.iaload, 1) := by decide +kernel
theorem dX7_ordersOf_20 : decode cX7_ordersOf 20 = .ok (.istore 4, 2) := by decide +kernel
theorem dX7_ordersOf_22 : decode cX7_ordersOf 22 = .ok (.aload_n 0, 1) := by decide +kernel
theorem dX7_ordersOf_23 : decode cX7_ordersOf 23 = .ok (.getfield 45, 3) := by decide +kernel
theorem dX7_ordersOf_26 : decode cX7_ordersOf 26 = .ok (.iload_n 1, 1) := by decide +kernel
theorem dX7_ordersOf_27 : decode cX7_ordersOf 27 = .ok (.iaload, 1) := by decide +kernel
theorem dX7_ordersOf_28 : decode cX7_ordersOf 28 = .ok (.aload_n 0, 1) := by decide +kernel
theorem dX7_ordersOf_29 : decode cX7_ordersOf 29 = .ok (.iload_n 1, 1) := by decide +kernel
theorem dX7_ordersOf_30 : decode cX7_ordersOf 30 = .ok (.iload_n 2, 1) := by decide +kernel
theorem dX7_ordersOf_31 : decode cX7_ordersOf 31 = .ok (.invokevirtual 97, 3) := by decide +kernel
theorem dX7_ordersOf_34 : decode cX7_ordersOf 34 = .ok (.isub, 1) := by decide +kernel
theorem dX7_ordersOf_35 : decode cX7_ordersOf 35 = .ok (.istore 5, 2) := by decide +kernel
theorem dX7_ordersOf_37 : decode cX7_ordersOf 37 = .ok (.iconst 1, 1) := by decide +kernel
theorem dX7_ordersOf_38 : decode cX7_ordersOf 38 = .ok (.istore 6, 2) := by decide +kernel
theorem dX7_ordersOf_40 : decode cX7_ordersOf 40 = .ok (.iconst 1, 1) := by decide +kernel
theorem dX7_ordersOf_41 : decode cX7_ordersOf 41 = .ok (.istore 7, 2) := by decide +kernel
theorem dX7_ordersOf_43 : decode cX7_ordersOf 43 = .ok (.iconst 0, 1) := by decide +kernel
theorem dX7_ordersOf_44 : decode cX7_ordersOf 44 = .ok (.istore 8, 2) := by decide +kernel
theorem dX7_ordersOf_46 : decode cX7_ordersOf 46 = .ok (.iload 8, 2) := by decide +kernel
theorem dX7_ordersOf_48 : decode cX7_ordersOf 48 = .ok (.aload_n 0, 1) := by decide +kernel
theorem dX7_ordersOf_49 : decode cX7_ordersOf 49 = .ok (.getfield 45, 3) := by decide +kernel
theorem dX7_ordersOf_52 : decode cX7_ordersOf 52 = .ok (.iload_n 1, 1) := by decide +kernel
theorem dX7_ordersOf_53 : decode cX7_ordersOf 53 = .ok (.iaload, 1) := by decide +kernel
theorem dX7_ordersOf_54 : decode cX7_ordersOf 54 = .ok (.if_icmp .ge 64, 3) := by decide +kernel
theorem dX7_ordersOf_57 : decode cX7_ordersOf 57 = .ok (.iload 6, 2) := by decide +kernel
theorem dX7_ordersOf_59 : decode cX7_ordersOf 59 = .ok (.aload_n 0, 1) := by decide +kernel
theorem dX7_ordersOf_60 : decode cX7_ordersOf 60 = .ok (.getfield 45, 3) := by decide +kernel
theorem dX7_ordersOf_63 : decode cX7_ordersOf 63 = .ok (.iload_n 1, 1) := by decide +kernel
theorem dX7_ordersOf_64 : decode cX7_ordersOf 64 = .ok (.iaload, 1) := by decide +kernel
theorem dX7_ordersOf_65 : decode cX7_ordersOf 65 = .ok (.iload 8, 2) := by decide +kernel
theorem dX7_ordersOf_67 : decode cX7_ordersOf 67 = .ok (.isub, 1) := by decide +kernel
theorem dX7_ordersOf_68 : decode cX7_ordersOf 68 = .ok (.imul, 1) := by decide +kernel
theorem dX7_ordersOf_69 : decode cX7_ordersOf 69 = .ok (.istore 6, 2) := by decide +kernel
theorem dX7_ordersOf_71 : decode cX7_ordersOf 71 = .ok (.iload 7, 2) := by decide +kernel
theorem dX7_ordersOf_73 : decode cX7_ordersOf 73 = .ok (.iload 8, 2) := by decide +kernel
theorem dX7_ordersOf_75 : decode cX7_ordersOf 75 = .ok (.iload 4, 2) := by decide +kernel
theorem dX7_ordersOf_77 : decode cX7_ordersOf 77 = .ok (.if_icmp .ge 23, 3) := by decide +kernel
theorem dX7_ordersOf_80 : decode cX7_ordersOf 80 = .ok (.iload 5, 2) := by decide +kernel
theorem dX7_ordersOf_82 : decode cX7_ordersOf 82 = .ok (.iload 8, 2) := by decide +kernel
theorem dX7_ordersOf_84 : decode cX7_ordersOf 84 = .ok (.isub, 1) := by decide +kernel
theorem dX7_ordersOf_85 : decode cX7_ordersOf 85 = .ok (.ifCond .le 11, 3) := by decide +kernel
theorem dX7_ordersOf_88 : decode cX7_ordersOf 88 = .ok (.iload 5, 2) := by decide +kernel
theorem dX7_ordersOf_90 : decode cX7_ordersOf 90 = .ok (.iload 8, 2) := by decide +kernel
theorem dX7_ordersOf_92 : decode cX7_ordersOf 92 = .ok (.isub, 1) := by decide +kernel
theorem dX7_ordersOf_93 : decode cX7_ordersOf 93 = .ok (.goto 16, 3) := by decide +kernel
theorem dX7_ordersOf_96 : decode cX7_ordersOf 96 = .ok (.iconst 0, 1) := by decide +kernel
theorem dX7_ordersOf_97 : decode cX7_ordersOf 97 = .ok (.goto 12, 3) := by decide +kernel
theorem dX7_ordersOf_100 : decode cX7_ordersOf 100 = .ok (.aload_n 0, 1) := by decide +kernel
theorem dX7_ordersOf_101 : decode cX7_ordersOf 101 = .ok (.getfield 45, 3) := by decide +kernel
theorem dX7_ordersOf_104 : decode cX7_ordersOf 104 = .ok (.iload_n 1, 1) := by decide +kernel
theorem dX7_ordersOf_105 : decode cX7_ordersOf 105 = .ok (.iaload, 1) := by decide +kernel
theorem dX7_ordersOf_106 : decode cX7_ordersOf 106 = .ok (.iload 8, 2) := by decide +kernel
theorem dX7_ordersOf_108 : decode cX7_ordersOf 108 = .ok (.isub, 1) := by decide +kernel
theorem dX7_ordersOf_109 : decode cX7_ordersOf 109 = .ok (.imul, 1) := by decide +kernel
theorem dX7_ordersOf_110 : decode cX7_ordersOf 110 = .ok (.istore 7, 2) := by decide +kernel
theorem dX7_ordersOf_112 : decode cX7_ordersOf 112 = .ok (.iinc 8 1, 3) := by decide +kernel
theorem dX7_ordersOf_115 : decode cX7_ordersOf 115 = .ok (.goto (-69), 3) := by decide +kernel
theorem dX7_ordersOf_118 : decode cX7_ordersOf 118 = .ok (.iload 6, 2) := by decide +kernel
theorem dX7_ordersOf_120 : decode cX7_ordersOf 120 = .ok (.iload 7, 2) := by decide +kernel
theorem dX7_ordersOf_122 : decode cX7_ordersOf 122 = .ok (.isub, 1) := by decide +kernel
theorem dX7_ordersOf_123 : decode cX7_ordersOf 123 = .ok (.ireturn, 1) := by decide +kernel
set_option maxRecDepth 20000 in
theorem ggX7_orders_X7_isDeck : GoodIn wsX7_orders wsX7_isDeck := goodIn_r _ [5, 6, 7, 8, 4, 9, 33, 34, 35, 36, 37, 38, 39, 40, 41, 42, 43, 44, 45, 46, 47, 48, 49, 50, 51, 52, 53, 54, 55] (by decide +kernel) (by decide +kernel)
set_option maxRecDepth 20000 in
theorem gX7_orders_X7_isDeck : GoodIn wsX7_orders (wsV RX7 110 RX7 yX7_isDeck wsX7_isDeck) := goodIn_app (goodIn_of _ (by decide +kernel)) ggX7_orders_X7_isDeck
set_option maxRecDepth 20000 in
theorem ggX7_orders_X7_isKind : GoodIn wsX7_orders wsX7_isKind := goodIn_r _ [12, 7, 8, 4, 9] (by decide +kernel) (by decide +kernel)
set_option maxRecDepth 20000 in
theorem gX7_orders_X7_isKind : GoodIn wsX7_orders (va_wsS RX7 85 yX7_isKind wsX7_isKind) := goodIn_app (goodIn_of _ (by decide +kernel)) ggX7_orders_X7_isKind
set_option maxRecDepth 20000 in
theorem ggX7_orders_X7_in : GoodIn wsX7_orders wsX7_in := goodIn_r _ [9] (by decide +kernel) (by decide +kernel)
set_option maxRecDepth 20000 in
theorem gX7_orders_X7_in : GoodIn wsX7_orders (va_wsS RX7 72 yX7_in wsX7_in) := goodIn_app (goodIn_of _ (by decide +kernel)) ggX7_orders_X7_in
set_option maxRecDepth 20000 in
theorem ggX7_orders_X7_goes : GoodIn wsX7_orders wsX7_goes := goodIn_r _ [16, 17, 33, 34, 35, 36, 37, 38, 39, 40, 41, 42, 43, 44, 45, 46, 47, 48, 49, 50, 51, 52, 53, 54, 55] (by decide +kernel) (by decide +kernel)
set_option maxRecDepth 20000 in
theorem gX7_orders_X7_goes : GoodIn wsX7_orders (wsV RX7 89 RX7 yX7_goes wsX7_goes) := goodIn_app (goodIn_of _ (by decide +kernel)) ggX7_orders_X7_goes
set_option maxRecDepth 20000 in
theorem ggX7_orders_X7_ordersOf : GoodIn wsX7_orders wsX7_ordersOf := goodIn_r _ [21, 22, 23, 24, 25, 4, 26, 27, 28, 29, 30, 31, 32, 33, 34, 35, 36, 37, 38, 39, 40, 41, 42, 43, 44, 45, 46, 47, 48, 49, 50, 51, 52, 53, 54, 55] (by decide +kernel) (by decide +kernel)
set_option maxRecDepth 20000 in
theorem gX7_orders_X7_ordersOf : GoodIn wsX7_orders (wsV RX7 162 RX7 yX7_ordersOf wsX7_ordersOf) := goodIn_app (goodIn_of _ (by decide +kernel)) ggX7_orders_X7_ordersOf
theorem dX7_orders_0 : decode cX7_orders 0 = .ok (.aload_n 0, 1) := by decide +kernel
theorem dX7_orders_1 : decode cX7_orders 1 = .ok (.aload_n 0, 1) := by decide +kernel
theorem dX7_orders_2 : decode cX7_orders 2 = .ok (.iload_n 1, 1) := by decide +kernel
theorem dX7_orders_3 : decode cX7_orders 3 = .ok (.invokevirtual 110, 3) := by decide +kernel
theorem dX7_orders_6 : decode cX7_orders 6 = .ok (.ifCond .eq 14, 3) := by decide +kernel
theorem dX7_orders_9 : decode cX7_orders 9 = .ok (.iload_n 2, 1) := by decide +kernel
theorem dX7_orders_10 : decode cX7_orders 10 = .ok (.invokestatic 85, 3) := by decide +kernel
theorem dX7_orders_13 : decode cX7_orders 13 = .ok (.ifCond .eq 7, 3) := by decide +kernel
theorem dX7_orders_16 : decode cX7_orders 16 = .ok (.iconst 1, 1) := by decide +kernel
theorem dX7_orders_17 : decode cX7_orders 17 = .ok (.goto 4, 3) := by decide +kernel
theorem dX7_orders_20 : decode cX7_orders 20 = .ok (.iconst 0, 1) := by decide +kernel
theorem dX7_orders_21 : decode cX7_orders 21 = .ok (.iload_n 3, 1) := by decide +kernel
theorem dX7_orders_22 : decode cX7_orders 22 = .ok (.iconst 1, 1) := by decide +kernel
theorem dX7_orders_23 : decode cX7_orders 23 = .ok (.bipush 10, 2) := by decide +kernel
theorem dX7_orders_25 : decode cX7_orders 25 = .ok (.invokestatic 72, 3) := by decide +kernel
theorem dX7_orders_28 : decode cX7_orders 28 = .ok (.iconst 1, 1) := by decide +kernel
theorem dX7_orders_29 : decode cX7_orders 29 = .ok (.invokevirtual 89, 3) := by decide +kernel
theorem dX7_orders_32 : decode cX7_orders 32 = .ok (.ifCond .eq 13, 3) := by decide +kernel
theorem dX7_orders_35 : decode cX7_orders 35 = .ok (.aload_n 0, 1) := by decide +kernel
theorem dX7_orders_36 : decode cX7_orders 36 = .ok (.iload_n 1, 1) := by decide +kernel
theorem dX7_orders_37 : decode cX7_orders 37 = .ok (.iload_n 2, 1) := by decide +kernel
theorem dX7_orders_38 : decode cX7_orders 38 = .ok (.iload_n 3, 1) := by decide +kernel
theorem dX7_orders_39 : decode cX7_orders 39 = .ok (.invokevirtual 162, 3) := by decide +kernel
theorem dX7_orders_42 : decode cX7_orders 42 = .ok (.goto 4, 3) := by decide +kernel
theorem dX7_orders_45 : decode cX7_orders 45 = .ok (.iconst 0, 1) := by decide +kernel
theorem dX7_orders_46 : decode cX7_orders 46 = .ok (.ireturn, 1) := by decide +kernel
set_option maxRecDepth 20000 in
theorem ggX7_ordersByAll_X7_isDeck : GoodIn wsX7_ordersByAll wsX7_isDeck := goodIn_r _ [6, 7, 8, 9, 5, 10, 33, 34, 35, 36, 37, 38, 39, 40, 41, 42, 43, 44, 45, 46, 47, 48, 49, 50, 51, 52, 53, 54, 55] (by decide +kernel) (by decide +kernel)
set_option maxRecDepth 20000 in
theorem gX7_ordersByAll_X7_isDeck : GoodIn wsX7_ordersByAll (wsV RX7 110 RX7 yX7_isDeck wsX7_isDeck) := goodIn_app (goodIn_of _ (by decide +kernel)) ggX7_ordersByAll_X7_isDeck
set_option maxRecDepth 20000 in
theorem ggX7_ordersByAll_X7_isKind : GoodIn wsX7_ordersByAll wsX7_isKind := goodIn_r _ [13, 8, 9, 5, 10] (by decide +kernel) (by decide +kernel)
set_option maxRecDepth 20000 in
theorem gX7_ordersByAll_X7_isKind : GoodIn wsX7_ordersByAll (va_wsS RX7 85 yX7_isKind wsX7_isKind) := goodIn_app (goodIn_of _ (by decide +kernel)) ggX7_ordersByAll_X7_isKind
set_option maxRecDepth 20000 in
theorem ggX7_ordersByAll_X7_in : GoodIn wsX7_ordersByAll wsX7_in := goodIn_r _ [10] (by decide +kernel) (by decide +kernel)
set_option maxRecDepth 20000 in
theorem gX7_ordersByAll_X7_in : GoodIn wsX7_ordersByAll (va_wsS RX7 72 yX7_in wsX7_in) := goodIn_app (goodIn_of _ (by decide +kernel)) ggX7_ordersByAll_X7_in
set_option maxRecDepth 20000 in
theorem ggX7_ordersByAll_X7_goes : GoodIn wsX7_ordersByAll wsX7_goes := goodIn_r _ [17, 18, 33, 34, 35, 36, 37, 38, 39, 40, 41, 42, 43, 44, 45, 46, 47, 48, 49, 50, 51, 52, 53, 54, 55] (by decide +kernel) (by decide +kernel)
set_option maxRecDepth 20000 in
theorem gX7_ordersByAll_X7_goes : GoodIn wsX7_ordersByAll (wsV RX7 89 RX7 yX7_goes wsX7_goes) := goodIn_app (goodIn_of _ (by decide +kernel)) ggX7_ordersByAll_X7_goes
set_option maxRecDepth 20000 in
theorem ggX7_ordersByAll_X7_ordersOf : GoodIn wsX7_ordersByAll wsX7_ordersOf := goodIn_r _ [22, 1, 23, 24, 25, 5, 26, 27, 28, 29, 30, 31, 32, 33, 34, 35, 36, 37, 38, 39, 40, 41, 42, 43, 44, 45, 46, 47, 48, 49, 50, 51, 52, 53, 54, 55] (by decide +kernel) (by decide +kernel)
set_option maxRecDepth 20000 in
theorem gX7_ordersByAll_X7_ordersOf : GoodIn wsX7_ordersByAll (wsV RX7 162 RX7 yX7_ordersOf wsX7_ordersOf) := goodIn_app (goodIn_of _ (by decide +kernel)) ggX7_ordersByAll_X7_ordersOf
theorem dX7_ordersByAll_0 : decode cX7_ordersByAll 0 = .ok (.aload_n 0, 1) := by decide +kernel
theorem dX7_ordersByAll_1 : decode cX7_ordersByAll 1 = .ok (.iload_n 1, 1) := by decide +kernel
theorem dX7_ordersByAll_2 : decode cX7_ordersByAll 2 = .ok (.invokevirtual 110, 3) := by decide +kernel
theorem dX7_ordersByAll_5 : decode cX7_ordersByAll 5 = .ok (.ifCond .eq 14, 3) := by decide +kernel
theorem dX7_ordersByAll_8 : decode cX7_ordersByAll 8 = .ok (.iload_n 2, 1) := by decide +kernel
theorem dX7_ordersByAll_9 : decode cX7_ordersByAll 9 = .ok (.invokestatic 85, 3) := by decide +kernel
theorem dX7_ordersByAll_12 : decode cX7_ordersByAll 12 = .ok (.ifCond .eq 7, 3) := by decide +kernel
theorem dX7_ordersByAll_15 : decode cX7_ordersByAll 15 = .ok (.iconst 1, 1) := by decide +kernel
theorem dX7_ordersByAll_16 : decode cX7_ordersByAll 16 = .ok (.goto 4, 3) := by decide +kernel
theorem dX7_ordersByAll_19 : decode cX7_ordersByAll 19 = .ok (.iconst 0, 1) := by decide +kernel
theorem dX7_ordersByAll_20 : decode cX7_ordersByAll 20 = .ok (.istore 4, 2) := by decide +kernel
theorem dX7_ordersByAll_22 : decode cX7_ordersByAll 22 = .ok (.aload_n 0, 1) := by decide +kernel
theorem dX7_ordersByAll_23 : decode cX7_ordersByAll 23 = .ok (.iload 4, 2) := by decide +kernel
theorem dX7_ordersByAll_25 : decode cX7_ordersByAll 25 = .ok (.iload_n 3, 1) := by decide +kernel
theorem dX7_ordersByAll_26 : decode cX7_ordersByAll 26 = .ok (.iconst 1, 1) := by decide +kernel
theorem dX7_ordersByAll_27 : decode cX7_ordersByAll 27 = .ok (.bipush 10, 2) := by decide +kernel
theorem dX7_ordersByAll_29 : decode cX7_ordersByAll 29 = .ok (.invokestatic 72, 3) := by decide +kernel
theorem dX7_ordersByAll_32 : decode cX7_ordersByAll 32 = .ok (.iload 4, 2) := by decide +kernel
theorem dX7_ordersByAll_34 : decode cX7_ordersByAll 34 = .ok (.ifCond .eq 18, 3) := by decide +kernel
theorem dX7_ordersByAll_37 : decode cX7_ordersByAll 37 = .ok (.aload_n 0, 1) := by decide +kernel
theorem dX7_ordersByAll_38 : decode cX7_ordersByAll 38 = .ok (.getfield 45, 3) := by decide +kernel
theorem dX7_ordersByAll_41 : decode cX7_ordersByAll 41 = .ok (.iload_n 1, 1) := by decide +kernel
theorem dX7_ordersByAll_42 : decode cX7_ordersByAll 42 = .ok (.iaload, 1) := by decide +kernel
theorem dX7_ordersByAll_43 : decode cX7_ordersByAll 43 = .ok (.bipush 7, 2) := by decide +kernel
theorem dX7_ordersByAll_45 : decode cX7_ordersByAll 45 = .ok (.if_icmp .gt 7, 3) := by decide +kernel
theorem dX7_ordersByAll_48 : decode cX7_ordersByAll 48 = .ok (.iconst 1, 1) := by decide +kernel
theorem dX7_ordersByAll_49 : decode cX7_ordersByAll 49 = .ok (.goto 4, 3) := by decide +kernel
theorem dX7_ordersByAll_52 : decode cX7_ordersByAll 52 = .ok (.iconst 0, 1) := by decide +kernel
theorem dX7_ordersByAll_53 : decode cX7_ordersByAll 53 = .ok (.invokevirtual 89, 3) := by decide +kernel
theorem dX7_ordersByAll_56 : decode cX7_ordersByAll 56 = .ok (.ifCond .eq 13, 3) := by decide +kernel
theorem dX7_ordersByAll_59 : decode cX7_ordersByAll 59 = .ok (.aload_n 0, 1) := by decide +kernel
theorem dX7_ordersByAll_60 : decode cX7_ordersByAll 60 = .ok (.iload_n 1, 1) := by decide +kernel
theorem dX7_ordersByAll_61 : decode cX7_ordersByAll 61 = .ok (.iload_n 2, 1) := by decide +kernel
theorem dX7_ordersByAll_62 : decode cX7_ordersByAll 62 = .ok (.iload_n 3, 1) := by decide +kernel
theorem dX7_ordersByAll_63 : decode cX7_ordersByAll 63 = .ok (.invokevirtual 162, 3) := by decide +kernel
theorem dX7_ordersByAll_66 : decode cX7_ordersByAll 66 = .ok (.goto 4, 3) := by decide +kernel
theorem dX7_ordersByAll_69 : decode cX7_ordersByAll 69 = .ok (.iconst 0, 1) := by decide +kernel
theorem dX7_ordersByAll_70 : decode cX7_ordersByAll 70 = .ok (.ireturn, 1) := by decide +kernel
set_option maxRecDepth 20000 in
theorem ggX7_isOpen_X7_isOffer : GoodIn wsX7_isOpen wsX7_isOffer := goodIn_r _ [5, 6, 7, 8, 4, 9, 23, 24, 25, 26, 27, 28, 29, 30, 31, 32, 33, 34, 35, 36, 37, 38, 39, 40, 41, 42, 43, 44, 45] (by decide +kernel) (by decide +kernel)
set_option maxRecDepth 20000 in
theorem gX7_isOpen_X7_isOffer : GoodIn wsX7_isOpen (wsV RX7 143 RX7 yX7_isOffer wsX7_isOffer) := goodIn_app (goodIn_of _ (by decide +kernel)) ggX7_isOpen_X7_isOffer
set_option maxRecDepth 20000 in
theorem ggX7_isOpen_X7_goes : GoodIn wsX7_isOpen wsX7_goes := goodIn_r _ [13, 14, 23, 24, 25, 26, 27, 28, 29, 30, 31, 32, 33, 34, 35, 36, 37, 38, 39, 40, 41, 42, 43, 44, 45] (by decide +kernel) (by decide +kernel)
set_option maxRecDepth 20000 in
theorem gX7_isOpen_X7_goes : GoodIn wsX7_isOpen (wsV RX7 89 RX7 yX7_goes wsX7_goes) := goodIn_app (goodIn_of _ (by decide +kernel)) ggX7_isOpen_X7_goes
set_option maxRecDepth 20000 in
theorem ggX7_isOpen_X7_opens : GoodIn wsX7_isOpen wsX7_opens := goodIn_r _ [18, 19, 20, 21, 22, 23, 24, 25, 26, 27, 28, 29, 30, 31, 32, 33, 34, 35, 36, 37, 38, 39, 40, 41, 42, 43, 44, 45] (by decide +kernel) (by decide +kernel)
set_option maxRecDepth 20000 in
theorem gX7_isOpen_X7_opens : GoodIn wsX7_isOpen (wsV RX7 140 RX7 yX7_opens wsX7_opens) := goodIn_app (goodIn_of _ (by decide +kernel)) ggX7_isOpen_X7_opens
theorem dX7_isOpen_0 : decode cX7_isOpen 0 = .ok (.aload_n 0, 1) := by decide +kernel
theorem dX7_isOpen_1 : decode cX7_isOpen 1 = .ok (.aload_n 0, 1) := by decide +kernel
theorem dX7_isOpen_2 : decode cX7_isOpen 2 = .ok (.iload_n 1, 1) := by decide +kernel
theorem dX7_isOpen_3 : decode cX7_isOpen 3 = .ok (.invokevirtual 143, 3) := by decide +kernel
theorem dX7_isOpen_6 : decode cX7_isOpen 6 = .ok (.iconst 1, 1) := by decide +kernel
theorem dX7_isOpen_7 : decode cX7_isOpen 7 = .ok (.iconst 1, 1) := by decide +kernel
theorem dX7_isOpen_8 : decode cX7_isOpen 8 = .ok (.invokevirtual 89, 3) := by decide +kernel
theorem dX7_isOpen_11 : decode cX7_isOpen 11 = .ok (.ifCond .eq 15, 3) := by decide +kernel
theorem dX7_isOpen_14 : decode cX7_isOpen 14 = .ok (.aload_n 0, 1) := by decide +kernel
theorem dX7_isOpen_15 : decode cX7_isOpen 15 = .ok (.iload_n 1, 1) := by decide +kernel
theorem dX7_isOpen_16 : decode cX7_isOpen 16 = .ok (.invokevirtual 140, 3) := by decide +kernel
theorem dX7_isOpen_19 : decode cX7_isOpen 19 = .ok (.ifCond .eq 7, 3) := by decide +kernel
theorem dX7_isOpen_22 : decode cX7_isOpen 22 = .ok (.iconst 1, 1) := by decide +kernel
theorem dX7_isOpen_23 : decode cX7_isOpen 23 = .ok (.goto 4, 3) := by decide +kernel
theorem dX7_isOpen_26 : decode cX7_isOpen 26 = .ok (.iconst 0, 1) := by decide +kernel
theorem dX7_isOpen_27 : decode cX7_isOpen 27 = .ok (.ireturn, 1) := by decide +kernel
set_option maxRecDepth 20000 in
theorem ggX7_ring_X7_goes : GoodIn wsX7_ring wsX7_goes := goodIn_r _ [6, 7, 35, 36, 37, 38, 39, 40, 41, 42, 43, 44, 45, 46, 47, 48, 49, 50, 51, 52, 53, 54, 55, 56, 57] (by decide +kernel) (by decide +kernel)
set_option maxRecDepth 20000 in
theorem gX7_ring_X7_goes : GoodIn wsX7_ring (wsV RX7 89 RX7 yX7_goes wsX7_goes) := goodIn_app (goodIn_of _ (by decide +kernel)) ggX7_ring_X7_goes
set_option maxRecDepth 20000 in
theorem ggX7_ring_X7_first : GoodIn wsX7_ring wsX7_first := goodIn_r _ [11, 12, 13, 14, 5, 15, 1, 16, 17, 18, 19, 20, 21, 22, 23, 24, 25, 26, 27, 28, 29, 30, 31, 32, 33, 34, 35, 36, 37, 38, 39, 40, 41, 42, 43, 44, 45, 46, 47, 48, 49, 50, 51, 52, 53, 54, 55, 56, 57] (by decide +kernel) (by decide +kernel)
set_option maxRecDepth 20000 in
theorem gX7_ring_X7_first : GoodIn wsX7_ring (wsV RX7 155 RX7 yX7_first wsX7_first) := goodIn_app (goodIn_of _ (by decide +kernel)) ggX7_ring_X7_first
theorem dX7_ring_0 : decode cX7_ring 0 = .ok (.aload_n 0, 1) := by decide +kernel
theorem dX7_ring_1 : decode cX7_ring 1 = .ok (.iload_n 1, 1) := by decide +kernel
theorem dX7_ring_2 : decode cX7_ring 2 = .ok (.ifCond .lt 7, 3) := by decide +kernel
theorem dX7_ring_5 : decode cX7_ring 5 = .ok (.iconst 1, 1) := by decide +kernel
theorem dX7_ring_6 : decode cX7_ring 6 = .ok (.goto 4, 3) := by decide +kernel
theorem dX7_ring_9 : decode cX7_ring 9 = .ok (.iconst 0, 1) := by decide +kernel
theorem dX7_ring_10 : decode cX7_ring 10 = .ok (.iconst 1, 1) := by decide +kernel
theorem dX7_ring_11 : decode cX7_ring 11 = .ok (.iconst 1, 1) := by decide +kernel
theorem dX7_ring_12 : decode cX7_ring 12 = .ok (.invokevirtual 89, 3) := by decide +kernel
theorem dX7_ring_15 : decode cX7_ring 15 = .ok (.ifCond .ne 5, 3) := by decide +kernel
theorem dX7_ring_18 : decode cX7_ring 18 = .ok (.iconst 0, 1) := by decide +kernel
theorem dX7_ring_19 : decode cX7_ring 19 = .ok (.ireturn, 1) := by decide +kernel
theorem dX7_ring_20 : decode cX7_ring 20 = .ok (.iload_n 1, 1) := by decide +kernel
theorem dX7_ring_21 : decode cX7_ring 21 = .ok (.aload_n 0, 1) := by decide +kernel
theorem dX7_ring_22 : decode cX7_ring 22 = .ok (.invokevirtual 155, 3) := by decide +kernel
theorem dX7_ring_25 : decode cX7_ring 25 = .ok (.if_icmp .ge 12, 3) := by decide +kernel
theorem dX7_ring_28 : decode cX7_ring 28 = .ok (.aload_n 0, 1) := by decide +kernel
theorem dX7_ring_29 : decode cX7_ring 29 = .ok (.getfield 66, 3) := by decide +kernel
theorem dX7_ring_32 : decode cX7_ring 32 = .ok (.iload_n 1, 1) := by decide +kernel
theorem dX7_ring_33 : decode cX7_ring 33 = .ok (.iaload, 1) := by decide +kernel
theorem dX7_ring_34 : decode cX7_ring 34 = .ok (.goto 4, 3) := by decide +kernel
theorem dX7_ring_37 : decode cX7_ring 37 = .ok (.iconst (-1), 1) := by decide +kernel
theorem dX7_ring_38 : decode cX7_ring 38 = .ok (.ireturn, 1) := by decide +kernel
theorem dJ6_bitCount_0f7a4_0 : decode cJ6_bitCount_0f7a4 0 = .ok (.iload_n 0, 1) := by decide +kernel
theorem dJ6_bitCount_0f7a4_1 : decode cJ6_bitCount_0f7a4 1 = .ok (.iload_n 0, 1) := by decide +kernel
theorem dJ6_bitCount_0f7a4_2 : decode cJ6_bitCount_0f7a4 2 = .ok (.iconst 1, 1) := by decide +kernel
theorem dJ6_bitCount_0f7a4_3 : decode cJ6_bitCount_0f7a4 3 = .ok (.iushr, 1) := by decide +kernel
theorem dJ6_bitCount_0f7a4_4 : decode cJ6_bitCount_0f7a4 4 = .ok (.ldc_w 265, 3) := by decide +kernel
theorem dJ6_bitCount_0f7a4_7 : decode cJ6_bitCount_0f7a4 7 = .ok (.iand, 1) := by decide +kernel
theorem dJ6_bitCount_0f7a4_8 : decode cJ6_bitCount_0f7a4 8 = .ok (.isub, 1) := by decide +kernel
theorem dJ6_bitCount_0f7a4_9 : decode cJ6_bitCount_0f7a4 9 = .ok (.istore_n 0, 1) := by decide +kernel
theorem dJ6_bitCount_0f7a4_10 : decode cJ6_bitCount_0f7a4 10 = .ok (.iload_n 0, 1) := by decide +kernel
theorem dJ6_bitCount_0f7a4_11 : decode cJ6_bitCount_0f7a4 11 = .ok (.ldc_w 266, 3) := by decide +kernel
theorem dJ6_bitCount_0f7a4_14 : decode cJ6_bitCount_0f7a4 14 = .ok (.iand, 1) := by decide +kernel
theorem dJ6_bitCount_0f7a4_15 : decode cJ6_bitCount_0f7a4 15 = .ok (.iload_n 0, 1) := by decide +kernel
theorem dJ6_bitCount_0f7a4_16 : decode cJ6_bitCount_0f7a4 16 = .ok (.iconst 2, 1) := by decide +kernel
theorem dJ6_bitCount_0f7a4_17 : decode cJ6_bitCount_0f7a4 17 = .ok (.iushr, 1) := by decide +kernel
theorem dJ6_bitCount_0f7a4_18 : decode cJ6_bitCount_0f7a4 18 = .ok (.ldc_w 266, 3) := by decide +kernel
theorem dJ6_bitCount_0f7a4_21 : decode cJ6_bitCount_0f7a4 21 = .ok (.iand, 1) := by decide +kernel
theorem dJ6_bitCount_0f7a4_22 : decode cJ6_bitCount_0f7a4 22 = .ok (.iadd, 1) := by decide +kernel
theorem dJ6_bitCount_0f7a4_23 : decode cJ6_bitCount_0f7a4 23 = .ok (.istore_n 0, 1) := by decide +kernel
theorem dJ6_bitCount_0f7a4_24 : decode cJ6_bitCount_0f7a4 24 = .ok (.iload_n 0, 1) := by decide +kernel
theorem dJ6_bitCount_0f7a4_25 : decode cJ6_bitCount_0f7a4 25 = .ok (.iload_n 0, 1) := by decide +kernel
theorem dJ6_bitCount_0f7a4_26 : decode cJ6_bitCount_0f7a4 26 = .ok (.iconst 4, 1) := by decide +kernel
theorem dJ6_bitCount_0f7a4_27 : decode cJ6_bitCount_0f7a4 27 = .ok (.iushr, 1) := by decide +kernel
theorem dJ6_bitCount_0f7a4_28 : decode cJ6_bitCount_0f7a4 28 = .ok (.iadd, 1) := by decide +kernel
theorem dJ6_bitCount_0f7a4_29 : decode cJ6_bitCount_0f7a4 29 = .ok (.ldc_w 267, 3) := by decide +kernel
theorem dJ6_bitCount_0f7a4_32 : decode cJ6_bitCount_0f7a4 32 = .ok (.iand, 1) := by decide +kernel
theorem dJ6_bitCount_0f7a4_33 : decode cJ6_bitCount_0f7a4 33 = .ok (.istore_n 0, 1) := by decide +kernel
theorem dJ6_bitCount_0f7a4_34 : decode cJ6_bitCount_0f7a4 34 = .ok (.iload_n 0, 1) := by decide +kernel
theorem dJ6_bitCount_0f7a4_35 : decode cJ6_bitCount_0f7a4 35 = .ok (.iload_n 0, 1) := by decide +kernel
theorem dJ6_bitCount_0f7a4_36 : decode cJ6_bitCount_0f7a4 36 = .ok (.bipush 8, 2) := by decide +kernel
theorem dJ6_bitCount_0f7a4_38 : decode cJ6_bitCount_0f7a4 38 = .ok (.iushr, 1) := by decide +kernel
theorem dJ6_bitCount_0f7a4_39 : decode cJ6_bitCount_0f7a4 39 = .ok (.iadd, 1) := by decide +kernel
theorem dJ6_bitCount_0f7a4_40 : decode cJ6_bitCount_0f7a4 40 = .ok (.istore_n 0, 1) := by decide +kernel
theorem dJ6_bitCount_0f7a4_41 : decode cJ6_bitCount_0f7a4 41 = .ok (.iload_n 0, 1) := by decide +kernel
theorem dJ6_bitCount_0f7a4_42 : decode cJ6_bitCount_0f7a4 42 = .ok (.iload_n 0, 1) := by decide +kernel
theorem dJ6_bitCount_0f7a4_43 : decode cJ6_bitCount_0f7a4 43 = .ok (.bipush 16, 2) := by decide +kernel
theorem dJ6_bitCount_0f7a4_45 : decode cJ6_bitCount_0f7a4 45 = .ok (.iushr, 1) := by decide +kernel
theorem dJ6_bitCount_0f7a4_46 : decode cJ6_bitCount_0f7a4 46 = .ok (.iadd, 1) := by decide +kernel
theorem dJ6_bitCount_0f7a4_47 : decode cJ6_bitCount_0f7a4 47 = .ok (.istore_n 0, 1) := by decide +kernel
theorem dJ6_bitCount_0f7a4_48 : decode cJ6_bitCount_0f7a4 48 = .ok (.iload_n 0, 1) := by decide +kernel
theorem dJ6_bitCount_0f7a4_49 : decode cJ6_bitCount_0f7a4 49 = .ok (.bipush 63, 2) := by decide +kernel
theorem dJ6_bitCount_0f7a4_51 : decode cJ6_bitCount_0f7a4 51 = .ok (.iand, 1) := by decide +kernel
theorem dJ6_bitCount_0f7a4_52 : decode cJ6_bitCount_0f7a4 52 = .ok (.ireturn, 1) := by decide +kernel
set_option maxRecDepth 20000 in
theorem ggL_setKind_X6_setKind : GoodIn wsL_setKind wsX6_setKind := goodIn_ca (goodIn_ca (goodIn_r _ [7, 8, 9, 10, 11, 12, 6, 13, 14, 15, 16, 17, 18, 19, 20, 21, 22, 23, 24, 25, 26, 27, 28, 29, 30, 31, 32] (by decide +kernel) (by decide +kernel)) (goodIn_sub (fun _ h => List.mem_cons_of_mem _ (List.mem_append_left _ (List.mem_append_right _ h))) (by decide +kernel))) (goodIn_sub (fun _ h => List.mem_cons_of_mem _ (List.mem_append_right _ h)) (by decide +kernel))
set_option maxRecDepth 20000 in
theorem gL_setKind_X6_setKind : GoodIn wsL_setKind (wsV RL 7 RX6 yX6_setKind wsX6_setKind) := goodIn_app (goodIn_of _ (by decide +kernel)) ggL_setKind_X6_setKind
theorem dL_setKind_0 : decode cL_setKind 0 = .ok (.aload 4, 2) := by decide +kernel
theorem dL_setKind_2 : decode cL_setKind 2 = .ok (.iconst 0, 1) := by decide +kernel
theorem dL_setKind_3 : decode cL_setKind 3 = .ok (.aload_n 0, 1) := by decide +kernel
theorem dL_setKind_4 : decode cL_setKind 4 = .ok (.iload_n 1, 1) := by decide +kernel
theorem dL_setKind_5 : decode cL_setKind 5 = .ok (.iload_n 2, 1) := by decide +kernel
theorem dL_setKind_6 : decode cL_setKind 6 = .ok (.iload_n 3, 1) := by decide +kernel
theorem dL_setKind_7 : decode cL_setKind 7 = .ok (.invokevirtual 7, 3) := by decide +kernel
theorem dL_setKind_10 : decode cL_setKind 10 = .ok (.i2l, 1) := by decide +kernel
theorem dL_setKind_11 : decode cL_setKind 11 = .ok (.lastore, 1) := by decide +kernel
theorem dL_setKind_12 : decode cL_setKind 12 = .ok (.goto 11, 3) := by decide +kernel
theorem dL_setKind_15 : decode cL_setKind 15 = .ok (.astore 5, 2) := by decide +kernel
theorem dL_setKind_17 : decode cL_setKind 17 = .ok (.iconst 1, 1) := by decide +kernel
theorem dL_setKind_18 : decode cL_setKind 18 = .ok (.ireturn, 1) := by decide +kernel
theorem dL_setKind_19 : decode cL_setKind 19 = .ok (.astore 5, 2) := by decide +kernel
theorem dL_setKind_21 : decode cL_setKind 21 = .ok (.iconst 2, 1) := by decide +kernel
theorem dL_setKind_22 : decode cL_setKind 22 = .ok (.ireturn, 1) := by decide +kernel
theorem dL_setKind_23 : decode cL_setKind 23 = .ok (.iconst 0, 1) := by decide +kernel
theorem dL_setKind_24 : decode cL_setKind 24 = .ok (.ireturn, 1) := by decide +kernel
set_option maxRecDepth 20000 in
theorem ggL_setFormat_X6_setFormat : GoodIn wsL_setFormat wsX6_setFormat := goodIn_ca (goodIn_r _ [6, 7, 8, 9, 10, 11, 12, 13, 5, 14, 15, 16, 17, 18, 19, 20, 21, 22, 23, 24, 25, 26, 27, 28, 29, 30, 31, 32, 33, 34, 35, 36, 37, 38, 39, 40, 41, 42, 43, 44, 45, 46, 47, 48, 49, 50, 51, 52, 53, 54, 55, 56, 57, 58, 59, 60, 61, 62, 63, 64, 65, 66, 67, 68, 69, 70, 71] (by decide +kernel) (by decide +kernel)) (goodIn_sub (fun _ h => List.mem_cons_of_mem _ (List.mem_append_right _ h)) (by decide +kernel))
set_option maxRecDepth 20000 in
theorem gL_setFormat_X6_setFormat : GoodIn wsL_setFormat (wsV RL 17 RX6 yX6_setFormat wsX6_setFormat) := goodIn_app (goodIn_of _ (by decide +kernel)) ggL_setFormat_X6_setFormat
theorem dL_setFormat_0 : decode cL_setFormat 0 = .ok (.aload_n 3, 1) := by decide +kernel
theorem dL_setFormat_1 : decode cL_setFormat 1 = .ok (.iconst 0, 1) := by decide +kernel
theorem dL_setFormat_2 : decode cL_setFormat 2 = .ok (.aload_n 0, 1) := by decide +kernel
theorem dL_setFormat_3 : decode cL_setFormat 3 = .ok (.iload_n 1, 1) := by decide +kernel
theorem dL_setFormat_4 : decode cL_setFormat 4 = .ok (.iload_n 2, 1) := by decide +kernel
theorem dL_setFormat_5 : decode cL_setFormat 5 = .ok (.invokevirtual 17, 3) := by decide +kernel
theorem dL_setFormat_8 : decode cL_setFormat 8 = .ok (.i2l, 1) := by decide +kernel
theorem dL_setFormat_9 : decode cL_setFormat 9 = .ok (.lastore, 1) := by decide +kernel
theorem dL_setFormat_10 : decode cL_setFormat 10 = .ok (.goto 7, 3) := by decide +kernel
theorem dL_setFormat_13 : decode cL_setFormat 13 = .ok (.astore 4, 2) := by decide +kernel
theorem dL_setFormat_15 : decode cL_setFormat 15 = .ok (.iconst 1, 1) := by decide +kernel
theorem dL_setFormat_16 : decode cL_setFormat 16 = .ok (.ireturn, 1) := by decide +kernel
theorem dL_setFormat_17 : decode cL_setFormat 17 = .ok (.iconst 0, 1) := by decide +kernel
theorem dL_setFormat_18 : decode cL_setFormat 18 = .ok (.ireturn, 1) := by decide +kernel
set_option maxRecDepth 20000 in
theorem ggL_ban_X6_ban : GoodIn wsL_ban wsX6_ban := goodIn_ca (goodIn_r _ [6, 7, 8, 9, 10, 11, 12, 5, 13, 14, 15, 16, 17, 18, 19, 20, 21, 22, 23, 24, 25, 26, 27, 28, 29, 30, 31, 32, 33, 34, 35, 36, 37, 38, 39, 40, 41, 42, 43, 44, 45, 46, 47, 48, 49, 50, 51, 52, 53, 54, 55, 56, 57, 58, 59, 60, 61, 62, 63, 64, 65, 66, 67, 68, 69, 70] (by decide +kernel) (by decide +kernel)) (goodIn_sub (fun _ h => List.mem_cons_of_mem _ (List.mem_append_right _ h)) (by decide +kernel))
set_option maxRecDepth 20000 in
theorem gL_ban_X6_ban : GoodIn wsL_ban (wsV RL 21 RX6 yX6_ban wsX6_ban) := goodIn_app (goodIn_of _ (by decide +kernel)) ggL_ban_X6_ban
theorem dL_ban_0 : decode cL_ban 0 = .ok (.aload_n 3, 1) := by decide +kernel
theorem dL_ban_1 : decode cL_ban 1 = .ok (.iconst 0, 1) := by decide +kernel
theorem dL_ban_2 : decode cL_ban 2 = .ok (.aload_n 0, 1) := by decide +kernel
theorem dL_ban_3 : decode cL_ban 3 = .ok (.iload_n 1, 1) := by decide +kernel
theorem dL_ban_4 : decode cL_ban 4 = .ok (.iload_n 2, 1) := by decide +kernel
theorem dL_ban_5 : decode cL_ban 5 = .ok (.invokevirtual 21, 3) := by decide +kernel
theorem dL_ban_8 : decode cL_ban 8 = .ok (.i2l, 1) := by decide +kernel
theorem dL_ban_9 : decode cL_ban 9 = .ok (.lastore, 1) := by decide +kernel
theorem dL_ban_10 : decode cL_ban 10 = .ok (.goto 7, 3) := by decide +kernel
theorem dL_ban_13 : decode cL_ban 13 = .ok (.astore 4, 2) := by decide +kernel
theorem dL_ban_15 : decode cL_ban 15 = .ok (.iconst 1, 1) := by decide +kernel
theorem dL_ban_16 : decode cL_ban 16 = .ok (.ireturn, 1) := by decide +kernel
theorem dL_ban_17 : decode cL_ban 17 = .ok (.iconst 0, 1) := by decide +kernel
theorem dL_ban_18 : decode cL_ban 18 = .ok (.ireturn, 1) := by decide +kernel
set_option maxRecDepth 20000 in
theorem ggL_print_X6_print : GoodIn wsL_print wsX6_print := goodIn_ca (goodIn_ca (goodIn_r _ [7, 8, 9, 10, 11, 12, 13, 14, 15, 6, 16, 17, 18, 19, 20, 21, 22, 23, 24, 25, 26, 27, 28, 29, 30, 31, 32, 33, 34, 35, 36, 37, 38, 39, 40, 41, 42, 43, 44, 45, 46] (by decide +kernel) (by decide +kernel)) (goodIn_sub (fun _ h => List.mem_cons_of_mem _ (List.mem_append_left _ (List.mem_append_right _ h))) (by decide +kernel))) (goodIn_sub (fun _ h => List.mem_cons_of_mem _ (List.mem_append_right _ h)) (by decide +kernel))
set_option maxRecDepth 20000 in
theorem gL_print_X6_print : GoodIn wsL_print (wsV RL 25 RX6 yX6_print wsX6_print) := goodIn_app (goodIn_of _ (by decide +kernel)) ggL_print_X6_print
theorem dL_print_0 : decode cL_print 0 = .ok (.aload_n 3, 1) := by decide +kernel
theorem dL_print_1 : decode cL_print 1 = .ok (.iconst 0, 1) := by decide +kernel
theorem dL_print_2 : decode cL_print 2 = .ok (.aload_n 0, 1) := by decide +kernel
theorem dL_print_3 : decode cL_print 3 = .ok (.iload_n 1, 1) := by decide +kernel
theorem dL_print_4 : decode cL_print 4 = .ok (.iload_n 2, 1) := by decide +kernel
theorem dL_print_5 : decode cL_print 5 = .ok (.invokevirtual 25, 3) := by decide +kernel
theorem dL_print_8 : decode cL_print 8 = .ok (.i2l, 1) := by decide +kernel
theorem dL_print_9 : decode cL_print 9 = .ok (.lastore, 1) := by decide +kernel
theorem dL_print_10 : decode cL_print 10 = .ok (.goto 11, 3) := by decide +kernel
theorem dL_print_13 : decode cL_print 13 = .ok (.astore 4, 2) := by decide +kernel
theorem dL_print_15 : decode cL_print 15 = .ok (.iconst 1, 1) := by decide +kernel
theorem dL_print_16 : decode cL_print 16 = .ok (.ireturn, 1) := by decide +kernel
theorem dL_print_17 : decode cL_print 17 = .ok (.astore 4, 2) := by decide +kernel
theorem dL_print_19 : decode cL_print 19 = .ok (.iconst 2, 1) := by decide +kernel
theorem dL_print_20 : decode cL_print 20 = .ok (.ireturn, 1) := by decide +kernel
theorem dL_print_21 : decode cL_print 21 = .ok (.iconst 0, 1) := by decide +kernel
theorem dL_print_22 : decode cL_print 22 = .ok (.ireturn, 1) := by decide +kernel
set_option maxRecDepth 20000 in
theorem ggL_deck_X6_deck : GoodIn wsL_deck wsX6_deck := goodIn_ca (goodIn_ca (goodIn_r _ [7, 8, 9, 10, 11, 12, 13, 6, 14, 15, 16, 17, 18, 19, 20, 21, 22, 23, 24, 25, 26, 27, 28, 29, 30, 31, 32, 33, 34, 35, 36] (by decide +kernel) (by decide +kernel)) (goodIn_sub (fun _ h => List.mem_cons_of_mem _ (List.mem_append_left _ (List.mem_append_right _ h))) (by decide +kernel))) (goodIn_sub (fun _ h => List.mem_cons_of_mem _ (List.mem_append_right _ h)) (by decide +kernel))
set_option maxRecDepth 20000 in
theorem gL_deck_X6_deck : GoodIn wsL_deck (wsV RL 30 RX6 yX6_deck wsX6_deck) := goodIn_app (goodIn_of _ (by decide +kernel)) ggL_deck_X6_deck
theorem dL_deck_0 : decode cL_deck 0 = .ok (.aload_n 2, 1) := by decide +kernel
theorem dL_deck_1 : decode cL_deck 1 = .ok (.iconst 0, 1) := by decide +kernel
theorem dL_deck_2 : decode cL_deck 2 = .ok (.aload_n 0, 1) := by decide +kernel
theorem dL_deck_3 : decode cL_deck 3 = .ok (.iload_n 1, 1) := by decide +kernel
theorem dL_deck_4 : decode cL_deck 4 = .ok (.invokevirtual 30, 3) := by decide +kernel
theorem dL_deck_7 : decode cL_deck 7 = .ok (.i2l, 1) := by decide +kernel
theorem dL_deck_8 : decode cL_deck 8 = .ok (.lastore, 1) := by decide +kernel
theorem dL_deck_9 : decode cL_deck 9 = .ok (.goto 9, 3) := by decide +kernel
theorem dL_deck_12 : decode cL_deck 12 = .ok (.astore_n 3, 1) := by decide +kernel
theorem dL_deck_13 : decode cL_deck 13 = .ok (.iconst 1, 1) := by decide +kernel
theorem dL_deck_14 : decode cL_deck 14 = .ok (.ireturn, 1) := by decide +kernel
theorem dL_deck_15 : decode cL_deck 15 = .ok (.astore_n 3, 1) := by decide +kernel
theorem dL_deck_16 : decode cL_deck 16 = .ok (.iconst 2, 1) := by decide +kernel
theorem dL_deck_17 : decode cL_deck 17 = .ok (.ireturn, 1) := by decide +kernel
theorem dL_deck_18 : decode cL_deck 18 = .ok (.iconst 0, 1) := by decide +kernel
theorem dL_deck_19 : decode cL_deck 19 = .ok (.ireturn, 1) := by decide +kernel
set_option maxRecDepth 20000 in
theorem ggL_add_X6_add : GoodIn wsL_add wsX6_add := goodIn_ca (goodIn_ca (goodIn_ca (goodIn_r _ [8, 9, 10, 11, 12, 13, 14, 15, 16, 17, 18, 19, 20, 7, 21, 22, 23, 24, 25, 26, 27, 28, 29, 30, 31, 32, 33, 34, 35, 36, 37, 38, 39, 40, 41, 42, 43, 44, 45, 46, 47, 48, 49, 50, 51, 52, 53, 54, 55, 56, 57] (by decide +kernel) (by decide +kernel)) (goodIn_sub (fun _ h => List.mem_cons_of_mem _ (List.mem_append_left _ (List.mem_append_left _ (List.mem_append_right _ h)))) (by decide +kernel))) (goodIn_sub (fun _ h => List.mem_cons_of_mem _ (List.mem_append_left _ (List.mem_append_right _ h))) (by decide +kernel))) (goodIn_sub (fun _ h => List.mem_cons_of_mem _ (List.mem_append_right _ h)) (by decide +kernel))
set_option maxRecDepth 20000 in
theorem gL_add_X6_add : GoodIn wsL_add (wsV RL 34 RX6 yX6_add wsX6_add) := goodIn_app (goodIn_of _ (by decide +kernel)) ggL_add_X6_add
theorem dL_add_0 : decode cL_add 0 = .ok (.aload_n 3, 1) := by decide +kernel
theorem dL_add_1 : decode cL_add 1 = .ok (.iconst 0, 1) := by decide +kernel
theorem dL_add_2 : decode cL_add 2 = .ok (.aload_n 0, 1) := by decide +kernel
theorem dL_add_3 : decode cL_add 3 = .ok (.iload_n 1, 1) := by decide +kernel
theorem dL_add_4 : decode cL_add 4 = .ok (.iload_n 2, 1) := by decide +kernel
theorem dL_add_5 : decode cL_add 5 = .ok (.invokevirtual 34, 3) := by decide +kernel
theorem dL_add_8 : decode cL_add 8 = .ok (.i2l, 1) := by decide +kernel
theorem dL_add_9 : decode cL_add 9 = .ok (.lastore, 1) := by decide +kernel
theorem dL_add_10 : decode cL_add 10 = .ok (.goto 15, 3) := by decide +kernel
theorem dL_add_13 : decode cL_add 13 = .ok (.astore 4, 2) := by decide +kernel
theorem dL_add_15 : decode cL_add 15 = .ok (.iconst 1, 1) := by decide +kernel
theorem dL_add_16 : decode cL_add 16 = .ok (.ireturn, 1) := by decide +kernel
theorem dL_add_17 : decode cL_add 17 = .ok (.astore 4, 2) := by decide +kernel
theorem dL_add_19 : decode cL_add 19 = .ok (.iconst 2, 1) := by decide +kernel
theorem dL_add_20 : decode cL_add 20 = .ok (.ireturn, 1) := by decide +kernel
theorem dL_add_21 : decode cL_add 21 = .ok (.astore 4, 2) := by decide +kernel
theorem dL_add_23 : decode cL_add 23 = .ok (.iconst 3, 1) := by decide +kernel
theorem dL_add_24 : decode cL_add 24 = .ok (.ireturn, 1) := by decide +kernel
theorem dL_add_25 : decode cL_add 25 = .ok (.iconst 0, 1) := by decide +kernel
theorem dL_add_26 : decode cL_add 26 = .ok (.ireturn, 1) := by decide +kernel
set_option maxRecDepth 20000 in
theorem ggL_cut_X6_cut : GoodIn wsL_cut wsX6_cut := goodIn_ca (goodIn_r _ [6, 7, 8, 9, 10, 5, 11, 12, 13, 14, 15, 16, 17, 18, 19, 20, 21, 22, 23, 24, 25, 26, 27, 28, 29, 30, 31, 32, 33, 34, 35, 36, 37, 38, 39] (by decide +kernel) (by decide +kernel)) (goodIn_sub (fun _ h => List.mem_cons_of_mem _ (List.mem_append_right _ h)) (by decide +kernel))
set_option maxRecDepth 20000 in
theorem gL_cut_X6_cut : GoodIn wsL_cut (wsV RL 37 RX6 yX6_cut wsX6_cut) := goodIn_app (goodIn_of _ (by decide +kernel)) ggL_cut_X6_cut
theorem dL_cut_0 : decode cL_cut 0 = .ok (.aload_n 3, 1) := by decide +kernel
theorem dL_cut_1 : decode cL_cut 1 = .ok (.iconst 0, 1) := by decide +kernel
theorem dL_cut_2 : decode cL_cut 2 = .ok (.aload_n 0, 1) := by decide +kernel
theorem dL_cut_3 : decode cL_cut 3 = .ok (.iload_n 1, 1) := by decide +kernel
theorem dL_cut_4 : decode cL_cut 4 = .ok (.iload_n 2, 1) := by decide +kernel
theorem dL_cut_5 : decode cL_cut 5 = .ok (.invokevirtual 37, 3) := by decide +kernel
theorem dL_cut_8 : decode cL_cut 8 = .ok (.i2l, 1) := by decide +kernel
theorem dL_cut_9 : decode cL_cut 9 = .ok (.lastore, 1) := by decide +kernel
theorem dL_cut_10 : decode cL_cut 10 = .ok (.goto 7, 3) := by decide +kernel
theorem dL_cut_13 : decode cL_cut 13 = .ok (.astore 4, 2) := by decide +kernel
theorem dL_cut_15 : decode cL_cut 15 = .ok (.iconst 1, 1) := by decide +kernel
theorem dL_cut_16 : decode cL_cut 16 = .ok (.ireturn, 1) := by decide +kernel
theorem dL_cut_17 : decode cL_cut 17 = .ok (.iconst 0, 1) := by decide +kernel
theorem dL_cut_18 : decode cL_cut 18 = .ok (.ireturn, 1) := by decide +kernel
set_option maxRecDepth 20000 in
theorem ggL_play_X6_play : GoodIn wsL_play wsX6_play := goodIn_ca (goodIn_ca (goodIn_ca (goodIn_r _ [8, 9, 10, 11, 12, 13, 14, 15, 16, 17, 18, 19, 7, 20, 21, 22, 23, 24, 25, 26, 27, 28, 29, 30, 31, 32, 33, 34, 35, 36, 37, 38, 39, 40, 41, 42, 43, 44, 45, 46, 47, 48, 49, 50, 51, 52, 53, 54, 55, 56, 57, 58, 59, 60, 61, 62, 63, 64, 65, 66, 67, 68, 69, 70, 71, 72, 73, 74, 75, 76, 77, 78, 79, 80, 81, 82, 83, 84, 85, 86, 87, 88, 89, 90, 91, 92, 93, 94, 95, 96, 97, 98, 99, 100, 101, 102, 103, 104, 105, 106, 107, 108, 109, 110, 111, 112, 113, 114, 115, 116, 117, 118, 119, 120, 121, 122, 123, 124, 125, 126, 127, 128] (by decide +kernel) (by decide +kernel)) (goodIn_sub (fun _ h => List.mem_cons_of_mem _ (List.mem_append_left _ (List.mem_append_left _ (List.mem_append_right _ h)))) (by decide +kernel))) (goodIn_sub (fun _ h => List.mem_cons_of_mem _ (List.mem_append_left _ (List.mem_append_right _ h))) (by decide +kernel))) (goodIn_sub (fun _ h => List.mem_cons_of_mem _ (List.mem_append_right _ h)) (by decide +kernel))
set_option maxRecDepth 20000 in
theorem gL_play_X6_play : GoodIn wsL_play (wsV RL 40 RX6 yX6_play wsX6_play) := goodIn_app (goodIn_of _ (by decide +kernel)) ggL_play_X6_play
theorem dL_play_0 : decode cL_play 0 = .ok (.aload 5, 2) := by decide +kernel
theorem dL_play_2 : decode cL_play 2 = .ok (.iconst 0, 1) := by decide +kernel
theorem dL_play_3 : decode cL_play 3 = .ok (.aload_n 0, 1) := by decide +kernel
theorem dL_play_4 : decode cL_play 4 = .ok (.iload_n 1, 1) := by decide +kernel
theorem dL_play_5 : decode cL_play 5 = .ok (.iload_n 2, 1) := by decide +kernel
theorem dL_play_6 : decode cL_play 6 = .ok (.iload_n 3, 1) := by decide +kernel
theorem dL_play_7 : decode cL_play 7 = .ok (.iload 4, 2) := by decide +kernel
theorem dL_play_9 : decode cL_play 9 = .ok (.invokevirtual 40, 3) := by decide +kernel
theorem dL_play_12 : decode cL_play 12 = .ok (.i2l, 1) := by decide +kernel
theorem dL_play_13 : decode cL_play 13 = .ok (.lastore, 1) := by decide +kernel
theorem dL_play_14 : decode cL_play 14 = .ok (.goto 15, 3) := by decide +kernel
theorem dL_play_17 : decode cL_play 17 = .ok (.astore 6, 2) := by decide +kernel
theorem dL_play_19 : decode cL_play 19 = .ok (.iconst 1, 1) := by decide +kernel
theorem dL_play_20 : decode cL_play 20 = .ok (.ireturn, 1) := by decide +kernel
theorem dL_play_21 : decode cL_play 21 = .ok (.astore 6, 2) := by decide +kernel
theorem dL_play_23 : decode cL_play 23 = .ok (.iconst 2, 1) := by decide +kernel
theorem dL_play_24 : decode cL_play 24 = .ok (.ireturn, 1) := by decide +kernel
theorem dL_play_25 : decode cL_play 25 = .ok (.astore 6, 2) := by decide +kernel
theorem dL_play_27 : decode cL_play 27 = .ok (.iconst 3, 1) := by decide +kernel
theorem dL_play_28 : decode cL_play 28 = .ok (.ireturn, 1) := by decide +kernel
theorem dL_play_29 : decode cL_play 29 = .ok (.iconst 0, 1) := by decide +kernel
theorem dL_play_30 : decode cL_play 30 = .ok (.ireturn, 1) := by decide +kernel
set_option maxRecDepth 20000 in
theorem ggL_offer_X6_offer : GoodIn wsL_offer wsX6_offer := goodIn_ca (goodIn_ca (goodIn_ca (goodIn_r _ [8, 9, 10, 11, 12, 13, 14, 15, 16, 17, 18, 19, 7, 20, 21, 22, 23, 24, 25, 26, 27, 28, 29, 30, 31, 32, 33, 34, 35, 36, 37, 38, 39, 40, 41, 42, 43, 44, 45, 46, 47, 48, 49, 50, 51, 52, 53, 54, 55, 56, 57, 58, 59, 60, 61] (by decide +kernel) (by decide +kernel)) (goodIn_sub (fun _ h => List.mem_cons_of_mem _ (List.mem_append_left _ (List.mem_append_left _ (List.mem_append_right _ h)))) (by decide +kernel))) (goodIn_sub (fun _ h => List.mem_cons_of_mem _ (List.mem_append_left _ (List.mem_append_right _ h))) (by decide +kernel))) (goodIn_sub (fun _ h => List.mem_cons_of_mem _ (List.mem_append_right _ h)) (by decide +kernel))
set_option maxRecDepth 20000 in
theorem gL_offer_X6_offer : GoodIn wsL_offer (wsV RL 44 RX6 yX6_offer wsX6_offer) := goodIn_app (goodIn_of _ (by decide +kernel)) ggL_offer_X6_offer
theorem dL_offer_0 : decode cL_offer 0 = .ok (.aload_n 3, 1) := by decide +kernel
theorem dL_offer_1 : decode cL_offer 1 = .ok (.iconst 0, 1) := by decide +kernel
theorem dL_offer_2 : decode cL_offer 2 = .ok (.aload_n 0, 1) := by decide +kernel
theorem dL_offer_3 : decode cL_offer 3 = .ok (.iload_n 1, 1) := by decide +kernel
theorem dL_offer_4 : decode cL_offer 4 = .ok (.iload_n 2, 1) := by decide +kernel
theorem dL_offer_5 : decode cL_offer 5 = .ok (.invokevirtual 44, 3) := by decide +kernel
theorem dL_offer_8 : decode cL_offer 8 = .ok (.i2l, 1) := by decide +kernel
theorem dL_offer_9 : decode cL_offer 9 = .ok (.lastore, 1) := by decide +kernel
theorem dL_offer_10 : decode cL_offer 10 = .ok (.goto 15, 3) := by decide +kernel
theorem dL_offer_13 : decode cL_offer 13 = .ok (.astore 4, 2) := by decide +kernel
theorem dL_offer_15 : decode cL_offer 15 = .ok (.iconst 1, 1) := by decide +kernel
theorem dL_offer_16 : decode cL_offer 16 = .ok (.ireturn, 1) := by decide +kernel
theorem dL_offer_17 : decode cL_offer 17 = .ok (.astore 4, 2) := by decide +kernel
theorem dL_offer_19 : decode cL_offer 19 = .ok (.iconst 2, 1) := by decide +kernel
theorem dL_offer_20 : decode cL_offer 20 = .ok (.ireturn, 1) := by decide +kernel
theorem dL_offer_21 : decode cL_offer 21 = .ok (.astore 4, 2) := by decide +kernel
theorem dL_offer_23 : decode cL_offer 23 = .ok (.iconst 3, 1) := by decide +kernel
theorem dL_offer_24 : decode cL_offer 24 = .ok (.ireturn, 1) := by decide +kernel
theorem dL_offer_25 : decode cL_offer 25 = .ok (.iconst 0, 1) := by decide +kernel
theorem dL_offer_26 : decode cL_offer 26 = .ok (.ireturn, 1) := by decide +kernel
set_option maxRecDepth 20000 in
theorem ggL_takeBack_X6_takeBack : GoodIn wsL_takeBack wsX6_takeBack := goodIn_ca (goodIn_ca (goodIn_r _ [7, 8, 9, 10, 11, 12, 13, 14, 15, 6, 16, 17, 18, 19, 20, 21, 22, 23, 24, 25, 26, 27, 28, 29, 30, 31, 32, 33] (by decide +kernel) (by decide +kernel)) (goodIn_sub (fun _ h => List.mem_cons_of_mem _ (List.mem_append_left _ (List.mem_append_right _ h))) (by decide +kernel))) (goodIn_sub (fun _ h => List.mem_cons_of_mem _ (List.mem_append_right _ h)) (by decide +kernel))
set_option maxRecDepth 20000 in
theorem gL_takeBack_X6_takeBack : GoodIn wsL_takeBack (wsV RL 47 RX6 yX6_takeBack wsX6_takeBack) := goodIn_app (goodIn_of _ (by decide +kernel)) ggL_takeBack_X6_takeBack
theorem dL_takeBack_0 : decode cL_takeBack 0 = .ok (.aload_n 2, 1) := by decide +kernel
theorem dL_takeBack_1 : decode cL_takeBack 1 = .ok (.iconst 0, 1) := by decide +kernel
theorem dL_takeBack_2 : decode cL_takeBack 2 = .ok (.aload_n 0, 1) := by decide +kernel
theorem dL_takeBack_3 : decode cL_takeBack 3 = .ok (.iload_n 1, 1) := by decide +kernel
theorem dL_takeBack_4 : decode cL_takeBack 4 = .ok (.invokevirtual 47, 3) := by decide +kernel
theorem dL_takeBack_7 : decode cL_takeBack 7 = .ok (.i2l, 1) := by decide +kernel
theorem dL_takeBack_8 : decode cL_takeBack 8 = .ok (.lastore, 1) := by decide +kernel
theorem dL_takeBack_9 : decode cL_takeBack 9 = .ok (.goto 9, 3) := by decide +kernel
theorem dL_takeBack_12 : decode cL_takeBack 12 = .ok (.astore_n 3, 1) := by decide +kernel
theorem dL_takeBack_13 : decode cL_takeBack 13 = .ok (.iconst 1, 1) := by decide +kernel
theorem dL_takeBack_14 : decode cL_takeBack 14 = .ok (.ireturn, 1) := by decide +kernel
theorem dL_takeBack_15 : decode cL_takeBack 15 = .ok (.astore_n 3, 1) := by decide +kernel
theorem dL_takeBack_16 : decode cL_takeBack 16 = .ok (.iconst 2, 1) := by decide +kernel
theorem dL_takeBack_17 : decode cL_takeBack 17 = .ok (.ireturn, 1) := by decide +kernel
theorem dL_takeBack_18 : decode cL_takeBack 18 = .ok (.iconst 0, 1) := by decide +kernel
theorem dL_takeBack_19 : decode cL_takeBack 19 = .ok (.ireturn, 1) := by decide +kernel
set_option maxRecDepth 20000 in
theorem ggL_printOf_X6_printOf : GoodIn wsL_printOf wsX6_printOf := goodIn_ca (goodIn_r _ [6, 7, 8, 9, 10, 11, 12, 5, 13, 14, 15, 16, 17, 18, 19, 20, 21, 22, 23, 24, 25, 26, 27] (by decide +kernel) (by decide +kernel)) (goodIn_sub (fun _ h => List.mem_cons_of_mem _ (List.mem_append_right _ h)) (by decide +kernel))
set_option maxRecDepth 20000 in
theorem gL_printOf_X6_printOf : GoodIn wsL_printOf (wsV RL 50 RX6 yX6_printOf wsX6_printOf) := goodIn_app (goodIn_of _ (by decide +kernel)) ggL_printOf_X6_printOf
theorem dL_printOf_0 : decode cL_printOf 0 = .ok (.aload_n 2, 1) := by decide +kernel
theorem dL_printOf_1 : decode cL_printOf 1 = .ok (.iconst 0, 1) := by decide +kernel
theorem dL_printOf_2 : decode cL_printOf 2 = .ok (.aload_n 0, 1) := by decide +kernel
theorem dL_printOf_3 : decode cL_printOf 3 = .ok (.iload_n 1, 1) := by decide +kernel
theorem dL_printOf_4 : decode cL_printOf 4 = .ok (.invokevirtual 50, 3) := by decide +kernel
theorem dL_printOf_7 : decode cL_printOf 7 = .ok (.i2l, 1) := by decide +kernel
theorem dL_printOf_8 : decode cL_printOf 8 = .ok (.lastore, 1) := by decide +kernel
theorem dL_printOf_9 : decode cL_printOf 9 = .ok (.goto 6, 3) := by decide +kernel
theorem dL_printOf_12 : decode cL_printOf 12 = .ok (.astore_n 3, 1) := by decide +kernel
theorem dL_printOf_13 : decode cL_printOf 13 = .ok (.iconst 1, 1) := by decide +kernel
theorem dL_printOf_14 : decode cL_printOf 14 = .ok (.ireturn, 1) := by decide +kernel
theorem dL_printOf_15 : decode cL_printOf 15 = .ok (.iconst 0, 1) := by decide +kernel
theorem dL_printOf_16 : decode cL_printOf 16 = .ok (.ireturn, 1) := by decide +kernel
set_option maxRecDepth 20000 in
theorem ggL_collectorOf_X6_collectorOf : GoodIn wsL_collectorOf wsX6_collectorOf := goodIn_ca (goodIn_r _ [6, 7, 8, 9, 10, 11, 5, 12, 13, 14, 15, 16, 17, 18, 19, 20, 21, 22, 23, 24, 25, 26] (by decide +kernel) (by decide +kernel)) (goodIn_sub (fun _ h => List.mem_cons_of_mem _ (List.mem_append_right _ h)) (by decide +kernel))
set_option maxRecDepth 20000 in
theorem gL_collectorOf_X6_collectorOf : GoodIn wsL_collectorOf (wsV RL 53 RX6 yX6_collectorOf wsX6_collectorOf) := goodIn_app (goodIn_of _ (by decide +kernel)) ggL_collectorOf_X6_collectorOf
theorem dL_collectorOf_0 : decode cL_collectorOf 0 = .ok (.aload_n 2, 1) := by decide +kernel
theorem dL_collectorOf_1 : decode cL_collectorOf 1 = .ok (.iconst 0, 1) := by decide +kernel
theorem dL_collectorOf_2 : decode cL_collectorOf 2 = .ok (.aload_n 0, 1) := by decide +kernel
theorem dL_collectorOf_3 : decode cL_collectorOf 3 = .ok (.iload_n 1, 1) := by decide +kernel
theorem dL_collectorOf_4 : decode cL_collectorOf 4 = .ok (.invokevirtual 53, 3) := by decide +kernel
theorem dL_collectorOf_7 : decode cL_collectorOf 7 = .ok (.i2l, 1) := by decide +kernel
theorem dL_collectorOf_8 : decode cL_collectorOf 8 = .ok (.lastore, 1) := by decide +kernel
theorem dL_collectorOf_9 : decode cL_collectorOf 9 = .ok (.goto 6, 3) := by decide +kernel
theorem dL_collectorOf_12 : decode cL_collectorOf 12 = .ok (.astore_n 3, 1) := by decide +kernel
theorem dL_collectorOf_13 : decode cL_collectorOf 13 = .ok (.iconst 1, 1) := by decide +kernel
theorem dL_collectorOf_14 : decode cL_collectorOf 14 = .ok (.ireturn, 1) := by decide +kernel
theorem dL_collectorOf_15 : decode cL_collectorOf 15 = .ok (.iconst 0, 1) := by decide +kernel
theorem dL_collectorOf_16 : decode cL_collectorOf 16 = .ok (.ireturn, 1) := by decide +kernel
set_option maxRecDepth 20000 in
theorem ggL_has_X6_has : GoodIn wsL_has wsX6_has := goodIn_ca (goodIn_r _ [6, 7, 8, 9, 5, 10, 11, 12, 13, 14, 15, 16, 17, 18, 19, 20, 21, 22, 23, 24, 25, 26, 27, 28, 29, 30, 31, 32, 33, 34] (by decide +kernel) (by decide +kernel)) (goodIn_sub (fun _ h => List.mem_cons_of_mem _ (List.mem_append_right _ h)) (by decide +kernel))
set_option maxRecDepth 20000 in
theorem gL_has_X6_has : GoodIn wsL_has (wsV RL 56 RX6 yX6_has wsX6_has) := goodIn_app (goodIn_of _ (by decide +kernel)) ggL_has_X6_has
theorem dL_has_0 : decode cL_has 0 = .ok (.aload_n 3, 1) := by decide +kernel
theorem dL_has_1 : decode cL_has 1 = .ok (.iconst 0, 1) := by decide +kernel
theorem dL_has_2 : decode cL_has 2 = .ok (.aload_n 0, 1) := by decide +kernel
theorem dL_has_3 : decode cL_has 3 = .ok (.iload_n 1, 1) := by decide +kernel
theorem dL_has_4 : decode cL_has 4 = .ok (.iload_n 2, 1) := by decide +kernel
theorem dL_has_5 : decode cL_has 5 = .ok (.invokevirtual 56, 3) := by decide +kernel
theorem dL_has_8 : decode cL_has 8 = .ok (.i2l, 1) := by decide +kernel
theorem dL_has_9 : decode cL_has 9 = .ok (.lastore, 1) := by decide +kernel
theorem dL_has_10 : decode cL_has 10 = .ok (.goto 7, 3) := by decide +kernel
theorem dL_has_13 : decode cL_has 13 = .ok (.astore 4, 2) := by decide +kernel
theorem dL_has_15 : decode cL_has 15 = .ok (.iconst 1, 1) := by decide +kernel
theorem dL_has_16 : decode cL_has 16 = .ok (.ireturn, 1) := by decide +kernel
theorem dL_has_17 : decode cL_has 17 = .ok (.iconst 0, 1) := by decide +kernel
theorem dL_has_18 : decode cL_has 18 = .ok (.ireturn, 1) := by decide +kernel
end
section
set_option maxRecDepth 20000 in
theorem ggL_wins_X6_wins : GoodIn wsL_wins wsX6_wins := goodIn_ca (goodIn_r _ [6, 7, 8, 9, 10, 5, 11, 12, 13, 14, 15, 16, 17, 18, 19, 20, 21, 22, 23, 24, 25] (by decide +kernel) (by decide +kernel)) (goodIn_sub (fun _ h => List.mem_cons_of_mem _ (List.mem_append_right _ h)) (by decide +kernel))
set_option maxRecDepth 20000 in
theorem gL_wins_X6_wins : GoodIn wsL_wins (wsV RL 59 RX6 yX6_wins wsX6_wins) := goodIn_app (goodIn_of _ (by decide +kernel)) ggL_wins_X6_wins
theorem dL_wins_0 : decode cL_wins 0 = .ok (.aload_n 2, 1) := by decide +kernel
theorem dL_wins_1 : decode cL_wins 1 = .ok (.iconst 0, 1) := by decide +kernel
theorem dL_wins_2 : decode cL_wins 2 = .ok (.aload_n 0, 1) := by decide +kernel
theorem dL_wins_3 : decode cL_wins 3 = .ok (.iload_n 1, 1) := by decide +kernel
theorem dL_wins_4 : decode cL_wins 4 = .ok (.invokevirtual 59, 3) := by decide +kernel
theorem dL_wins_7 : decode cL_wins 7 = .ok (.i2l, 1) := by decide +kernel
theorem dL_wins_8 : decode cL_wins 8 = .ok (.lastore, 1) := by decide +kernel
theorem dL_wins_9 : decode cL_wins 9 = .ok (.goto 6, 3) := by decide +kernel
theorem dL_wins_12 : decode cL_wins 12 = .ok (.astore_n 3, 1) := by decide +kernel
theorem dL_wins_13 : decode cL_wins 13 = .ok (.iconst 1, 1) := by decide +kernel
theorem dL_wins_14 : decode cL_wins 14 = .ok (.ireturn, 1) := by decide +kernel
theorem dL_wins_15 : decode cL_wins 15 = .ok (.iconst 0, 1) := by decide +kernel
theorem dL_wins_16 : decode cL_wins 16 = .ok (.ireturn, 1) := by decide +kernel
set_option maxRecDepth 20000 in
theorem ggL_price_X6_price : GoodIn wsL_price wsX6_price := goodIn_ca (goodIn_r _ [6, 7, 8, 9, 10, 11, 5, 12, 13, 14, 15, 16, 17, 18, 19, 20, 21, 22, 23, 24, 25, 26] (by decide +kernel) (by decide +kernel)) (goodIn_sub (fun _ h => List.mem_cons_of_mem _ (List.mem_append_right _ h)) (by decide +kernel))
set_option maxRecDepth 20000 in
theorem gL_price_X6_price : GoodIn wsL_price (wsV RL 62 RX6 yX6_price wsX6_price) := goodIn_app (goodIn_of _ (by decide +kernel)) ggL_price_X6_price
theorem dL_price_0 : decode cL_price 0 = .ok (.aload_n 2, 1) := by decide +kernel
theorem dL_price_1 : decode cL_price 1 = .ok (.iconst 0, 1) := by decide +kernel
theorem dL_price_2 : decode cL_price 2 = .ok (.aload_n 0, 1) := by decide +kernel
theorem dL_price_3 : decode cL_price 3 = .ok (.iload_n 1, 1) := by decide +kernel
theorem dL_price_4 : decode cL_price 4 = .ok (.invokevirtual 62, 3) := by decide +kernel
theorem dL_price_7 : decode cL_price 7 = .ok (.i2l, 1) := by decide +kernel
theorem dL_price_8 : decode cL_price 8 = .ok (.lastore, 1) := by decide +kernel
theorem dL_price_9 : decode cL_price 9 = .ok (.goto 6, 3) := by decide +kernel
theorem dL_price_12 : decode cL_price 12 = .ok (.astore_n 3, 1) := by decide +kernel
theorem dL_price_13 : decode cL_price 13 = .ok (.iconst 1, 1) := by decide +kernel
theorem dL_price_14 : decode cL_price 14 = .ok (.ireturn, 1) := by decide +kernel
theorem dL_price_15 : decode cL_price 15 = .ok (.iconst 0, 1) := by decide +kernel
theorem dL_price_16 : decode cL_price 16 = .ok (.ireturn, 1) := by decide +kernel
set_option maxRecDepth 20000 in
theorem ggL_isAllowed_X6_isAllowed : GoodIn wsL_isAllowed wsX6_isAllowed := goodIn_ca (goodIn_r _ [6, 7, 8, 9, 10, 11, 12, 5, 13, 14, 15, 16, 17, 18, 19, 20, 21, 22, 23, 24, 25, 26, 27, 28, 29, 30, 31, 32, 33, 34, 35, 36, 37, 38, 39, 40, 41, 42, 43, 44, 45, 46, 47, 48, 49, 50, 51, 52, 53, 54, 55, 56, 57, 58, 59, 60, 61, 62, 63, 64, 65, 66] (by decide +kernel) (by decide +kernel)) (goodIn_sub (fun _ h => List.mem_cons_of_mem _ (List.mem_append_right _ h)) (by decide +kernel))
set_option maxRecDepth 20000 in
theorem gL_isAllowed_X6_isAllowed : GoodIn wsL_isAllowed (wsV RL 65 RX6 yX6_isAllowed wsX6_isAllowed) := goodIn_app (goodIn_of _ (by decide +kernel)) ggL_isAllowed_X6_isAllowed
theorem dL_isAllowed_0 : decode cL_isAllowed 0 = .ok (.aload_n 2, 1) := by decide +kernel
theorem dL_isAllowed_1 : decode cL_isAllowed 1 = .ok (.iconst 0, 1) := by decide +kernel
theorem dL_isAllowed_2 : decode cL_isAllowed 2 = .ok (.aload_n 0, 1) := by decide +kernel
theorem dL_isAllowed_3 : decode cL_isAllowed 3 = .ok (.iload_n 1, 1) := by decide +kernel
theorem dL_isAllowed_4 : decode cL_isAllowed 4 = .ok (.invokevirtual 65, 3) := by decide +kernel
theorem dL_isAllowed_7 : decode cL_isAllowed 7 = .ok (.ifCond .eq 7, 3) := by decide +kernel
theorem dL_isAllowed_10 : decode cL_isAllowed 10 = .ok (.lconst 1, 1) := by decide +kernel
theorem dL_isAllowed_11 : decode cL_isAllowed 11 = .ok (.goto 4, 3) := by decide +kernel
theorem dL_isAllowed_14 : decode cL_isAllowed 14 = .ok (.lconst 0, 1) := by decide +kernel
theorem dL_isAllowed_15 : decode cL_isAllowed 15 = .ok (.lastore, 1) := by decide +kernel
theorem dL_isAllowed_16 : decode cL_isAllowed 16 = .ok (.goto 6, 3) := by decide +kernel
theorem dL_isAllowed_19 : decode cL_isAllowed 19 = .ok (.astore_n 3, 1) := by decide +kernel
theorem dL_isAllowed_20 : decode cL_isAllowed 20 = .ok (.iconst 1, 1) := by decide +kernel
theorem dL_isAllowed_21 : decode cL_isAllowed 21 = .ok (.ireturn, 1) := by decide +kernel
theorem dL_isAllowed_22 : decode cL_isAllowed 22 = .ok (.iconst 0, 1) := by decide +kernel
theorem dL_isAllowed_23 : decode cL_isAllowed 23 = .ok (.ireturn, 1) := by decide +kernel
set_option maxRecDepth 20000 in
theorem ggL_shuffled_X6_shuffled : GoodIn wsL_shuffled wsX6_shuffled := goodIn_ca (goodIn_ca (goodIn_r _ [7, 8, 9, 10, 11, 12, 13, 6, 14, 15, 16, 17, 18, 19, 20, 21, 22, 23, 24, 25, 26, 27, 28, 29, 30, 31, 32, 33, 34, 35, 36, 37, 38, 39, 40, 41, 42, 43, 44, 45, 46, 47, 48, 49, 50, 51, 52, 53] (by decide +kernel) (by decide +kernel)) (goodIn_sub (fun _ h => List.mem_cons_of_mem _ (List.mem_append_left _ (List.mem_append_right _ h))) (by decide +kernel))) (goodIn_sub (fun _ h => List.mem_cons_of_mem _ (List.mem_append_right _ h)) (by decide +kernel))
set_option maxRecDepth 20000 in
theorem gL_shuffled_X6_shuffled : GoodIn wsL_shuffled (wsV RL 69 RX6 yX6_shuffled wsX6_shuffled) := goodIn_app (goodIn_of _ (by decide +kernel)) ggL_shuffled_X6_shuffled
theorem dL_shuffled_0 : decode cL_shuffled 0 = .ok (.aload 4, 2) := by decide +kernel
theorem dL_shuffled_2 : decode cL_shuffled 2 = .ok (.iconst 0, 1) := by decide +kernel
theorem dL_shuffled_3 : decode cL_shuffled 3 = .ok (.aload_n 0, 1) := by decide +kernel
theorem dL_shuffled_4 : decode cL_shuffled 4 = .ok (.iload_n 1, 1) := by decide +kernel
theorem dL_shuffled_5 : decode cL_shuffled 5 = .ok (.iload_n 2, 1) := by decide +kernel
theorem dL_shuffled_6 : decode cL_shuffled 6 = .ok (.iload_n 3, 1) := by decide +kernel
theorem dL_shuffled_7 : decode cL_shuffled 7 = .ok (.invokevirtual 69, 3) := by decide +kernel
theorem dL_shuffled_10 : decode cL_shuffled 10 = .ok (.i2l, 1) := by decide +kernel
theorem dL_shuffled_11 : decode cL_shuffled 11 = .ok (.lastore, 1) := by decide +kernel
theorem dL_shuffled_12 : decode cL_shuffled 12 = .ok (.goto 11, 3) := by decide +kernel
theorem dL_shuffled_15 : decode cL_shuffled 15 = .ok (.astore 5, 2) := by decide +kernel
theorem dL_shuffled_17 : decode cL_shuffled 17 = .ok (.iconst 1, 1) := by decide +kernel
theorem dL_shuffled_18 : decode cL_shuffled 18 = .ok (.ireturn, 1) := by decide +kernel
theorem dL_shuffled_19 : decode cL_shuffled 19 = .ok (.astore 5, 2) := by decide +kernel
theorem dL_shuffled_21 : decode cL_shuffled 21 = .ok (.iconst 2, 1) := by decide +kernel
theorem dL_shuffled_22 : decode cL_shuffled 22 = .ok (.ireturn, 1) := by decide +kernel
theorem dL_shuffled_23 : decode cL_shuffled 23 = .ok (.iconst 0, 1) := by decide +kernel
theorem dL_shuffled_24 : decode cL_shuffled 24 = .ok (.ireturn, 1) := by decide +kernel
set_option maxRecDepth 20000 in
theorem ggL_orders_X6_orders : GoodIn wsL_orders wsX6_orders := goodIn_ca (goodIn_ca (goodIn_r _ [7, 8, 9, 10, 11, 12, 13, 6, 14, 15, 16, 17, 18, 19, 20, 21, 22, 23, 24, 25, 26, 27, 28, 29, 30, 31, 32, 33, 34, 35, 36, 37, 38, 39, 40, 41, 42, 43, 44, 45, 46, 47, 48, 49, 50, 51, 52, 53, 54, 55, 56, 57, 58, 59, 60, 61] (by decide +kernel) (by decide +kernel)) (goodIn_sub (fun _ h => List.mem_cons_of_mem _ (List.mem_append_left _ (List.mem_append_right _ h))) (by decide +kernel))) (goodIn_sub (fun _ h => List.mem_cons_of_mem _ (List.mem_append_right _ h)) (by decide +kernel))
set_option maxRecDepth 20000 in
theorem gL_orders_X6_orders : GoodIn wsL_orders (wsV RL 72 RX6 yX6_orders wsX6_orders) := goodIn_app (goodIn_of _ (by decide +kernel)) ggL_orders_X6_orders
theorem dL_orders_0 : decode cL_orders 0 = .ok (.aload 4, 2) := by decide +kernel
theorem dL_orders_2 : decode cL_orders 2 = .ok (.iconst 0, 1) := by decide +kernel
theorem dL_orders_3 : decode cL_orders 3 = .ok (.aload_n 0, 1) := by decide +kernel
theorem dL_orders_4 : decode cL_orders 4 = .ok (.iload_n 1, 1) := by decide +kernel
theorem dL_orders_5 : decode cL_orders 5 = .ok (.iload_n 2, 1) := by decide +kernel
theorem dL_orders_6 : decode cL_orders 6 = .ok (.iload_n 3, 1) := by decide +kernel
theorem dL_orders_7 : decode cL_orders 7 = .ok (.invokevirtual 72, 3) := by decide +kernel
theorem dL_orders_10 : decode cL_orders 10 = .ok (.i2l, 1) := by decide +kernel
theorem dL_orders_11 : decode cL_orders 11 = .ok (.lastore, 1) := by decide +kernel
theorem dL_orders_12 : decode cL_orders 12 = .ok (.goto 11, 3) := by decide +kernel
theorem dL_orders_15 : decode cL_orders 15 = .ok (.astore 5, 2) := by decide +kernel
theorem dL_orders_17 : decode cL_orders 17 = .ok (.iconst 1, 1) := by decide +kernel
theorem dL_orders_18 : decode cL_orders 18 = .ok (.ireturn, 1) := by decide +kernel
theorem dL_orders_19 : decode cL_orders 19 = .ok (.astore 5, 2) := by decide +kernel
theorem dL_orders_21 : decode cL_orders 21 = .ok (.iconst 2, 1) := by decide +kernel
theorem dL_orders_22 : decode cL_orders 22 = .ok (.ireturn, 1) := by decide +kernel
theorem dL_orders_23 : decode cL_orders 23 = .ok (.iconst 0, 1) := by decide +kernel
theorem dL_orders_24 : decode cL_orders 24 = .ok (.ireturn, 1) := by decide +kernel
set_option maxRecDepth 20000 in
theorem ggL_ordersByAll_X6_ordersByAll : GoodIn wsL_ordersByAll wsX6_ordersByAll := goodIn_ca (goodIn_ca (goodIn_ca (goodIn_r _ [8, 9, 10, 11, 12, 13, 14, 15, 16, 7, 17, 18, 19, 20, 21, 22, 23, 24, 25, 26, 27, 28, 29, 30, 31, 32, 33, 34, 35, 36, 37, 38, 39, 40, 41, 42, 43, 44, 45, 46, 47, 48, 49, 50, 51, 52, 53, 54, 55, 56] (by decide +kernel) (by decide +kernel)) (goodIn_sub (fun _ h => List.mem_cons_of_mem _ (List.mem_append_left _ (List.mem_append_left _ (List.mem_append_right _ h)))) (by decide +kernel))) (goodIn_sub (fun _ h => List.mem_cons_of_mem _ (List.mem_append_left _ (List.mem_append_right _ h))) (by decide +kernel))) (goodIn_sub (fun _ h => List.mem_cons_of_mem _ (List.mem_append_right _ h)) (by decide +kernel))
set_option maxRecDepth 20000 in
theorem gL_ordersByAll_X6_ordersByAll : GoodIn wsL_ordersByAll (wsV RL 75 RX6 yX6_ordersByAll wsX6_ordersByAll) := goodIn_app (goodIn_of _ (by decide +kernel)) ggL_ordersByAll_X6_ordersByAll
theorem dL_ordersByAll_0 : decode cL_ordersByAll 0 = .ok (.aload 4, 2) := by decide +kernel
theorem dL_ordersByAll_2 : decode cL_ordersByAll 2 = .ok (.iconst 0, 1) := by decide +kernel
theorem dL_ordersByAll_3 : decode cL_ordersByAll 3 = .ok (.aload_n 0, 1) := by decide +kernel
theorem dL_ordersByAll_4 : decode cL_ordersByAll 4 = .ok (.iload_n 1, 1) := by decide +kernel
theorem dL_ordersByAll_5 : decode cL_ordersByAll 5 = .ok (.iload_n 2, 1) := by decide +kernel
theorem dL_ordersByAll_6 : decode cL_ordersByAll 6 = .ok (.iload_n 3, 1) := by decide +kernel
theorem dL_ordersByAll_7 : decode cL_ordersByAll 7 = .ok (.invokevirtual 75, 3) := by decide +kernel
theorem dL_ordersByAll_10 : decode cL_ordersByAll 10 = .ok (.i2l, 1) := by decide +kernel
theorem dL_ordersByAll_11 : decode cL_ordersByAll 11 = .ok (.lastore, 1) := by decide +kernel
theorem dL_ordersByAll_12 : decode cL_ordersByAll 12 = .ok (.goto 15, 3) := by decide +kernel
theorem dL_ordersByAll_15 : decode cL_ordersByAll 15 = .ok (.astore 5, 2) := by decide +kernel
theorem dL_ordersByAll_17 : decode cL_ordersByAll 17 = .ok (.iconst 1, 1) := by decide +kernel
theorem dL_ordersByAll_18 : decode cL_ordersByAll 18 = .ok (.ireturn, 1) := by decide +kernel
theorem dL_ordersByAll_19 : decode cL_ordersByAll 19 = .ok (.astore 5, 2) := by decide +kernel
theorem dL_ordersByAll_21 : decode cL_ordersByAll 21 = .ok (.iconst 2, 1) := by decide +kernel
theorem dL_ordersByAll_22 : decode cL_ordersByAll 22 = .ok (.ireturn, 1) := by decide +kernel
theorem dL_ordersByAll_23 : decode cL_ordersByAll 23 = .ok (.astore 5, 2) := by decide +kernel
theorem dL_ordersByAll_25 : decode cL_ordersByAll 25 = .ok (.iconst 3, 1) := by decide +kernel
theorem dL_ordersByAll_26 : decode cL_ordersByAll 26 = .ok (.ireturn, 1) := by decide +kernel
theorem dL_ordersByAll_27 : decode cL_ordersByAll 27 = .ok (.iconst 0, 1) := by decide +kernel
theorem dL_ordersByAll_28 : decode cL_ordersByAll 28 = .ok (.ireturn, 1) := by decide +kernel
set_option maxRecDepth 20000 in
theorem ggL_isOpen_X6_isOpen : GoodIn wsL_isOpen wsX6_isOpen := goodIn_ca (goodIn_r _ [6, 7, 8, 9, 10, 11, 5, 12, 13, 14, 15, 16, 17, 18, 19, 20, 21, 22, 23, 24, 25, 26, 27, 28, 29] (by decide +kernel) (by decide +kernel)) (goodIn_sub (fun _ h => List.mem_cons_of_mem _ (List.mem_append_right _ h)) (by decide +kernel))
set_option maxRecDepth 20000 in
theorem gL_isOpen_X6_isOpen : GoodIn wsL_isOpen (wsV RL 78 RX6 yX6_isOpen wsX6_isOpen) := goodIn_app (goodIn_of _ (by decide +kernel)) ggL_isOpen_X6_isOpen
theorem dL_isOpen_0 : decode cL_isOpen 0 = .ok (.aload_n 2, 1) := by decide +kernel
theorem dL_isOpen_1 : decode cL_isOpen 1 = .ok (.iconst 0, 1) := by decide +kernel
theorem dL_isOpen_2 : decode cL_isOpen 2 = .ok (.aload_n 0, 1) := by decide +kernel
theorem dL_isOpen_3 : decode cL_isOpen 3 = .ok (.iload_n 1, 1) := by decide +kernel
theorem dL_isOpen_4 : decode cL_isOpen 4 = .ok (.invokevirtual 78, 3) := by decide +kernel
theorem dL_isOpen_7 : decode cL_isOpen 7 = .ok (.ifCond .eq 7, 3) := by decide +kernel
theorem dL_isOpen_10 : decode cL_isOpen 10 = .ok (.lconst 1, 1) := by decide +kernel
theorem dL_isOpen_11 : decode cL_isOpen 11 = .ok (.goto 4, 3) := by decide +kernel
theorem dL_isOpen_14 : decode cL_isOpen 14 = .ok (.lconst 0, 1) := by decide +kernel
theorem dL_isOpen_15 : decode cL_isOpen 15 = .ok (.lastore, 1) := by decide +kernel
theorem dL_isOpen_16 : decode cL_isOpen 16 = .ok (.goto 6, 3) := by decide +kernel
theorem dL_isOpen_19 : decode cL_isOpen 19 = .ok (.astore_n 3, 1) := by decide +kernel
theorem dL_isOpen_20 : decode cL_isOpen 20 = .ok (.iconst 1, 1) := by decide +kernel
theorem dL_isOpen_21 : decode cL_isOpen 21 = .ok (.ireturn, 1) := by decide +kernel
theorem dL_isOpen_22 : decode cL_isOpen 22 = .ok (.iconst 0, 1) := by decide +kernel
theorem dL_isOpen_23 : decode cL_isOpen 23 = .ok (.ireturn, 1) := by decide +kernel
set_option maxRecDepth 20000 in
theorem ggL_ring_X6_ring : GoodIn wsL_ring wsX6_ring := goodIn_ca (goodIn_r _ [6, 7, 8, 9, 10, 11, 12, 13, 14, 15, 16, 17, 18, 19, 20, 21, 22, 23, 24, 25, 26, 27, 28, 29, 30, 31, 32, 33, 34, 35, 36, 37, 38, 39, 40, 41, 42, 43, 44, 45, 46] (by decide +kernel) (by decide +kernel)) (goodIn_sub (fun _ h => List.mem_cons_of_mem _ (List.mem_append_right _ h)) (by decide +kernel))
set_option maxRecDepth 20000 in
theorem gL_ring_X6_ring : GoodIn wsL_ring (wsV RL 81 RX6 yX6_ring wsX6_ring) := goodIn_app (goodIn_of _ (by decide +kernel)) ggL_ring_X6_ring
theorem dL_ring_0 : decode cL_ring 0 = .ok (.aload_n 2, 1) := by decide +kernel
theorem dL_ring_1 : decode cL_ring 1 = .ok (.iconst 0, 1) := by decide +kernel
theorem dL_ring_2 : decode cL_ring 2 = .ok (.aload_n 0, 1) := by decide +kernel
theorem dL_ring_3 : decode cL_ring 3 = .ok (.iload_n 1, 1) := by decide +kernel
theorem dL_ring_4 : decode cL_ring 4 = .ok (.invokevirtual 81, 3) := by decide +kernel
theorem dL_ring_7 : decode cL_ring 7 = .ok (.i2l, 1) := by decide +kernel
theorem dL_ring_8 : decode cL_ring 8 = .ok (.lastore, 1) := by decide +kernel
theorem dL_ring_9 : decode cL_ring 9 = .ok (.goto 6, 3) := by decide +kernel
theorem dL_ring_12 : decode cL_ring 12 = .ok (.astore_n 3, 1) := by decide +kernel
theorem dL_ring_13 : decode cL_ring 13 = .ok (.iconst 1, 1) := by decide +kernel
theorem dL_ring_14 : decode cL_ring 14 = .ok (.ireturn, 1) := by decide +kernel
theorem dL_ring_15 : decode cL_ring 15 = .ok (.iconst 0, 1) := by decide +kernel
theorem dL_ring_16 : decode cL_ring 16 = .ok (.ireturn, 1) := by decide +kernel
end
section

/-! The house's own frame: one judgement over worlds and locals, rules for its instructions. -/
section MYF
def lget : List (Nat × Value) → Nat → Option Value
  | [], _ => none
  | q :: t, i => if q.1 = i then some q.2 else lget t i
theorem lget_mem {i : Nat} {v : Value} : ∀ {lv : List (Nat × Value)}, lget lv i = some v → (i, v) ∈ lv
  | [], h => by simp [lget] at h
  | q :: t, h => by
    unfold lget at h
    by_cases e : q.1 = i
    · rw [if_pos e] at h
      cases h
      rw [← e]
      exact List.mem_cons_self
    · rw [if_neg e] at h
      exact List.mem_cons_of_mem _ (lget_mem h)
def lins (i : Nat) (v : Value) : List (Nat × Value) → List (Nat × Value)
  | [] => [(i, v)]
  | q :: t => if i < q.1 then (i, v) :: q :: t else q :: lins i v t
theorem lins_mem {i : Nat} {v : Value} {q : Nat × Value} : ∀ {l : List (Nat × Value)}, q ∈ lins i v l → q ∈ (i, v) :: l
  | [], h => h
  | x :: t, h => by
    unfold lins at h
    by_cases e : i < x.1
    · rw [if_pos e] at h
      exact h
    · rw [if_neg e] at h
      rcases List.mem_cons.mp h with h1 | h1
      · exact List.mem_cons_of_mem _ (List.mem_cons.mpr (Or.inl h1))
      · rcases List.mem_cons.mp (lins_mem h1) with h2 | h2
        · exact List.mem_cons.mpr (Or.inl h2)
        · exact List.mem_cons_of_mem _ (List.mem_cons_of_mem _ h2)
def lput (i : Nat) (v : Value) (lv : List (Nat × Value)) : List (Nat × Value) := lins i v (lv.filter (fun q => !(q.1 == i) && !(q.1 + 1 == i && q.2.category == 2)))
def lputL (i : Nat) (v : Value) (lv : List (Nat × Value)) : List (Nat × Value) := lins i v (lv.filter (fun q => !(q.1 == i) && (!(q.1 == i + 1) && !(q.1 + 1 == i && q.2.category == 2))))
theorem lv_mono {ls : Array Slot} {nL : Nat} {l l' : List (Nat × Value)} (h : lv_has ls nL l) (hm : ∀ q, q ∈ l' → q ∈ l) : lv_has ls nL l' := ⟨h.1, h.2.1, fun q hq => h.2.2 q (hm q hq)⟩
theorem lv_g {ls : Array Slot} {nL i : Nat} {lv : List (Nat × Value)} {v : Value} (h : lv_has ls nL lv) (hl : lget lv i = some v) : ls[i]? = some (.val v) := h.2.2 (i, v) (lget_mem hl)
/-- numbers as ints, row by row -/
def ar (g : Nat → Nat) : Nat → Int32 := fun j => nI (g j)
def upf (g : Nat → Nat) (k v : Nat) : Nat → Nat := fun j => if j = k then v else g j
theorem ar_upd (g : Nat → Nat) (k v : Nat) : upd (ar g) k (nI v) = ar (upf g k v) := by
  funext j
  unfold upd ar upf
  by_cases e : j = k
  · rw [if_pos e, if_pos e]
  · rw [if_neg e, if_neg e]
theorem lN_ne0 {n : Nat} (h0 : 0 < n) (h : n < 9223372036854775808) : ¬ lN n = 0 := fun q => by
  have h1 : lN n = lN 0 := q
  rw [pk_lEQ h (by decide)] at h1
  omega
theorem nar_b {v : Nat} (h : v < 2) : vp_nar .boolean (nI v) = nI v := by
  rcases (show v = 0 ∨ v = 1 by omega) with rfl | rfl <;> decide
def Wh (p : Program) (l : Launch) (e : Env) (R : Room) (s : State) (m : MethodId) (args : Array Value) (below : List Frame) (meth : Method) (c : Code) (Q : State → Prop) (D : va_G) (A : Nat → Prop) (H0 : Heap) (nL : Nat) (k n : Nat) (ws : va_W) (lv : List (Nat × Value)) (pc : Nat) (st : List Value) : Prop :=
  ∀ (H : Heap) (locs : List Loc) (ls : Array Slot), va_P D vwCl ws H → va_D A ws → va_S A H0 H locs → lv_has ls nL lv → W p l e R s m args below meth c H locs k n Q (F0 m pc ls st)
abbrev Gt : Type := Nat → Nat → va_W → List (Nat × Value) → Nat → List Value → Prop
/-- what every rule needs of a method's frame -/
def Fx (p : Program) (l : Launch) (e : Env) (R : Room) (s : State) (m : MethodId) (args : Array Value) (below : List Frame) (meth : Method) (c : Code) (Q : State → Prop) (A : Nat → Prop) (H0 : Heap) (G : Gt) (cc : ByteArray) (nL : Nat) (Ts : List Cond) (own : String) (D : va_G) (tys : List (ClassId × FieldType)) : Prop :=
  G = Wh p l e R s m args below meth c Q D A H0 nL ∧ p.tables.exec = Jvm.exec ∧ c.code = cc ∧ c.maxLocals = nL ∧ s.vm.findClass own = some m.cls ∧ (∀ w ∈ Ts, w.before args s = true) ∧ va_K D vwCl tys s ∧ (∀ q, H0.size ≤ q → A q)
def Ok (l : Launch) (R : Room) (G : Gt) (cc : ByteArray) (nL : Nat) (Ts : List Cond) (own : String) (D : va_G) (tys : List (ClassId × FieldType)) : Prop :=
  ∃ (p : Program) (e : Env) (s : State) (m : MethodId) (args : Array Value) (below : List Frame) (meth : Method) (c : Code) (Q : State → Prop) (A : Nat → Prop) (H0 : Heap), Fx p l e R s m args below meth c Q A H0 G cc nL Ts own D tys
section R
variable {l : Launch} {R : Room} {G : Gt} {cc : ByteArray} {nL : Nat} {Ts : List Cond} {own : String} {D : va_G} {tys : List (ClassId × FieldType)} {k n : Nat} {ws ws' : va_W} {lv lv' : List (Nat × Value)} {pc : Nat} {st : List Value}

theorem r_iload_n (K : Ok l R G cc nL Ts own D tys) {f : Fin 4} {x : Int32} (hd : decode cc pc = .ok (.iload_n f, 1)) (hg : lget lv (f : Nat) = some (.int x)) (kk : G k n ws lv (pc + 1) (.int x :: st)) : G k n ws lv pc st := by
  obtain ⟨p, e, s, m, args, below, meth, c, Q, A, H0, rfl, hx, hb, hml, hown, hts, hK, hA⟩ := K
  intro H locs ls hP hD hS hl
  exact lv_iload_n hx hb hd rfl (lv_g hl hg) (kk H locs ls hP hD hS hl)

theorem r_iload (K : Ok l R G cc nL Ts own D tys) {i : Nat} {x : Int32} (hd : decode cc pc = .ok (.iload i, 2)) (hg : lget lv i = some (.int x)) (kk : G k n ws lv (pc + 2) (.int x :: st)) : G k n ws lv pc st := by
  obtain ⟨p, e, s, m, args, below, meth, c, Q, A, H0, rfl, hx, hb, hml, hown, hts, hK, hA⟩ := K
  intro H locs ls hP hD hS hl
  exact lv_iload hx hb hd (lv_g hl hg) (kk H locs ls hP hD hS hl)

theorem r_lload_n (K : Ok l R G cc nL Ts own D tys) {f : Fin 4} {x : Int64} (hd : decode cc pc = .ok (.lload_n f, 1)) (hg : lget lv (f : Nat) = some (.long x)) (kk : G k n ws lv (pc + 1) (.long x :: st)) : G k n ws lv pc st := by
  obtain ⟨p, e, s, m, args, below, meth, c, Q, A, H0, rfl, hx, hb, hml, hown, hts, hK, hA⟩ := K
  intro H locs ls hP hD hS hl
  exact lv_lload_n hx hb hd rfl (lv_g hl hg) (kk H locs ls hP hD hS hl)

theorem r_lload (K : Ok l R G cc nL Ts own D tys) {i : Nat} {x : Int64} (hd : decode cc pc = .ok (.lload i, 2)) (hg : lget lv i = some (.long x)) (kk : G k n ws lv (pc + 2) (.long x :: st)) : G k n ws lv pc st := by
  obtain ⟨p, e, s, m, args, below, meth, c, Q, A, H0, rfl, hx, hb, hml, hown, hts, hK, hA⟩ := K
  intro H locs ls hP hD hS hl
  exact lv_lload hx hb hd (lv_g hl hg) (kk H locs ls hP hD hS hl)

theorem r_aload_n (K : Ok l R G cc nL Ts own D tys) {f : Fin 4} {x : Nat} (hd : decode cc pc = .ok (.aload_n f, 1)) (hg : lget lv (f : Nat) = some (.ref x)) (kk : G k n ws lv (pc + 1) (.ref x :: st)) : G k n ws lv pc st := by
  obtain ⟨p, e, s, m, args, below, meth, c, Q, A, H0, rfl, hx, hb, hml, hown, hts, hK, hA⟩ := K
  intro H locs ls hP hD hS hl
  exact lv_aload_n hx hb hd rfl (lv_g hl hg) (kk H locs ls hP hD hS hl)

theorem r_aload (K : Ok l R G cc nL Ts own D tys) {i : Nat} {x : Nat} (hd : decode cc pc = .ok (.aload i, 2)) (hg : lget lv i = some (.ref x)) (kk : G k n ws lv (pc + 2) (.ref x :: st)) : G k n ws lv pc st := by
  obtain ⟨p, e, s, m, args, below, meth, c, Q, A, H0, rfl, hx, hb, hml, hown, hts, hK, hA⟩ := K
  intro H locs ls hP hD hS hl
  exact lv_aload hx hb hd (lv_g hl hg) (kk H locs ls hP hD hS hl)

theorem r_istore_n (K : Ok l R G cc nL Ts own D tys) {f : Fin 4} {x : Int32} (hd : decode cc pc = .ok (.istore_n f, 1)) (hn : (f : Nat) < nL) (hq : lput (f : Nat) (.int x) lv = lv') (kk : G k n ws lv' (pc + 1) st) : G k n ws lv pc (.int x :: st) := by
  obtain ⟨p, e, s, m, args, below, meth, c, Q, A, H0, rfl, hx, hb, hml, hown, hts, hK, hA⟩ := K
  intro H locs ls hP hD hS hl
  refine lv_istore_n (lv' := _) hx hb hd rfl hl hn rfl (fun ls' hl' => kk H locs ls' hP hD hS (lv_mono hl' fun q hq' => ?_))
  rw [← hq] at hq'
  exact lins_mem hq'

theorem r_istore (K : Ok l R G cc nL Ts own D tys) {i : Nat} {x : Int32} (hd : decode cc pc = .ok (.istore i, 2)) (hn : i < nL) (hq : lput i (.int x) lv = lv') (kk : G k n ws lv' (pc + 2) st) : G k n ws lv pc (.int x :: st) := by
  obtain ⟨p, e, s, m, args, below, meth, c, Q, A, H0, rfl, hx, hb, hml, hown, hts, hK, hA⟩ := K
  intro H locs ls hP hD hS hl
  refine lv_istore (lv' := _) hx hb hd hl hn rfl (fun ls' hl' => kk H locs ls' hP hD hS (lv_mono hl' fun q hq' => ?_))
  rw [← hq] at hq'
  exact lins_mem hq'

theorem r_astore_n (K : Ok l R G cc nL Ts own D tys) {f : Fin 4} {x : Nat} (hd : decode cc pc = .ok (.astore_n f, 1)) (hn : (f : Nat) < nL) (hq : lput (f : Nat) (.ref x) lv = lv') (kk : G k n ws lv' (pc + 1) st) : G k n ws lv pc (.ref x :: st) := by
  obtain ⟨p, e, s, m, args, below, meth, c, Q, A, H0, rfl, hx, hb, hml, hown, hts, hK, hA⟩ := K
  intro H locs ls hP hD hS hl
  refine lv_astore_n (lv' := _) hx hb hd rfl hl hn rfl (fun ls' hl' => kk H locs ls' hP hD hS (lv_mono hl' fun q hq' => ?_))
  rw [← hq] at hq'
  exact lins_mem hq'

theorem r_astore (K : Ok l R G cc nL Ts own D tys) {i : Nat} {x : Nat} (hd : decode cc pc = .ok (.astore i, 2)) (hn : i < nL) (hq : lput i (.ref x) lv = lv') (kk : G k n ws lv' (pc + 2) st) : G k n ws lv pc (.ref x :: st) := by
  obtain ⟨p, e, s, m, args, below, meth, c, Q, A, H0, rfl, hx, hb, hml, hown, hts, hK, hA⟩ := K
  intro H locs ls hP hD hS hl
  refine lv_astore (lv' := _) hx hb hd hl hn rfl (fun ls' hl' => kk H locs ls' hP hD hS (lv_mono hl' fun q hq' => ?_))
  rw [← hq] at hq'
  exact lins_mem hq'

theorem r_lstore (K : Ok l R G cc nL Ts own D tys) {i : Nat} {x : Int64} (hd : decode cc pc = .ok (.lstore i, 2)) (hn : i + 1 < nL) (hq : lputL i (.long x) lv = lv') (kk : G k n ws lv' (pc + 2) st) : G k n ws lv pc (.long x :: st) := by
  obtain ⟨p, e, s, m, args, below, meth, c, Q, A, H0, rfl, hx, hb, hml, hown, hts, hK, hA⟩ := K
  intro H locs ls hP hD hS hl
  refine lv_lstore (lv' := _) hx hb hd hl hn rfl (fun ls' hl' => kk H locs ls' hP hD hS (lv_mono hl' fun q hq' => ?_))
  rw [← hq] at hq'
  exact lins_mem hq'

theorem r_sub (K : Ok l R G cc nL Ts own D tys) (hm : ∀ q, q ∈ lv' → q ∈ lv) (kk : G k n ws lv' pc st) : G k n ws lv pc st := by
  obtain ⟨p, e, s, m, args, below, meth, c, Q, A, H0, rfl, hx, hb, hml, hown, hts, hK, hA⟩ := K
  intro H locs ls hP hD hS hl
  exact kk H locs ls hP hD hS (lv_mono hl hm)

theorem mem_pick {lv lv' : List (Nat × Value)} (ks : List Nat) (h : lv_pick lv ks = lv') : ∀ q, q ∈ lv' → q ∈ lv := by
  intro q hq
  rw [← h] at hq
  obtain ⟨k, -, hk⟩ := List.mem_filterMap.mp hq
  exact List.mem_of_getElem? hk

theorem r_pick (ks : List Nat) (K : Ok l R G cc nL Ts own D tys) (h : lv_pick lv ks = lv') (kk : G k n ws lv' pc st) : G k n ws lv pc st := r_sub K (mem_pick ks h) kk

theorem r_w (h : ws = ws') (kk : G k n ws' lv pc st) : G k n ws lv pc st := h ▸ kk

theorem r_st {st' : List Value} (h : st = st') (kk : G k n ws lv pc st') : G k n ws lv pc st := h ▸ kk

theorem r_lv (h : lv = lv') (kk : G k n ws lv' pc st) : G k n ws lv pc st := h ▸ kk

theorem r_top {x y : Int32} (h : x = y) (kk : G k n ws lv pc (.int y :: st)) : G k n ws lv pc (.int x :: st) := h ▸ kk

theorem r_topL {x y : Int64} (h : x = y) (kk : G k n ws lv pc (.long y :: st)) : G k n ws lv pc (.long x :: st) := h ▸ kk

theorem r_iconst (K : Ok l R G cc nL Ts own D tys) {z : Int} (v : Int32) (hd : decode cc pc = .ok (.iconst z, 1)) (hv : Int32.ofInt z = v) (kk : G k n ws lv (pc + 1) (.int v :: st)) : G k n ws lv pc st := by
  obtain ⟨p, e, s, m, args, below, meth, c, Q, A, H0, rfl, hx, hb, hml, hown, hts, hK, hA⟩ := K
  intro H locs ls hP hD hS hl
  exact lv_iconst hx hb hd hv (kk H locs ls hP hD hS hl)

theorem r_bipush (K : Ok l R G cc nL Ts own D tys) {z : Int} (v : Int32) (hd : decode cc pc = .ok (.bipush z, 2)) (hv : (Int8.ofInt z).toInt32 = v) (kk : G k n ws lv (pc + 2) (.int v :: st)) : G k n ws lv pc st := by
  obtain ⟨p, e, s, m, args, below, meth, c, Q, A, H0, rfl, hx, hb, hml, hown, hts, hK, hA⟩ := K
  intro H locs ls hP hD hS hl
  exact lv_bipush hx hb hd hv (kk H locs ls hP hD hS hl)

theorem r_lconst (K : Ok l R G cc nL Ts own D tys) {z : Fin 2} (v : Int64) (hd : decode cc pc = .ok (.lconst z, 1)) (hv : Int64.ofNat (z : Nat) = v) (kk : G k n ws lv (pc + 1) (.long v :: st)) : G k n ws lv pc st := by
  obtain ⟨p, e, s, m, args, below, meth, c, Q, A, H0, rfl, hx, hb, hml, hown, hts, hK, hA⟩ := K
  intro H locs ls hP hD hS hl
  exact lv_lconst hx hb hd hv (kk H locs ls hP hD hS hl)

theorem r_ldc2 (K : Ok l R G cc nL Ts own D tys) {ix : Nat} {v : Int64} (hc : Cond.constantLong own ix v ∈ Ts) (hd : decode cc pc = .ok (.ldc2_w ix, 3)) (kk : G k n ws lv (pc + 3) (.long v :: st)) : G k n ws lv pc st := by
  obtain ⟨p, e, s, m, args, below, meth, c, Q, A, H0, rfl, hx, hb, hml, hown, hts, hK, hA⟩ := K
  intro H locs ls hP hD hS hl
  exact lv_ldc2 hx hb hown (hts _ hc) hd (kk H locs ls hP hD hS hl)

theorem r_ldcw (K : Ok l R G cc nL Ts own D tys) {ix : Nat} {v : Int32} (hc : Cond.constant own ix v ∈ Ts) (hd : decode cc pc = .ok (.ldc_w ix, 3)) (kk : G k n ws lv (pc + 3) (.int v :: st)) : G k n ws lv pc st := by
  obtain ⟨p, e, s, m, args, below, meth, c, Q, A, H0, rfl, hx, hb, hml, hown, hts, hK, hA⟩ := K
  intro H locs ls hP hD hS hl
  exact lv_ldcw hx hb hown (hts _ hc) hd (kk H locs ls hP hD hS hl)

theorem r_dup (K : Ok l R G cc nL Ts own D tys) {v : Value} (hd : decode cc pc = .ok (.dup, 1)) (hv : v.category = 1) (kk : G k n ws lv (pc + 1) (v :: v :: st)) : G k n ws lv pc (v :: st) := by
  obtain ⟨p, e, s, m, args, below, meth, c, Q, A, H0, rfl, hx, hb, hml, hown, hts, hK, hA⟩ := K
  intro H locs ls hP hD hS hl
  exact lv_dup hx hb hd hv (kk H locs ls hP hD hS hl)

theorem r_dup2 (K : Ok l R G cc nL Ts own D tys) {v u : Value} (hd : decode cc pc = .ok (.dup2, 1)) (hv : v.category = 1) (hu : u.category = 1) (kk : G k n ws lv (pc + 1) (v :: u :: v :: u :: st)) : G k n ws lv pc (v :: u :: st) := by
  obtain ⟨p, e, s, m, args, below, meth, c, Q, A, H0, rfl, hx, hb, hml, hown, hts, hK, hA⟩ := K
  intro H locs ls hP hD hS hl
  exact lv_dup2_11 hx hb hd hv hu (kk H locs ls hP hD hS hl)

theorem r_iadd (K : Ok l R G cc nL Ts own D tys) {a b : Nat} (hd : decode cc pc = .ok (.iadd, 1)) (kk : G k n ws lv (pc + 1) (.int (nI (a + b)) :: st)) : G k n ws lv pc (.int (nI b) :: .int (nI a) :: st) := by
  obtain ⟨p, e, s, m, args, below, meth, c, Q, A, H0, rfl, hx, hb, hml, hown, hts, hK, hA⟩ := K
  intro H locs ls hP hD hS hl
  refine lv_iadd hx hb hd ?_
  rw [nI_add]
  exact kk H locs ls hP hD hS hl

theorem r_iaddR (K : Ok l R G cc nL Ts own D tys) {x y : Int32} (hd : decode cc pc = .ok (.iadd, 1)) (kk : G k n ws lv (pc + 1) (.int (x + y) :: st)) : G k n ws lv pc (.int y :: .int x :: st) := by
  obtain ⟨p, e, s, m, args, below, meth, c, Q, A, H0, rfl, hx, hb, hml, hown, hts, hK, hA⟩ := K
  intro H locs ls hP hD hS hl
  exact lv_iadd hx hb hd (kk H locs ls hP hD hS hl)

theorem r_isub (K : Ok l R G cc nL Ts own D tys) {a b : Nat} (hd : decode cc pc = .ok (.isub, 1)) (hba : b ≤ a) (kk : G k n ws lv (pc + 1) (.int (nI (a - b)) :: st)) : G k n ws lv pc (.int (nI b) :: .int (nI a) :: st) := by
  obtain ⟨p, e, s, m, args, below, meth, c, Q, A, H0, rfl, hx, hb, hml, hown, hts, hK, hA⟩ := K
  intro H locs ls hP hD hS hl
  refine lv_isub hx hb hd ?_
  rw [pk_sub hba]
  exact kk H locs ls hP hD hS hl

theorem r_isubR (K : Ok l R G cc nL Ts own D tys) {x y : Int32} (hd : decode cc pc = .ok (.isub, 1)) (kk : G k n ws lv (pc + 1) (.int (x - y) :: st)) : G k n ws lv pc (.int y :: .int x :: st) := by
  obtain ⟨p, e, s, m, args, below, meth, c, Q, A, H0, rfl, hx, hb, hml, hown, hts, hK, hA⟩ := K
  intro H locs ls hP hD hS hl
  exact lv_isub hx hb hd (kk H locs ls hP hD hS hl)

theorem r_imul (K : Ok l R G cc nL Ts own D tys) {a b : Nat} (hd : decode cc pc = .ok (.imul, 1)) (kk : G k n ws lv (pc + 1) (.int (nI (a * b)) :: st)) : G k n ws lv pc (.int (nI b) :: .int (nI a) :: st) := by
  obtain ⟨p, e, s, m, args, below, meth, c, Q, A, H0, rfl, hx, hb, hml, hown, hts, hK, hA⟩ := K
  intro H locs ls hP hD hS hl
  refine lv_imul hx hb hd ?_
  rw [pk_mul]
  exact kk H locs ls hP hD hS hl

theorem r_imulR (K : Ok l R G cc nL Ts own D tys) {x y : Int32} (hd : decode cc pc = .ok (.imul, 1)) (kk : G k n ws lv (pc + 1) (.int (x * y) :: st)) : G k n ws lv pc (.int y :: .int x :: st) := by
  obtain ⟨p, e, s, m, args, below, meth, c, Q, A, H0, rfl, hx, hb, hml, hown, hts, hK, hA⟩ := K
  intro H locs ls hP hD hS hl
  exact lv_imul hx hb hd (kk H locs ls hP hD hS hl)

theorem r_idiv (K : Ok l R G cc nL Ts own D tys) {a b : Nat} (hd : decode cc pc = .ok (.idiv, 1)) (ha : a < 2147483648) (h0 : 0 < b) (hb2 : b < 2147483648) (kk : G k n ws lv (pc + 1) (.int (nI (a / b)) :: st)) : G k n ws lv pc (.int (nI b) :: .int (nI a) :: st) := by
  obtain ⟨p, e, s, m, args, below, meth, c, Q, A, H0, rfl, hx, hb, hml, hown, hts, hK, hA⟩ := K
  intro H locs ls hP hD hS hl
  refine lv_idiv hx hb hd (nI_ne0 h0 hb2) ?_
  rw [pk_div ha h0 hb2]
  exact kk H locs ls hP hD hS hl

theorem r_iandR (K : Ok l R G cc nL Ts own D tys) {x y : Int32} (hd : decode cc pc = .ok (.iand, 1)) (kk : G k n ws lv (pc + 1) (.int (x &&& y) :: st)) : G k n ws lv pc (.int y :: .int x :: st) := by
  obtain ⟨p, e, s, m, args, below, meth, c, Q, A, H0, rfl, hx, hb, hml, hown, hts, hK, hA⟩ := K
  intro H locs ls hP hD hS hl
  exact lv_iand hx hb hd (kk H locs ls hP hD hS hl)

theorem r_iorR (K : Ok l R G cc nL Ts own D tys) {x y : Int32} (hd : decode cc pc = .ok (.ior, 1)) (kk : G k n ws lv (pc + 1) (.int (x ||| y) :: st)) : G k n ws lv pc (.int y :: .int x :: st) := by
  obtain ⟨p, e, s, m, args, below, meth, c, Q, A, H0, rfl, hx, hb, hml, hown, hts, hK, hA⟩ := K
  intro H locs ls hP hD hS hl
  exact lv_ior hx hb hd (kk H locs ls hP hD hS hl)

theorem r_ishlR (K : Ok l R G cc nL Ts own D tys) {x y : Int32} (hd : decode cc pc = .ok (.ishl, 1)) (kk : G k n ws lv (pc + 1) (.int (x <<< (y &&& 31)) :: st)) : G k n ws lv pc (.int y :: .int x :: st) := by
  obtain ⟨p, e, s, m, args, below, meth, c, Q, A, H0, rfl, hx, hb, hml, hown, hts, hK, hA⟩ := K
  intro H locs ls hP hD hS hl
  exact lv_ishl hx hb hd (kk H locs ls hP hD hS hl)

theorem r_iushrR (K : Ok l R G cc nL Ts own D tys) {x y v : Int32} (hd : decode cc pc = .ok (.iushr, 1)) (hv : (x.toUInt32 >>> (y.toUInt32 &&& Int32.toUInt32 31)).toInt32 = v) (kk : G k n ws lv (pc + 1) (.int v :: st)) : G k n ws lv pc (.int y :: .int x :: st) := by
  obtain ⟨p, e, s, m, args, below, meth, c, Q, A, H0, rfl, hx, hb, hml, hown, hts, hK, hA⟩ := K
  intro H locs ls hP hD hS hl
  exact lv_iushr hx hb hd hv (kk H locs ls hP hD hS hl)

theorem r_iinc (K : Ok l R G cc nL Ts own D tys) {i : Nat} {a b : Nat} {z : Int} (hd : decode cc pc = .ok (.iinc i z, 3)) (hg : lget lv i = some (.int (nI a))) (hv : nI a + Int32.ofInt z = nI b) (hn : i < nL) (hq : lput i (.int (nI b)) lv = lv') (kk : G k n ws lv' (pc + 3) st) : G k n ws lv pc st := by
  obtain ⟨p, e, s, m, args, below, meth, c, Q, A, H0, rfl, hx, hb, hml, hown, hts, hK, hA⟩ := K
  intro H locs ls hP hD hS hl
  have hm := lget_mem hg
  obtain ⟨j, hj⟩ := List.getElem?_of_mem hm
  refine lv_iinc (lv' := _) hx hb hd hl hj hv hn rfl (fun ls' hl' => kk H locs ls' hP hD hS (lv_mono hl' fun q hq' => ?_))
  rw [← hq] at hq'
  exact lins_mem hq'

theorem r_ladd (K : Ok l R G cc nL Ts own D tys) {a b : Nat} (hd : decode cc pc = .ok (.ladd, 1)) (kk : G k n ws lv (pc + 1) (.long (lN (a + b)) :: st)) : G k n ws lv pc (.long (lN b) :: .long (lN a) :: st) := by
  obtain ⟨p, e, s, m, args, below, meth, c, Q, A, H0, rfl, hx, hb, hml, hown, hts, hK, hA⟩ := K
  intro H locs ls hP hD hS hl
  refine lv_ladd hx hb hd ?_
  rw [lN_add]
  exact kk H locs ls hP hD hS hl

theorem r_lmul (K : Ok l R G cc nL Ts own D tys) {a b : Nat} (hd : decode cc pc = .ok (.lmul, 1)) (kk : G k n ws lv (pc + 1) (.long (lN (a * b)) :: st)) : G k n ws lv pc (.long (lN b) :: .long (lN a) :: st) := by
  obtain ⟨p, e, s, m, args, below, meth, c, Q, A, H0, rfl, hx, hb, hml, hown, hts, hK, hA⟩ := K
  intro H locs ls hP hD hS hl
  refine lv_lmul hx hb hd ?_
  rw [lN_mul]
  exact kk H locs ls hP hD hS hl

theorem r_ldiv (K : Ok l R G cc nL Ts own D tys) {a b : Nat} (hd : decode cc pc = .ok (.ldiv, 1)) (ha : a < 9223372036854775808) (h0 : 0 < b) (hb2 : b < 9223372036854775808) (kk : G k n ws lv (pc + 1) (.long (lN (a / b)) :: st)) : G k n ws lv pc (.long (lN b) :: .long (lN a) :: st) := by
  obtain ⟨p, e, s, m, args, below, meth, c, Q, A, H0, rfl, hx, hb, hml, hown, hts, hK, hA⟩ := K
  intro H locs ls hP hD hS hl
  refine lv_ldiv hx hb hd (lN_ne0 h0 hb2) ?_
  rw [pk_lDiv ha h0 hb2]
  exact kk H locs ls hP hD hS hl

theorem r_lrem (K : Ok l R G cc nL Ts own D tys) {a b : Nat} (hd : decode cc pc = .ok (.lrem, 1)) (ha : a < 9223372036854775808) (h0 : 0 < b) (hb2 : b < 9223372036854775808) (kk : G k n ws lv (pc + 1) (.long (lN (a % b)) :: st)) : G k n ws lv pc (.long (lN b) :: .long (lN a) :: st) := by
  obtain ⟨p, e, s, m, args, below, meth, c, Q, A, H0, rfl, hx, hb, hml, hown, hts, hK, hA⟩ := K
  intro H locs ls hP hD hS hl
  refine lv_lrem hx hb hd (lN_ne0 h0 hb2) ?_
  rw [pk_lRem ha h0 hb2]
  exact kk H locs ls hP hD hS hl

theorem r_i2l (K : Ok l R G cc nL Ts own D tys) {a : Nat} (hd : decode cc pc = .ok (.i2l, 1)) (ha : a < 2147483648) (kk : G k n ws lv (pc + 1) (.long (lN a) :: st)) : G k n ws lv pc (.int (nI a) :: st) := by
  obtain ⟨p, e, s, m, args, below, meth, c, Q, A, H0, rfl, hx, hb, hml, hown, hts, hK, hA⟩ := K
  intro H locs ls hP hD hS hl
  exact lv_i2l hx hb hd (nI_l ha) (kk H locs ls hP hD hS hl)

theorem r_i2lR (K : Ok l R G cc nL Ts own D tys) {x : Int32} (hd : decode cc pc = .ok (.i2l, 1)) (kk : G k n ws lv (pc + 1) (.long x.toInt64 :: st)) : G k n ws lv pc (.int x :: st) := by
  obtain ⟨p, e, s, m, args, below, meth, c, Q, A, H0, rfl, hx, hb, hml, hown, hts, hK, hA⟩ := K
  intro H locs ls hP hD hS hl
  exact lv_i2l hx hb hd rfl (kk H locs ls hP hD hS hl)

theorem r_l2i (K : Ok l R G cc nL Ts own D tys) {a : Nat} (hd : decode cc pc = .ok (.l2i, 1)) (kk : G k n ws lv (pc + 1) (.int (nI a) :: st)) : G k n ws lv pc (.long (lN a) :: st) := by
  obtain ⟨p, e, s, m, args, below, meth, c, Q, A, H0, rfl, hx, hb, hml, hown, hts, hK, hA⟩ := K
  intro H locs ls hP hD hS hl
  exact lv_l2i hx hb hd (lN_i a) (kk H locs ls hP hD hS hl)

theorem r_lcmpR (K : Ok l R G cc nL Ts own D tys) {x y : Int64} (hd : decode cc pc = .ok (.lcmp, 1)) (kk : G k n ws lv (pc + 1) (.int (lg_cmp x y) :: st)) : G k n ws lv pc (.long y :: .long x :: st) := by
  obtain ⟨p, e, s, m, args, below, meth, c, Q, A, H0, rfl, hx, hb, hml, hown, hts, hK, hA⟩ := K
  intro H locs ls hP hD hS hl
  exact W.lcmp hx hb hd (kk H locs ls hP hD hS hl)

theorem r_if_eqR (K : Ok l R G cc nL Ts own D tys) {x : Int32} {off : Int} (tgt : Nat) (hd : decode cc pc = .ok (.ifCond .eq off, 3)) (ht : (pc : Int) + off = (tgt : Int)) (kt : x = 0 → G k n ws lv tgt st) (kf : ¬ x = 0 → G k n ws lv (pc + 3) st) : G k n ws lv pc (.int x :: st) := by
  obtain ⟨p, e, s, m, args, below, meth, c, Q, A, H0, rfl, hx, hb, hml, hown, hts, hK, hA⟩ := K
  intro H locs ls hP hD hS hl
  exact lv_if_eq hx hb hd ht (fun q => kt q H locs ls hP hD hS hl) (fun q => kf q H locs ls hP hD hS hl)

theorem r_if_neR (K : Ok l R G cc nL Ts own D tys) {x : Int32} {off : Int} (tgt : Nat) (hd : decode cc pc = .ok (.ifCond .ne off, 3)) (ht : (pc : Int) + off = (tgt : Int)) (kt : ¬ x = 0 → G k n ws lv tgt st) (kf : x = 0 → G k n ws lv (pc + 3) st) : G k n ws lv pc (.int x :: st) := by
  obtain ⟨p, e, s, m, args, below, meth, c, Q, A, H0, rfl, hx, hb, hml, hown, hts, hK, hA⟩ := K
  intro H locs ls hP hD hS hl
  exact lv_if_ne hx hb hd ht (fun q => kt q H locs ls hP hD hS hl) (fun q => kf q H locs ls hP hD hS hl)

theorem r_if_ltR (K : Ok l R G cc nL Ts own D tys) {x : Int32} {off : Int} (tgt : Nat) (hd : decode cc pc = .ok (.ifCond .lt off, 3)) (ht : (pc : Int) + off = (tgt : Int)) (kt : x < 0 → G k n ws lv tgt st) (kf : ¬ x < 0 → G k n ws lv (pc + 3) st) : G k n ws lv pc (.int x :: st) := by
  obtain ⟨p, e, s, m, args, below, meth, c, Q, A, H0, rfl, hx, hb, hml, hown, hts, hK, hA⟩ := K
  intro H locs ls hP hD hS hl
  exact lv_if_lt hx hb hd ht (fun q => kt q H locs ls hP hD hS hl) (fun q => kf q H locs ls hP hD hS hl)

theorem r_if_geR (K : Ok l R G cc nL Ts own D tys) {x : Int32} {off : Int} (tgt : Nat) (hd : decode cc pc = .ok (.ifCond .ge off, 3)) (ht : (pc : Int) + off = (tgt : Int)) (kt : 0 ≤ x → G k n ws lv tgt st) (kf : ¬ 0 ≤ x → G k n ws lv (pc + 3) st) : G k n ws lv pc (.int x :: st) := by
  obtain ⟨p, e, s, m, args, below, meth, c, Q, A, H0, rfl, hx, hb, hml, hown, hts, hK, hA⟩ := K
  intro H locs ls hP hD hS hl
  exact lv_if_ge hx hb hd ht (fun q => kt q H locs ls hP hD hS hl) (fun q => kf q H locs ls hP hD hS hl)

theorem r_if_gtR (K : Ok l R G cc nL Ts own D tys) {x : Int32} {off : Int} (tgt : Nat) (hd : decode cc pc = .ok (.ifCond .gt off, 3)) (ht : (pc : Int) + off = (tgt : Int)) (kt : 0 < x → G k n ws lv tgt st) (kf : ¬ 0 < x → G k n ws lv (pc + 3) st) : G k n ws lv pc (.int x :: st) := by
  obtain ⟨p, e, s, m, args, below, meth, c, Q, A, H0, rfl, hx, hb, hml, hown, hts, hK, hA⟩ := K
  intro H locs ls hP hD hS hl
  exact lv_if_gt hx hb hd ht (fun q => kt q H locs ls hP hD hS hl) (fun q => kf q H locs ls hP hD hS hl)

theorem r_if_leR (K : Ok l R G cc nL Ts own D tys) {x : Int32} {off : Int} (tgt : Nat) (hd : decode cc pc = .ok (.ifCond .le off, 3)) (ht : (pc : Int) + off = (tgt : Int)) (kt : x ≤ 0 → G k n ws lv tgt st) (kf : ¬ x ≤ 0 → G k n ws lv (pc + 3) st) : G k n ws lv pc (.int x :: st) := by
  obtain ⟨p, e, s, m, args, below, meth, c, Q, A, H0, rfl, hx, hb, hml, hown, hts, hK, hA⟩ := K
  intro H locs ls hP hD hS hl
  exact lv_if_le hx hb hd ht (fun q => kt q H locs ls hP hD hS hl) (fun q => kf q H locs ls hP hD hS hl)

theorem r_ic_eqR (K : Ok l R G cc nL Ts own D tys) {x y : Int32} {off : Int} (tgt : Nat) (hd : decode cc pc = .ok (.if_icmp .eq off, 3)) (ht : (pc : Int) + off = (tgt : Int)) (kt : x = y → G k n ws lv tgt st) (kf : ¬ x = y → G k n ws lv (pc + 3) st) : G k n ws lv pc (.int y :: .int x :: st) := by
  obtain ⟨p, e, s, m, args, below, meth, c, Q, A, H0, rfl, hx, hb, hml, hown, hts, hK, hA⟩ := K
  intro H locs ls hP hD hS hl
  exact lv_icmp_eq hx hb hd ht (fun q => kt q H locs ls hP hD hS hl) (fun q => kf q H locs ls hP hD hS hl)

theorem r_ic_neR (K : Ok l R G cc nL Ts own D tys) {x y : Int32} {off : Int} (tgt : Nat) (hd : decode cc pc = .ok (.if_icmp .ne off, 3)) (ht : (pc : Int) + off = (tgt : Int)) (kt : ¬ x = y → G k n ws lv tgt st) (kf : x = y → G k n ws lv (pc + 3) st) : G k n ws lv pc (.int y :: .int x :: st) := by
  obtain ⟨p, e, s, m, args, below, meth, c, Q, A, H0, rfl, hx, hb, hml, hown, hts, hK, hA⟩ := K
  intro H locs ls hP hD hS hl
  exact lv_icmp_ne hx hb hd ht (fun q => kt q H locs ls hP hD hS hl) (fun q => kf q H locs ls hP hD hS hl)

theorem r_ic_ltR (K : Ok l R G cc nL Ts own D tys) {x y : Int32} {off : Int} (tgt : Nat) (hd : decode cc pc = .ok (.if_icmp .lt off, 3)) (ht : (pc : Int) + off = (tgt : Int)) (kt : x < y → G k n ws lv tgt st) (kf : ¬ x < y → G k n ws lv (pc + 3) st) : G k n ws lv pc (.int y :: .int x :: st) := by
  obtain ⟨p, e, s, m, args, below, meth, c, Q, A, H0, rfl, hx, hb, hml, hown, hts, hK, hA⟩ := K
  intro H locs ls hP hD hS hl
  exact lv_icmp_lt hx hb hd ht (fun q => kt q H locs ls hP hD hS hl) (fun q => kf q H locs ls hP hD hS hl)

theorem r_ic_geR (K : Ok l R G cc nL Ts own D tys) {x y : Int32} {off : Int} (tgt : Nat) (hd : decode cc pc = .ok (.if_icmp .ge off, 3)) (ht : (pc : Int) + off = (tgt : Int)) (kt : y ≤ x → G k n ws lv tgt st) (kf : ¬ y ≤ x → G k n ws lv (pc + 3) st) : G k n ws lv pc (.int y :: .int x :: st) := by
  obtain ⟨p, e, s, m, args, below, meth, c, Q, A, H0, rfl, hx, hb, hml, hown, hts, hK, hA⟩ := K
  intro H locs ls hP hD hS hl
  exact lv_icmp_ge hx hb hd ht (fun q => kt q H locs ls hP hD hS hl) (fun q => kf q H locs ls hP hD hS hl)

theorem r_ic_gtR (K : Ok l R G cc nL Ts own D tys) {x y : Int32} {off : Int} (tgt : Nat) (hd : decode cc pc = .ok (.if_icmp .gt off, 3)) (ht : (pc : Int) + off = (tgt : Int)) (kt : y < x → G k n ws lv tgt st) (kf : ¬ y < x → G k n ws lv (pc + 3) st) : G k n ws lv pc (.int y :: .int x :: st) := by
  obtain ⟨p, e, s, m, args, below, meth, c, Q, A, H0, rfl, hx, hb, hml, hown, hts, hK, hA⟩ := K
  intro H locs ls hP hD hS hl
  exact lv_icmp_gt hx hb hd ht (fun q => kt q H locs ls hP hD hS hl) (fun q => kf q H locs ls hP hD hS hl)

theorem r_ic_leR (K : Ok l R G cc nL Ts own D tys) {x y : Int32} {off : Int} (tgt : Nat) (hd : decode cc pc = .ok (.if_icmp .le off, 3)) (ht : (pc : Int) + off = (tgt : Int)) (kt : x ≤ y → G k n ws lv tgt st) (kf : ¬ x ≤ y → G k n ws lv (pc + 3) st) : G k n ws lv pc (.int y :: .int x :: st) := by
  obtain ⟨p, e, s, m, args, below, meth, c, Q, A, H0, rfl, hx, hb, hml, hown, hts, hK, hA⟩ := K
  intro H locs ls hP hD hS hl
  exact lv_icmp_le hx hb hd ht (fun q => kt q H locs ls hP hD hS hl) (fun q => kf q H locs ls hP hD hS hl)

theorem r_ic_eq (K : Ok l R G cc nL Ts own D tys) {a b : Nat} {off : Int} (tgt : Nat) (hd : decode cc pc = .ok (.if_icmp .eq off, 3)) (ht : (pc : Int) + off = (tgt : Int)) (ha : a < 2147483648) (hb2 : b < 2147483648) (kt : a = b → G k n ws lv tgt st) (kf : a ≠ b → G k n ws lv (pc + 3) st) : G k n ws lv pc (.int (nI b) :: .int (nI a) :: st) := r_ic_eqR K tgt hd ht (fun q => kt ((nI_eq ha hb2).mp q)) (fun q => kf (fun h => q ((nI_eq ha hb2).mpr h)))

theorem r_ic_ne (K : Ok l R G cc nL Ts own D tys) {a b : Nat} {off : Int} (tgt : Nat) (hd : decode cc pc = .ok (.if_icmp .ne off, 3)) (ht : (pc : Int) + off = (tgt : Int)) (ha : a < 2147483648) (hb2 : b < 2147483648) (kt : a ≠ b → G k n ws lv tgt st) (kf : a = b → G k n ws lv (pc + 3) st) : G k n ws lv pc (.int (nI b) :: .int (nI a) :: st) := r_ic_neR K tgt hd ht (fun q => kt (fun h => q ((nI_eq ha hb2).mpr h))) (fun q => kf ((nI_eq ha hb2).mp q))

theorem r_ic_lt (K : Ok l R G cc nL Ts own D tys) {a b : Nat} {off : Int} (tgt : Nat) (hd : decode cc pc = .ok (.if_icmp .lt off, 3)) (ht : (pc : Int) + off = (tgt : Int)) (ha : a < 2147483648) (hb2 : b < 2147483648) (kt : a < b → G k n ws lv tgt st) (kf : b ≤ a → G k n ws lv (pc + 3) st) : G k n ws lv pc (.int (nI b) :: .int (nI a) :: st) := r_ic_ltR K tgt hd ht (fun q => kt ((nI_ltI ha hb2).mp q)) (fun q => kf (Nat.not_lt.mp fun h => q ((nI_ltI ha hb2).mpr h)))

theorem r_ic_ge (K : Ok l R G cc nL Ts own D tys) {a b : Nat} {off : Int} (tgt : Nat) (hd : decode cc pc = .ok (.if_icmp .ge off, 3)) (ht : (pc : Int) + off = (tgt : Int)) (ha : a < 2147483648) (hb2 : b < 2147483648) (kt : b ≤ a → G k n ws lv tgt st) (kf : a < b → G k n ws lv (pc + 3) st) : G k n ws lv pc (.int (nI b) :: .int (nI a) :: st) := r_ic_geR K tgt hd ht (fun q => kt ((nI_leI hb2 ha).mp q)) (fun q => kf (Nat.not_le.mp fun h => q ((nI_leI hb2 ha).mpr h)))

theorem r_ic_gt (K : Ok l R G cc nL Ts own D tys) {a b : Nat} {off : Int} (tgt : Nat) (hd : decode cc pc = .ok (.if_icmp .gt off, 3)) (ht : (pc : Int) + off = (tgt : Int)) (ha : a < 2147483648) (hb2 : b < 2147483648) (kt : b < a → G k n ws lv tgt st) (kf : a ≤ b → G k n ws lv (pc + 3) st) : G k n ws lv pc (.int (nI b) :: .int (nI a) :: st) := r_ic_gtR K tgt hd ht (fun q => kt ((nI_ltI hb2 ha).mp q)) (fun q => kf (Nat.not_lt.mp fun h => q ((nI_ltI hb2 ha).mpr h)))

theorem r_ic_le (K : Ok l R G cc nL Ts own D tys) {a b : Nat} {off : Int} (tgt : Nat) (hd : decode cc pc = .ok (.if_icmp .le off, 3)) (ht : (pc : Int) + off = (tgt : Int)) (ha : a < 2147483648) (hb2 : b < 2147483648) (kt : a ≤ b → G k n ws lv tgt st) (kf : b < a → G k n ws lv (pc + 3) st) : G k n ws lv pc (.int (nI b) :: .int (nI a) :: st) := r_ic_leR K tgt hd ht (fun q => kt ((nI_leI ha hb2).mp q)) (fun q => kf (Nat.not_le.mp fun h => q ((nI_leI ha hb2).mpr h)))

theorem r_if_eq (K : Ok l R G cc nL Ts own D tys) {a : Nat} {off : Int} (tgt : Nat) (hd : decode cc pc = .ok (.ifCond .eq off, 3)) (ht : (pc : Int) + off = (tgt : Int)) (ha : a < 2147483648) (kt : a = 0 → G k n ws lv tgt st) (kf : a ≠ 0 → G k n ws lv (pc + 3) st) : G k n ws lv pc (.int (nI a) :: st) := by
  have hb2 : 0 < 2147483648 := by decide
  exact r_if_eqR K tgt hd ht (fun q => kt (by rw [← nI_0] at q; exact ((nI_eq ha hb2).mp q))) (fun q => kf (by rw [← nI_0] at q; exact (fun h => q ((nI_eq ha hb2).mpr h))))

theorem r_if_ne (K : Ok l R G cc nL Ts own D tys) {a : Nat} {off : Int} (tgt : Nat) (hd : decode cc pc = .ok (.ifCond .ne off, 3)) (ht : (pc : Int) + off = (tgt : Int)) (ha : a < 2147483648) (kt : a ≠ 0 → G k n ws lv tgt st) (kf : a = 0 → G k n ws lv (pc + 3) st) : G k n ws lv pc (.int (nI a) :: st) := by
  have hb2 : 0 < 2147483648 := by decide
  exact r_if_neR K tgt hd ht (fun q => kt (by rw [← nI_0] at q; exact (fun h => q ((nI_eq ha hb2).mpr h)))) (fun q => kf (by rw [← nI_0] at q; exact ((nI_eq ha hb2).mp q)))

theorem r_if_lt (K : Ok l R G cc nL Ts own D tys) {a : Nat} {off : Int} (tgt : Nat) (hd : decode cc pc = .ok (.ifCond .lt off, 3)) (ht : (pc : Int) + off = (tgt : Int)) (ha : a < 2147483648) (kt : a < 0 → G k n ws lv tgt st) (kf : 0 ≤ a → G k n ws lv (pc + 3) st) : G k n ws lv pc (.int (nI a) :: st) := by
  have hb2 : 0 < 2147483648 := by decide
  exact r_if_ltR K tgt hd ht (fun q => kt (by rw [← nI_0] at q; exact ((nI_ltI ha hb2).mp q))) (fun q => kf (by rw [← nI_0] at q; exact (Nat.not_lt.mp fun h => q ((nI_ltI ha hb2).mpr h))))

theorem r_if_ge (K : Ok l R G cc nL Ts own D tys) {a : Nat} {off : Int} (tgt : Nat) (hd : decode cc pc = .ok (.ifCond .ge off, 3)) (ht : (pc : Int) + off = (tgt : Int)) (ha : a < 2147483648) (kt : 0 ≤ a → G k n ws lv tgt st) (kf : a < 0 → G k n ws lv (pc + 3) st) : G k n ws lv pc (.int (nI a) :: st) := by
  have hb2 : 0 < 2147483648 := by decide
  exact r_if_geR K tgt hd ht (fun q => kt (by rw [← nI_0] at q; exact ((nI_leI hb2 ha).mp q))) (fun q => kf (by rw [← nI_0] at q; exact (Nat.not_le.mp fun h => q ((nI_leI hb2 ha).mpr h))))

theorem r_if_gt (K : Ok l R G cc nL Ts own D tys) {a : Nat} {off : Int} (tgt : Nat) (hd : decode cc pc = .ok (.ifCond .gt off, 3)) (ht : (pc : Int) + off = (tgt : Int)) (ha : a < 2147483648) (kt : 0 < a → G k n ws lv tgt st) (kf : a ≤ 0 → G k n ws lv (pc + 3) st) : G k n ws lv pc (.int (nI a) :: st) := by
  have hb2 : 0 < 2147483648 := by decide
  exact r_if_gtR K tgt hd ht (fun q => kt (by rw [← nI_0] at q; exact ((nI_ltI hb2 ha).mp q))) (fun q => kf (by rw [← nI_0] at q; exact (Nat.not_lt.mp fun h => q ((nI_ltI hb2 ha).mpr h))))

theorem r_if_le (K : Ok l R G cc nL Ts own D tys) {a : Nat} {off : Int} (tgt : Nat) (hd : decode cc pc = .ok (.ifCond .le off, 3)) (ht : (pc : Int) + off = (tgt : Int)) (ha : a < 2147483648) (kt : a ≤ 0 → G k n ws lv tgt st) (kf : 0 < a → G k n ws lv (pc + 3) st) : G k n ws lv pc (.int (nI a) :: st) := by
  have hb2 : 0 < 2147483648 := by decide
  exact r_if_leR K tgt hd ht (fun q => kt (by rw [← nI_0] at q; exact ((nI_leI ha hb2).mp q))) (fun q => kf (by rw [← nI_0] at q; exact (Nat.not_le.mp fun h => q ((nI_leI ha hb2).mpr h))))

theorem r_goto (K : Ok l R G cc nL Ts own D tys) {off : Int} (tgt : Nat) (hd : decode cc pc = .ok (.goto off, 3)) (ht : (pc : Int) + off = (tgt : Int)) (kk : G k n ws lv tgt st) : G k n ws lv pc st := by
  obtain ⟨p, e, s, m, args, below, meth, c, Q, A, H0, rfl, hx, hb, hml, hown, hts, hK, hA⟩ := K
  intro H locs ls hP hD hS hl
  exact lv_goto hx hb hd ht (kk H locs ls hP hD hS hl)

theorem r_get (K : Ok l R G cc nL Ts own D tys) {C : String} {T : u_T} {N ci ix a : Nat} {fs : List Value} {v : Value} (hin : ∀ w ∈ u_ws C T N, w ∈ Ts) (q0 : Nat) (he : ws[q0]? = some (a, .inr (ci, fs))) (hc : vwCl[ci]? = some (C, T, N)) (f : Nat) (hf : f < N) (hlk : Cond.fieldLink own ix (T f).1 (T f).2.1 (T f).2.2.1 ∈ Ts) (hv : fs[f]? = some v) (hd : decode cc pc = .ok (.getfield ix, 3)) (kk : G k n ws lv (pc + 3) (v :: st)) : G k n ws lv pc (.ref a :: st) := by
  obtain ⟨p, e, s, m, args, below, meth, c, Q, A, H0, rfl, hx, hb, hml, hown, hts, hK, hA⟩ := K
  intro H locs ls hP hD hS hl
  exact va_get (D := D) hx hb hts hin hown hK hP q0 he hc f hf (hts _ hlk) (fun _ h9 => h9) hv hd (kk H locs ls hP hD hS hl)

theorem r_put (K : Ok l R G cc nL Ts own D tys) {C : String} {T : u_T} {N ci ix a : Nat} {fs : List Value} {v : Value} (hin : ∀ w ∈ u_ws C T N, w ∈ Ts) (ty0 : Nat → FieldType) (hty : ∀ k, k < N → parseFieldDescriptor (T k).2.2.1 = some (ty0 k)) (hnm : ∀ a, a < N → ∀ b, b < N → a ≠ b → (T a).2.1 ≠ (T b).2.1) (q0 : Nat) (he : ws[q0]? = some (a, .inr (ci, fs))) (hc : vwCl[ci]? = some (C, T, N)) (f : Nat) (hf : f < N) (hlk : Cond.fieldLink own ix (T f).1 (T f).2.1 (T f).2.2.1 ∈ Ts) (hfin : (T f).2.2.2 = false) (hn : narrow (ty0 f) v = v) (hfit : fits (ty0 f) v = true) (hle : f < fs.length) (hd : decode cc pc = .ok (.putfield ix, 3)) (hset : ws.set q0 (a, .inr (ci, fs.set f v)) = ws') (kk : G k n ws' lv (pc + 3) st) : G k n ws lv pc (v :: .ref a :: st) := by
  obtain ⟨p, e, s, m, args, below, meth, c, Q, A, H0, rfl, hx, hb, hml, hown, hts, hK, hA⟩ := K
  intro H locs ls hP hD hS hl
  refine va_put (D := D) hx hb hts hin ty0 hty hnm hown hK hP hD hS q0 he hc f hf (hts _ hlk) (fun _ h9 => h9) hfin (hty f hf) hn hfit hle hd (fun H1 locs1 hP1 hD1 hS1 => ?_)
  rw [hset] at hP1 hD1
  exact kk H1 locs1 ls hP1 hD1 hS1 hl

theorem r_iald (K : Ok l R G cc nL Ts own D tys) {cA : ClassId} {a N i : Nat} {g : Nat → Nat} (q0 t0 : Nat) (ha : ws[q0]? = some (a, .inl (cA, N, .inl (ar g)))) (ht : tys[t0]? = some (cA, .int)) (hi : i < N) (hN : N < 2147483648) (hd : decode cc pc = .ok (.iaload, 1)) (kk : G k n ws lv (pc + 1) (.int (nI (g i)) :: st)) : G k n ws lv pc (.int (nI i) :: .ref a :: st) := by
  obtain ⟨p, e, s, m, args, below, meth, c, Q, A, H0, rfl, hx, hb, hml, hown, hts, hK, hA⟩ := K
  intro H locs ls hP hD hS hl
  refine va_iald hx hb hK hP q0 t0 ha ht (vp_in_nI hi hN) hd ?_
  rw [nI_clamp (Nat.lt_trans hi hN)]
  exact kk H locs ls hP hD hS hl

theorem r_ialdJ (K : Ok l R G cc nL Ts own D tys) {cA : ClassId} {a N i : Nat} {g : Nat → Int32} (q0 t0 : Nat) (ha : ws[q0]? = some (a, .inl (cA, N, .inl g))) (ht : tys[t0]? = some (cA, .int)) (hi : i < N) (hN : N < 2147483648) (hd : decode cc pc = .ok (.iaload, 1)) (kk : G k n ws lv (pc + 1) (.int (g i) :: st)) : G k n ws lv pc (.int (nI i) :: .ref a :: st) := by
  obtain ⟨p, e, s, m, args, below, meth, c, Q, A, H0, rfl, hx, hb, hml, hown, hts, hK, hA⟩ := K
  intro H locs ls hP hD hS hl
  refine va_iald hx hb hK hP q0 t0 ha ht (vp_in_nI hi hN) hd ?_
  rw [nI_clamp (Nat.lt_trans hi hN)]
  exact kk H locs ls hP hD hS hl

theorem r_zald (K : Ok l R G cc nL Ts own D tys) {cA : ClassId} {a N i : Nat} {g : Nat → Nat} (q0 t0 : Nat) (ha : ws[q0]? = some (a, .inl (cA, N, .inl (ar g)))) (ht : tys[t0]? = some (cA, .boolean)) (hi : i < N) (hN : N < 2147483648) (hd : decode cc pc = .ok (.baload, 1)) (kk : G k n ws lv (pc + 1) (.int (nI (g i)) :: st)) : G k n ws lv pc (.int (nI i) :: .ref a :: st) := by
  obtain ⟨p, e, s, m, args, below, meth, c, Q, A, H0, rfl, hx, hb, hml, hown, hts, hK, hA⟩ := K
  intro H locs ls hP hD hS hl
  refine va_zald hx hb hK hP q0 t0 ha ht (vp_in_nI hi hN) hd ?_
  rw [nI_clamp (Nat.lt_trans hi hN)]
  exact kk H locs ls hP hD hS hl

theorem r_iast (K : Ok l R G cc nL Ts own D tys) {cA : ClassId} {a N i v : Nat} {g : Nat → Nat} (q0 t0 : Nat) (ha : ws[q0]? = some (a, .inl (cA, N, .inl (ar g)))) (ht : tys[t0]? = some (cA, .int)) (hi : i < N) (hN : N < 2147483648) (hd : decode cc pc = .ok (.iastore, 1)) (hset : ws.set q0 (a, .inl (cA, N, .inl (ar (upf g i v)))) = ws') (kk : G k n ws' lv (pc + 1) st) : G k n ws lv pc (.int (nI v) :: .int (nI i) :: .ref a :: st) := by
  obtain ⟨p, e, s, m, args, below, meth, c, Q, A, H0, rfl, hx, hb, hml, hown, hts, hK, hA⟩ := K
  intro H locs ls hP hD hS hl
  refine va_iast hx hb hK hP hD hS q0 t0 ha ht (vp_in_nI hi hN) hd (fun H1 locs1 hP1 hD1 hS1 => ?_)
  rw [nI_clamp (Nat.lt_trans hi hN), ar_upd, hset] at hP1 hD1
  exact kk H1 locs1 ls hP1 hD1 hS1 hl

theorem r_iastJ (K : Ok l R G cc nL Ts own D tys) {cA : ClassId} {a N i : Nat} {v : Int32} {g : Nat → Int32} (q0 t0 : Nat) (ha : ws[q0]? = some (a, .inl (cA, N, .inl g))) (ht : tys[t0]? = some (cA, .int)) (hi : i < N) (hN : N < 2147483648) (hd : decode cc pc = .ok (.iastore, 1)) (hset : ws.set q0 (a, .inl (cA, N, .inl (upd g i v))) = ws') (kk : G k n ws' lv (pc + 1) st) : G k n ws lv pc (.int v :: .int (nI i) :: .ref a :: st) := by
  obtain ⟨p, e, s, m, args, below, meth, c, Q, A, H0, rfl, hx, hb, hml, hown, hts, hK, hA⟩ := K
  intro H locs ls hP hD hS hl
  refine va_iast hx hb hK hP hD hS q0 t0 ha ht (vp_in_nI hi hN) hd (fun H1 locs1 hP1 hD1 hS1 => ?_)
  rw [nI_clamp (Nat.lt_trans hi hN), hset] at hP1 hD1
  exact kk H1 locs1 ls hP1 hD1 hS1 hl

theorem r_zast (K : Ok l R G cc nL Ts own D tys) {cA : ClassId} {a N i v : Nat} {g : Nat → Nat} (q0 t0 : Nat) (ha : ws[q0]? = some (a, .inl (cA, N, .inl (ar g)))) (ht : tys[t0]? = some (cA, .boolean)) (hi : i < N) (hN : N < 2147483648) (hv2 : v < 2) (hd : decode cc pc = .ok (.bastore, 1)) (hset : ws.set q0 (a, .inl (cA, N, .inl (ar (upf g i v)))) = ws') (kk : G k n ws' lv (pc + 1) st) : G k n ws lv pc (.int (nI v) :: .int (nI i) :: .ref a :: st) := by
  obtain ⟨p, e, s, m, args, below, meth, c, Q, A, H0, rfl, hx, hb, hml, hown, hts, hK, hA⟩ := K
  intro H locs ls hP hD hS hl
  refine va_zast hx hb hK hP hD hS q0 t0 ha ht (vp_in_nI hi hN) hd (fun H1 locs1 hP1 hD1 hS1 => ?_)
  rw [nI_clamp (Nat.lt_trans hi hN), nar_b hv2, ar_upd, hset] at hP1 hD1
  exact kk H1 locs1 ls hP1 hD1 hS1 hl

theorem r_aald2 (K : Ok l R G cc nL Ts own D tys) {cA : ClassId} {a N i y : Nat} {t : FieldType} {f : Nat → Option Nat} (q0 t0 : Nat) (ha : ws[q0]? = some (a, .inl (cA, N, .inr (.inr (.inr (.inr f)))))) (ht : tys[t0]? = some (cA, .array t)) (hi : i < N) (hN : N < 2147483648) (hf : f i = some y) (hd : decode cc pc = .ok (.aaload, 1)) (kk : G k n ws lv (pc + 1) (.ref y :: st)) : G k n ws lv pc (.int (nI i) :: .ref a :: st) := by
  obtain ⟨p, e, s, m, args, below, meth, c, Q, A, H0, rfl, hx, hb, hml, hown, hts, hK, hA⟩ := K
  intro H locs ls hP hD hS hl
  have hc : (nI i).toNatClampNeg = i := nI_clamp (Nat.lt_trans hi hN)
  exact W.aald (v := .ref y) (ty := .array t) hx hb (hP q0 _ ha) ((hK.2 t0 _ ht).1 N (fun j => va_rf (f j))) rfl (fun q => by cases q) (by show ¬ (nI i < 0 ∨ (arrV _ _ _).slots.size ≤ _); rw [arrV_size]; exact vp_in_nI hi hN) (by show (arrV _ _ _).slots[_]? = _; rw [hc, arrV_read _ _ hi, hf]; rfl) rfl rfl hd (kk H locs ls hP hD hS hl)

end R
end MYF
end
section

/-! The two worlds: the house's cells (wC) and the reference's (wM), over numbers S (field, place) and working rows J. -/
abbrev St : Type := Nat → Nat → Nat
def up (S : St) (f k v : Nat) : St := fun g => if g = f then upf (S g) k v else S g
theorem upf_same {g : Nat → Nat} {k v : Nat} : upf g k v k = v := if_pos rfl
theorem upf_ne {g : Nat → Nat} {k v j : Nat} (h : j ≠ k) : upf g k v j = g j := if_neg h
theorem up_same {S : St} {f k v : Nat} : up S f k v f k = v := by unfold up; rw [if_pos rfl]; exact upf_same
theorem up_f {S : St} {f k v : Nat} : up S f k v f = upf (S f) k v := by unfold up; exact if_pos rfl
theorem up_ne {S : St} {f k v g : Nat} (h : g ≠ f) : up S f k v g = S g := by unfold up; exact if_neg h
theorem up_nk {S : St} {f k v j : Nat} (h : j ≠ k) : up S f k v f j = S f j := by rw [up_f]; exact upf_ne h
def flat (S : St) : Nat → Nat := fun k => S (30 + k / 10) (k % 10)
theorem flat_at (S : St) {d p : Nat} (hp : p < 10) : flat S (10 * d + p) = S (30 + d) p := by
  unfold flat
  rw [show (10 * d + p) / 10 = d by omega, show (10 * d + p) % 10 = p by omega]
theorem flat_up (S : St) {d p v : Nat} (hp : p < 10) : upf (flat S) (10 * d + p) v = flat (up S (30 + d) p v) := by
  funext k
  unfold upf flat up
  by_cases e : k = 10 * d + p
  · subst e
    rw [if_pos rfl, if_pos (by omega)]
    unfold upf
    rw [if_pos (by omega)]
  · rw [if_neg e]
    by_cases e2 : 30 + k / 10 = 30 + d
    · rw [if_pos e2]
      unfold upf
      rw [if_neg (by omega)]
    · rw [if_neg e2]
theorem flat_ne {S : St} {f k v : Nat} (h : f < 30) : flat (up S f k v) = flat S := by
  funext j
  unfold flat
  rw [up_ne (by omega)]
def tyW (c : Nat → ClassId) : List (ClassId × FieldType) := [(c 0, .int), (c 1, .boolean), (c 2, .array .int), (c 3, .long)]
def rowsOf (a : Nat → Nat) : Nat → Option Nat := fun d => if d < 12 then some (a (30 + d)) else none

def wC (a : Nat → Nat) (c : Nat → ClassId) (S J : St) : va_W := [(a 0, .inr (6, [.ref (a 1), .ref (a 2), .ref (a 3), .ref (a 4), .ref (a 5), .ref (a 6), .ref (a 7)])),
  (a 1, .inr (1, [.ref (a 10), .ref (a 11), .ref (a 12), .ref (a 13), .ref (a 14)])),
  (a 2, .inr (4, [.ref (a 15), .ref (a 16), .ref (a 17), .int (nI (S 2 0))])),
  (a 3, .inr (0, [.ref (a 18), .ref (a 19), .ref (a 20), .int (nI (S 3 0)), .int (nI (S 3 1)), .int (nI (S 3 2))])),
  (a 4, .inr (2, [.ref (a 21), .ref (a 22), .ref (a 23), .ref (a 24), .ref (a 25), .ref (a 26), .int (nI (S 4 0))])),
  (a 5, .inr (3, [.ref (a 27)])),
  (a 6, .inr (5, [.ref (a 8), .int (nI (J 6 0)), .int (nI (J 6 1))])),
  (a 7, .inr (5, [.ref (a 9), .int (nI (J 7 0)), .int (nI (J 7 1))])),
  (a 8, .inr (3, [.ref (a 28)])),
  (a 9, .inr (3, [.ref (a 29)])),
  (a 10, .inl (c 0, 16, .inl (ar (S 10)))),
  (a 11, .inl (c 0, 16, .inl (ar (S 11)))),
  (a 12, .inl (c 1, 16, .inl (ar (S 12)))),
  (a 13, .inl (c 0, 16, .inl (ar (S 13)))),
  (a 14, .inl (c 0, 16, .inl (ar (S 14)))),
  (a 15, .inl (c 0, 80, .inl (ar (S 15)))),
  (a 16, .inl (c 0, 80, .inl (ar (S 16)))),
  (a 17, .inl (c 0, 80, .inl (ar (S 17)))),
  (a 18, .inl (c 0, 12, .inl (ar (S 18)))),
  (a 19, .inl (c 0, 12, .inl (ar (S 19)))),
  (a 20, .inl (c 2, 12, .inr (.inr (.inr (.inr (rowsOf a)))))),
  (a 21, .inl (c 0, 40, .inl (ar (S 21)))),
  (a 22, .inl (c 0, 40, .inl (ar (S 22)))),
  (a 23, .inl (c 0, 40, .inl (ar (S 23)))),
  (a 24, .inl (c 0, 40, .inl (ar (S 24)))),
  (a 25, .inl (c 1, 40, .inl (ar (S 25)))),
  (a 26, .inl (c 0, 4, .inl (ar (J 26)))),
  (a 27, .inl (c 0, 10, .inl (ar (J 27)))),
  (a 28, .inl (c 0, 10, .inl (ar (J 28)))),
  (a 29, .inl (c 0, 10, .inl (ar (J 29)))),
  (a 30, .inl (c 0, 10, .inl (ar (S 30)))),
  (a 31, .inl (c 0, 10, .inl (ar (S 31)))),
  (a 32, .inl (c 0, 10, .inl (ar (S 32)))),
  (a 33, .inl (c 0, 10, .inl (ar (S 33)))),
  (a 34, .inl (c 0, 10, .inl (ar (S 34)))),
  (a 35, .inl (c 0, 10, .inl (ar (S 35)))),
  (a 36, .inl (c 0, 10, .inl (ar (S 36)))),
  (a 37, .inl (c 0, 10, .inl (ar (S 37)))),
  (a 38, .inl (c 0, 10, .inl (ar (S 38)))),
  (a 39, .inl (c 0, 10, .inl (ar (S 39)))),
  (a 40, .inl (c 0, 10, .inl (ar (S 40)))),
  (a 41, .inl (c 0, 10, .inl (ar (S 41))))]

section WC
variable (a : Nat → Nat) (c : Nat → ClassId) (S J : St)
theorem wC_g0 : (wC a c S J)[0]? = some (a 0, .inr (6, [.ref (a 1), .ref (a 2), .ref (a 3), .ref (a 4), .ref (a 5), .ref (a 6), .ref (a 7)])) := rfl
theorem wC_g1 : (wC a c S J)[1]? = some (a 1, .inr (1, [.ref (a 10), .ref (a 11), .ref (a 12), .ref (a 13), .ref (a 14)])) := rfl
theorem wC_g2 : (wC a c S J)[2]? = some (a 2, .inr (4, [.ref (a 15), .ref (a 16), .ref (a 17), .int (nI (S 2 0))])) := rfl
theorem wC_g3 : (wC a c S J)[3]? = some (a 3, .inr (0, [.ref (a 18), .ref (a 19), .ref (a 20), .int (nI (S 3 0)), .int (nI (S 3 1)), .int (nI (S 3 2))])) := rfl
theorem wC_g4 : (wC a c S J)[4]? = some (a 4, .inr (2, [.ref (a 21), .ref (a 22), .ref (a 23), .ref (a 24), .ref (a 25), .ref (a 26), .int (nI (S 4 0))])) := rfl
theorem wC_g5 : (wC a c S J)[5]? = some (a 5, .inr (3, [.ref (a 27)])) := rfl
theorem wC_g6 : (wC a c S J)[6]? = some (a 6, .inr (5, [.ref (a 8), .int (nI (J 6 0)), .int (nI (J 6 1))])) := rfl
theorem wC_g7 : (wC a c S J)[7]? = some (a 7, .inr (5, [.ref (a 9), .int (nI (J 7 0)), .int (nI (J 7 1))])) := rfl
theorem wC_g8 : (wC a c S J)[8]? = some (a 8, .inr (3, [.ref (a 28)])) := rfl
theorem wC_g9 : (wC a c S J)[9]? = some (a 9, .inr (3, [.ref (a 29)])) := rfl
theorem wC_g10 : (wC a c S J)[10]? = some (a 10, .inl (c 0, 16, .inl (ar (S 10)))) := rfl
theorem wC_g11 : (wC a c S J)[11]? = some (a 11, .inl (c 0, 16, .inl (ar (S 11)))) := rfl
theorem wC_g12 : (wC a c S J)[12]? = some (a 12, .inl (c 1, 16, .inl (ar (S 12)))) := rfl
theorem wC_g13 : (wC a c S J)[13]? = some (a 13, .inl (c 0, 16, .inl (ar (S 13)))) := rfl
theorem wC_g14 : (wC a c S J)[14]? = some (a 14, .inl (c 0, 16, .inl (ar (S 14)))) := rfl
theorem wC_g15 : (wC a c S J)[15]? = some (a 15, .inl (c 0, 80, .inl (ar (S 15)))) := rfl
theorem wC_g16 : (wC a c S J)[16]? = some (a 16, .inl (c 0, 80, .inl (ar (S 16)))) := rfl
theorem wC_g17 : (wC a c S J)[17]? = some (a 17, .inl (c 0, 80, .inl (ar (S 17)))) := rfl
theorem wC_g18 : (wC a c S J)[18]? = some (a 18, .inl (c 0, 12, .inl (ar (S 18)))) := rfl
theorem wC_g19 : (wC a c S J)[19]? = some (a 19, .inl (c 0, 12, .inl (ar (S 19)))) := rfl
theorem wC_g20 : (wC a c S J)[20]? = some (a 20, .inl (c 2, 12, .inr (.inr (.inr (.inr (rowsOf a)))))) := rfl
theorem wC_g21 : (wC a c S J)[21]? = some (a 21, .inl (c 0, 40, .inl (ar (S 21)))) := rfl
theorem wC_g22 : (wC a c S J)[22]? = some (a 22, .inl (c 0, 40, .inl (ar (S 22)))) := rfl
theorem wC_g23 : (wC a c S J)[23]? = some (a 23, .inl (c 0, 40, .inl (ar (S 23)))) := rfl
theorem wC_g24 : (wC a c S J)[24]? = some (a 24, .inl (c 0, 40, .inl (ar (S 24)))) := rfl
theorem wC_g25 : (wC a c S J)[25]? = some (a 25, .inl (c 1, 40, .inl (ar (S 25)))) := rfl
theorem wC_g26 : (wC a c S J)[26]? = some (a 26, .inl (c 0, 4, .inl (ar (J 26)))) := rfl
theorem wC_g27 : (wC a c S J)[27]? = some (a 27, .inl (c 0, 10, .inl (ar (J 27)))) := rfl
theorem wC_g28 : (wC a c S J)[28]? = some (a 28, .inl (c 0, 10, .inl (ar (J 28)))) := rfl
theorem wC_g29 : (wC a c S J)[29]? = some (a 29, .inl (c 0, 10, .inl (ar (J 29)))) := rfl
theorem wC_g30 : (wC a c S J)[30]? = some (a 30, .inl (c 0, 10, .inl (ar (S 30)))) := rfl
theorem wC_g31 : (wC a c S J)[31]? = some (a 31, .inl (c 0, 10, .inl (ar (S 31)))) := rfl
theorem wC_g32 : (wC a c S J)[32]? = some (a 32, .inl (c 0, 10, .inl (ar (S 32)))) := rfl
theorem wC_g33 : (wC a c S J)[33]? = some (a 33, .inl (c 0, 10, .inl (ar (S 33)))) := rfl
theorem wC_g34 : (wC a c S J)[34]? = some (a 34, .inl (c 0, 10, .inl (ar (S 34)))) := rfl
theorem wC_g35 : (wC a c S J)[35]? = some (a 35, .inl (c 0, 10, .inl (ar (S 35)))) := rfl
theorem wC_g36 : (wC a c S J)[36]? = some (a 36, .inl (c 0, 10, .inl (ar (S 36)))) := rfl
theorem wC_g37 : (wC a c S J)[37]? = some (a 37, .inl (c 0, 10, .inl (ar (S 37)))) := rfl
theorem wC_g38 : (wC a c S J)[38]? = some (a 38, .inl (c 0, 10, .inl (ar (S 38)))) := rfl
theorem wC_g39 : (wC a c S J)[39]? = some (a 39, .inl (c 0, 10, .inl (ar (S 39)))) := rfl
theorem wC_g40 : (wC a c S J)[40]? = some (a 40, .inl (c 0, 10, .inl (ar (S 40)))) := rfl
theorem wC_g41 : (wC a c S J)[41]? = some (a 41, .inl (c 0, 10, .inl (ar (S 41)))) := rfl
theorem wC_s2_3 (v : Nat) : (wC a c S J).set 2 (a 2, .inr (4, ([.ref (a 15), .ref (a 16), .ref (a 17), .int (nI (S 2 0))] : List Value).set 3 (.int (nI v)))) = wC a c (up S 2 0 v) J := rfl
theorem wC_s3_3 (v : Nat) : (wC a c S J).set 3 (a 3, .inr (0, ([.ref (a 18), .ref (a 19), .ref (a 20), .int (nI (S 3 0)), .int (nI (S 3 1)), .int (nI (S 3 2))] : List Value).set 3 (.int (nI v)))) = wC a c (up S 3 0 v) J := rfl
theorem wC_s3_4 (v : Nat) : (wC a c S J).set 3 (a 3, .inr (0, ([.ref (a 18), .ref (a 19), .ref (a 20), .int (nI (S 3 0)), .int (nI (S 3 1)), .int (nI (S 3 2))] : List Value).set 4 (.int (nI v)))) = wC a c (up S 3 1 v) J := rfl
theorem wC_s3_5 (v : Nat) : (wC a c S J).set 3 (a 3, .inr (0, ([.ref (a 18), .ref (a 19), .ref (a 20), .int (nI (S 3 0)), .int (nI (S 3 1)), .int (nI (S 3 2))] : List Value).set 5 (.int (nI v)))) = wC a c (up S 3 2 v) J := rfl
theorem wC_s4_6 (v : Nat) : (wC a c S J).set 4 (a 4, .inr (2, ([.ref (a 21), .ref (a 22), .ref (a 23), .ref (a 24), .ref (a 25), .ref (a 26), .int (nI (S 4 0))] : List Value).set 6 (.int (nI v)))) = wC a c (up S 4 0 v) J := rfl
theorem wC_s6_1 (v : Nat) : (wC a c S J).set 6 (a 6, .inr (5, ([.ref (a 8), .int (nI (J 6 0)), .int (nI (J 6 1))] : List Value).set 1 (.int (nI v)))) = wC a c S (up J 6 0 v) := rfl
theorem wC_s6_2 (v : Nat) : (wC a c S J).set 6 (a 6, .inr (5, ([.ref (a 8), .int (nI (J 6 0)), .int (nI (J 6 1))] : List Value).set 2 (.int (nI v)))) = wC a c S (up J 6 1 v) := rfl
theorem wC_s7_1 (v : Nat) : (wC a c S J).set 7 (a 7, .inr (5, ([.ref (a 9), .int (nI (J 7 0)), .int (nI (J 7 1))] : List Value).set 1 (.int (nI v)))) = wC a c S (up J 7 0 v) := rfl
theorem wC_s7_2 (v : Nat) : (wC a c S J).set 7 (a 7, .inr (5, ([.ref (a 9), .int (nI (J 7 0)), .int (nI (J 7 1))] : List Value).set 2 (.int (nI v)))) = wC a c S (up J 7 1 v) := rfl
theorem wC_s10 (k v : Nat) : (wC a c S J).set 10 (a 10, .inl (c 0, 16, .inl (ar (upf (S 10) k v)))) = wC a c (up S 10 k v) J := rfl
theorem wC_s11 (k v : Nat) : (wC a c S J).set 11 (a 11, .inl (c 0, 16, .inl (ar (upf (S 11) k v)))) = wC a c (up S 11 k v) J := rfl
theorem wC_s12 (k v : Nat) : (wC a c S J).set 12 (a 12, .inl (c 1, 16, .inl (ar (upf (S 12) k v)))) = wC a c (up S 12 k v) J := rfl
theorem wC_s13 (k v : Nat) : (wC a c S J).set 13 (a 13, .inl (c 0, 16, .inl (ar (upf (S 13) k v)))) = wC a c (up S 13 k v) J := rfl
theorem wC_s14 (k v : Nat) : (wC a c S J).set 14 (a 14, .inl (c 0, 16, .inl (ar (upf (S 14) k v)))) = wC a c (up S 14 k v) J := rfl
theorem wC_s15 (k v : Nat) : (wC a c S J).set 15 (a 15, .inl (c 0, 80, .inl (ar (upf (S 15) k v)))) = wC a c (up S 15 k v) J := rfl
theorem wC_s16 (k v : Nat) : (wC a c S J).set 16 (a 16, .inl (c 0, 80, .inl (ar (upf (S 16) k v)))) = wC a c (up S 16 k v) J := rfl
theorem wC_s17 (k v : Nat) : (wC a c S J).set 17 (a 17, .inl (c 0, 80, .inl (ar (upf (S 17) k v)))) = wC a c (up S 17 k v) J := rfl
theorem wC_s18 (k v : Nat) : (wC a c S J).set 18 (a 18, .inl (c 0, 12, .inl (ar (upf (S 18) k v)))) = wC a c (up S 18 k v) J := rfl
theorem wC_s19 (k v : Nat) : (wC a c S J).set 19 (a 19, .inl (c 0, 12, .inl (ar (upf (S 19) k v)))) = wC a c (up S 19 k v) J := rfl
theorem wC_s21 (k v : Nat) : (wC a c S J).set 21 (a 21, .inl (c 0, 40, .inl (ar (upf (S 21) k v)))) = wC a c (up S 21 k v) J := rfl
theorem wC_s22 (k v : Nat) : (wC a c S J).set 22 (a 22, .inl (c 0, 40, .inl (ar (upf (S 22) k v)))) = wC a c (up S 22 k v) J := rfl
theorem wC_s23 (k v : Nat) : (wC a c S J).set 23 (a 23, .inl (c 0, 40, .inl (ar (upf (S 23) k v)))) = wC a c (up S 23 k v) J := rfl
theorem wC_s24 (k v : Nat) : (wC a c S J).set 24 (a 24, .inl (c 0, 40, .inl (ar (upf (S 24) k v)))) = wC a c (up S 24 k v) J := rfl
theorem wC_s25 (k v : Nat) : (wC a c S J).set 25 (a 25, .inl (c 1, 40, .inl (ar (upf (S 25) k v)))) = wC a c (up S 25 k v) J := rfl
theorem wC_s26 (k v : Nat) : (wC a c S J).set 26 (a 26, .inl (c 0, 4, .inl (ar (upf (J 26) k v)))) = wC a c S (up J 26 k v) := rfl
theorem wC_s27 (k v : Nat) : (wC a c S J).set 27 (a 27, .inl (c 0, 10, .inl (ar (upf (J 27) k v)))) = wC a c S (up J 27 k v) := rfl
theorem wC_s28 (k v : Nat) : (wC a c S J).set 28 (a 28, .inl (c 0, 10, .inl (ar (upf (J 28) k v)))) = wC a c S (up J 28 k v) := rfl
theorem wC_s29 (k v : Nat) : (wC a c S J).set 29 (a 29, .inl (c 0, 10, .inl (ar (upf (J 29) k v)))) = wC a c S (up J 29 k v) := rfl
theorem wC_s30 (k v : Nat) : (wC a c S J).set 30 (a 30, .inl (c 0, 10, .inl (ar (upf (S 30) k v)))) = wC a c (up S 30 k v) J := rfl
theorem wC_s31 (k v : Nat) : (wC a c S J).set 31 (a 31, .inl (c 0, 10, .inl (ar (upf (S 31) k v)))) = wC a c (up S 31 k v) J := rfl
theorem wC_s32 (k v : Nat) : (wC a c S J).set 32 (a 32, .inl (c 0, 10, .inl (ar (upf (S 32) k v)))) = wC a c (up S 32 k v) J := rfl
theorem wC_s33 (k v : Nat) : (wC a c S J).set 33 (a 33, .inl (c 0, 10, .inl (ar (upf (S 33) k v)))) = wC a c (up S 33 k v) J := rfl
theorem wC_s34 (k v : Nat) : (wC a c S J).set 34 (a 34, .inl (c 0, 10, .inl (ar (upf (S 34) k v)))) = wC a c (up S 34 k v) J := rfl
theorem wC_s35 (k v : Nat) : (wC a c S J).set 35 (a 35, .inl (c 0, 10, .inl (ar (upf (S 35) k v)))) = wC a c (up S 35 k v) J := rfl
theorem wC_s36 (k v : Nat) : (wC a c S J).set 36 (a 36, .inl (c 0, 10, .inl (ar (upf (S 36) k v)))) = wC a c (up S 36 k v) J := rfl
theorem wC_s37 (k v : Nat) : (wC a c S J).set 37 (a 37, .inl (c 0, 10, .inl (ar (upf (S 37) k v)))) = wC a c (up S 37 k v) J := rfl
theorem wC_s38 (k v : Nat) : (wC a c S J).set 38 (a 38, .inl (c 0, 10, .inl (ar (upf (S 38) k v)))) = wC a c (up S 38 k v) J := rfl
theorem wC_s39 (k v : Nat) : (wC a c S J).set 39 (a 39, .inl (c 0, 10, .inl (ar (upf (S 39) k v)))) = wC a c (up S 39 k v) J := rfl
theorem wC_s40 (k v : Nat) : (wC a c S J).set 40 (a 40, .inl (c 0, 10, .inl (ar (upf (S 40) k v)))) = wC a c (up S 40 k v) J := rfl
theorem wC_s41 (k v : Nat) : (wC a c S J).set 41 (a 41, .inl (c 0, 10, .inl (ar (upf (S 41) k v)))) = wC a c (up S 41 k v) J := rfl
theorem wC_row {d : Nat} (h : d < 12) : (wC a c S J)[30 + d]? = some (a (30 + d), .inl (c 0, 10, .inl (ar (S (30 + d))))) := by
  rcases (show d = 0 ∨ d = 1 ∨ d = 2 ∨ d = 3 ∨ d = 4 ∨ d = 5 ∨ d = 6 ∨ d = 7 ∨ d = 8 ∨ d = 9 ∨ d = 10 ∨ d = 11 by omega) with rfl | rfl | rfl | rfl | rfl | rfl | rfl | rfl | rfl | rfl | rfl | rfl <;> rfl
theorem wC_srow {d : Nat} (h : d < 12) (k v : Nat) : (wC a c S J).set (30 + d) (a (30 + d), .inl (c 0, 10, .inl (ar (upf (S (30 + d)) k v)))) = wC a c (up S (30 + d) k v) J := by
  rcases (show d = 0 ∨ d = 1 ∨ d = 2 ∨ d = 3 ∨ d = 4 ∨ d = 5 ∨ d = 6 ∨ d = 7 ∨ d = 8 ∨ d = 9 ∨ d = 10 ∨ d = 11 by omega) with rfl | rfl | rfl | rfl | rfl | rfl | rfl | rfl | rfl | rfl | rfl | rfl <;> rfl
theorem rowsOf_at {d : Nat} (h : d < 12) : rowsOf a d = some (a (30 + d)) := if_pos h
end WC
def wM (b : Nat → Nat) (c : Nat → ClassId) (S J : St) : va_W := [(b 0, .inr (7, [.ref (b 10), .ref (b 11), .ref (b 12), .ref (b 13), .ref (b 14), .int (nI (S 3 1)), .int (nI (S 3 2)), .int (nI (S 2 0)), .ref (b 15), .ref (b 16), .ref (b 17), .int (nI (S 3 0)), .ref (b 18), .ref (b 19), .ref (b 20), .ref (b 26), .int (nI (S 4 0)), .ref (b 21), .ref (b 24), .ref (b 23), .ref (b 25), .ref (b 27), .int (nI (J 0 0))])),
  (b 10, .inl (c 0, 16, .inl (ar (S 10)))),
  (b 11, .inl (c 0, 16, .inl (ar (S 11)))),
  (b 12, .inl (c 1, 16, .inl (ar (S 12)))),
  (b 13, .inl (c 0, 16, .inl (ar (S 13)))),
  (b 14, .inl (c 0, 16, .inl (ar (S 14)))),
  (b 15, .inl (c 0, 80, .inl (ar (S 15)))),
  (b 16, .inl (c 0, 80, .inl (ar (S 16)))),
  (b 17, .inl (c 0, 80, .inl (ar (S 17)))),
  (b 18, .inl (c 0, 12, .inl (ar (S 18)))),
  (b 19, .inl (c 0, 12, .inl (ar (S 19)))),
  (b 20, .inl (c 0, 120, .inl (ar (flat S)))),
  (b 26, .inl (c 0, 20, .inl (ar (J 26)))),
  (b 21, .inl (c 0, 40, .inl (ar (S 21)))),
  (b 24, .inl (c 0, 40, .inl (ar (S 24)))),
  (b 23, .inl (c 0, 40, .inl (ar (S 23)))),
  (b 25, .inl (c 1, 40, .inl (ar (S 27)))),
  (b 27, .inl (c 0, 4, .inl (ar (J 27))))]

section WM
variable (b : Nat → Nat) (c : Nat → ClassId) (S J : St)
theorem wM_g0 : (wM b c S J)[0]? = some (b 0, .inr (7, [.ref (b 10), .ref (b 11), .ref (b 12), .ref (b 13), .ref (b 14), .int (nI (S 3 1)), .int (nI (S 3 2)), .int (nI (S 2 0)), .ref (b 15), .ref (b 16), .ref (b 17), .int (nI (S 3 0)), .ref (b 18), .ref (b 19), .ref (b 20), .ref (b 26), .int (nI (S 4 0)), .ref (b 21), .ref (b 24), .ref (b 23), .ref (b 25), .ref (b 27), .int (nI (J 0 0))])) := rfl
theorem wM_g1 : (wM b c S J)[1]? = some (b 10, .inl (c 0, 16, .inl (ar (S 10)))) := rfl
theorem wM_g2 : (wM b c S J)[2]? = some (b 11, .inl (c 0, 16, .inl (ar (S 11)))) := rfl
theorem wM_g3 : (wM b c S J)[3]? = some (b 12, .inl (c 1, 16, .inl (ar (S 12)))) := rfl
theorem wM_g4 : (wM b c S J)[4]? = some (b 13, .inl (c 0, 16, .inl (ar (S 13)))) := rfl
theorem wM_g5 : (wM b c S J)[5]? = some (b 14, .inl (c 0, 16, .inl (ar (S 14)))) := rfl
theorem wM_g6 : (wM b c S J)[6]? = some (b 15, .inl (c 0, 80, .inl (ar (S 15)))) := rfl
theorem wM_g7 : (wM b c S J)[7]? = some (b 16, .inl (c 0, 80, .inl (ar (S 16)))) := rfl
theorem wM_g8 : (wM b c S J)[8]? = some (b 17, .inl (c 0, 80, .inl (ar (S 17)))) := rfl
theorem wM_g9 : (wM b c S J)[9]? = some (b 18, .inl (c 0, 12, .inl (ar (S 18)))) := rfl
theorem wM_g10 : (wM b c S J)[10]? = some (b 19, .inl (c 0, 12, .inl (ar (S 19)))) := rfl
theorem wM_g11 : (wM b c S J)[11]? = some (b 20, .inl (c 0, 120, .inl (ar (flat S)))) := rfl
theorem wM_g12 : (wM b c S J)[12]? = some (b 26, .inl (c 0, 20, .inl (ar (J 26)))) := rfl
theorem wM_g13 : (wM b c S J)[13]? = some (b 21, .inl (c 0, 40, .inl (ar (S 21)))) := rfl
theorem wM_g14 : (wM b c S J)[14]? = some (b 24, .inl (c 0, 40, .inl (ar (S 24)))) := rfl
theorem wM_g15 : (wM b c S J)[15]? = some (b 23, .inl (c 0, 40, .inl (ar (S 23)))) := rfl
theorem wM_g16 : (wM b c S J)[16]? = some (b 25, .inl (c 1, 40, .inl (ar (S 27)))) := rfl
theorem wM_g17 : (wM b c S J)[17]? = some (b 27, .inl (c 0, 4, .inl (ar (J 27)))) := rfl
theorem wM_s0_5 (v : Nat) : (wM b c S J).set 0 (b 0, .inr (7, ([.ref (b 10), .ref (b 11), .ref (b 12), .ref (b 13), .ref (b 14), .int (nI (S 3 1)), .int (nI (S 3 2)), .int (nI (S 2 0)), .ref (b 15), .ref (b 16), .ref (b 17), .int (nI (S 3 0)), .ref (b 18), .ref (b 19), .ref (b 20), .ref (b 26), .int (nI (S 4 0)), .ref (b 21), .ref (b 24), .ref (b 23), .ref (b 25), .ref (b 27), .int (nI (J 0 0))] : List Value).set 5 (.int (nI v)))) = wM b c (up S 3 1 v) J := by
  unfold wM
  rw [flat_ne (show 3 < 30 by decide)]
  rfl
theorem wM_s0_6 (v : Nat) : (wM b c S J).set 0 (b 0, .inr (7, ([.ref (b 10), .ref (b 11), .ref (b 12), .ref (b 13), .ref (b 14), .int (nI (S 3 1)), .int (nI (S 3 2)), .int (nI (S 2 0)), .ref (b 15), .ref (b 16), .ref (b 17), .int (nI (S 3 0)), .ref (b 18), .ref (b 19), .ref (b 20), .ref (b 26), .int (nI (S 4 0)), .ref (b 21), .ref (b 24), .ref (b 23), .ref (b 25), .ref (b 27), .int (nI (J 0 0))] : List Value).set 6 (.int (nI v)))) = wM b c (up S 3 2 v) J := by
  unfold wM
  rw [flat_ne (show 3 < 30 by decide)]
  rfl
theorem wM_s0_7 (v : Nat) : (wM b c S J).set 0 (b 0, .inr (7, ([.ref (b 10), .ref (b 11), .ref (b 12), .ref (b 13), .ref (b 14), .int (nI (S 3 1)), .int (nI (S 3 2)), .int (nI (S 2 0)), .ref (b 15), .ref (b 16), .ref (b 17), .int (nI (S 3 0)), .ref (b 18), .ref (b 19), .ref (b 20), .ref (b 26), .int (nI (S 4 0)), .ref (b 21), .ref (b 24), .ref (b 23), .ref (b 25), .ref (b 27), .int (nI (J 0 0))] : List Value).set 7 (.int (nI v)))) = wM b c (up S 2 0 v) J := by
  unfold wM
  rw [flat_ne (show 2 < 30 by decide)]
  rfl
theorem wM_s0_11 (v : Nat) : (wM b c S J).set 0 (b 0, .inr (7, ([.ref (b 10), .ref (b 11), .ref (b 12), .ref (b 13), .ref (b 14), .int (nI (S 3 1)), .int (nI (S 3 2)), .int (nI (S 2 0)), .ref (b 15), .ref (b 16), .ref (b 17), .int (nI (S 3 0)), .ref (b 18), .ref (b 19), .ref (b 20), .ref (b 26), .int (nI (S 4 0)), .ref (b 21), .ref (b 24), .ref (b 23), .ref (b 25), .ref (b 27), .int (nI (J 0 0))] : List Value).set 11 (.int (nI v)))) = wM b c (up S 3 0 v) J := by
  unfold wM
  rw [flat_ne (show 3 < 30 by decide)]
  rfl
theorem wM_s0_16 (v : Nat) : (wM b c S J).set 0 (b 0, .inr (7, ([.ref (b 10), .ref (b 11), .ref (b 12), .ref (b 13), .ref (b 14), .int (nI (S 3 1)), .int (nI (S 3 2)), .int (nI (S 2 0)), .ref (b 15), .ref (b 16), .ref (b 17), .int (nI (S 3 0)), .ref (b 18), .ref (b 19), .ref (b 20), .ref (b 26), .int (nI (S 4 0)), .ref (b 21), .ref (b 24), .ref (b 23), .ref (b 25), .ref (b 27), .int (nI (J 0 0))] : List Value).set 16 (.int (nI v)))) = wM b c (up S 4 0 v) J := by
  unfold wM
  rw [flat_ne (show 4 < 30 by decide)]
  rfl
theorem wM_s0_22 (v : Nat) : (wM b c S J).set 0 (b 0, .inr (7, ([.ref (b 10), .ref (b 11), .ref (b 12), .ref (b 13), .ref (b 14), .int (nI (S 3 1)), .int (nI (S 3 2)), .int (nI (S 2 0)), .ref (b 15), .ref (b 16), .ref (b 17), .int (nI (S 3 0)), .ref (b 18), .ref (b 19), .ref (b 20), .ref (b 26), .int (nI (S 4 0)), .ref (b 21), .ref (b 24), .ref (b 23), .ref (b 25), .ref (b 27), .int (nI (J 0 0))] : List Value).set 22 (.int (nI v)))) = wM b c S (up J 0 0 v) := rfl
theorem wM_s1 (k v : Nat) : (wM b c S J).set 1 (b 10, .inl (c 0, 16, .inl (ar (upf (S 10) k v)))) = wM b c (up S 10 k v) J := by
  unfold wM
  rw [flat_ne (show 10 < 30 by decide)]
  rfl
theorem wM_s2 (k v : Nat) : (wM b c S J).set 2 (b 11, .inl (c 0, 16, .inl (ar (upf (S 11) k v)))) = wM b c (up S 11 k v) J := by
  unfold wM
  rw [flat_ne (show 11 < 30 by decide)]
  rfl
theorem wM_s3 (k v : Nat) : (wM b c S J).set 3 (b 12, .inl (c 1, 16, .inl (ar (upf (S 12) k v)))) = wM b c (up S 12 k v) J := by
  unfold wM
  rw [flat_ne (show 12 < 30 by decide)]
  rfl
theorem wM_s4 (k v : Nat) : (wM b c S J).set 4 (b 13, .inl (c 0, 16, .inl (ar (upf (S 13) k v)))) = wM b c (up S 13 k v) J := by
  unfold wM
  rw [flat_ne (show 13 < 30 by decide)]
  rfl
theorem wM_s5 (k v : Nat) : (wM b c S J).set 5 (b 14, .inl (c 0, 16, .inl (ar (upf (S 14) k v)))) = wM b c (up S 14 k v) J := by
  unfold wM
  rw [flat_ne (show 14 < 30 by decide)]
  rfl
theorem wM_s6 (k v : Nat) : (wM b c S J).set 6 (b 15, .inl (c 0, 80, .inl (ar (upf (S 15) k v)))) = wM b c (up S 15 k v) J := by
  unfold wM
  rw [flat_ne (show 15 < 30 by decide)]
  rfl
theorem wM_s7 (k v : Nat) : (wM b c S J).set 7 (b 16, .inl (c 0, 80, .inl (ar (upf (S 16) k v)))) = wM b c (up S 16 k v) J := by
  unfold wM
  rw [flat_ne (show 16 < 30 by decide)]
  rfl
theorem wM_s8 (k v : Nat) : (wM b c S J).set 8 (b 17, .inl (c 0, 80, .inl (ar (upf (S 17) k v)))) = wM b c (up S 17 k v) J := by
  unfold wM
  rw [flat_ne (show 17 < 30 by decide)]
  rfl
theorem wM_s9 (k v : Nat) : (wM b c S J).set 9 (b 18, .inl (c 0, 12, .inl (ar (upf (S 18) k v)))) = wM b c (up S 18 k v) J := by
  unfold wM
  rw [flat_ne (show 18 < 30 by decide)]
  rfl
theorem wM_s10 (k v : Nat) : (wM b c S J).set 10 (b 19, .inl (c 0, 12, .inl (ar (upf (S 19) k v)))) = wM b c (up S 19 k v) J := by
  unfold wM
  rw [flat_ne (show 19 < 30 by decide)]
  rfl
theorem wM_s12 (k v : Nat) : (wM b c S J).set 12 (b 26, .inl (c 0, 20, .inl (ar (upf (J 26) k v)))) = wM b c S (up J 26 k v) := rfl
theorem wM_s13 (k v : Nat) : (wM b c S J).set 13 (b 21, .inl (c 0, 40, .inl (ar (upf (S 21) k v)))) = wM b c (up S 21 k v) J := by
  unfold wM
  rw [flat_ne (show 21 < 30 by decide)]
  rfl
theorem wM_s14 (k v : Nat) : (wM b c S J).set 14 (b 24, .inl (c 0, 40, .inl (ar (upf (S 24) k v)))) = wM b c (up S 24 k v) J := by
  unfold wM
  rw [flat_ne (show 24 < 30 by decide)]
  rfl
theorem wM_s15 (k v : Nat) : (wM b c S J).set 15 (b 23, .inl (c 0, 40, .inl (ar (upf (S 23) k v)))) = wM b c (up S 23 k v) J := by
  unfold wM
  rw [flat_ne (show 23 < 30 by decide)]
  rfl
theorem wM_s16 (k v : Nat) : (wM b c S J).set 16 (b 25, .inl (c 1, 40, .inl (ar (upf (S 27) k v)))) = wM b c (up S 27 k v) J := by
  unfold wM
  rw [flat_ne (show 27 < 30 by decide)]
  rfl
theorem wM_s17 (k v : Nat) : (wM b c S J).set 17 (b 27, .inl (c 0, 4, .inl (ar (upf (J 27) k v)))) = wM b c S (up J 27 k v) := rfl
theorem wM_sflat {d p : Nat} (hp : p < 10) (v : Nat) : (wM b c S J).set 11 (b 20, .inl (c 0, 120, .inl (ar (upf (flat S) (10 * d + p) v)))) = wM b c (up S (30 + d) p v) J := by
  have e2 : up S (30 + d) p v 2 = S 2 := up_ne (by omega)
  have e3 : up S (30 + d) p v 3 = S 3 := up_ne (by omega)
  have e4 : up S (30 + d) p v 4 = S 4 := up_ne (by omega)
  have e10 : up S (30 + d) p v 10 = S 10 := up_ne (by omega)
  have e11 : up S (30 + d) p v 11 = S 11 := up_ne (by omega)
  have e12 : up S (30 + d) p v 12 = S 12 := up_ne (by omega)
  have e13 : up S (30 + d) p v 13 = S 13 := up_ne (by omega)
  have e14 : up S (30 + d) p v 14 = S 14 := up_ne (by omega)
  have e15 : up S (30 + d) p v 15 = S 15 := up_ne (by omega)
  have e16 : up S (30 + d) p v 16 = S 16 := up_ne (by omega)
  have e17 : up S (30 + d) p v 17 = S 17 := up_ne (by omega)
  have e18 : up S (30 + d) p v 18 = S 18 := up_ne (by omega)
  have e19 : up S (30 + d) p v 19 = S 19 := up_ne (by omega)
  have e21 : up S (30 + d) p v 21 = S 21 := up_ne (by omega)
  have e23 : up S (30 + d) p v 23 = S 23 := up_ne (by omega)
  have e24 : up S (30 + d) p v 24 = S 24 := up_ne (by omega)
  have e27 : up S (30 + d) p v 27 = S 27 := up_ne (by omega)
  unfold wM
  rw [flat_up S hp, e2, e3, e4, e10, e11, e12, e13, e14, e15, e16, e17, e18, e19, e21, e23, e24, e27]
  rfl
end WM
end
section
/-! Contracts over worlds: a method that returns (Ci, Cv), one that may throw (Xi, Xv); how they are opened and called. -/
section MYC
def At1 (D : va_G) (tys : List (ClassId × FieldType)) (A : Nat → Prop) (ws : va_W) (t : State) : Prop := va_P D vwCl ws t.heap ∧ va_K D vwCl tys t ∧ va_D A ws
def Pre1 (D : va_G) (tys : List (ClassId × FieldType)) (w : va_W) (av : List Value) (sz : Nat) : Array Value → State → Prop := va_Pc av (fun U => U.heap.size = sz ∧ At1 D tys (fun _ => True) w U)
theorem pre1_blind {D : va_G} {tys : List (ClassId × FieldType)} {w : va_W} {av : List Value} {sz : Nat} : FrameBlind (Pre1 D tys w av sz) := fun a U g mk q => by
  obtain ⟨q0, q1, qP, qK, qD⟩ := q
  exact ⟨q0, q1, qP, va_K.moved (u := U) (U := U.calling g mk a) (Vm.Alike.refl U.vm) qK, qD⟩
def Ci (l : Launch) (y : MethodName) (wsy : List Cond) (rm : Room) (D : va_G) (tys : List (ClassId × FieldType)) (av : List Value) (w : va_W) {T : Type} (post : Int32 → T → Prop) (w' : T → va_W) : Prop :=
  ∀ sz, Met l y wsy rm (Pre1 D tys w av sz) (va_Qi post (fun u t => At1 D tys (va_A w sz) (w' u) t) (va_A w sz)) rm.cells rm.slots (va_A w sz)
def Cv (l : Launch) (y : MethodName) (wsy : List Cond) (rm : Room) (D : va_G) (tys : List (ClassId × FieldType)) (av : List Value) (w : va_W) {T : Type} (post : T → Prop) (w' : T → va_W) : Prop :=
  ∀ sz, Met l y wsy rm (Pre1 D tys w av sz) (va_Qv post (fun u t => At1 D tys (va_A w sz) (w' u) t) (va_A w sz)) rm.cells rm.slots (va_A w sz)
section OPEN
variable {l : Launch} {y : MethodName} {wsy wsy' : List Cond} {rm : Room} {D : va_G} {tys : List (ClassId × FieldType)} {av : List Value} {w : va_W} {T : Type} {cc : ByteArray} {maxL : Nat}
theorem entry_has (hlen : (lg_sl av).length ≤ maxL) {lv0 : List (Nat × Value)} (hlv : lv_args 0 av = lv0) : lv_has ((lg_sl av ++ List.replicate (maxL - (lg_sl av).length) Slot.unset).toArray) maxL lv0 := by
  rw [← hlv]
  exact lv_entry av hlen
set_option maxHeartbeats 4000000 in
theorem Ci.of {post : Int32 → T → Prop} {w' : T → va_W} (hy : plainName y.cls = true) (hw : wsy = Cond.code y cc maxL (some .int) :: wsy') (hlen : (lg_sl av).length ≤ maxL) {lv0 : List (Nat × Value)} (hlv : lv_args 0 av = lv0)
    (body : ∀ G : Gt, Ok l rm G cc maxL wsy y.cls D tys → (∀ k n ws lv pc v u, decode cc pc = .ok (.ireturn, 1) → post v u → ws = w' u → k ≤ rm.cells → n ≤ rm.slots → G k n ws lv pc [.int v]) → G 0 0 w lv0 0 []) : Ci l y wsy rm D tys av w post w' := by
  intro sz
  refine Met.ofW (cc := cc) (maxL := maxL) (ret := (some .int)) hy hw ?_
  intro p e s m args below meth c s₁ B hml hv
  obtain ⟨rfl, hsz, hP, hK, hD0⟩ := hv
  have hx := B.exec
  have hb := B.bytes
  have hr := B.returns
  have hts := atoms_spec (ws := wsy) B.pre
  have hown : s.vm.findClass y.cls = some m.cls := findClass_of_methodNamed B.named
  have hlocks := B.notSynchronized
  subst hsz
  have hD := hD0.self (sz := s.heap.size)
  have hA : ∀ q : Nat, s.heap.size ≤ q → va_A w s.heap.size q := fun q h => Or.inr h
  rw [lg_entry_eq]
  refine body _ ⟨p, e, s, m, av.toArray, below, meth, c, _, va_A w s.heap.size, s.heap, rfl, hx, hb, hml, hown, hts, hK, hA⟩ ?_ s.heap [] _ hP hD va_S.rf (entry_has hlen hlv)
  intro k n ws lv pc v u hd hp hwu hk hn H locs ls hP hD hS hl
  refine W.widen hk hn ?_
  rw [hwu] at hP hD
  exact W.iret (v := v) hx hb hr (fun t ht hW => ⟨⟨v, u, rfl, hp, by rw [ht]; exact hP, va_K.moved hW.alike hK, hD⟩, hS.F ht⟩) hS.2.2 hd
set_option maxHeartbeats 4000000 in
theorem Ci.ofZ {post : Int32 → T → Prop} {w' : T → va_W} (hy : plainName y.cls = true) (hw : wsy = Cond.code y cc maxL (some .boolean) :: wsy') (hlen : (lg_sl av).length ≤ maxL) {lv0 : List (Nat × Value)} (hlv : lv_args 0 av = lv0)
    (body : ∀ G : Gt, Ok l rm G cc maxL wsy y.cls D tys → (∀ k n ws lv pc (b : Nat) u, decode cc pc = .ok (.ireturn, 1) → b < 2 → post (nI b) u → ws = w' u → k ≤ rm.cells → n ≤ rm.slots → G k n ws lv pc [.int (nI b)]) → G 0 0 w lv0 0 []) : Ci l y wsy rm D tys av w post w' := by
  intro sz
  refine Met.ofW (cc := cc) (maxL := maxL) (ret := (some .boolean)) hy hw ?_
  intro p e s m args below meth c s₁ B hml hv
  obtain ⟨rfl, hsz, hP, hK, hD0⟩ := hv
  have hx := B.exec
  have hb := B.bytes
  have hr := B.returns
  have hts := atoms_spec (ws := wsy) B.pre
  have hown : s.vm.findClass y.cls = some m.cls := findClass_of_methodNamed B.named
  have hlocks := B.notSynchronized
  subst hsz
  have hD := hD0.self (sz := s.heap.size)
  have hA : ∀ q : Nat, s.heap.size ≤ q → va_A w s.heap.size q := fun q h => Or.inr h
  rw [lg_entry_eq]
  refine body _ ⟨p, e, s, m, av.toArray, below, meth, c, _, va_A w s.heap.size, s.heap, rfl, hx, hb, hml, hown, hts, hK, hA⟩ ?_ s.heap [] _ hP hD va_S.rf (entry_has hlen hlv)
  intro k n ws lv pc b u hd hb2 hp hwu hk hn H locs ls hP hD hS hl
  refine W.widen hk hn ?_
  rw [hwu] at hP hD
  have hnar : narrow .boolean (.int (nI b)) = .int (nI b) := by
    rcases (show b = 0 ∨ b = 1 by omega) with rfl | rfl <;> rfl
  exact W.zret (v := nI b) hx hb hr hnar (fun t ht hW => ⟨⟨nI b, u, rfl, hp, by rw [ht]; exact hP, va_K.moved hW.alike hK, hD⟩, hS.F ht⟩) hS.2.2 hd
set_option maxHeartbeats 4000000 in
theorem Cv.of {post : T → Prop} {w' : T → va_W} (hy : plainName y.cls = true) (hw : wsy = Cond.code y cc maxL none :: wsy') (hlen : (lg_sl av).length ≤ maxL) {lv0 : List (Nat × Value)} (hlv : lv_args 0 av = lv0)
    (body : ∀ G : Gt, Ok l rm G cc maxL wsy y.cls D tys → (∀ k n ws lv pc u, decode cc pc = .ok (.return_, 1) → post u → ws = w' u → k ≤ rm.cells → n ≤ rm.slots → G k n ws lv pc []) → G 0 0 w lv0 0 []) : Cv l y wsy rm D tys av w post w' := by
  intro sz
  refine Met.ofW (cc := cc) (maxL := maxL) (ret := none) hy hw ?_
  intro p e s m args below meth c s₁ B hml hv
  obtain ⟨rfl, hsz, hP, hK, hD0⟩ := hv
  have hx := B.exec
  have hb := B.bytes
  have hr := B.returns
  have hts := atoms_spec (ws := wsy) B.pre
  have hown : s.vm.findClass y.cls = some m.cls := findClass_of_methodNamed B.named
  have hlocks := B.notSynchronized
  subst hsz
  have hD := hD0.self (sz := s.heap.size)
  have hA : ∀ q : Nat, s.heap.size ≤ q → va_A w s.heap.size q := fun q h => Or.inr h
  rw [lg_entry_eq]
  refine body _ ⟨p, e, s, m, av.toArray, below, meth, c, _, va_A w s.heap.size, s.heap, rfl, hx, hb, hml, hown, hts, hK, hA⟩ ?_ s.heap [] _ hP hD va_S.rf (entry_has hlen hlv)
  intro k n ws lv pc u hd hp hwu hk hn H locs ls hP hD hS hl
  refine W.widen hk hn ?_
  rw [hwu] at hP hD
  exact W.vret hx hb hr (fun t ht hW => ⟨⟨u, rfl, hp, by rw [ht]; exact hP, va_K.moved hW.alike hK, hD⟩, hS.F ht⟩) hS.2.2 hd
end OPEN
theorem reach {A : Nat → Prop} {w : va_W} {H0 H : Heap} {locs : List Loc} (hD : va_D A w) (hS : va_S A H0 H locs) (hA : ∀ q, H0.size ≤ q → A q) : ∀ q, va_A w H.size q → A q := by
  intro q hq
  rcases hq with ⟨k, e, h⟩ | h
  · exact hD.2 k _ h
  · exact hA q (Nat.le_trans hS.1 h)
section CALL
variable {l : Launch} {R : Room} {G : Gt} {cc : ByteArray} {nL : Nat} {Ts : List Cond} {own : String} {D : va_G} {tys : List (ClassId × FieldType)} {k n : Nat} {lv : List (Nat × Value)} {pc : Nat} {st : List Value}
variable {y : MethodName} {wsy wsy' : List Cond} {rm : Room} {w : va_W} {T : Type} {bytes : ByteArray} {maxL index : Nat} {ret : Option FieldType}
abbrev okDesc (y : MethodName) (C : String) (j : Nat) : Prop := y.cls = C ∧ y.cls ≠ "java/lang/invoke/MethodHandle" ∧ y.cls ≠ "java/lang/invoke/VarHandle" ∧ (parseMethodDescriptor y.desc).map (fun d => d.parameters.length) = some j
abbrev okDescS (y : MethodName) (j : Nat) : Prop := y.cls ≠ "java/lang/invoke/MethodHandle" ∧ y.cls ≠ "java/lang/invoke/VarHandle" ∧ (parseMethodDescriptor y.desc).map (fun d => d.parameters.length) = some j
abbrev okRoom (rm R : Room) (maxL k n : Nat) : Prop := (rm.frames + 1 ≤ R.frames ∧ 8 + (maxL + 11) + rm.locals ≤ R.locals) ∧ k + rm.cells ≤ R.cells ∧ n + rm.slots ≤ R.slots
set_option maxHeartbeats 4000000 in
theorem r_callV (K : Ok l R G cc nL Ts own D tys) {post : Int32 → T → Prop} {w' : T → va_W} {C : String} {F : u_T} {N ci b : Nat} {fs As rest : List Value} (hC : Ci l y wsy rm D tys (.ref b :: As) w post w') (j : Nat) (hG : GoodIn Ts (wsV own index C y wsy)) (hw : wsy = Cond.code y bytes maxL ret :: wsy') (hds : okDesc y C j) (hn : As.length = j) (hR : okRoom rm R maxL k n)
    (q0 : Nat) (he : w[q0]? = some (b, .inr (ci, fs))) (hc : vwCl[ci]? = some (C, F, N)) (hst : st = As.reverse ++ .ref b :: rest) (hcat : (rest.map fun v => v.category).sum ≤ 8) (hd : decode cc pc = .ok (.invokevirtual index, 3))
    (kk : ∀ r u, post r u → G (k + rm.cells) (n + rm.slots) (w' u) lv (pc + 3) (.int r :: rest)) : G k n w lv pc st := by
  obtain ⟨p, e, s, m, args, below, meth, c, Q, A, H0, rfl, hx, hb, hml, hown, hts, hK, hA⟩ := K
  intro H locs ls hP hD hS hl
  have hF := reach hD hS hA
  refine va_calli (va_runV (As := As) (rest := rest) ⟨hx, hb, hml, hown, hts⟩ (hC H.size) (cwV j hts hG hw rfl rfl hds hR.1) ⟨pre1_blind, va_recv hK hP hc he, fun U hU hW => ⟨rfl, by rw [hU], by rw [hU]; exact hP, va_K.moved hW.alike hK, hD.weaken (fun _ _ _ _ => trivial)⟩⟩ rfl hn hl.1 hst (lv_room hcat) hd hR.2) hS (fun q _ h => hF q h) hF (fun r u t H1 locs1 ht hvm hp hB hz1 hk1 hS1 => ?_)
  obtain ⟨hP1, hK1, hD1⟩ := hB
  rw [ht] at hP1
  exact kk r u hp H1 locs1 ls hP1 (hD1.weaken fun _ q _ h => hF q.1 h) hS1 hl
set_option maxHeartbeats 4000000 in
theorem r_callVv (K : Ok l R G cc nL Ts own D tys) {post : T → Prop} {w' : T → va_W} {C : String} {F : u_T} {N ci b : Nat} {fs As rest : List Value} (hC : Cv l y wsy rm D tys (.ref b :: As) w post w') (j : Nat) (hG : GoodIn Ts (wsV own index C y wsy)) (hw : wsy = Cond.code y bytes maxL ret :: wsy') (hds : okDesc y C j) (hn : As.length = j) (hR : okRoom rm R maxL k n)
    (q0 : Nat) (he : w[q0]? = some (b, .inr (ci, fs))) (hc : vwCl[ci]? = some (C, F, N)) (hst : st = As.reverse ++ .ref b :: rest) (hcat : (rest.map fun v => v.category).sum ≤ 8) (hd : decode cc pc = .ok (.invokevirtual index, 3))
    (kk : ∀ u, post u → G (k + rm.cells) (n + rm.slots) (w' u) lv (pc + 3) rest) : G k n w lv pc st := by
  obtain ⟨p, e, s, m, args, below, meth, c, Q, A, H0, rfl, hx, hb, hml, hown, hts, hK, hA⟩ := K
  intro H locs ls hP hD hS hl
  have hF := reach hD hS hA
  refine va_callv (va_runV (As := As) (rest := rest) ⟨hx, hb, hml, hown, hts⟩ (hC H.size) (cwV j hts hG hw rfl rfl hds hR.1) ⟨pre1_blind, va_recv hK hP hc he, fun U hU hW => ⟨rfl, by rw [hU], by rw [hU]; exact hP, va_K.moved hW.alike hK, hD.weaken (fun _ _ _ _ => trivial)⟩⟩ rfl hn hl.1 hst (lv_room hcat) hd hR.2) hS (fun q _ h => hF q h) hF (fun u t H1 locs1 ht hvm hp hB hz1 hk1 hS1 => ?_)
  obtain ⟨hP1, hK1, hD1⟩ := hB
  rw [ht] at hP1
  exact kk u hp H1 locs1 ls hP1 (hD1.weaken fun _ q _ h => hF q.1 h) hS1 hl
set_option maxHeartbeats 4000000 in
theorem r_callS (K : Ok l R G cc nL Ts own D tys) {post : Int32 → T → Prop} {w' : T → va_W} {As rest : List Value} (hC : Ci l y wsy rm D tys As w post w') (j : Nat) (hG : GoodIn Ts (va_wsS own index y wsy)) (hw : wsy = Cond.code y bytes maxL ret :: wsy') (hds : okDescS y j) (hn : As.length = j) (hR : okRoom rm R maxL k n)
    (hst : st = As.reverse ++ rest) (hcat : (rest.map fun v => v.category).sum ≤ 8) (hd : decode cc pc = .ok (.invokestatic index, 3))
    (kk : ∀ r u, post r u → G (k + rm.cells) (n + rm.slots) (w' u) lv (pc + 3) (.int r :: rest)) : G k n w lv pc st := by
  obtain ⟨p, e, s, m, args, below, meth, c, Q, A, H0, rfl, hx, hb, hml, hown, hts, hK, hA⟩ := K
  intro H locs ls hP hD hS hl
  have hF := reach hD hS hA
  refine va_calli (va_runS (As := As) (rest := rest) ⟨hx, hb, hml, hown, hts⟩ (hC H.size) (va_cwS j hts hG hw rfl rfl hds hR.1) ⟨pre1_blind, fun U hU hW => ⟨rfl, by rw [hU], by rw [hU]; exact hP, va_K.moved hW.alike hK, hD.weaken (fun _ _ _ _ => trivial)⟩⟩ rfl hn hl.1 hst (lv_room hcat) hd hR.2) hS (fun q _ h => hF q h) hF (fun r u t H1 locs1 ht hvm hp hB hz1 hk1 hS1 => ?_)
  obtain ⟨hP1, hK1, hD1⟩ := hB
  rw [ht] at hP1
  exact kk r u hp H1 locs1 ls hP1 (hD1.weaken fun _ q _ h => hF q.1 h) hS1 hl
end CALL
end MYC
end
section
/-! What the house computes: numbers alone. -/
section SPEC
def V (S : St) : Prop := (∀ f k, S f k < 1000000) ∧ S 2 0 ≤ 80 ∧ S 3 0 ≤ 12 ∧ S 4 0 ≤ 40 ∧ (∀ k, S 15 k < 16) ∧ (∀ d, S 19 d ≤ 10) ∧ (∀ d p, d < 12 → S (30 + d) p < 80) ∧ (∀ o, S 21 o < 80) ∧ (4 ≤ S 3 1 ∧ S 3 1 ≤ 10)
theorem V_b {S : St} (h : V S) (f k : Nat) : S f k < 1000000 := h.1 f k
theorem V_cards {S : St} (h : V S) : S 2 0 ≤ 80 := h.2.1
theorem V_decks {S : St} (h : V S) : S 3 0 ≤ 12 := h.2.2.1
theorem V_offers {S : St} (h : V S) : S 4 0 ≤ 40 := h.2.2.2.1
theorem V_kind {S : St} (h : V S) (k : Nat) : S 15 k < 16 := h.2.2.2.2.1 k
theorem V_size {S : St} (h : V S) (d : Nat) : S 19 d ≤ 10 := h.2.2.2.2.2.1 d
theorem V_card {S : St} (h : V S) (d p : Nat) (hd : d < 12) : S (30 + d) p < 80 := h.2.2.2.2.2.2.1 d p hd
theorem V_ocard {S : St} (h : V S) (o : Nat) : S 21 o < 80 := h.2.2.2.2.2.2.2.1 o
theorem V_fsize {S : St} (h : V S) : 4 ≤ S 3 1 ∧ S 3 1 ≤ 10 := h.2.2.2.2.2.2.2.2
def anyB (f : Nat → Bool) : Nat → Bool
  | 0 => false
  | n + 1 => anyB f n || f n
theorem anyB_of {f : Nat → Bool} {i : Nat} (hf : f i = true) : ∀ {n : Nat}, i < n → anyB f n = true
  | 0, h => absurd h (Nat.not_lt_zero i)
  | n + 1, h => by
    unfold anyB
    rcases Nat.lt_or_ge i n with q | q
    · rw [anyB_of hf q]; rfl
    · have e : i = n := by omega
      rw [← e, hf, Bool.or_true]
theorem anyB_s {f : Nat → Bool} {n : Nat} (h : anyB f n = false) (hf : f n = false) : anyB f (n + 1) = false := by
  unfold anyB
  rw [h, hf]; rfl
def allB (f : Nat → Bool) : Nat → Bool
  | 0 => true
  | n + 1 => allB f n && f n
theorem allB_no {f : Nat → Bool} {i : Nat} (hf : f i = false) : ∀ {n : Nat}, i < n → allB f n = false
  | 0, h => absurd h (Nat.not_lt_zero i)
  | n + 1, h => by
    unfold allB
    rcases Nat.lt_or_ge i n with q | q
    · rw [allB_no hf q]; rfl
    · have e : i = n := by omega
      rw [← e, hf, Bool.and_false]
theorem allB_s {f : Nat → Bool} {n : Nat} (h : allB f n = true) (hf : f n = true) : allB f (n + 1) = true := by
  unfold allB
  rw [h, hf]; rfl
def cnt (f : Nat → Bool) : Nat → Nat
  | 0 => 0
  | n + 1 => cnt f n + (f n).toNat
theorem cnt_le (f : Nat → Bool) : ∀ n, cnt f n ≤ n
  | 0 => Nat.le_refl _
  | n + 1 => by
    have h := cnt_le f n
    have h2 : (f n).toNat ≤ 1 := by cases f n <;> decide
    unfold cnt
    omega
theorem cnt_y {f : Nat → Bool} {n : Nat} (h : f n = true) : cnt f (n + 1) = cnt f n + 1 := by show cnt f n + (f n).toNat = _; rw [h]; rfl
theorem cnt_n {f : Nat → Bool} {n : Nat} (h : f n = false) : cnt f (n + 1) = cnt f n := by show cnt f n + (f n).toNat = _; rw [h]; rfl
/-- deck d holds the card x -/
def holdB (S : St) (d x : Nat) : Bool := anyB (fun p => decide (S (30 + d) p = x)) (S 19 d)
/-- the places of kind k in deck d, as bits -/
def isK (S : St) (d k : Nat) : Nat → Bool := fun p => decide (S 15 (S (30 + d) p) = k)
def bits (f : Nat → Bool) : Nat → Nat
  | 0 => 0
  | n + 1 => bits f n + (if f n then 2 ^ n else 0)
theorem bits_lt (f : Nat → Bool) : ∀ n, bits f n < 2 ^ n
  | 0 => Nat.one_pos
  | n + 1 => by
    have h := bits_lt f n
    have h2 : 2 ^ (n + 1) = 2 ^ n + 2 ^ n := by rw [Nat.pow_succ]; omega
    unfold bits
    by_cases e : f n = true
    · rw [if_pos e]; omega
    · rw [if_neg e]; omega
/-- how many cards of kind k deck d has -/
def mo (S : St) (d k : Nat) : Nat := cnt (isK S d k) (S 19 d)
def okAt (S : St) (d : Nat) : Nat → Bool := fun p => decide (S 17 (S (30 + d) p) = S 18 d) && decide (S 12 (S 15 (S (30 + d) p)) = 0) && decide (mo S d (S 15 (S (30 + d) p)) ≤ S 3 2)
def alw (S : St) (d : Nat) : Bool := decide (S 19 d = S 3 1) && allB (okAt S d) (S 19 d)
def nAlw (S : St) : Nat := cnt (alw S) (S 3 0)
def shl (S : St) (d g : Nat) : Nat → St
  | 0 => S
  | n + 1 => up (shl S d g n) (30 + d) (g + n) (shl S d g n (30 + d) (g + n + 1))
end SPEC
section MYB
variable {l : Launch} {R : Room} {G : Gt} {cc : ByteArray} {nL : Nat} {Ts : List Cond} {own : String} {D : va_G} {tys : List (ClassId × FieldType)} {k n : Nat} {ws ws' : va_W} {lv lv' : List (Nat × Value)} {pc : Nat} {st : List Value}
theorem r_if_eqB (K : Ok l R G cc nL Ts own D tys) {b : Bool} {off : Int} (tgt : Nat) (hd : decode cc pc = .ok (.ifCond .eq off, 3)) (ht : (pc : Int) + off = (tgt : Int)) (kt : b = false → G k n ws lv tgt st) (kf : b = true → G k n ws lv (pc + 3) st) : G k n ws lv pc (.int (nI b.toNat) :: st) := by
  refine r_if_eq K tgt hd ht (by cases b <;> decide) (fun q => kt ?_) (fun q => kf ?_)
  · cases b
    · rfl
    · exact absurd q (by decide)
  · cases b
    · exact absurd rfl q
    · rfl
theorem r_if_neB (K : Ok l R G cc nL Ts own D tys) {b : Bool} {off : Int} (tgt : Nat) (hd : decode cc pc = .ok (.ifCond .ne off, 3)) (ht : (pc : Int) + off = (tgt : Int)) (kt : b = true → G k n ws lv tgt st) (kf : b = false → G k n ws lv (pc + 3) st) : G k n ws lv pc (.int (nI b.toNat) :: st) := by
  refine r_if_ne K tgt hd ht (by cases b <;> decide) (fun q => kt ?_) (fun q => kf ?_)
  · cases b
    · exact absurd rfl q
    · rfl
  · cases b
    · rfl
    · exact absurd q (by decide)
/-- a contract with one answer and one world behind it -/
def Cs (l : Launch) (y : MethodName) (wsy : List Cond) (rm : Room) (D : va_G) (tys : List (ClassId × FieldType)) (av : List Value) (w : va_W) (v : Int32) (w1 : va_W) : Prop := Ci l y wsy rm D tys av w (fun r (_ : Unit) => r = v) (fun _ => w1)
def Csv (l : Launch) (y : MethodName) (wsy : List Cond) (rm : Room) (D : va_G) (tys : List (ClassId × FieldType)) (av : List Value) (w : va_W) (w1 : va_W) : Prop := Cv l y wsy rm D tys av w (fun (_ : Unit) => True) (fun _ => w1)
variable {y : MethodName} {wsy wsy' : List Cond} {rm : Room} {w w1 : va_W} {bytes : ByteArray} {maxL index : Nat} {ret : Option FieldType} {v : Int32}
theorem r_callVs (K : Ok l R G cc nL Ts own D tys) {C : String} {F : u_T} {N ci b : Nat} {fs As rest : List Value} (hC : Cs l y wsy rm D tys (.ref b :: As) w v w1) (j : Nat) (hG : GoodIn Ts (wsV own index C y wsy)) (hw : wsy = Cond.code y bytes maxL ret :: wsy') (hds : okDesc y C j) (hn : As.length = j) (hR : okRoom rm R maxL k n)
    (q0 : Nat) (he : w[q0]? = some (b, .inr (ci, fs))) (hc : vwCl[ci]? = some (C, F, N)) (hst : st = As.reverse ++ .ref b :: rest) (hcat : (rest.map fun v => v.category).sum ≤ 8) (hd : decode cc pc = .ok (.invokevirtual index, 3)) (h0 : rm.cells = 0) (h1 : rm.slots = 0)
    (kk : G k n w1 lv (pc + 3) (.int v :: rest)) : G k n w lv pc st :=
  r_callV K hC j hG hw hds hn hR q0 he hc hst hcat hd (fun r u hr => by rw [h0, h1, hr]; exact kk)
theorem r_callVsv (K : Ok l R G cc nL Ts own D tys) {C : String} {F : u_T} {N ci b : Nat} {fs As rest : List Value} (hC : Csv l y wsy rm D tys (.ref b :: As) w w1) (j : Nat) (hG : GoodIn Ts (wsV own index C y wsy)) (hw : wsy = Cond.code y bytes maxL ret :: wsy') (hds : okDesc y C j) (hn : As.length = j) (hR : okRoom rm R maxL k n)
    (q0 : Nat) (he : w[q0]? = some (b, .inr (ci, fs))) (hc : vwCl[ci]? = some (C, F, N)) (hst : st = As.reverse ++ .ref b :: rest) (hcat : (rest.map fun v => v.category).sum ≤ 8) (hd : decode cc pc = .ok (.invokevirtual index, 3)) (h0 : rm.cells = 0) (h1 : rm.slots = 0)
    (kk : G k n w1 lv (pc + 3) rest) : G k n w lv pc st :=
  r_callVv K hC j hG hw hds hn hR q0 he hc hst hcat hd (fun u hr => by rw [h0, h1]; exact kk)
theorem r_callSs (K : Ok l R G cc nL Ts own D tys) {As rest : List Value} (hC : Cs l y wsy rm D tys As w v w1) (j : Nat) (hG : GoodIn Ts (va_wsS own index y wsy)) (hw : wsy = Cond.code y bytes maxL ret :: wsy') (hds : okDescS y j) (hn : As.length = j) (hR : okRoom rm R maxL k n)
    (hst : st = As.reverse ++ rest) (hcat : (rest.map fun v => v.category).sum ≤ 8) (hd : decode cc pc = .ok (.invokestatic index, 3)) (h0 : rm.cells = 0) (h1 : rm.slots = 0)
    (kk : G k n w1 lv (pc + 3) (.int v :: rest)) : G k n w lv pc st :=
  r_callS K hC j hG hw hds hn hR hst hcat hd (fun r u hr => by rw [h0, h1, hr]; exact kk)
end MYB
end
section
section SPEC2
theorem fa_or (a b : Nat) : nI a ||| nI b = nI (a ||| b) := by
  apply Int32.toBitVec_inj.1
  show BitVec.ofNat 32 a ||| BitVec.ofNat 32 b = BitVec.ofNat 32 (a ||| b)
  apply BitVec.eq_of_getLsbD_eq
  intro i hi
  simp [hi]
theorem fa_and (a b : Nat) : nI a &&& nI b = nI (a &&& b) := by
  apply Int32.toBitVec_inj.1
  show BitVec.ofNat 32 a &&& BitVec.ofNat 32 b = BitVec.ofNat 32 (a &&& b)
  apply BitVec.eq_of_getLsbD_eq
  intro i hi
  simp [hi]
theorem shl_bit : ∀ i, i < 12 → nI 1 <<< (nI i &&& 31) = nI (2 ^ i) := by decide +kernel
theorem or_bit {x i : Nat} (hi : i < 12) (h : x < 2 ^ i) : nI x ||| (nI 1 <<< (nI i &&& 31)) = nI (x + 2 ^ i) := by
  rw [shl_bit i hi, fa_or]
  congr 1
  have h2 := Nat.two_pow_add_eq_or_of_lt h 1
  rw [Nat.mul_one] at h2
  rw [Nat.or_comm, ← h2, Nat.add_comm]
theorem bits_y {f : Nat → Bool} {n : Nat} (h : f n = true) : bits f (n + 1) = bits f n + 2 ^ n := by show bits f n + _ = _; rw [if_pos h]
theorem bits_n {f : Nat → Bool} {n : Nat} (h : f n = false) : bits f (n + 1) = bits f n := by show bits f n + _ = _; rw [if_neg (by rw [h]; decide)]; rfl
/-- the ones of a row of ten bits -/
def popc (b : Nat) : Nat := cnt (fun i => b.testBit i) 10
theorem cnt_cong {f g : Nat → Bool} : ∀ {n : Nat}, (∀ j, j < n → f j = g j) → cnt f n = cnt g n
  | 0, _ => rfl
  | n + 1, h => by
    unfold cnt
    rw [cnt_cong (fun j hj => h j (by omega)), h n (by omega)]
theorem cnt_stop {f : Nat → Bool} {m : Nat} (h : ∀ j, m ≤ j → f j = false) : ∀ k, cnt f (m + k) = cnt f m
  | 0 => rfl
  | k + 1 => by
    show cnt f (m + k) + (f (m + k)).toNat = _
    rw [cnt_stop h k, h (m + k) (by omega)]; rfl
theorem bits_test (f : Nat → Bool) : ∀ n i, (bits f n).testBit i = (decide (i < n) && f i)
  | 0, i => by simp [bits]
  | n + 1, i => by
    have ih := bits_test f n
    have hlt := bits_lt f n
    by_cases e : f n = true
    · rw [bits_y e]
      rcases Nat.lt_trichotomy i n with q | q | q
      · rw [Nat.add_comm, Nat.testBit_two_pow_add_gt q, ih i]
        simp [q, Nat.lt_succ_of_lt q]
      · subst q
        rw [Nat.add_comm, Nat.testBit_two_pow_add_eq, ih i]
        simp [e]
      · rw [Nat.testBit_lt_two_pow (Nat.lt_of_lt_of_le (show bits f n + 2 ^ n < 2 ^ (n + 1) by rw [Nat.pow_succ]; omega) (Nat.pow_le_pow_right (by decide) q))]
        simp [show ¬ i < n + 1 by omega]
    · have e' : f n = false := by cases h : f n <;> simp_all
      rw [bits_n e', ih i]
      rcases Nat.lt_trichotomy i n with q | q | q
      · simp [q, Nat.lt_succ_of_lt q]
      · subst q; simp [e']
      · simp [show ¬ i < n by omega, show ¬ i < n + 1 by omega]
theorem popc_bits (f : Nat → Bool) {n : Nat} (hn : n ≤ 10) : popc (bits f n) = cnt f n := by
  unfold popc
  have h1 : cnt (fun i => (bits f n).testBit i) (n + (10 - n)) = cnt (fun i => (bits f n).testBit i) n := cnt_stop (fun j hj => by rw [bits_test]; simp [Nat.not_lt.mpr hj]) _
  rw [show n + (10 - n) = 10 by omega] at h1
  rw [h1]
  exact cnt_cong fun j hj => by rw [bits_test]; simp [hj]
def bc1 (x : Int32) : Int32 := x - ((x.toUInt32 >>> ((nI 1).toUInt32 &&& Int32.toUInt32 31)).toInt32 &&& 1431655765)
def bc2 (x : Int32) : Int32 := (x &&& 858993459) + ((x.toUInt32 >>> ((nI 2).toUInt32 &&& Int32.toUInt32 31)).toInt32 &&& 858993459)
def bc3 (x : Int32) : Int32 := (x + (x.toUInt32 >>> ((nI 4).toUInt32 &&& Int32.toUInt32 31)).toInt32) &&& 252645135
def bc4 (x : Int32) : Int32 := x + (x.toUInt32 >>> ((nI 8).toUInt32 &&& Int32.toUInt32 31)).toInt32
def bc5 (x : Int32) : Int32 := x + (x.toUInt32 >>> ((nI 16).toUInt32 &&& Int32.toUInt32 31)).toInt32
theorem bc_all : ∀ b, b < 1024 → bc5 (bc4 (bc3 (bc2 (bc1 (nI b))))) &&& nI 63 = nI (popc b) := by decide +kernel
theorem okAt_1 {S : St} {d p : Nat} (h : S 17 (S (30 + d) p) ≠ S 18 d) : okAt S d p = false := by unfold okAt; rw [decide_eq_false h]; rfl
theorem okAt_2 {S : St} {d p : Nat} (h : S 12 (S 15 (S (30 + d) p)) ≠ 0) : okAt S d p = false := by unfold okAt; rw [decide_eq_false h, Bool.and_false]; rfl
theorem okAt_3 {S : St} {d p : Nat} (h : S 3 2 < mo S d (S 15 (S (30 + d) p))) : okAt S d p = false := by unfold okAt; rw [decide_eq_false (Nat.not_le.mpr h), Bool.and_false]
theorem okAt_y {S : St} {d p : Nat} (h1 : S 17 (S (30 + d) p) = S 18 d) (h2 : S 12 (S 15 (S (30 + d) p)) = 0) (h3 : mo S d (S 15 (S (30 + d) p)) ≤ S 3 2) : okAt S d p = true := by unfold okAt; rw [decide_eq_true h1, decide_eq_true h2, decide_eq_true h3]; rfl
theorem alw_0 {S : St} {d : Nat} (h : S 19 d ≠ S 3 1) : alw S d = false := by unfold alw; rw [decide_eq_false h]; rfl
theorem alw_no {S : St} {d p : Nat} (h : okAt S d p = false) (hp : p < S 19 d) : alw S d = false := by unfold alw; rw [allB_no h hp, Bool.and_false]
theorem alw_y {S : St} {d p : Nat} (h : S 19 d = S 3 1) (h2 : allB (okAt S d) p = true) (hp : p = S 19 d) : alw S d = true := by unfold alw; rw [decide_eq_true h, ← hp, h2]; rfl
theorem shl_ne {S : St} {d g f : Nat} (h : f ≠ 30 + d) : ∀ n, shl S d g n f = S f
  | 0 => rfl
  | n + 1 => by
    show up _ _ _ _ f = _
    rw [up_ne h, shl_ne h n]
theorem toNat_lt2 (b : Bool) : b.toNat < 2 := by cases b <;> decide
theorem mo_le {S : St} (hV : V S) (d k : Nat) : mo S d k ≤ 10 := Nat.le_trans (cnt_le _ _) (V_size hV d)
end SPEC2
end
section
/-! Methods that may throw: what they ask of the start, how they are opened, called, left by an exception. -/
section MYX
def hStrs : List (Nat × String) := [(92, "all cards were printed"), (105, "all decks were made"), (124, "the owner does not have the card"), (131, "the card is in the deck"), (136, "the deck is full"), (152, "both decks have the same owner"), (173, "the card is of the kind that is wanted"), (179, "an open offer has the card"), (182, "all offers were made"), (193, "the offer is not open"), (227, "too many orders to go through"), (238, "no such place"), (241, "no such kind"), (243, "no such collector"), (245, "no such card"), (247, "no such deck"), (249, "the deck has not so many cards"), (251, "no such offer"), (253, "out of range"), (255, "the seed is out of range"), (257, "the deck is not allowed")]
abbrev nmRE : List String := ["java/lang/RuntimeException", "java/lang/Exception"]
abbrev eIOB : String := "java/lang/IndexOutOfBoundsException"
abbrev eIAE : String := "java/lang/IllegalArgumentException"
abbrev eISE : String := "java/lang/IllegalStateException"
def isNg : Cond → Bool
  | .superclass .. => true
  | .declares .. => true
  | .castable .. => true
  | _ => false
def hNg : List Cond := ((vx_atS RX6 240 eIOB nmRE ++ vx_atS RX6 126 eIAE nmRE ++ vx_atS RX6 94 eISE nmRE).filter (fun w => !goodWord w))
theorem hNg_ng : ∀ w ∈ hNg, isNg w = true := by decide +kernel
theorem superclass_alike {a b : String} {s U : State} (hv : s.vm.Alike U.vm) (h : va_Nw (.superclass a b) s) : va_Nw (.superclass a b) U := by
  unfold va_Nw at h ⊢
  have h0 : (Cond.superclass a b).holds #[] s none s [] = true := h
  cases hc : s.vm.findClass a with
  | none => simp [Cond.holds, Cond.value, hc] at h0
  | some c =>
    obtain ⟨p, k, kp, hp, hk, hkp, h1, h2, h3, h4⟩ := Cond.superclass_spec hc h0
    obtain ⟨k', hk', ek⟩ := hv.2.2 _ _ hk
    obtain ⟨kp', hkp', ekp⟩ := hv.2.2 _ _ hkp
    have f1 : U.vm.findClass a = some c := by rw [hv.findClass]; exact hc
    have f2 : U.vm.findClass b = some p := by rw [hv.findClass]; exact hp
    have g1 : k'.super = some p := by rw [ek]; exact h1
    have g2 : k'.kind = .ordinary := by rw [ek]; exact h2
    have g3 : kp'.kind = .ordinary := by rw [ekp]; exact h3
    have g4 : k'.isInterface = false := by rw [ek]; exact h4
    show (Cond.superclass a b).holds #[] U none U [] = true
    simp [Cond.holds, Cond.value, f1, f2, hk', hkp', g1, g2, g3, g4]
theorem ng_warm {w : Cond} (hw : isNg w = true) {s U : State} (hW : s.WarmedH U.vm) (h : va_Nw w s) : va_Nw w U := by
  cases w <;> first | exact va_Nw.warmD hW h | exact va_Nw.warmC hW h | exact superclass_alike hW.alike h | exact absurd hw (by decide) | (simp [isNg] at hw)
theorem ng_tabs {w : Cond} (hw : isNg w = true) : w.onTables = true := by
  cases w <;> first | rfl | (simp [isNg] at hw)
/-- what a throw needs: the texts, the two statics of Throwable, words of the tables -/
def SE (A : Nat → Prop) (U : State) : Prop := (∀ q ∈ hStrs, ∃ sa, vk_R RX6 q.1 q.2 sa U) ∧ vx_Zq Bundle.tN "UNASSIGNED_STACK" Bundle.steD A U U.heap ∧ vx_Zq Bundle.tN "SUPPRESSED_SENTINEL" Bundle.listD A U U.heap ∧ ∀ w ∈ hNg, va_Nw w U
theorem SE.move {A A1 : Nat → Prop} {s U : State} {H : Heap} {locs : List Loc} (h : SE A s) (hW : s.WarmedH U.vm) (hU : U.heap = H) (hS : va_S A s.heap H locs) (hA : ∀ q, A1 q → A q) : SE A1 U := by
  obtain ⟨h1, h2, h3, h4⟩ := h
  have hk : ∀ a : Nat, a < s.heap.size → ¬ A a → U.heap[a]? = s.heap[a]? := fun a ha hn => by rw [hU]; exact hS.2.1 a ha hn
  refine ⟨fun q hq => ?_, ?_, ?_, fun w hw => ng_warm (hNg_ng w hw) hW (h4 w hw)⟩
  · obtain ⟨sa, hs⟩ := h1 q hq
    exact ⟨sa, hs.warm hW⟩
  · exact ((h2.moved hW.alike).kept hk).narrow hA
  · exact ((h3.moved hW.alike).kept hk).narrow hA
theorem SE.blind {A : Nat → Prop} {u U : State} (h : SE A u) (hv : u.vm = U.vm) (hh : U.heap = u.heap) : SE A U := by
  obtain ⟨h1, h2, h3, h4⟩ := h
  have hal : u.vm.Alike U.vm := by rw [← hv]; exact Vm.Alike.refl _
  refine ⟨fun q hq => ?_, ?_, ?_, fun w hw => va_Nw.same (ng_tabs (hNg_ng w hw)) hv (h4 w hw)⟩
  · obtain ⟨sa, hs⟩ := h1 q hq
    exact ⟨sa, hs.same hv.symm⟩
  · rw [hh]; exact h2.moved hal
  · rw [hh]; exact h3.moved hal
def PreX (D : va_G) (tys : List (ClassId × FieldType)) (w : va_W) (av : List Value) (sz : Nat) : Array Value → State → Prop := va_Pc av (fun U => (U.heap.size = sz ∧ At1 D tys (fun _ => True) w U) ∧ SE (va_A w sz) U)
theorem prex_blind {D : va_G} {tys : List (ClassId × FieldType)} {w : va_W} {av : List Value} {sz : Nat} : FrameBlind (PreX D tys w av sz) := fun a U g mk q => by
  obtain ⟨q0, ⟨q1, qP, qK, qD⟩, qS⟩ := q
  exact ⟨q0, ⟨q1, qP, va_K.moved (u := U) (U := U.calling g mk a) (Vm.Alike.refl U.vm) qK, qD⟩, qS.blind rfl rfl⟩
/-- the world that an exception leaves: the one at the start -/
abbrev xEnd (D : va_G) (tys : List (ClassId × FieldType)) (A : Nat → Prop) (w0 : va_W) (px : String → Prop) : String → State → State → Prop := vx_X (fun _ : Unit => True) (fun E _ t => px E ∧ At1 D tys A w0 t) A
def Xi (l : Launch) (y : MethodName) (wsy : List Cond) (rm : Room) (D : va_G) (tys : List (ClassId × FieldType)) (av : List Value) (w : va_W) (px : String → Prop) {T : Type} (post : Int32 → T → Prop) (w' : T → va_W) : Prop :=
  ∀ sz, vx_Met l y wsy rm (PreX D tys w av sz) (va_Qi post (fun u t => At1 D tys (va_A w sz) (w' u) t) (va_A w sz)) (xEnd D tys (va_A w sz) w px) rm.cells rm.slots (va_A w sz)
def Xv (l : Launch) (y : MethodName) (wsy : List Cond) (rm : Room) (D : va_G) (tys : List (ClassId × FieldType)) (av : List Value) (w : va_W) (px : String → Prop) {T : Type} (post : T → Prop) (w' : T → va_W) : Prop :=
  ∀ sz, vx_Met l y wsy rm (PreX D tys w av sz) (va_Qv post (fun u t => At1 D tys (va_A w sz) (w' u) t) (va_A w sz)) (xEnd D tys (va_A w sz) w px) rm.cells rm.slots (va_A w sz)
def OkX (l : Launch) (R : Room) (G : Gt) (cc : ByteArray) (nL : Nat) (Ts : List Cond) (own : String) (D : va_G) (tys : List (ClassId × FieldType)) (w0 : va_W) (px : String → Prop) (mc ms : Nat) : Prop :=
  ∃ (p : Program) (e : Env) (s : State) (m : MethodId) (args : Array Value) (below : List Frame) (meth : Method) (c : Code) (Qc : Array Value → State → Outcome → State → Prop) (A : Nat → Prop),
    Fx p l e R s m args below meth c (vx_MQ below Qc (xEnd D tys A w0 px) args s mc ms A) A s.heap G cc nL Ts own D tys ∧ l.stackTraces = false ∧ meth.locks = false ∧ (∀ x ∈ c.exceptionTable.toList, False) ∧ SE A s
theorem OkX.ok {l : Launch} {R : Room} {G : Gt} {cc : ByteArray} {nL : Nat} {Ts : List Cond} {own : String} {D : va_G} {tys : List (ClassId × FieldType)} {w0 : va_W} {px : String → Prop} {mc ms : Nat} (K : OkX l R G cc nL Ts own D tys w0 px mc ms) : Ok l R G cc nL Ts own D tys := by
  obtain ⟨p, e, s, m, args, below, meth, c, Qc, A, hF, -, -, -, -⟩ := K
  exact ⟨p, e, s, m, args, below, meth, c, _, A, s.heap, hF⟩
section OPENX
variable {l : Launch} {y : MethodName} {wsy wsy' : List Cond} {rm : Room} {D : va_G} {tys : List (ClassId × FieldType)} {av : List Value} {w : va_W} {T : Type} {cc : ByteArray} {maxL : Nat} {px : String → Prop}
set_option maxHeartbeats 4000000 in
theorem Xi.of {post : Int32 → T → Prop} {w' : T → va_W} (hl0 : l.stackTraces = false) (hy : plainName y.cls = true) (hw : wsy = Cond.code y cc maxL (some .int) :: wsy') (hlen : (lg_sl av).length ≤ maxL) {lv0 : List (Nat × Value)} (hlv : lv_args 0 av = lv0)
    (body : ∀ G : Gt, OkX l rm G cc maxL wsy y.cls D tys w px rm.cells rm.slots → (∀ k n ws lv pc v u, decode cc pc = .ok (.ireturn, 1) → post v u → ws = w' u → k ≤ rm.cells → n ≤ rm.slots → G k n ws lv pc [.int v]) → G 0 0 w lv0 0 []) : Xi l y wsy rm D tys av w px post w' := by
  intro sz
  refine vx_ofW (cc := cc) (maxL := maxL) (ret := (some .int)) hy hw ?_
  intro p e s m args below meth c s₁ B hml hnt hv
  obtain ⟨rfl, ⟨hsz, hP, hK, hD0⟩, hSE⟩ := hv
  have hx := B.exec
  have hb := B.bytes
  have hr := B.returns
  have hts := atoms_spec (ws := wsy) B.pre
  have hown : s.vm.findClass y.cls = some m.cls := findClass_of_methodNamed B.named
  have hlocks := B.notSynchronized
  subst hsz
  have hD := hD0.self (sz := s.heap.size)
  have hA : ∀ q : Nat, s.heap.size ≤ q → va_A w s.heap.size q := fun q h => Or.inr h
  rw [lg_entry_eq]
  refine body _ ⟨p, e, s, m, av.toArray, below, meth, c, _, va_A w s.heap.size, ⟨rfl, hx, hb, hml, hown, hts, hK, hA⟩, hl0, hlocks, hnt, hSE⟩ ?_ s.heap [] _ hP hD va_S.rf (entry_has hlen hlv)
  intro k n ws lv pc v u hd hp hwu hk hn H locs ls hP hD hS hl
  refine W.widen hk hn (vx_ret ?_)
  rw [hwu] at hP hD
  exact W.iret (v := v) hx hb hr (fun t ht hW => ⟨⟨v, u, rfl, hp, by rw [ht]; exact hP, va_K.moved hW.alike hK, hD⟩, hS.F ht⟩) hS.2.2 hd
set_option maxHeartbeats 4000000 in
theorem Xi.ofZ {post : Int32 → T → Prop} {w' : T → va_W} (hl0 : l.stackTraces = false) (hy : plainName y.cls = true) (hw : wsy = Cond.code y cc maxL (some .boolean) :: wsy') (hlen : (lg_sl av).length ≤ maxL) {lv0 : List (Nat × Value)} (hlv : lv_args 0 av = lv0)
    (body : ∀ G : Gt, OkX l rm G cc maxL wsy y.cls D tys w px rm.cells rm.slots → (∀ k n ws lv pc (b : Nat) u, decode cc pc = .ok (.ireturn, 1) → b < 2 → post (nI b) u → ws = w' u → k ≤ rm.cells → n ≤ rm.slots → G k n ws lv pc [.int (nI b)]) → G 0 0 w lv0 0 []) : Xi l y wsy rm D tys av w px post w' := by
  intro sz
  refine vx_ofW (cc := cc) (maxL := maxL) (ret := (some .boolean)) hy hw ?_
  intro p e s m args below meth c s₁ B hml hnt hv
  obtain ⟨rfl, ⟨hsz, hP, hK, hD0⟩, hSE⟩ := hv
  have hx := B.exec
  have hb := B.bytes
  have hr := B.returns
  have hts := atoms_spec (ws := wsy) B.pre
  have hown : s.vm.findClass y.cls = some m.cls := findClass_of_methodNamed B.named
  have hlocks := B.notSynchronized
  subst hsz
  have hD := hD0.self (sz := s.heap.size)
  have hA : ∀ q : Nat, s.heap.size ≤ q → va_A w s.heap.size q := fun q h => Or.inr h
  rw [lg_entry_eq]
  refine body _ ⟨p, e, s, m, av.toArray, below, meth, c, _, va_A w s.heap.size, ⟨rfl, hx, hb, hml, hown, hts, hK, hA⟩, hl0, hlocks, hnt, hSE⟩ ?_ s.heap [] _ hP hD va_S.rf (entry_has hlen hlv)
  intro k n ws lv pc b u hd hb2 hp hwu hk hn H locs ls hP hD hS hl
  refine W.widen hk hn (vx_ret ?_)
  rw [hwu] at hP hD
  have hnar : narrow .boolean (.int (nI b)) = .int (nI b) := by
    rcases (show b = 0 ∨ b = 1 by omega) with rfl | rfl <;> rfl
  exact W.zret (v := nI b) hx hb hr hnar (fun t ht hW => ⟨⟨nI b, u, rfl, hp, by rw [ht]; exact hP, va_K.moved hW.alike hK, hD⟩, hS.F ht⟩) hS.2.2 hd
set_option maxHeartbeats 4000000 in
theorem Xv.of {post : T → Prop} {w' : T → va_W} (hl0 : l.stackTraces = false) (hy : plainName y.cls = true) (hw : wsy = Cond.code y cc maxL none :: wsy') (hlen : (lg_sl av).length ≤ maxL) {lv0 : List (Nat × Value)} (hlv : lv_args 0 av = lv0)
    (body : ∀ G : Gt, OkX l rm G cc maxL wsy y.cls D tys w px rm.cells rm.slots → (∀ k n ws lv pc u, decode cc pc = .ok (.return_, 1) → post u → ws = w' u → k ≤ rm.cells → n ≤ rm.slots → G k n ws lv pc []) → G 0 0 w lv0 0 []) : Xv l y wsy rm D tys av w px post w' := by
  intro sz
  refine vx_ofW (cc := cc) (maxL := maxL) (ret := none) hy hw ?_
  intro p e s m args below meth c s₁ B hml hnt hv
  obtain ⟨rfl, ⟨hsz, hP, hK, hD0⟩, hSE⟩ := hv
  have hx := B.exec
  have hb := B.bytes
  have hr := B.returns
  have hts := atoms_spec (ws := wsy) B.pre
  have hown : s.vm.findClass y.cls = some m.cls := findClass_of_methodNamed B.named
  have hlocks := B.notSynchronized
  subst hsz
  have hD := hD0.self (sz := s.heap.size)
  have hA : ∀ q : Nat, s.heap.size ≤ q → va_A w s.heap.size q := fun q h => Or.inr h
  rw [lg_entry_eq]
  refine body _ ⟨p, e, s, m, av.toArray, below, meth, c, _, va_A w s.heap.size, ⟨rfl, hx, hb, hml, hown, hts, hK, hA⟩, hl0, hlocks, hnt, hSE⟩ ?_ s.heap [] _ hP hD va_S.rf (entry_has hlen hlv)
  intro k n ws lv pc u hd hp hwu hk hn H locs ls hP hD hS hl
  refine W.widen hk hn (vx_ret ?_)
  rw [hwu] at hP hD
  exact W.vret hx hb hr (fun t ht hW => ⟨⟨u, rfl, hp, by rw [ht]; exact hP, va_K.moved hW.alike hK, hD⟩, hS.F ht⟩) hS.2.2 hd
end OPENX
section RX
variable {l : Launch} {R : Room} {G : Gt} {cc : ByteArray} {nL : Nat} {Ts : List Cond} {own : String} {D : va_G} {tys : List (ClassId × FieldType)} {k n : Nat} {lv : List (Nat × Value)} {pc : Nat} {st : List Value} {w0 : va_W} {px : String → Prop} {mc ms : Nat}
set_option maxHeartbeats 4000000 in
theorem r_throw (K : OkX l R G cc nL Ts RX6 D tys w0 px mc ms) {cls text : String} {ik is ic : Nat} (hcls : Bundle.fit cls = true) (hk : Cond.classLink RX6 ik cls ∈ Ts) (hini : Cond.initialized cls ∈ Ts) (hstr : (is, text) ∈ hStrs)
    (hat : ∀ w ∈ (vx_atS RX6 ic cls nmRE).filter goodWord, w ∈ Ts) (hng : ∀ w ∈ (vx_atS RX6 ic cls nmRE).filter (fun w => !goodWord w), w ∈ hNg) (hgood : ∀ w ∈ Cond.classLink RX6 ik cls :: Cond.initialized cls :: vx_atS RX6 ic cls nmRE, vx_ot w = true)
    (d0 : decode cc pc = .ok (.new ik, 3)) (d3 : decode cc (pc + 3) = .ok (.dup, 1)) (d4 : decode cc (pc + 4) = .ok (.ldc is, 2)) (d6 : decode cc (pc + 6) = .ok (.invokespecial ic, 3)) (d9 : decode cc (pc + 9) = .ok (.athrow, 1))
    (hR : 5 < R.frames ∧ 82 ≤ R.locals ∧ k + 1 ≤ R.cells ∧ n + 6 ≤ R.slots ∧ k + 1 ≤ mc ∧ n + 6 ≤ ms) (hp : px cls) : G k n w0 lv pc [] := by
  obtain ⟨p, e, s, m, args, below, meth, c, Qc, A, ⟨rfl, hx, hb, hml, hown, hts, hK, hA⟩, hl0, hlocks, hnt, hSE⟩ := K
  obtain ⟨s1, s2, s3, s4⟩ := hSE
  obtain ⟨sa, hsa⟩ := s1 _ hstr
  intro H locs ls hP hD hS hl
  have hnames : ∀ n ∈ nmRE, Bundle.fit n = true := by decide +kernel
  refine vx_throwS (A := A) hx hb hl0 hown hcls hnames (hts _ hk) (hts _ hini) hsa (vx_hat (B := hNg) (fun w hw => hts w (hat w hw)) hng (fun w hw => va_Nw.use (ng_tabs (hNg_ng w hw)) (s4 w hw))) hgood s2 s3 hS (hl.1.trans hml.symm) d0 d3 d4 d6 d9 (fun x hx9 => (hnt x hx9).elim) (by show 2 + 3 < R.frames; omega) (by show (([] : List Value).map fun v => v.category).sum + (13 * (2 + 1) + 43) ≤ R.locals; simp; omega) hR.2.2.1 hR.2.2.2.1 hlocks ?_ hS.2.2 hR.2.2.2.2.1 hR.2.2.2.2.2
  intro t hal hsz hk9
  refine ⟨(), trivial, ⟨hp, hP.kept (fun j q hq => hk9 q.1 (hP j q hq).lt), va_K.moved hal hK, hD⟩, Nat.le_trans hS.1 hsz, fun q hq hnA => (hk9 q (Nat.lt_of_lt_of_le hq hS.1)).trans (hS.2.1 q hq hnA)⟩
variable {y : MethodName} {wsy wsy' : List Cond} {rm : Room} {T : Type} {bytes : ByteArray} {maxL index : Nat} {ret : Option FieldType} {px1 : String → Prop}
set_option maxHeartbeats 4000000 in
theorem x_left (K : OkX l R G cc nL Ts own D tys w0 px mc ms) : True := trivial
set_option maxHeartbeats 4000000 in
theorem r_xcallVv (K : OkX l R G cc nL Ts own D tys w0 px mc ms) {post : T → Prop} {w' : T → va_W} {C : String} {F : u_T} {N ci b : Nat} {fs As rest : List Value} (hC : Xv l y wsy rm D tys (.ref b :: As) w0 px1 post w') (hpx : ∀ E, px1 E → px E) (j : Nat) (hG : GoodIn Ts (wsV own index C y wsy)) (hw : wsy = Cond.code y bytes maxL ret :: wsy') (hds : okDesc y C j) (hn : As.length = j) (hR : okRoom rm R maxL k n) (hM : k + rm.cells ≤ mc ∧ n + rm.slots ≤ ms)
    (q0 : Nat) (he : w0[q0]? = some (b, .inr (ci, fs))) (hc : vwCl[ci]? = some (C, F, N)) (hst : st = As.reverse ++ .ref b :: rest) (hcat : (rest.map fun v => v.category).sum ≤ 8) (hd : decode cc pc = .ok (.invokevirtual index, 3))
    (kk : ∀ u, post u → G (k + rm.cells) (n + rm.slots) (w' u) lv (pc + 3) rest) : G k n w0 lv pc st := by
  obtain ⟨p, e, s, m, args, below, meth, c, Qc, A, ⟨rfl, hx, hb, hml, hown, hts, hK, hA⟩, hl0, hlocks, hnt, hSE⟩ := K
  intro H locs ls hP hD hS hl
  have hF := reach hD hS hA
  refine vx_callv (vx_runV (As := As) (rest := rest) ⟨hx, hb, hml, hown, hts⟩ (hC H.size) (cwV j hts hG hw rfl rfl hds hR.1) ⟨prex_blind, va_recv hK hP hc he, fun U hU hW => ⟨rfl, ⟨by rw [hU], by rw [hU]; exact hP, va_K.moved hW.alike hK, hD.weaken (fun _ _ _ _ => trivial)⟩, hSE.move hW hU hS hF⟩⟩ rfl hn hl.1 hst (lv_room hcat) hd hR.2) hS (fun q _ h => hF q h) hF (fun q _ h => hF q h) (fun E ce q9 u t H1 locs1 ht hvm _ hB hz1 hk1 hS1 hce hcv hcl => ?_) (fun u t H1 locs1 ht hvm hp hB hz1 hk1 hS1 => ?_)
  · obtain ⟨hE, hP1, hK1, hD1⟩ := hB
    rw [ht] at hP1
    exact vx_out (fun x hx9 => (hnt x hx9).elim) hlocks hce hcv hcl (fun t2 ht2 hal => ⟨(), trivial, ⟨hpx E hE, by rw [ht2]; exact hP1, va_K.moved hal hK, hD1.weaken fun _ q _ h => hF q.1 h⟩, hS1.F ht2⟩) hS1.2.2 hM.1 hM.2
  · obtain ⟨hP1, hK1, hD1⟩ := hB
    rw [ht] at hP1
    exact kk u hp H1 locs1 ls hP1 (hD1.weaken fun _ q _ h => hF q.1 h) hS1 hl
set_option maxHeartbeats 4000000 in
theorem r_xcallSv (K : OkX l R G cc nL Ts own D tys w0 px mc ms) {post : T → Prop} {w' : T → va_W} {As rest : List Value} (hC : Xv l y wsy rm D tys As w0 px1 post w') (hpx : ∀ E, px1 E → px E) (j : Nat) (hG : GoodIn Ts (va_wsS own index y wsy)) (hw : wsy = Cond.code y bytes maxL ret :: wsy') (hds : okDescS y j) (hn : As.length = j) (hR : okRoom rm R maxL k n) (hM : k + rm.cells ≤ mc ∧ n + rm.slots ≤ ms)
    (hst : st = As.reverse ++ rest) (hcat : (rest.map fun v => v.category).sum ≤ 8) (hd : decode cc pc = .ok (.invokestatic index, 3))
    (kk : ∀ u, post u → G (k + rm.cells) (n + rm.slots) (w' u) lv (pc + 3) rest) : G k n w0 lv pc st := by
  obtain ⟨p, e, s, m, args, below, meth, c, Qc, A, ⟨rfl, hx, hb, hml, hown, hts, hK, hA⟩, hl0, hlocks, hnt, hSE⟩ := K
  intro H locs ls hP hD hS hl
  have hF := reach hD hS hA
  refine vx_callv (vx_runS (As := As) (rest := rest) ⟨hx, hb, hml, hown, hts⟩ (hC H.size) (va_cwS j hts hG hw rfl rfl hds hR.1) ⟨prex_blind, fun U hU hW => ⟨rfl, ⟨by rw [hU], by rw [hU]; exact hP, va_K.moved hW.alike hK, hD.weaken (fun _ _ _ _ => trivial)⟩, hSE.move hW hU hS hF⟩⟩ rfl hn hl.1 hst (lv_room hcat) hd hR.2) hS (fun q _ h => hF q h) hF (fun q _ h => hF q h) (fun E ce q9 u t H1 locs1 ht hvm _ hB hz1 hk1 hS1 hce hcv hcl => ?_) (fun u t H1 locs1 ht hvm hp hB hz1 hk1 hS1 => ?_)
  · obtain ⟨hE, hP1, hK1, hD1⟩ := hB
    rw [ht] at hP1
    exact vx_out (fun x hx9 => (hnt x hx9).elim) hlocks hce hcv hcl (fun t2 ht2 hal => ⟨(), trivial, ⟨hpx E hE, by rw [ht2]; exact hP1, va_K.moved hal hK, hD1.weaken fun _ q _ h => hF q.1 h⟩, hS1.F ht2⟩) hS1.2.2 hM.1 hM.2
  · obtain ⟨hP1, hK1, hD1⟩ := hB
    rw [ht] at hP1
    exact kk u hp H1 locs1 ls hP1 (hD1.weaken fun _ q _ h => hF q.1 h) hS1 hl
end RX
end MYX
end
section
def rmX0_append : Room := { frames := 0, cells := 0, slots := 0, locals := 0 }
theorem hin_X0_append_0 : ∀ w ∈ wsX00, w ∈ wsX0_append := fun _ h => List.mem_cons_of_mem _ (List.mem_append_right _ h)
set_option maxHeartbeats 4000000 in
set_option maxRecDepth 100000 in
theorem c_X0_append (l : Launch) (D : va_G) (a : Nat → Nat) (c : Nat → ClassId) (S J : St) (hV : V S) (o : Nat) (hc12 : S 3 0 < 12) : Cs l yX0_append wsX0_append rmX0_append D (tyW c) [.ref (a 3), .int (nI o)] (wC a c S J) (nI (S 3 0)) (wC a c (up (up S 18 (S 3 0) o) 3 0 (S 3 0 + 1)) J) := by
  refine Ci.of (lv0 := [(0, .ref (a 3)), (1, .int (nI o))]) (by decide +kernel) rfl (Nat.le_of_ble_eq_true rfl) rfl (fun G K hret => ?_)
  have hd12 := hc12
  refine r_aload_n K dX0_append_0 rfl ?_
  refine r_get K hin_X0_append_0 3 (wC_g3 _ _ _ _) rfl 3 (by decide) (List.mem_of_getElem? (i := 1) rfl) rfl dX0_append_1 ?_
  have hf1 := V_b hV 3 0
  refine r_istore_n (lv' := [(0, .ref (a 3)), (1, .int (nI o)), (2, .int (nI (S 3 0)))]) K dX0_append_4 (by decide) rfl ?_
  refine r_aload_n K dX0_append_5 rfl ?_
  refine r_get K hin_X0_append_0 3 (wC_g3 _ _ _ _) rfl 0 (by decide) (List.mem_of_getElem? (i := 2) rfl) rfl dX0_append_6 ?_
  refine r_iload_n K dX0_append_9 rfl ?_
  refine r_iload_n K dX0_append_10 rfl ?_
  refine r_iast K 18 0 (wC_g18 _ _ _ _) rfl (by omega) (by decide) dX0_append_11 (wC_s18 _ _ _ _ _ _) ?_
  refine r_aload_n K dX0_append_12 rfl ?_
  refine r_dup K dX0_append_13 rfl ?_
  refine r_get K hin_X0_append_0 3 (wC_g3 _ _ _ _) rfl 3 (by decide) (List.mem_of_getElem? (i := 1) rfl) rfl dX0_append_14 ?_
  refine r_top (congrArg nI (congrFun (up_ne (by decide)) _)) ?_
  refine r_iconst K (nI 1) dX0_append_17 (by decide) ?_
  refine r_iadd K dX0_append_18 ?_
  refine r_put K hin_X0_append_0 tyX0 tyX0_ok nmX0 3 (wC_g3 _ _ _ _) rfl 3 (by decide) (List.mem_of_getElem? (i := 1) rfl) rfl rfl rfl (Nat.le_of_ble_eq_true rfl) dX0_append_19 (wC_s3_3 _ _ _ _ _) ?_
  refine r_iload_n K dX0_append_22 rfl ?_
  exact hret 0 0 _ _ _ (nI (S 3 0)) () dX0_append_23 rfl rfl (Nat.le_of_ble_eq_true rfl) (Nat.le_of_ble_eq_true rfl)

def rmX0_holds : Room := { frames := 0, cells := 0, slots := 0, locals := 0 }
theorem hin_X0_holds_0 : ∀ w ∈ wsX00, w ∈ wsX0_holds := fun _ h => List.mem_cons_of_mem _ (List.mem_append_right _ h)
set_option maxHeartbeats 4000000 in
set_option maxRecDepth 100000 in
theorem c_X0_holds (l : Launch) (D : va_G) (a : Nat → Nat) (c : Nat → ClassId) (S J : St) (hV : V S) (d x : Nat) (hd : d < 12) (hx : x < 1000000) : Cs l yX0_holds wsX0_holds rmX0_holds D (tyW c) [.ref (a 3), .int (nI d), .int (nI x)] (wC a c S J) (nI (holdB S d x).toNat) (wC a c S J) := by
  refine Ci.ofZ (lv0 := [(0, .ref (a 3)), (1, .int (nI d)), (2, .int (nI x))]) (by decide +kernel) rfl (Nat.le_of_ble_eq_true rfl) rfl (fun G K hret => ?_)
  have hsz := V_size hV d
  refine r_iconst K (nI 0) dX0_holds_0 (by decide) ?_
  refine r_istore_n (lv' := [(0, .ref (a 3)), (1, .int (nI d)), (2, .int (nI x)), (3, .int (nI 0))]) K dX0_holds_1 (by decide) rfl ?_
  have L1 : ∀ (z : Nat) (i : Nat), S 19 d < i + z → i ≤ S 19 d → anyB (fun p => decide (S (30 + d) p = x)) i = false → G 0 0 (wC a c S J) [(0, .ref (a 3)), (1, .int (nI d)), (2, .int (nI x)), (3, .int (nI i))] 2 [] := by
    intro z
    induction z with
    | zero => intro i hz hi hn; exact absurd hz (by omega)
    | succ z ih =>
      intro i hz hi hn
      refine r_iload_n K dX0_holds_2 rfl ?_
      refine r_aload_n K dX0_holds_3 rfl ?_
      refine r_get K hin_X0_holds_0 3 (wC_g3 _ _ _ _) rfl 1 (by decide) (List.mem_of_getElem? (i := 1) rfl) rfl dX0_holds_4 ?_
      refine r_iload_n K dX0_holds_7 rfl ?_
      refine r_iald K 19 0 (wC_g19 _ _ _ _) rfl (by omega) (by decide) dX0_holds_8 ?_
      have hf2 := V_size hV d
      refine r_ic_ge K 32 dX0_holds_9 (by decide) (by omega) (by omega) (fun h3 => ?_) (fun h3 => ?_)
      ·
        refine r_iconst K (nI 0) dX0_holds_32 (by decide) ?_
        exact hret 0 0 _ _ _ 0 () dX0_holds_33 (by decide) (by rw [show holdB S d x = false from (by unfold holdB; rw [show S 19 d = i by omega]; exact hn)]; rfl) rfl (Nat.le_of_ble_eq_true rfl) (Nat.le_of_ble_eq_true rfl)
      ·
        refine r_aload_n K dX0_holds_12 rfl ?_
        refine r_get K hin_X0_holds_0 3 (wC_g3 _ _ _ _) rfl 2 (by decide) (List.mem_of_getElem? (i := 2) rfl) rfl dX0_holds_13 ?_
        refine r_iload_n K dX0_holds_16 rfl ?_
        refine r_aald2 K 20 2 (wC_g20 _ _ _ _) rfl (by omega) (by decide) (rowsOf_at _ (by omega)) dX0_holds_17 ?_
        refine r_iload_n K dX0_holds_18 rfl ?_
        refine r_iald K (30 + d) 0 (wC_row _ _ _ _ (by omega)) rfl (by omega) (by decide) dX0_holds_19 ?_
        have hf4 := V_card hV d i (by omega)
        refine r_iload_n K dX0_holds_20 rfl ?_
        refine r_ic_ne K 26 dX0_holds_21 (by decide) (by omega) (by omega) (fun h5 => ?_) (fun h5 => ?_)
        ·
          refine r_iinc (lv' := [(0, .ref (a 3)), (1, .int (nI d)), (2, .int (nI x)), (3, .int (nI (i + 1)))]) K dX0_holds_26 rfl (nI_1 _) (by decide) rfl ?_
          refine r_goto K 2 dX0_holds_29 (by decide) ?_
          exact ih (i + 1) (by omega) (by omega) (anyB_s hn (decide_eq_false h5))
        ·
          refine r_iconst K (nI 1) dX0_holds_24 (by decide) ?_
          exact hret 0 0 _ _ _ 1 () dX0_holds_25 (by decide) (by rw [show holdB S d x = true from (anyB_of (f := (fun p => decide (S (30 + d) p = x))) (i := i) (decide_eq_true h5) (by omega))]; rfl) rfl (Nat.le_of_ble_eq_true rfl) (Nat.le_of_ble_eq_true rfl)
  exact L1 (S 19 d + 1) 0 (by omega) (by omega) rfl

def rmX0_putBehind : Room := { frames := 0, cells := 0, slots := 0, locals := 0 }
theorem hin_X0_putBehind_0 : ∀ w ∈ wsX00, w ∈ wsX0_putBehind := fun _ h => List.mem_cons_of_mem _ (List.mem_append_right _ h)
set_option maxHeartbeats 4000000 in
set_option maxRecDepth 100000 in
theorem c_X0_putBehind (l : Launch) (D : va_G) (a : Nat → Nat) (c : Nat → ClassId) (S J : St) (hV : V S) (d x : Nat) (hd : d < 12) (hp : S 19 d < 10) : Cs l yX0_putBehind wsX0_putBehind rmX0_putBehind D (tyW c) [.ref (a 3), .int (nI d), .int (nI x)] (wC a c S J) (nI (S 19 d + 1)) (wC a c (up (up S (30 + d) (S 19 d) x) 19 d (S 19 d + 1)) J) := by
  refine Ci.of (lv0 := [(0, .ref (a 3)), (1, .int (nI d)), (2, .int (nI x))]) (by decide +kernel) rfl (Nat.le_of_ble_eq_true rfl) rfl (fun G K hret => ?_)
  have hsz := V_size hV d
  refine r_aload_n K dX0_putBehind_0 rfl ?_
  refine r_get K hin_X0_putBehind_0 3 (wC_g3 _ _ _ _) rfl 2 (by decide) (List.mem_of_getElem? (i := 1) rfl) rfl dX0_putBehind_1 ?_
  refine r_iload_n K dX0_putBehind_4 rfl ?_
  refine r_aald2 K 20 2 (wC_g20 _ _ _ _) rfl (by omega) (by decide) (rowsOf_at _ (by omega)) dX0_putBehind_5 ?_
  refine r_aload_n K dX0_putBehind_6 rfl ?_
  refine r_get K hin_X0_putBehind_0 3 (wC_g3 _ _ _ _) rfl 1 (by decide) (List.mem_of_getElem? (i := 2) rfl) rfl dX0_putBehind_7 ?_
  refine r_iload_n K dX0_putBehind_10 rfl ?_
  refine r_iald K 19 0 (wC_g19 _ _ _ _) rfl (by omega) (by decide) dX0_putBehind_11 ?_
  have hf1 := V_size hV d
  refine r_iload_n K dX0_putBehind_12 rfl ?_
  refine r_iast K (30 + d) 0 (wC_row _ _ _ _ (by omega)) rfl (by omega) (by decide) dX0_putBehind_13 (wC_srow _ _ _ _ (by omega) _ _) ?_
  refine r_aload_n K dX0_putBehind_14 rfl ?_
  refine r_get K hin_X0_putBehind_0 3 (wC_g3 _ _ _ _) rfl 1 (by decide) (List.mem_of_getElem? (i := 2) rfl) rfl dX0_putBehind_15 ?_
  refine r_iload_n K dX0_putBehind_18 rfl ?_
  refine r_dup2 K dX0_putBehind_19 rfl rfl ?_
  refine r_iald K 19 0 (wC_g19 _ _ _ _) rfl (by omega) (by decide) dX0_putBehind_20 ?_
  refine r_top (congrArg nI (congrFun (up_ne (by omega)) _)) ?_
  refine r_iconst K (nI 1) dX0_putBehind_21 (by decide) ?_
  refine r_iadd K dX0_putBehind_22 ?_
  refine r_iast K 19 0 (wC_g19 _ _ _ _) rfl (by omega) (by decide) dX0_putBehind_23 (wC_s19 _ _ _ _ _ _) ?_
  refine r_aload_n K dX0_putBehind_24 rfl ?_
  refine r_get K hin_X0_putBehind_0 3 (wC_g3 _ _ _ _) rfl 1 (by decide) (List.mem_of_getElem? (i := 2) rfl) rfl dX0_putBehind_25 ?_
  refine r_iload_n K dX0_putBehind_28 rfl ?_
  refine r_iald K 19 0 (wC_g19 _ _ _ _) rfl (by omega) (by decide) dX0_putBehind_29 ?_
  refine r_top (congrArg nI up_same) ?_
  exact hret 0 0 _ _ _ (nI (S 19 d + 1)) () dX0_putBehind_30 rfl rfl (Nat.le_of_ble_eq_true rfl) (Nat.le_of_ble_eq_true rfl)

def rmX0_takeOut : Room := { frames := 0, cells := 0, slots := 0, locals := 0 }
theorem hin_X0_takeOut_0 : ∀ w ∈ wsX00, w ∈ wsX0_takeOut := fun _ h => List.mem_cons_of_mem _ (List.mem_append_right _ h)
set_option maxHeartbeats 4000000 in
set_option maxRecDepth 100000 in
theorem c_X0_takeOut (l : Launch) (D : va_G) (a : Nat → Nat) (c : Nat → ClassId) (S J : St) (hV : V S) (d p : Nat) (hd : d < 12) (hp : p < S 19 d) : Cs l yX0_takeOut wsX0_takeOut rmX0_takeOut D (tyW c) [.ref (a 3), .int (nI d), .int (nI p)] (wC a c S J) (nI (S (30 + d) p)) (wC a c (shl (up S 19 d (S 19 d - 1)) d p (S 19 d - 1 - p)) J) := by
  refine Ci.of (lv0 := [(0, .ref (a 3)), (1, .int (nI d)), (2, .int (nI p))]) (by decide +kernel) rfl (Nat.le_of_ble_eq_true rfl) rfl (fun G K hret => ?_)
  have hsz := V_size hV d
  refine r_aload_n K dX0_takeOut_0 rfl ?_
  refine r_get K hin_X0_takeOut_0 3 (wC_g3 _ _ _ _) rfl 2 (by decide) (List.mem_of_getElem? (i := 1) rfl) rfl dX0_takeOut_1 ?_
  refine r_iload_n K dX0_takeOut_4 rfl ?_
  refine r_aald2 K 20 2 (wC_g20 _ _ _ _) rfl (by omega) (by decide) (rowsOf_at _ (by omega)) dX0_takeOut_5 ?_
  refine r_iload_n K dX0_takeOut_6 rfl ?_
  refine r_iald K (30 + d) 0 (wC_row _ _ _ _ (by omega)) rfl (by omega) (by decide) dX0_takeOut_7 ?_
  have hf1 := V_card hV d p (by omega)
  refine r_istore_n (lv' := [(0, .ref (a 3)), (1, .int (nI d)), (2, .int (nI p)), (3, .int (nI (S (30 + d) p)))]) K dX0_takeOut_8 (by decide) rfl ?_
  refine r_aload_n K dX0_takeOut_9 rfl ?_
  refine r_get K hin_X0_takeOut_0 3 (wC_g3 _ _ _ _) rfl 1 (by decide) (List.mem_of_getElem? (i := 2) rfl) rfl dX0_takeOut_10 ?_
  refine r_iload_n K dX0_takeOut_13 rfl ?_
  refine r_dup2 K dX0_takeOut_14 rfl rfl ?_
  refine r_iald K 19 0 (wC_g19 _ _ _ _) rfl (by omega) (by decide) dX0_takeOut_15 ?_
  have hf2 := V_size hV d
  refine r_iconst K (nI 1) dX0_takeOut_16 (by decide) ?_
  refine r_isub K dX0_takeOut_17 (by omega) ?_
  refine r_iast K 19 0 (wC_g19 _ _ _ _) rfl (by omega) (by decide) dX0_takeOut_18 (wC_s19 _ _ _ _ _ _) ?_
  refine r_iload_n K dX0_takeOut_19 rfl ?_
  refine r_istore (lv' := [(0, .ref (a 3)), (1, .int (nI d)), (2, .int (nI p)), (3, .int (nI (S (30 + d) p))), (4, .int (nI p))]) K dX0_takeOut_20 (by decide) rfl ?_
  have L3 : ∀ (z : Nat) (i g : Nat) (Sx : St), S 19 d < g + z → g = p + i → g ≤ S 19 d - 1 → Sx = shl (up S 19 d (S 19 d - 1)) d p i → Sx 19 d = S 19 d - 1 → G 0 0 (wC a c Sx J) [(0, .ref (a 3)), (1, .int (nI d)), (2, .int (nI p)), (3, .int (nI (S (30 + d) p))), (4, .int (nI g))] 22 [] := by
    intro z
    induction z with
    | zero => intro i g Sx hz hg hgn hS hq; exact absurd hz (by omega)
    | succ z ih =>
      intro i g Sx hz hg hgn hS hq
      refine r_iload K dX0_takeOut_22 rfl ?_
      refine r_aload_n K dX0_takeOut_24 rfl ?_
      refine r_get K hin_X0_takeOut_0 3 (wC_g3 _ _ _ _) rfl 1 (by decide) (List.mem_of_getElem? (i := 2) rfl) rfl dX0_takeOut_25 ?_
      refine r_iload_n K dX0_takeOut_28 rfl ?_
      refine r_iald K 19 0 (wC_g19 _ _ _ _) rfl (by omega) (by decide) dX0_takeOut_29 ?_
      refine r_ic_ge K 59 dX0_takeOut_30 (by decide) (by omega) (by omega) (fun h4 => ?_) (fun h4 => ?_)
      ·
        refine r_iload_n K dX0_takeOut_59 rfl ?_
        exact hret 0 0 _ _ _ (nI (S (30 + d) p)) () dX0_takeOut_60 rfl (by rw [hS, show i = S 19 d - 1 - p by omega]) (Nat.le_of_ble_eq_true rfl) (Nat.le_of_ble_eq_true rfl)
      ·
        refine r_aload_n K dX0_takeOut_33 rfl ?_
        refine r_get K hin_X0_takeOut_0 3 (wC_g3 _ _ _ _) rfl 2 (by decide) (List.mem_of_getElem? (i := 1) rfl) rfl dX0_takeOut_34 ?_
        refine r_iload_n K dX0_takeOut_37 rfl ?_
        refine r_aald2 K 20 2 (wC_g20 _ _ _ _) rfl (by omega) (by decide) (rowsOf_at _ (by omega)) dX0_takeOut_38 ?_
        refine r_iload K dX0_takeOut_39 rfl ?_
        refine r_aload_n K dX0_takeOut_41 rfl ?_
        refine r_get K hin_X0_takeOut_0 3 (wC_g3 _ _ _ _) rfl 2 (by decide) (List.mem_of_getElem? (i := 1) rfl) rfl dX0_takeOut_42 ?_
        refine r_iload_n K dX0_takeOut_45 rfl ?_
        refine r_aald2 K 20 2 (wC_g20 _ _ _ _) rfl (by omega) (by decide) (rowsOf_at _ (by omega)) dX0_takeOut_46 ?_
        refine r_iload K dX0_takeOut_47 rfl ?_
        refine r_iconst K (nI 1) dX0_takeOut_49 (by decide) ?_
        refine r_iadd K dX0_takeOut_50 ?_
        refine r_iald K (30 + d) 0 (wC_row _ _ _ _ (by omega)) rfl (by omega) (by decide) dX0_takeOut_51 ?_
        refine r_iast K (30 + d) 0 (wC_row _ _ _ _ (by omega)) rfl (by omega) (by decide) dX0_takeOut_52 (wC_srow _ _ _ _ (by omega) _ _) ?_
        refine r_iinc (lv' := [(0, .ref (a 3)), (1, .int (nI d)), (2, .int (nI p)), (3, .int (nI (S (30 + d) p))), (4, .int (nI (g + 1)))]) K dX0_takeOut_53 rfl (nI_1 _) (by decide) rfl ?_
        refine r_goto K 22 dX0_takeOut_56 (by decide) ?_
        exact ih (i + 1) (g + 1) _ (by omega) (by omega) (by omega) (by rw [hS, hg]; rfl) (by rw [up_ne (by omega)]; exact hq)
  exact L3 (S 19 d + 1) 0 p _ (by omega) rfl (by omega) rfl (by rw [up_same])

def rmX0_placesOf : Room := { frames := 0, cells := 0, slots := 0, locals := 0 }
theorem hin_X0_placesOf_0 : ∀ w ∈ wsX00, w ∈ wsX0_placesOf := fun _ h => List.mem_cons_of_mem _ (List.mem_append_left _ (List.mem_append_right _ h))
theorem hin_X0_placesOf_4 : ∀ w ∈ wsX40, w ∈ wsX0_placesOf := fun _ h => List.mem_cons_of_mem _ (List.mem_append_right _ h)
set_option maxHeartbeats 4000000 in
set_option maxRecDepth 100000 in
theorem c_X0_placesOf (l : Launch) (D : va_G) (a : Nat → Nat) (c : Nat → ClassId) (S J : St) (hV : V S) (d k : Nat) (hd : d < 12) (hk : k < 1000000) : Cs l yX0_placesOf wsX0_placesOf rmX0_placesOf D (tyW c) [.ref (a 3), .int (nI d), .int (nI k), .ref (a 2)] (wC a c S J) (nI (bits (isK S d k) (S 19 d))) (wC a c S J) := by
  refine Ci.of (lv0 := [(0, .ref (a 3)), (1, .int (nI d)), (2, .int (nI k)), (3, .ref (a 2))]) (by decide +kernel) rfl (Nat.le_of_ble_eq_true rfl) rfl (fun G K hret => ?_)
  have hsz := V_size hV d
  refine r_iconst K (nI 0) dX0_placesOf_0 (by decide) ?_
  refine r_istore (lv' := [(0, .ref (a 3)), (1, .int (nI d)), (2, .int (nI k)), (3, .ref (a 2)), (4, .int (nI 0))]) K dX0_placesOf_1 (by decide) rfl ?_
  refine r_iconst K (nI 0) dX0_placesOf_3 (by decide) ?_
  refine r_istore (lv' := [(0, .ref (a 3)), (1, .int (nI d)), (2, .int (nI k)), (3, .ref (a 2)), (4, .int (nI 0)), (5, .int (nI 0))]) K dX0_placesOf_4 (by decide) rfl ?_
  have L1 : ∀ (z : Nat) (i x : Nat), S 19 d < i + z → i ≤ S 19 d → x = bits (isK S d k) i → G 0 0 (wC a c S J) [(0, .ref (a 3)), (1, .int (nI d)), (2, .int (nI k)), (3, .ref (a 2)), (4, .int (nI x)), (5, .int (nI i))] 6 [] := by
    intro z
    induction z with
    | zero => intro i x hz hi hx; exact absurd hz (by omega)
    | succ z ih =>
      intro i x hz hi hx
      refine r_iload K dX0_placesOf_6 rfl ?_
      refine r_aload_n K dX0_placesOf_8 rfl ?_
      refine r_get K hin_X0_placesOf_0 3 (wC_g3 _ _ _ _) rfl 1 (by decide) (List.mem_of_getElem? (i := 1) rfl) rfl dX0_placesOf_9 ?_
      refine r_iload_n K dX0_placesOf_12 rfl ?_
      refine r_iald K 19 0 (wC_g19 _ _ _ _) rfl (by omega) (by decide) dX0_placesOf_13 ?_
      have hf2 := V_size hV d
      refine r_ic_ge K 50 dX0_placesOf_14 (by decide) (by omega) (by omega) (fun h3 => ?_) (fun h3 => ?_)
      ·
        refine r_iload K dX0_placesOf_50 rfl ?_
        exact hret 0 0 _ _ _ (nI x) () dX0_placesOf_52 (by rw [hx, show i = S 19 d by omega]) rfl (Nat.le_of_ble_eq_true rfl) (Nat.le_of_ble_eq_true rfl)
      ·
        refine r_aload_n K dX0_placesOf_17 rfl ?_
        refine r_get K hin_X0_placesOf_4 2 (wC_g2 _ _ _ _) rfl 0 (by decide) (List.mem_of_getElem? (i := 2) rfl) rfl dX0_placesOf_18 ?_
        refine r_aload_n K dX0_placesOf_21 rfl ?_
        refine r_get K hin_X0_placesOf_0 3 (wC_g3 _ _ _ _) rfl 2 (by decide) (List.mem_of_getElem? (i := 3) rfl) rfl dX0_placesOf_22 ?_
        refine r_iload_n K dX0_placesOf_25 rfl ?_
        refine r_aald2 K 20 2 (wC_g20 _ _ _ _) rfl (by omega) (by decide) (rowsOf_at _ (by omega)) dX0_placesOf_26 ?_
        refine r_iload K dX0_placesOf_27 rfl ?_
        refine r_iald K (30 + d) 0 (wC_row _ _ _ _ (by omega)) rfl (by omega) (by decide) dX0_placesOf_29 ?_
        have hf4 := V_card hV d i (by omega)
        refine r_iald K 15 0 (wC_g15 _ _ _ _) rfl (by omega) (by decide) dX0_placesOf_30 ?_
        have hf5 := V_kind hV (S (30 + d) i)
        refine r_iload_n K dX0_placesOf_31 rfl ?_
        refine r_ic_ne K 44 dX0_placesOf_32 (by decide) (by omega) (by omega) (fun h6 => ?_) (fun h6 => ?_)
        ·
          refine r_iinc (lv' := [(0, .ref (a 3)), (1, .int (nI d)), (2, .int (nI k)), (3, .ref (a 2)), (4, .int (nI x)), (5, .int (nI (i + 1)))]) K dX0_placesOf_44 rfl (nI_1 _) (by decide) rfl ?_
          refine r_goto K 6 dX0_placesOf_47 (by decide) ?_
          exact ih (i + 1) x (by omega) (by omega) (by rw [bits_n (decide_eq_false h6), hx])
        ·
          refine r_iload K dX0_placesOf_35 rfl ?_
          refine r_iconst K (nI 1) dX0_placesOf_37 (by decide) ?_
          refine r_iload K dX0_placesOf_38 rfl ?_
          refine r_ishlR K dX0_placesOf_40 ?_
          refine r_iorR K dX0_placesOf_41 ?_
          refine r_top (or_bit (by omega) (by rw [hx]; exact bits_lt _ _)) ?_
          refine r_istore (lv' := [(0, .ref (a 3)), (1, .int (nI d)), (2, .int (nI k)), (3, .ref (a 2)), (4, .int (nI (x + 2 ^ i))), (5, .int (nI i))]) K dX0_placesOf_42 (by decide) rfl ?_
          refine r_iinc (lv' := [(0, .ref (a 3)), (1, .int (nI d)), (2, .int (nI k)), (3, .ref (a 2)), (4, .int (nI (x + 2 ^ i))), (5, .int (nI (i + 1)))]) K dX0_placesOf_44 rfl (nI_1 _) (by decide) rfl ?_
          refine r_goto K 6 dX0_placesOf_47 (by decide) ?_
          exact ih (i + 1) (x + 2 ^ i) (by omega) (by omega) (by rw [bits_y (decide_eq_true h6), hx])
  exact L1 (S 19 d + 1) 0 0 (by omega) (by omega) rfl

def rmJ6_bitCount_0f7a4 : Room := { frames := 0, cells := 0, slots := 0, locals := 0 }
set_option maxHeartbeats 4000000 in
set_option maxRecDepth 100000 in
theorem c_bitCount (l : Launch) (D : va_G) (a : Nat → Nat) (c : Nat → ClassId) (S J : St) (b : Nat) (hb : b < 1024) : Cs l yJ6_bitCount_0f7a4 wsJ6_bitCount_0f7a4 rmJ6_bitCount_0f7a4 D (tyW c) [.int (nI b)] (wC a c S J) (nI (popc b)) (wC a c S J) := by
  refine Ci.of (lv0 := [(0, .int (nI b))]) (by decide +kernel) rfl (Nat.le_of_ble_eq_true rfl) rfl (fun G K hret => ?_)
  refine r_iload_n K dJ6_bitCount_0f7a4_0 rfl ?_
  refine r_iload_n K dJ6_bitCount_0f7a4_1 rfl ?_
  refine r_iconst K (nI 1) dJ6_bitCount_0f7a4_2 (by decide) ?_
  refine r_iushrR K dJ6_bitCount_0f7a4_3 rfl ?_
  refine r_ldcw K (List.mem_of_getElem? (i := 1) rfl) dJ6_bitCount_0f7a4_4 ?_
  refine r_iandR K dJ6_bitCount_0f7a4_7 ?_
  refine r_isubR K dJ6_bitCount_0f7a4_8 ?_
  refine r_top (show _ = bc1 (nI b) from rfl) ?_
  refine r_istore_n (lv' := [(0, .int (bc1 (nI b)))]) K dJ6_bitCount_0f7a4_9 (by decide) rfl ?_
  refine r_iload_n K dJ6_bitCount_0f7a4_10 rfl ?_
  refine r_ldcw K (List.mem_of_getElem? (i := 2) rfl) dJ6_bitCount_0f7a4_11 ?_
  refine r_iandR K dJ6_bitCount_0f7a4_14 ?_
  refine r_iload_n K dJ6_bitCount_0f7a4_15 rfl ?_
  refine r_iconst K (nI 2) dJ6_bitCount_0f7a4_16 (by decide) ?_
  refine r_iushrR K dJ6_bitCount_0f7a4_17 rfl ?_
  refine r_ldcw K (List.mem_of_getElem? (i := 2) rfl) dJ6_bitCount_0f7a4_18 ?_
  refine r_iandR K dJ6_bitCount_0f7a4_21 ?_
  refine r_iaddR K dJ6_bitCount_0f7a4_22 ?_
  refine r_top (show _ = bc2 (bc1 (nI b)) from rfl) ?_
  refine r_istore_n (lv' := [(0, .int (bc2 (bc1 (nI b))))]) K dJ6_bitCount_0f7a4_23 (by decide) rfl ?_
  refine r_iload_n K dJ6_bitCount_0f7a4_24 rfl ?_
  refine r_iload_n K dJ6_bitCount_0f7a4_25 rfl ?_
  refine r_iconst K (nI 4) dJ6_bitCount_0f7a4_26 (by decide) ?_
  refine r_iushrR K dJ6_bitCount_0f7a4_27 rfl ?_
  refine r_iaddR K dJ6_bitCount_0f7a4_28 ?_
  refine r_ldcw K (List.mem_of_getElem? (i := 3) rfl) dJ6_bitCount_0f7a4_29 ?_
  refine r_iandR K dJ6_bitCount_0f7a4_32 ?_
  refine r_top (show _ = bc3 (bc2 (bc1 (nI b))) from rfl) ?_
  refine r_istore_n (lv' := [(0, .int (bc3 (bc2 (bc1 (nI b)))))]) K dJ6_bitCount_0f7a4_33 (by decide) rfl ?_
  refine r_iload_n K dJ6_bitCount_0f7a4_34 rfl ?_
  refine r_iload_n K dJ6_bitCount_0f7a4_35 rfl ?_
  refine r_bipush K (nI 8) dJ6_bitCount_0f7a4_36 (by decide) ?_
  refine r_iushrR K dJ6_bitCount_0f7a4_38 rfl ?_
  refine r_iaddR K dJ6_bitCount_0f7a4_39 ?_
  refine r_top (show _ = bc4 (bc3 (bc2 (bc1 (nI b)))) from rfl) ?_
  refine r_istore_n (lv' := [(0, .int (bc4 (bc3 (bc2 (bc1 (nI b))))))]) K dJ6_bitCount_0f7a4_40 (by decide) rfl ?_
  refine r_iload_n K dJ6_bitCount_0f7a4_41 rfl ?_
  refine r_iload_n K dJ6_bitCount_0f7a4_42 rfl ?_
  refine r_bipush K (nI 16) dJ6_bitCount_0f7a4_43 (by decide) ?_
  refine r_iushrR K dJ6_bitCount_0f7a4_45 rfl ?_
  refine r_iaddR K dJ6_bitCount_0f7a4_46 ?_
  refine r_top (show _ = bc5 (bc4 (bc3 (bc2 (bc1 (nI b))))) from rfl) ?_
  refine r_istore_n (lv' := [(0, .int (bc5 (bc4 (bc3 (bc2 (bc1 (nI b)))))))]) K dJ6_bitCount_0f7a4_47 (by decide) rfl ?_
  refine r_iload_n K dJ6_bitCount_0f7a4_48 rfl ?_
  refine r_bipush K (nI 63) dJ6_bitCount_0f7a4_49 (by decide) ?_
  refine r_iandR K dJ6_bitCount_0f7a4_51 ?_
  exact hret 0 0 _ _ _ _ () dJ6_bitCount_0f7a4_52 (bc_all b hb) rfl (Nat.le_of_ble_eq_true rfl) (Nat.le_of_ble_eq_true rfl)

def rmX0_countOf : Room := { frames := 1, cells := 0, slots := 0, locals := 25 }
theorem hin_X0_countOf_0 : ∀ w ∈ wsX00, w ∈ wsX0_countOf := fun _ h => List.mem_cons_of_mem _ (List.mem_append_left _ (List.mem_append_right _ h))
theorem hin_X0_countOf_4 : ∀ w ∈ wsX40, w ∈ wsX0_countOf := fun _ h => List.mem_cons_of_mem _ (List.mem_append_right _ h)
set_option maxHeartbeats 4000000 in
set_option maxRecDepth 100000 in
theorem c_X0_countOf (l : Launch) (D : va_G) (a : Nat → Nat) (c : Nat → ClassId) (S J : St) (hV : V S) (d k : Nat) (hd : d < 12) (hk : k < 1000000) : Cs l yX0_countOf wsX0_countOf rmX0_countOf D (tyW c) [.ref (a 3), .int (nI d), .int (nI k), .ref (a 2)] (wC a c S J) (nI (mo S d k)) (wC a c S J) := by
  refine Ci.of (lv0 := [(0, .ref (a 3)), (1, .int (nI d)), (2, .int (nI k)), (3, .ref (a 2))]) (by decide +kernel) rfl (Nat.le_of_ble_eq_true rfl) rfl (fun G K hret => ?_)
  have hsz := V_size hV d
  have hb10 : bits (isK S d k) (S 19 d) < 1024 := Nat.lt_of_lt_of_le (bits_lt _ _) (Nat.pow_le_pow_right (by decide) hsz)
  refine r_aload_n K dX0_countOf_0 rfl ?_
  refine r_iload_n K dX0_countOf_1 rfl ?_
  refine r_iload_n K dX0_countOf_2 rfl ?_
  refine r_aload_n K dX0_countOf_3 rfl ?_
  refine r_callVs (rest := []) K (c_X0_placesOf l D a c S J hV d k (by omega) (by omega)) 3 gX0_countOf_X0_placesOf rfl (by decide +kernel) rfl (by decide) 3 (wC_g3 _ _ _ _) rfl rfl (Nat.le_of_ble_eq_true rfl) dX0_countOf_4 rfl rfl ?_
  refine r_callSs (rest := []) K (c_bitCount l D a c S J (bits (isK S d k) (S 19 d)) hb10) 1 gX0_countOf_J6_bitCount_0f7a4 rfl (by decide +kernel) rfl (by decide) rfl (Nat.le_of_ble_eq_true rfl) dX0_countOf_7 rfl rfl ?_
  exact hret 0 0 _ _ _ (nI (popc (bits (isK S d k) (S 19 d)))) () dX0_countOf_10 (congrArg nI (popc_bits _ hsz)) rfl (Nat.le_of_ble_eq_true rfl) (Nat.le_of_ble_eq_true rfl)

def rmX0_fitsFormat : Room := { frames := 2, cells := 0, slots := 0, locals := 48 }
theorem hin_X0_fitsFormat_0 : ∀ w ∈ wsX00, w ∈ wsX0_fitsFormat := fun _ h => List.mem_cons_of_mem _ (List.mem_append_left _ (List.mem_append_left _ (List.mem_append_right _ h)))
theorem hin_X0_fitsFormat_4 : ∀ w ∈ wsX40, w ∈ wsX0_fitsFormat := fun _ h => List.mem_cons_of_mem _ (List.mem_append_left _ (List.mem_append_right _ h))
theorem hin_X0_fitsFormat_1 : ∀ w ∈ wsX10, w ∈ wsX0_fitsFormat := fun _ h => List.mem_cons_of_mem _ (List.mem_append_right _ h)
set_option maxHeartbeats 4000000 in
set_option maxRecDepth 100000 in
theorem c_X0_fitsFormat (l : Launch) (D : va_G) (a : Nat → Nat) (c : Nat → ClassId) (S J : St) (hV : V S) (d : Nat) (hd : d < 12) : Cs l yX0_fitsFormat wsX0_fitsFormat rmX0_fitsFormat D (tyW c) [.ref (a 3), .int (nI d), .ref (a 1), .ref (a 2)] (wC a c S J) (nI (alw S d).toNat) (wC a c S J) := by
  refine Ci.ofZ (lv0 := [(0, .ref (a 3)), (1, .int (nI d)), (2, .ref (a 1)), (3, .ref (a 2))]) (by decide +kernel) rfl (Nat.le_of_ble_eq_true rfl) rfl (fun G K hret => ?_)
  have hsz := V_size hV d
  refine r_aload_n K dX0_fitsFormat_0 rfl ?_
  refine r_get K hin_X0_fitsFormat_0 3 (wC_g3 _ _ _ _) rfl 1 (by decide) (List.mem_of_getElem? (i := 1) rfl) rfl dX0_fitsFormat_1 ?_
  refine r_iload_n K dX0_fitsFormat_4 rfl ?_
  refine r_iald K 19 0 (wC_g19 _ _ _ _) rfl (by omega) (by decide) dX0_fitsFormat_5 ?_
  have hf1 := V_size hV d
  refine r_aload_n K dX0_fitsFormat_6 rfl ?_
  refine r_get K hin_X0_fitsFormat_0 3 (wC_g3 _ _ _ _) rfl 4 (by decide) (List.mem_of_getElem? (i := 2) rfl) rfl dX0_fitsFormat_7 ?_
  have hf2 := V_b hV 3 1
  refine r_ic_eq K 15 dX0_fitsFormat_10 (by decide) (by omega) (by omega) (fun h3 => ?_) (fun h3 => ?_)
  ·
    have hne := h3
    refine r_iconst K (nI 0) dX0_fitsFormat_15 (by decide) ?_
    refine r_istore (lv' := [(0, .ref (a 3)), (1, .int (nI d)), (2, .ref (a 1)), (3, .ref (a 2)), (4, .int (nI 0))]) K dX0_fitsFormat_16 (by decide) rfl ?_
    have L4 : ∀ (z : Nat) (i : Nat), S 19 d < i + z → i ≤ S 19 d → allB (okAt S d) i = true → G 0 0 (wC a c S J) [(0, .ref (a 3)), (1, .int (nI d)), (2, .ref (a 1)), (3, .ref (a 2)), (4, .int (nI i))] 18 [] := by
      intro z
      induction z with
      | zero => intro i hz hi hn; exact absurd hz (by omega)
      | succ z ih =>
        intro i hz hi hn
        refine r_iload K dX0_fitsFormat_18 rfl ?_
        refine r_aload_n K dX0_fitsFormat_20 rfl ?_
        refine r_get K hin_X0_fitsFormat_0 3 (wC_g3 _ _ _ _) rfl 1 (by decide) (List.mem_of_getElem? (i := 1) rfl) rfl dX0_fitsFormat_21 ?_
        refine r_iload_n K dX0_fitsFormat_24 rfl ?_
        refine r_iald K 19 0 (wC_g19 _ _ _ _) rfl (by omega) (by decide) dX0_fitsFormat_25 ?_
        refine r_ic_ge K 100 dX0_fitsFormat_26 (by decide) (by omega) (by omega) (fun h6 => ?_) (fun h6 => ?_)
        ·
          refine r_iconst K (nI 1) dX0_fitsFormat_100 (by decide) ?_
          exact hret 0 0 _ _ _ 1 () dX0_fitsFormat_101 (by decide) (by rw [show alw S d = true from alw_y hne hn (by omega)]; rfl) rfl (Nat.le_of_ble_eq_true rfl) (Nat.le_of_ble_eq_true rfl)
        ·
          refine r_aload_n K dX0_fitsFormat_29 rfl ?_
          refine r_get K hin_X0_fitsFormat_0 3 (wC_g3 _ _ _ _) rfl 2 (by decide) (List.mem_of_getElem? (i := 3) rfl) rfl dX0_fitsFormat_30 ?_
          refine r_iload_n K dX0_fitsFormat_33 rfl ?_
          refine r_aald2 K 20 2 (wC_g20 _ _ _ _) rfl (by omega) (by decide) (rowsOf_at _ (by omega)) dX0_fitsFormat_34 ?_
          refine r_iload K dX0_fitsFormat_35 rfl ?_
          refine r_iald K (30 + d) 0 (wC_row _ _ _ _ (by omega)) rfl (by omega) (by decide) dX0_fitsFormat_37 ?_
          have hf7 := V_card hV d i (by omega)
          refine r_istore (lv' := [(0, .ref (a 3)), (1, .int (nI d)), (2, .ref (a 1)), (3, .ref (a 2)), (4, .int (nI i)), (5, .int (nI (S (30 + d) i)))]) K dX0_fitsFormat_38 (by decide) rfl ?_
          refine r_aload_n K dX0_fitsFormat_40 rfl ?_
          refine r_get K hin_X0_fitsFormat_4 2 (wC_g2 _ _ _ _) rfl 0 (by decide) (List.mem_of_getElem? (i := 4) rfl) rfl dX0_fitsFormat_41 ?_
          refine r_iload K dX0_fitsFormat_44 rfl ?_
          refine r_iald K 15 0 (wC_g15 _ _ _ _) rfl (by omega) (by decide) dX0_fitsFormat_46 ?_
          have hf8 := V_kind hV (S (30 + d) i)
          refine r_istore (lv' := [(0, .ref (a 3)), (1, .int (nI d)), (2, .ref (a 1)), (3, .ref (a 2)), (4, .int (nI i)), (5, .int (nI (S (30 + d) i))), (6, .int (nI (S 15 (S (30 + d) i))))]) K dX0_fitsFormat_47 (by decide) rfl ?_
          refine r_aload_n K dX0_fitsFormat_49 rfl ?_
          refine r_get K hin_X0_fitsFormat_4 2 (wC_g2 _ _ _ _) rfl 2 (by decide) (List.mem_of_getElem? (i := 5) rfl) rfl dX0_fitsFormat_50 ?_
          refine r_iload K dX0_fitsFormat_53 rfl ?_
          refine r_iald K 17 0 (wC_g17 _ _ _ _) rfl (by omega) (by decide) dX0_fitsFormat_55 ?_
          have hf9 := V_b hV 17 (S (30 + d) i)
          refine r_aload_n K dX0_fitsFormat_56 rfl ?_
          refine r_get K hin_X0_fitsFormat_0 3 (wC_g3 _ _ _ _) rfl 0 (by decide) (List.mem_of_getElem? (i := 6) rfl) rfl dX0_fitsFormat_57 ?_
          refine r_iload_n K dX0_fitsFormat_60 rfl ?_
          refine r_iald K 18 0 (wC_g18 _ _ _ _) rfl (by omega) (by decide) dX0_fitsFormat_61 ?_
          have hf10 := V_b hV 18 d
          refine r_ic_ne K 75 dX0_fitsFormat_62 (by decide) (by omega) (by omega) (fun h11 => ?_) (fun h11 => ?_)
          ·
            refine r_iconst K (nI 0) dX0_fitsFormat_75 (by decide) ?_
            exact hret 0 0 _ _ _ 0 () dX0_fitsFormat_76 (by decide) (by rw [show alw S d = false from alw_no (okAt_1 h11) (by omega)]; rfl) rfl (Nat.le_of_ble_eq_true rfl) (Nat.le_of_ble_eq_true rfl)
          ·
            refine r_aload_n K dX0_fitsFormat_65 rfl ?_
            refine r_get K hin_X0_fitsFormat_1 1 (wC_g1 _ _ _ _) rfl 2 (by decide) (List.mem_of_getElem? (i := 7) rfl) rfl dX0_fitsFormat_66 ?_
            refine r_iload K dX0_fitsFormat_69 rfl ?_
            refine r_zald K 12 1 (wC_g12 _ _ _ _) rfl (by omega) (by decide) dX0_fitsFormat_71 ?_
            have hf12 := V_b hV 12 (S 15 (S (30 + d) i))
            refine r_if_eq K 77 dX0_fitsFormat_72 (by decide) (by omega) (fun h13 => ?_) (fun h13 => ?_)
            ·
              refine r_aload_n K dX0_fitsFormat_77 rfl ?_
              refine r_iload_n K dX0_fitsFormat_78 rfl ?_
              refine r_iload K dX0_fitsFormat_79 rfl ?_
              refine r_aload_n K dX0_fitsFormat_81 rfl ?_
              have hkd := V_kind hV (S (30 + d) i)
              have hmo := mo_le hV d (S 15 (S (30 + d) i))
              refine r_callVs (rest := []) K (c_X0_countOf l D a c S J hV d (S 15 (S (30 + d) i)) (by omega) (by omega)) 3 gX0_fitsFormat_X0_countOf rfl (by decide +kernel) rfl (by decide) 3 (wC_g3 _ _ _ _) rfl rfl (Nat.le_of_ble_eq_true rfl) dX0_fitsFormat_82 rfl rfl ?_
              refine r_aload_n K dX0_fitsFormat_85 rfl ?_
              refine r_get K hin_X0_fitsFormat_0 3 (wC_g3 _ _ _ _) rfl 5 (by decide) (List.mem_of_getElem? (i := 8) rfl) rfl dX0_fitsFormat_86 ?_
              have hf14 := V_b hV 3 2
              refine r_ic_le K 94 dX0_fitsFormat_89 (by decide) (by omega) (by omega) (fun h15 => ?_) (fun h15 => ?_)
              ·
                refine r_iinc (lv' := [(0, .ref (a 3)), (1, .int (nI d)), (2, .ref (a 1)), (3, .ref (a 2)), (4, .int (nI (i + 1))), (5, .int (nI (S (30 + d) i))), (6, .int (nI (S 15 (S (30 + d) i))))]) K dX0_fitsFormat_94 rfl (nI_1 _) (by decide) rfl ?_
                refine r_goto K 18 dX0_fitsFormat_97 (by decide) ?_
                refine r_pick [0, 1, 2, 3, 4] K rfl ?_
                exact ih (i + 1) (by omega) (by omega) (allB_s hn (okAt_y h11 h13 h15))
              ·
                refine r_iconst K (nI 0) dX0_fitsFormat_92 (by decide) ?_
                exact hret 0 0 _ _ _ 0 () dX0_fitsFormat_93 (by decide) (by rw [show alw S d = false from alw_no (okAt_3 h15) (by omega)]; rfl) rfl (Nat.le_of_ble_eq_true rfl) (Nat.le_of_ble_eq_true rfl)
            ·
              refine r_iconst K (nI 0) dX0_fitsFormat_75 (by decide) ?_
              exact hret 0 0 _ _ _ 0 () dX0_fitsFormat_76 (by decide) (by rw [show alw S d = false from alw_no (okAt_2 h13) (by omega)]; rfl) rfl (Nat.le_of_ble_eq_true rfl) (Nat.le_of_ble_eq_true rfl)
    exact L4 (S 19 d + 1) 0 (by omega) (by omega) rfl
  ·
    refine r_iconst K (nI 0) dX0_fitsFormat_13 (by decide) ?_
    exact hret 0 0 _ _ _ 0 () dX0_fitsFormat_14 (by decide) (by rw [show alw S d = false from alw_0 h3]; rfl) rfl (Nat.le_of_ble_eq_true rfl) (Nat.le_of_ble_eq_true rfl)

def rmX0_countFitting : Room := { frames := 3, cells := 0, slots := 0, locals := 74 }
theorem hin_X0_countFitting_0 : ∀ w ∈ wsX00, w ∈ wsX0_countFitting := fun _ h => List.mem_cons_of_mem _ (List.mem_append_left _ (List.mem_append_left _ (List.mem_append_right _ h)))
theorem hin_X0_countFitting_4 : ∀ w ∈ wsX40, w ∈ wsX0_countFitting := fun _ h => List.mem_cons_of_mem _ (List.mem_append_left _ (List.mem_append_right _ h))
theorem hin_X0_countFitting_1 : ∀ w ∈ wsX10, w ∈ wsX0_countFitting := fun _ h => List.mem_cons_of_mem _ (List.mem_append_right _ h)
set_option maxHeartbeats 4000000 in
set_option maxRecDepth 100000 in
theorem c_X0_countFitting (l : Launch) (D : va_G) (a : Nat → Nat) (c : Nat → ClassId) (S J : St) (hV : V S) : Cs l yX0_countFitting wsX0_countFitting rmX0_countFitting D (tyW c) [.ref (a 3), .ref (a 1), .ref (a 2)] (wC a c S J) (nI (nAlw S)) (wC a c S J) := by
  refine Ci.of (lv0 := [(0, .ref (a 3)), (1, .ref (a 1)), (2, .ref (a 2))]) (by decide +kernel) rfl (Nat.le_of_ble_eq_true rfl) rfl (fun G K hret => ?_)
  have hdk := V_decks hV
  refine r_iconst K (nI 0) dX0_countFitting_0 (by decide) ?_
  refine r_istore_n (lv' := [(0, .ref (a 3)), (1, .ref (a 1)), (2, .ref (a 2)), (3, .int (nI 0))]) K dX0_countFitting_1 (by decide) rfl ?_
  refine r_iconst K (nI 0) dX0_countFitting_2 (by decide) ?_
  refine r_istore (lv' := [(0, .ref (a 3)), (1, .ref (a 1)), (2, .ref (a 2)), (3, .int (nI 0)), (4, .int (nI 0))]) K dX0_countFitting_3 (by decide) rfl ?_
  have L1 : ∀ (z : Nat) (i x : Nat), S 3 0 < i + z → i ≤ S 3 0 → x = cnt (alw S) i → G 0 0 (wC a c S J) [(0, .ref (a 3)), (1, .ref (a 1)), (2, .ref (a 2)), (3, .int (nI x)), (4, .int (nI i))] 5 [] := by
    intro z
    induction z with
    | zero => intro i x hz hi hx; exact absurd hz (by omega)
    | succ z ih =>
      intro i x hz hi hx
      refine r_iload K dX0_countFitting_5 rfl ?_
      refine r_aload_n K dX0_countFitting_7 rfl ?_
      refine r_get K hin_X0_countFitting_0 3 (wC_g3 _ _ _ _) rfl 3 (by decide) (List.mem_of_getElem? (i := 1) rfl) rfl dX0_countFitting_8 ?_
      have hf2 := V_b hV 3 0
      refine r_ic_ge K 34 dX0_countFitting_11 (by decide) (by omega) (by omega) (fun h3 => ?_) (fun h3 => ?_)
      ·
        refine r_iload_n K dX0_countFitting_34 rfl ?_
        exact hret 0 0 _ _ _ (nI x) () dX0_countFitting_35 (by rw [hx, show i = S 3 0 by omega]; rfl) rfl (Nat.le_of_ble_eq_true rfl) (Nat.le_of_ble_eq_true rfl)
      ·
        refine r_aload_n K dX0_countFitting_14 rfl ?_
        refine r_iload K dX0_countFitting_15 rfl ?_
        refine r_aload_n K dX0_countFitting_17 rfl ?_
        refine r_aload_n K dX0_countFitting_18 rfl ?_
        refine r_callVs (rest := []) K (c_X0_fitsFormat l D a c S J hV i (by omega)) 3 gX0_countFitting_X0_fitsFormat rfl (by decide +kernel) rfl (by decide) 3 (wC_g3 _ _ _ _) rfl rfl (Nat.le_of_ble_eq_true rfl) dX0_countFitting_19 rfl rfl ?_
        refine r_if_eqB K 28 dX0_countFitting_22 (by decide) (fun h4 => ?_) (fun h4 => ?_)
        ·
          refine r_iinc (lv' := [(0, .ref (a 3)), (1, .ref (a 1)), (2, .ref (a 2)), (3, .int (nI x)), (4, .int (nI (i + 1)))]) K dX0_countFitting_28 rfl (nI_1 _) (by decide) rfl ?_
          refine r_goto K 5 dX0_countFitting_31 (by decide) ?_
          exact ih (i + 1) x (by omega) (by omega) (by rw [cnt_n h4, hx])
        ·
          refine r_iinc (lv' := [(0, .ref (a 3)), (1, .ref (a 1)), (2, .ref (a 2)), (3, .int (nI (x + 1))), (4, .int (nI i))]) K dX0_countFitting_25 rfl (nI_1 _) (by decide) rfl ?_
          refine r_iinc (lv' := [(0, .ref (a 3)), (1, .ref (a 1)), (2, .ref (a 2)), (3, .int (nI (x + 1))), (4, .int (nI (i + 1)))]) K dX0_countFitting_28 rfl (nI_1 _) (by decide) rfl ?_
          refine r_goto K 5 dX0_countFitting_31 (by decide) ?_
          exact ih (i + 1) (x + 1) (by omega) (by omega) (by rw [cnt_y h4, hx])
  exact L1 (S 3 0 + 1) 0 0 (by omega) (by omega) rfl
end
section
section SPEC3
def hasB (S : St) (q k : Nat) : Nat → Bool := fun p => decide (S 17 p = q) && decide (S 15 p = k)
def hasN (S : St) (q k : Nat) : Nat := cnt (hasB S q k) (S 2 0)
theorem hasB_1 {S : St} {q k p : Nat} (h : S 17 p ≠ q) : hasB S q k p = false := by unfold hasB; rw [decide_eq_false h]; rfl
theorem hasB_2 {S : St} {q k p : Nat} (h : S 15 p ≠ k) : hasB S q k p = false := by unfold hasB; rw [decide_eq_false h, Bool.and_false]
theorem hasB_y {S : St} {q k p : Nat} (h1 : S 17 p = q) (h2 : S 15 p = k) : hasB S q k p = true := by unfold hasB; rw [decide_eq_true h1, decide_eq_true h2]; rfl
def nxt (s : Nat) : Nat := (s * 1103515245 + 12345) % 2147483648
/-- the exchanges of a shuffle, from the place i down; nx the next drawn number, dr the place drawn -/
def shG (nx : Nat → Nat) (dr : Nat → Nat → Nat) : Nat → (Nat → Nat) → Nat → (Nat → Nat)
  | 0, row, _ => row
  | i + 1, row, s => shG nx dr i (upf (upf row (i + 1) (row (dr (nx s) i))) (dr (nx s) i) (row (i + 1))) (nx s)
/-- the same in a row that begins at o -/
def shP (o : Nat) (nx : Nat → Nat) (dr : Nat → Nat → Nat) : Nat → (Nat → Nat) → Nat → (Nat → Nat)
  | 0, row, _ => row
  | i + 1, row, s => shP o nx dr i (upf (upf row (o + (i + 1)) (row (o + dr (nx s) i))) (o + dr (nx s) i) (row (o + (i + 1)))) (nx s)
theorem shG_s (nx : Nat → Nat) (dr : Nat → Nat → Nat) (i : Nat) (row : Nat → Nat) (s : Nat) : shG nx dr (i + 1) row s = shG nx dr i (upf (upf row (i + 1) (row (dr (nx s) i))) (dr (nx s) i) (row (i + 1))) (nx s) := rfl
theorem shP_s (o : Nat) (nx : Nat → Nat) (dr : Nat → Nat → Nat) (i : Nat) (row : Nat → Nat) (s : Nat) : shP o nx dr (i + 1) row s = shP o nx dr i (upf (upf row (o + (i + 1)) (row (o + dr (nx s) i))) (o + dr (nx s) i) (row (o + (i + 1)))) (nx s) := rfl
theorem upf_eq {g : Nat → Nat} {k v j : Nat} : upf g k v j = if j = k then v else g j := rfl
theorem shP_agree {n o : Nat} {nx : Nat → Nat} {dr : Nat → Nat → Nat} (hd : ∀ s i, dr s i < i + 1 + 1) : ∀ (i : Nat) {r1 r2 : Nat → Nat} (s : Nat), i < n → (∀ p, p < n → r1 p = r2 (o + p)) → ∀ p, p < n → shG nx dr i r1 s p = shP o nx dr i r2 s (o + p)
  | 0, r1, r2, s, hi, h, p, hp => h p hp
  | i + 1, r1, r2, s, hi, h, p, hp => by
    rw [shG_s, shP_s]
    have hj := hd (nx s) i
    generalize dr (nx s) i = j at hj ⊢
    refine shP_agree hd i (nx s) (by omega) (fun q hq => ?_) p hp
    rw [upf_eq, upf_eq, upf_eq, upf_eq, h (i + 1) hi, h j (by omega), h q hq]
    by_cases e1 : q = j
    · rw [if_pos e1, if_pos (show o + q = o + j by omega)]
    · rw [if_neg e1, if_neg (show ¬ o + q = o + j by omega)]
      by_cases e2 : q = i + 1
      · rw [if_pos e2, if_pos (show o + q = o + (i + 1) by omega)]
      · rw [if_neg e2, if_neg (show ¬ o + q = o + (i + 1) by omega)]
theorem shG_agree {n : Nat} {nx : Nat → Nat} {dr : Nat → Nat → Nat} (hd : ∀ s i, dr s i < i + 1 + 1) : ∀ (i : Nat) {r1 r2 : Nat → Nat} (s : Nat), i < n → (∀ p, p < n → r1 p = r2 p) → ∀ p, p < n → shG nx dr i r1 s p = shG nx dr i r2 s p
  | 0, r1, r2, s, hi, h, p, hp => h p hp
  | i + 1, r1, r2, s, hi, h, p, hp => by
    rw [shG_s, shG_s]
    have hj := hd (nx s) i
    generalize dr (nx s) i = j at hj ⊢
    refine shG_agree hd i (nx s) (by omega) (fun q hq => ?_) p hp
    rw [upf_eq, upf_eq, upf_eq, upf_eq, h (i + 1) hi, h j (by omega), h q hq]
theorem shG_lt {N : Nat} {nx : Nat → Nat} {dr : Nat → Nat → Nat} : ∀ (i : Nat) {r : Nat → Nat} (s : Nat), (∀ p, r p < N) → ∀ p, shG nx dr i r s p < N
  | 0, r, s, h, p => h p
  | i + 1, r, s, h, p => by
    rw [shG_s]
    refine shG_lt i (nx s) (fun q => ?_) p
    rw [upf_eq, upf_eq]
    by_cases e1 : q = dr (nx s) i
    · rw [if_pos e1]; exact h _
    · rw [if_neg e1]
      by_cases e2 : q = i + 1
      · rw [if_pos e2]; exact h _
      · rw [if_neg e2]; exact h _
def drw (s i : Nat) : Nat := s / 65536 % (i + 1 + 1)
theorem drw_lt (s i : Nat) : drw s i < i + 1 + 1 := Nat.mod_lt _ (by omega)
abbrev sh0 : Nat → (Nat → Nat) → Nat → (Nat → Nat) := shG nxt drw
abbrev shO (o : Nat) : Nat → (Nat → Nat) → Nat → (Nat → Nat) := shP o nxt drw
/-- deck d, shuffled by the seed s -/
def shuf (S : St) (d s : Nat) : Nat → Nat := sh0 (S 19 d - 1) (S (30 + d)) s
theorem shuf_lt {S : St} (hV : V S) {d : Nat} (hd : d < 12) (s p : Nat) : shuf S d s p < 80 := shG_lt _ _ (fun q => V_card hV d q hd) p
/-- what a shuffle leaves in the row Q -/
def shPost (S J : St) (d s Q : Nat) (J1 : St) : Prop := (∀ g, g ≠ Q → J1 g = J g) ∧ ∀ p, p < S 19 d → J1 Q p = shuf S d s p
theorem nxt_def (s : Nat) : nxt s = (s * 1103515245 + 12345) % 2147483648 := rfl
theorem drw_def (s i : Nat) : drw s i = s / 65536 % (i + 1 + 1) := rfl
theorem sh0_up {J : St} {Q i j t t1 : Nat} (h1 : t1 = (t * 1103515245 + 12345) % 2147483648) (hj : j = t1 / 65536 % (i + 1 + 1)) : sh0 i (up (up J Q (i + 1) (J Q j)) Q j (J Q (i + 1)) Q) t1 = sh0 (i + 1) (J Q) t := by
  show shG nxt drw i _ t1 = shG nxt drw (i + 1) (J Q) t
  rw [shG_s, nxt_def, ← h1, drw_def, ← hj, up_f, up_f]
theorem cp_step {J : St} {Q i : Nat} {f : Nat → Nat} (h : ∀ p, p < i → J Q p = f p) : ∀ p, p < i + 1 → up J Q i (f i) Q p = f p := by
  intro p hp
  rw [up_f, upf_eq]
  by_cases e : p = i
  · rw [if_pos e, e]
  · rw [if_neg e]
    exact h p (by omega)
theorem dec_nI {i : Nat} : nI (i + 1) + Int32.ofInt (-1) = nI i := pk_m1 i
def ptsN (p : Nat) (won : Bool) (t o : Nat) : Nat := if won then (if o ≠ 3 ∧ t = 1 then p + 1 + 1 else p + 1) else p
def ahdN (won : Bool) (t o : Nat) : Nat := if won then 0 else (if o ≠ 3 ∧ t = 2 then 2 else 0)
def sidePost (J : St) (X : Nat) (won : Bool) (t o : Nat) (J1 : St) : Prop := (∀ g, g ≠ X → J1 g = J g) ∧ J1 X 0 = ptsN (J X 0) won t o ∧ J1 X 1 = ahdN won t o
def startPost (S J : St) (d s X Q : Nat) (J1 : St) : Prop := (∀ g, g ≠ X → g ≠ Q → J1 g = J g) ∧ (∀ p, p < S 19 d → J1 Q p = shuf S d s p) ∧ J1 X 0 = 0 ∧ J1 X 1 = 0
end SPEC3
end
section
def rmX4_append : Room := { frames := 0, cells := 0, slots := 0, locals := 0 }
theorem hin_X4_append_4 : ∀ w ∈ wsX40, w ∈ wsX4_append := fun _ h => List.mem_cons_of_mem _ (List.mem_append_right _ h)
set_option maxHeartbeats 4000000 in
set_option maxRecDepth 100000 in
theorem c_X4_append (l : Launch) (D : va_G) (a : Nat → Nat) (c : Nat → ClassId) (S J : St) (hV : V S) (k v q : Nat) (hc : S 2 0 < 80) : Cs l yX4_append wsX4_append rmX4_append D (tyW c) [.ref (a 2), .int (nI k), .int (nI v), .int (nI q)] (wC a c S J) (nI (S 2 0)) (wC a c (up (up (up (up S 15 (S 2 0) k) 16 (S 2 0) v) 17 (S 2 0) q) 2 0 (S 2 0 + 1)) J) := by
  refine Ci.of (lv0 := [(0, .ref (a 2)), (1, .int (nI k)), (2, .int (nI v)), (3, .int (nI q))]) (by decide +kernel) rfl (Nat.le_of_ble_eq_true rfl) rfl (fun G K hret => ?_)
  refine r_aload_n K dX4_append_0 rfl ?_
  refine r_get K hin_X4_append_4 2 (wC_g2 _ _ _ _) rfl 3 (by decide) (List.mem_of_getElem? (i := 1) rfl) rfl dX4_append_1 ?_
  have hf1 := V_b hV 2 0
  refine r_istore (lv' := [(0, .ref (a 2)), (1, .int (nI k)), (2, .int (nI v)), (3, .int (nI q)), (4, .int (nI (S 2 0)))]) K dX4_append_4 (by decide) rfl ?_
  refine r_aload_n K dX4_append_6 rfl ?_
  refine r_get K hin_X4_append_4 2 (wC_g2 _ _ _ _) rfl 0 (by decide) (List.mem_of_getElem? (i := 2) rfl) rfl dX4_append_7 ?_
  refine r_iload K dX4_append_10 rfl ?_
  refine r_iload_n K dX4_append_12 rfl ?_
  refine r_iast K 15 0 (wC_g15 _ _ _ _) rfl (by omega) (by decide) dX4_append_13 (wC_s15 _ _ _ _ _ _) ?_
  refine r_aload_n K dX4_append_14 rfl ?_
  refine r_get K hin_X4_append_4 2 (wC_g2 _ _ _ _) rfl 1 (by decide) (List.mem_of_getElem? (i := 3) rfl) rfl dX4_append_15 ?_
  refine r_iload K dX4_append_18 rfl ?_
  refine r_iload_n K dX4_append_20 rfl ?_
  refine r_iast K 16 0 (wC_g16 _ _ _ _) rfl (by omega) (by decide) dX4_append_21 (wC_s16 _ _ _ _ _ _) ?_
  refine r_aload_n K dX4_append_22 rfl ?_
  refine r_get K hin_X4_append_4 2 (wC_g2 _ _ _ _) rfl 2 (by decide) (List.mem_of_getElem? (i := 4) rfl) rfl dX4_append_23 ?_
  refine r_iload K dX4_append_26 rfl ?_
  refine r_iload_n K dX4_append_28 rfl ?_
  refine r_iast K 17 0 (wC_g17 _ _ _ _) rfl (by omega) (by decide) dX4_append_29 (wC_s17 _ _ _ _ _ _) ?_
  refine r_aload_n K dX4_append_30 rfl ?_
  refine r_dup K dX4_append_31 rfl ?_
  refine r_get K hin_X4_append_4 2 (wC_g2 _ _ _ _) rfl 3 (by decide) (List.mem_of_getElem? (i := 1) rfl) rfl dX4_append_32 ?_
  refine r_top (congrArg nI (congrFun (up_ne (by decide)) _)) ?_
  refine r_top (congrArg nI (congrFun (up_ne (by decide)) _)) ?_
  refine r_top (congrArg nI (congrFun (up_ne (by decide)) _)) ?_
  refine r_iconst K (nI 1) dX4_append_35 (by decide) ?_
  refine r_iadd K dX4_append_36 ?_
  refine r_put K hin_X4_append_4 tyX4 tyX4_ok nmX4 2 (wC_g2 _ _ _ _) rfl 3 (by decide) (List.mem_of_getElem? (i := 1) rfl) rfl rfl rfl (Nat.le_of_ble_eq_true rfl) dX4_append_37 (wC_s2_3 _ _ _ _ _) ?_
  refine r_iload K dX4_append_40 rfl ?_
  exact hret 0 0 _ _ _ (nI (S 2 0)) () dX4_append_42 rfl rfl (Nat.le_of_ble_eq_true rfl) (Nat.le_of_ble_eq_true rfl)

def rmX4_countOf : Room := { frames := 0, cells := 0, slots := 0, locals := 0 }
theorem hin_X4_countOf_4 : ∀ w ∈ wsX40, w ∈ wsX4_countOf := fun _ h => List.mem_cons_of_mem _ (List.mem_append_right _ h)
set_option maxHeartbeats 4000000 in
set_option maxRecDepth 100000 in
theorem c_X4_countOf (l : Launch) (D : va_G) (a : Nat → Nat) (c : Nat → ClassId) (S J : St) (hV : V S) (q k : Nat) (hq : q < 1000000) (hk : k < 1000000) : Cs l yX4_countOf wsX4_countOf rmX4_countOf D (tyW c) [.ref (a 2), .int (nI q), .int (nI k)] (wC a c S J) (nI (hasN S q k)) (wC a c S J) := by
  refine Ci.of (lv0 := [(0, .ref (a 2)), (1, .int (nI q)), (2, .int (nI k))]) (by decide +kernel) rfl (Nat.le_of_ble_eq_true rfl) rfl (fun G K hret => ?_)
  have hcd := V_cards hV
  refine r_iconst K (nI 0) dX4_countOf_0 (by decide) ?_
  refine r_istore_n (lv' := [(0, .ref (a 2)), (1, .int (nI q)), (2, .int (nI k)), (3, .int (nI 0))]) K dX4_countOf_1 (by decide) rfl ?_
  refine r_iconst K (nI 0) dX4_countOf_2 (by decide) ?_
  refine r_istore (lv' := [(0, .ref (a 2)), (1, .int (nI q)), (2, .int (nI k)), (3, .int (nI 0)), (4, .int (nI 0))]) K dX4_countOf_3 (by decide) rfl ?_
  have L1 : ∀ (z : Nat) (i x : Nat), S 2 0 < i + z → (i ≤ S 2 0) → (x = cnt (hasB S q k) i) → G 0 0 (wC a c S J) [(0, .ref (a 2)), (1, .int (nI q)), (2, .int (nI k)), (3, .int (nI x)), (4, .int (nI i))] 5 [] := by
    intro z
    induction z with
    | zero => intro i x hz hi hx; exact absurd hz (by omega)
    | succ z ih =>
      intro i x hz hi hx
      refine r_iload K dX4_countOf_5 rfl ?_
      refine r_aload_n K dX4_countOf_7 rfl ?_
      refine r_get K hin_X4_countOf_4 2 (wC_g2 _ _ _ _) rfl 3 (by decide) (List.mem_of_getElem? (i := 1) rfl) rfl dX4_countOf_8 ?_
      have hf2 := V_b hV 2 0
      refine r_ic_ge K 45 dX4_countOf_11 (by decide) (by omega) (by omega) (fun h3 => ?_) (fun h3 => ?_)
      ·
        refine r_iload_n K dX4_countOf_45 rfl ?_
        exact hret 0 0 _ _ _ (nI x) () dX4_countOf_46 (by rw [hx, show i = S 2 0 by omega]; rfl) rfl (Nat.le_of_ble_eq_true rfl) (Nat.le_of_ble_eq_true rfl)
      ·
        refine r_aload_n K dX4_countOf_14 rfl ?_
        refine r_get K hin_X4_countOf_4 2 (wC_g2 _ _ _ _) rfl 2 (by decide) (List.mem_of_getElem? (i := 2) rfl) rfl dX4_countOf_15 ?_
        refine r_iload K dX4_countOf_18 rfl ?_
        refine r_iald K 17 0 (wC_g17 _ _ _ _) rfl (by omega) (by decide) dX4_countOf_20 ?_
        have hf4 := V_b hV 17 i
        refine r_iload_n K dX4_countOf_21 rfl ?_
        refine r_ic_ne K 39 dX4_countOf_22 (by decide) (by omega) (by omega) (fun h5 => ?_) (fun h5 => ?_)
        ·
          refine r_iinc (lv' := [(0, .ref (a 2)), (1, .int (nI q)), (2, .int (nI k)), (3, .int (nI x)), (4, .int (nI (i + 1)))]) K dX4_countOf_39 rfl (nI_1 _) (by decide) rfl ?_
          refine r_goto K 5 dX4_countOf_42 (by decide) ?_
          exact ih (i + 1) x (by omega) (by omega) (by rw [cnt_n (hasB_1 h5), hx])
        ·
          refine r_aload_n K dX4_countOf_25 rfl ?_
          refine r_get K hin_X4_countOf_4 2 (wC_g2 _ _ _ _) rfl 0 (by decide) (List.mem_of_getElem? (i := 3) rfl) rfl dX4_countOf_26 ?_
          refine r_iload K dX4_countOf_29 rfl ?_
          refine r_iald K 15 0 (wC_g15 _ _ _ _) rfl (by omega) (by decide) dX4_countOf_31 ?_
          have hf6 := V_kind hV i
          refine r_iload_n K dX4_countOf_32 rfl ?_
          refine r_ic_ne K 39 dX4_countOf_33 (by decide) (by omega) (by omega) (fun h7 => ?_) (fun h7 => ?_)
          ·
            refine r_iinc (lv' := [(0, .ref (a 2)), (1, .int (nI q)), (2, .int (nI k)), (3, .int (nI x)), (4, .int (nI (i + 1)))]) K dX4_countOf_39 rfl (nI_1 _) (by decide) rfl ?_
            refine r_goto K 5 dX4_countOf_42 (by decide) ?_
            exact ih (i + 1) x (by omega) (by omega) (by rw [cnt_n (hasB_2 h7), hx])
          ·
            refine r_iinc (lv' := [(0, .ref (a 2)), (1, .int (nI q)), (2, .int (nI k)), (3, .int (nI (x + 1))), (4, .int (nI i))]) K dX4_countOf_36 rfl (nI_1 _) (by decide) rfl ?_
            refine r_iinc (lv' := [(0, .ref (a 2)), (1, .int (nI q)), (2, .int (nI k)), (3, .int (nI (x + 1))), (4, .int (nI (i + 1)))]) K dX4_countOf_39 rfl (nI_1 _) (by decide) rfl ?_
            refine r_goto K 5 dX4_countOf_42 (by decide) ?_
            exact ih (i + 1) (x + 1) (by omega) (by omega) (by rw [cnt_y (hasB_y h5 h7), hx])
  exact L1 (S 2 0 + 1) 0 0 (by omega) (by omega) rfl

def rmX3_shuffle : Room := { frames := 0, cells := 0, slots := 0, locals := 0 }
theorem hin_X3_shuffle_0 : ∀ w ∈ wsX00, w ∈ wsX3_shuffle := fun _ h => List.mem_cons_of_mem _ (List.mem_append_left _ (List.mem_append_right _ h))
theorem hin_X3_shuffle_3 : ∀ w ∈ wsX30, w ∈ wsX3_shuffle := fun _ h => List.mem_cons_of_mem _ (List.mem_append_right _ h)
set_option maxHeartbeats 4000000 in
set_option maxRecDepth 100000 in
theorem c_X3_shuffle_5 (l : Launch) (D : va_G) (a : Nat → Nat) (c : Nat → ClassId) (S J : St) (hV : V S) (d s : Nat) (hd : d < 12) (hn : 1 ≤ S 19 d) (hs : s < 2147483648) : Cv l yX3_shuffle wsX3_shuffle rmX3_shuffle D (tyW c) [.ref (a 5), .ref (a 3), .int (nI d), .int (nI s)] (wC a c S J) (fun J1 : St => shPost S J d s 27 J1) (fun J1 => wC a c S J1) := by
  refine Cv.of (lv0 := [(0, .ref (a 5)), (1, .ref (a 3)), (2, .int (nI d)), (3, .int (nI s))]) (by decide +kernel) rfl (Nat.le_of_ble_eq_true rfl) rfl (fun G K hret => ?_)
  have hsz := V_size hV d
  refine r_aload_n K dX3_shuffle_0 rfl ?_
  refine r_get K hin_X3_shuffle_0 3 (wC_g3 _ _ _ _) rfl 1 (by decide) (List.mem_of_getElem? (i := 1) rfl) rfl dX3_shuffle_1 ?_
  refine r_iload_n K dX3_shuffle_4 rfl ?_
  refine r_iald K 19 0 (wC_g19 _ _ _ _) rfl (by omega) (by decide) dX3_shuffle_5 ?_
  have hf1 := V_size hV d
  refine r_istore (lv' := [(0, .ref (a 5)), (1, .ref (a 3)), (2, .int (nI d)), (3, .int (nI s)), (4, .int (nI (S 19 d)))]) K dX3_shuffle_6 (by decide) rfl ?_
  refine r_iconst K (nI 0) dX3_shuffle_8 (by decide) ?_
  refine r_istore (lv' := [(0, .ref (a 5)), (1, .ref (a 3)), (2, .int (nI d)), (3, .int (nI s)), (4, .int (nI (S 19 d))), (5, .int (nI 0))]) K dX3_shuffle_9 (by decide) rfl ?_
  have L2 : ∀ (z : Nat) (i : Nat) (Jx : St), S 19 d < i + z → (i ≤ S 19 d) → (∀ g, g ≠ 27 → Jx g = J g) → (∀ p, p < i → Jx 27 p = S (30 + d) p) → G 0 0 (wC a c S Jx) [(0, .ref (a 5)), (1, .ref (a 3)), (2, .int (nI d)), (3, .int (nI s)), (4, .int (nI (S 19 d))), (5, .int (nI i))] 11 [] := by
    intro z
    induction z with
    | zero => intro i Jx hz hi ho hr; exact absurd hz (by omega)
    | succ z ih =>
      intro i Jx hz hi ho hr
      refine r_iload K dX3_shuffle_11 rfl ?_
      refine r_iload K dX3_shuffle_13 rfl ?_
      refine r_ic_ge K 40 dX3_shuffle_15 (by decide) (by omega) (by omega) (fun h3 => ?_) (fun h3 => ?_)
      ·
        have hin : i = S 19 d := by omega
        subst hin
        refine r_iload_n K dX3_shuffle_40 rfl ?_
        refine r_i2l K dX3_shuffle_41 (by omega) ?_
        refine r_lstore (lv' := [(0, .ref (a 5)), (1, .ref (a 3)), (2, .int (nI d)), (3, .int (nI s)), (4, .int (nI (S 19 d))), (5, .long (lN s))]) K dX3_shuffle_42 (by decide) rfl ?_
        refine r_iload K dX3_shuffle_44 rfl ?_
        refine r_iconst K (nI 1) dX3_shuffle_46 (by decide) ?_
        refine r_isub K dX3_shuffle_47 (by omega) ?_
        refine r_istore (lv' := [(0, .ref (a 5)), (1, .ref (a 3)), (2, .int (nI d)), (3, .int (nI s)), (4, .int (nI (S 19 d))), (5, .long (lN s)), (7, .int (nI (S 19 d - 1)))]) K dX3_shuffle_48 (by decide) rfl ?_
        have M4 : ∀ (z2 : Nat) (i t : Nat) (Jy : St), i < z2 → (i ≤ S 19 d - 1) → (t < 2147483648) → (∀ g, g ≠ 27 → Jy g = J g) → (sh0 i (Jy 27) t = (sh0 (S 19 d - 1) (Jx 27) s)) → G 0 0 (wC a c S Jy) [(0, .ref (a 5)), (1, .ref (a 3)), (2, .int (nI d)), (3, .int (nI s)), (4, .int (nI (S 19 d))), (5, .long (lN t)), (7, .int (nI i))] 50 [] := by
          intro z2
          induction z2 with
          | zero => intro i t Jy hz hi ht ho2 hR; exact absurd hz (by omega)
          | succ z2 ih =>
            intro i t Jy hz hi ht ho2 hR
            refine r_iload K dX3_shuffle_50 rfl ?_
            refine r_iconst K (nI 1) dX3_shuffle_52 (by decide) ?_
            refine r_ic_lt K 125 dX3_shuffle_53 (by decide) (by omega) (by decide) (fun h5 => ?_) (fun h5 => ?_)
            ·
              obtain rfl : i = 0 := by omega
              exact hret 0 0 _ _ _ Jy dX3_shuffle_125 ⟨ho2, fun p hp => by rw [show Jy 27 = _ from hR]; exact shG_agree drw_lt _ _ (by omega) hr p hp⟩ rfl (Nat.le_of_ble_eq_true rfl) (Nat.le_of_ble_eq_true rfl)
            ·
              obtain ⟨i, rfl⟩ : ∃ j, i = j + 1 := ⟨i - 1, by omega⟩
              refine r_lload K dX3_shuffle_56 rfl ?_
              refine r_ldc2 K (v := lN 1103515245) (List.mem_of_getElem? (i := 4) rfl) dX3_shuffle_58 ?_
              refine r_lmul K dX3_shuffle_61 ?_
              refine r_ldc2 K (v := lN 12345) (List.mem_of_getElem? (i := 5) rfl) dX3_shuffle_62 ?_
              refine r_ladd K dX3_shuffle_65 ?_
              refine r_ldc2 K (v := lN 2147483648) (List.mem_of_getElem? (i := 6) rfl) dX3_shuffle_66 ?_
              refine r_lrem K dX3_shuffle_69 (by omega) (by omega) (by omega) ?_
              obtain ⟨t1, ht1e⟩ : ∃ y, y = (((t * 1103515245) + 12345) % 2147483648) := ⟨_, rfl⟩
              have ht1 : t1 < 2147483648 := by rw [ht1e]; exact Nat.mod_lt _ (by decide)
              refine r_topL (congrArg lN ht1e.symm) ?_
              refine r_lstore (lv' := [(0, .ref (a 5)), (1, .ref (a 3)), (2, .int (nI d)), (3, .int (nI s)), (4, .int (nI (S 19 d))), (5, .long (lN t1)), (7, .int (nI (i + 1)))]) K dX3_shuffle_70 (by decide) rfl ?_
              refine r_lload K dX3_shuffle_72 rfl ?_
              refine r_ldc2 K (v := lN 65536) (List.mem_of_getElem? (i := 7) rfl) dX3_shuffle_74 ?_
              refine r_ldiv K dX3_shuffle_77 (by omega) (by omega) (by omega) ?_
              refine r_iload K dX3_shuffle_78 rfl ?_
              refine r_iconst K (nI 1) dX3_shuffle_80 (by decide) ?_
              refine r_iadd K dX3_shuffle_81 ?_
              refine r_i2l K dX3_shuffle_82 (by omega) ?_
              refine r_lrem K dX3_shuffle_83 (by omega) (by omega) (by omega) ?_
              refine r_l2i K dX3_shuffle_84 ?_
              obtain ⟨j, hj⟩ : ∃ y, y = ((t1 / 65536) % ((i + 1) + 1)) := ⟨_, rfl⟩
              have hjl : j < i + 1 + 1 := by rw [hj]; exact Nat.mod_lt _ (by omega)
              refine r_top (congrArg nI hj.symm) ?_
              refine r_istore (lv' := [(0, .ref (a 5)), (1, .ref (a 3)), (2, .int (nI d)), (3, .int (nI s)), (4, .int (nI (S 19 d))), (5, .long (lN t1)), (7, .int (nI (i + 1))), (8, .int (nI j))]) K dX3_shuffle_85 (by decide) rfl ?_
              refine r_aload_n K dX3_shuffle_87 rfl ?_
              refine r_get K hin_X3_shuffle_3 5 (wC_g5 _ _ _ _) rfl 0 (by decide) (List.mem_of_getElem? (i := 2) rfl) rfl dX3_shuffle_88 ?_
              refine r_iload K dX3_shuffle_91 rfl ?_
              refine r_iald K 27 0 (wC_g27 _ _ _ _) rfl (by omega) (by decide) dX3_shuffle_93 ?_
              refine r_istore (lv' := [(0, .ref (a 5)), (1, .ref (a 3)), (2, .int (nI d)), (3, .int (nI s)), (4, .int (nI (S 19 d))), (5, .long (lN t1)), (7, .int (nI (i + 1))), (8, .int (nI j)), (9, .int (nI (Jy 27 (i + 1))))]) K dX3_shuffle_94 (by decide) rfl ?_
              refine r_aload_n K dX3_shuffle_96 rfl ?_
              refine r_get K hin_X3_shuffle_3 5 (wC_g5 _ _ _ _) rfl 0 (by decide) (List.mem_of_getElem? (i := 2) rfl) rfl dX3_shuffle_97 ?_
              refine r_iload K dX3_shuffle_100 rfl ?_
              refine r_aload_n K dX3_shuffle_102 rfl ?_
              refine r_get K hin_X3_shuffle_3 5 (wC_g5 _ _ _ _) rfl 0 (by decide) (List.mem_of_getElem? (i := 2) rfl) rfl dX3_shuffle_103 ?_
              refine r_iload K dX3_shuffle_106 rfl ?_
              refine r_iald K 27 0 (wC_g27 _ _ _ _) rfl (by omega) (by decide) dX3_shuffle_108 ?_
              refine r_iast K 27 0 (wC_g27 _ _ _ _) rfl (by omega) (by decide) dX3_shuffle_109 (wC_s27 _ _ _ _ _ _) ?_
              refine r_aload_n K dX3_shuffle_110 rfl ?_
              refine r_get K hin_X3_shuffle_3 5 (wC_g5 _ _ _ _) rfl 0 (by decide) (List.mem_of_getElem? (i := 2) rfl) rfl dX3_shuffle_111 ?_
              refine r_iload K dX3_shuffle_114 rfl ?_
              refine r_iload K dX3_shuffle_116 rfl ?_
              refine r_iast K 27 0 (wC_g27 _ _ _ _) rfl (by omega) (by decide) dX3_shuffle_118 (wC_s27 _ _ _ _ _ _) ?_
              refine r_iinc (lv' := [(0, .ref (a 5)), (1, .ref (a 3)), (2, .int (nI d)), (3, .int (nI s)), (4, .int (nI (S 19 d))), (5, .long (lN t1)), (7, .int (nI i)), (8, .int (nI j)), (9, .int (nI (Jy 27 (i + 1))))]) K dX3_shuffle_119 rfl dec_nI (by decide) rfl ?_
              refine r_goto K 50 dX3_shuffle_122 (by decide) ?_
              refine r_pick [0, 1, 2, 3, 4, 5, 6] K rfl ?_
              exact ih i t1 _ (by omega) (by omega) ht1 (fun g hg => (up_ne hg).trans ((up_ne hg).trans (ho2 g hg))) ((sh0_up ht1e hj).trans hR)
        exact M4 (S 19 d) (S 19 d - 1) s Jx (by omega) (Nat.le_refl _) hs ho rfl
      ·
        refine r_aload_n K dX3_shuffle_18 rfl ?_
        refine r_get K hin_X3_shuffle_3 5 (wC_g5 _ _ _ _) rfl 0 (by decide) (List.mem_of_getElem? (i := 2) rfl) rfl dX3_shuffle_19 ?_
        refine r_iload K dX3_shuffle_22 rfl ?_
        refine r_aload_n K dX3_shuffle_24 rfl ?_
        refine r_get K hin_X3_shuffle_0 3 (wC_g3 _ _ _ _) rfl 2 (by decide) (List.mem_of_getElem? (i := 3) rfl) rfl dX3_shuffle_25 ?_
        refine r_iload_n K dX3_shuffle_28 rfl ?_
        refine r_aald2 K 20 2 (wC_g20 _ _ _ _) rfl (by omega) (by decide) (rowsOf_at _ (by omega)) dX3_shuffle_29 ?_
        refine r_iload K dX3_shuffle_30 rfl ?_
        refine r_iald K (30 + d) 0 (wC_row _ _ _ _ (by omega)) rfl (by omega) (by decide) dX3_shuffle_32 ?_
        have hf6 := V_card hV d i (by omega)
        refine r_iast K 27 0 (wC_g27 _ _ _ _) rfl (by omega) (by decide) dX3_shuffle_33 (wC_s27 _ _ _ _ _ _) ?_
        refine r_iinc (lv' := [(0, .ref (a 5)), (1, .ref (a 3)), (2, .int (nI d)), (3, .int (nI s)), (4, .int (nI (S 19 d))), (5, .int (nI (i + 1)))]) K dX3_shuffle_34 rfl (nI_1 _) (by decide) rfl ?_
        refine r_goto K 11 dX3_shuffle_37 (by decide) ?_
        exact ih (i + 1) _ (by omega) (by omega) (fun g hg => (up_ne hg).trans (ho g hg)) (cp_step hr)
  exact L2 (S 19 d + 1) 0 J (by omega) (by omega) (fun _ _ => rfl) (fun p hp => absurd hp (Nat.not_lt_zero p))

set_option maxHeartbeats 4000000 in
set_option maxRecDepth 100000 in
theorem c_X3_shuffle_8 (l : Launch) (D : va_G) (a : Nat → Nat) (c : Nat → ClassId) (S J : St) (hV : V S) (d s : Nat) (hd : d < 12) (hn : 1 ≤ S 19 d) (hs : s < 2147483648) : Cv l yX3_shuffle wsX3_shuffle rmX3_shuffle D (tyW c) [.ref (a 8), .ref (a 3), .int (nI d), .int (nI s)] (wC a c S J) (fun J1 : St => shPost S J d s 28 J1) (fun J1 => wC a c S J1) := by
  refine Cv.of (lv0 := [(0, .ref (a 8)), (1, .ref (a 3)), (2, .int (nI d)), (3, .int (nI s))]) (by decide +kernel) rfl (Nat.le_of_ble_eq_true rfl) rfl (fun G K hret => ?_)
  have hsz := V_size hV d
  refine r_aload_n K dX3_shuffle_0 rfl ?_
  refine r_get K hin_X3_shuffle_0 3 (wC_g3 _ _ _ _) rfl 1 (by decide) (List.mem_of_getElem? (i := 1) rfl) rfl dX3_shuffle_1 ?_
  refine r_iload_n K dX3_shuffle_4 rfl ?_
  refine r_iald K 19 0 (wC_g19 _ _ _ _) rfl (by omega) (by decide) dX3_shuffle_5 ?_
  have hf1 := V_size hV d
  refine r_istore (lv' := [(0, .ref (a 8)), (1, .ref (a 3)), (2, .int (nI d)), (3, .int (nI s)), (4, .int (nI (S 19 d)))]) K dX3_shuffle_6 (by decide) rfl ?_
  refine r_iconst K (nI 0) dX3_shuffle_8 (by decide) ?_
  refine r_istore (lv' := [(0, .ref (a 8)), (1, .ref (a 3)), (2, .int (nI d)), (3, .int (nI s)), (4, .int (nI (S 19 d))), (5, .int (nI 0))]) K dX3_shuffle_9 (by decide) rfl ?_
  have L2 : ∀ (z : Nat) (i : Nat) (Jx : St), S 19 d < i + z → (i ≤ S 19 d) → (∀ g, g ≠ 28 → Jx g = J g) → (∀ p, p < i → Jx 28 p = S (30 + d) p) → G 0 0 (wC a c S Jx) [(0, .ref (a 8)), (1, .ref (a 3)), (2, .int (nI d)), (3, .int (nI s)), (4, .int (nI (S 19 d))), (5, .int (nI i))] 11 [] := by
    intro z
    induction z with
    | zero => intro i Jx hz hi ho hr; exact absurd hz (by omega)
    | succ z ih =>
      intro i Jx hz hi ho hr
      refine r_iload K dX3_shuffle_11 rfl ?_
      refine r_iload K dX3_shuffle_13 rfl ?_
      refine r_ic_ge K 40 dX3_shuffle_15 (by decide) (by omega) (by omega) (fun h3 => ?_) (fun h3 => ?_)
      ·
        have hin : i = S 19 d := by omega
        subst hin
        refine r_iload_n K dX3_shuffle_40 rfl ?_
        refine r_i2l K dX3_shuffle_41 (by omega) ?_
        refine r_lstore (lv' := [(0, .ref (a 8)), (1, .ref (a 3)), (2, .int (nI d)), (3, .int (nI s)), (4, .int (nI (S 19 d))), (5, .long (lN s))]) K dX3_shuffle_42 (by decide) rfl ?_
        refine r_iload K dX3_shuffle_44 rfl ?_
        refine r_iconst K (nI 1) dX3_shuffle_46 (by decide) ?_
        refine r_isub K dX3_shuffle_47 (by omega) ?_
        refine r_istore (lv' := [(0, .ref (a 8)), (1, .ref (a 3)), (2, .int (nI d)), (3, .int (nI s)), (4, .int (nI (S 19 d))), (5, .long (lN s)), (7, .int (nI (S 19 d - 1)))]) K dX3_shuffle_48 (by decide) rfl ?_
        have M4 : ∀ (z2 : Nat) (i t : Nat) (Jy : St), i < z2 → (i ≤ S 19 d - 1) → (t < 2147483648) → (∀ g, g ≠ 28 → Jy g = J g) → (sh0 i (Jy 28) t = (sh0 (S 19 d - 1) (Jx 28) s)) → G 0 0 (wC a c S Jy) [(0, .ref (a 8)), (1, .ref (a 3)), (2, .int (nI d)), (3, .int (nI s)), (4, .int (nI (S 19 d))), (5, .long (lN t)), (7, .int (nI i))] 50 [] := by
          intro z2
          induction z2 with
          | zero => intro i t Jy hz hi ht ho2 hR; exact absurd hz (by omega)
          | succ z2 ih =>
            intro i t Jy hz hi ht ho2 hR
            refine r_iload K dX3_shuffle_50 rfl ?_
            refine r_iconst K (nI 1) dX3_shuffle_52 (by decide) ?_
            refine r_ic_lt K 125 dX3_shuffle_53 (by decide) (by omega) (by decide) (fun h5 => ?_) (fun h5 => ?_)
            ·
              obtain rfl : i = 0 := by omega
              exact hret 0 0 _ _ _ Jy dX3_shuffle_125 ⟨ho2, fun p hp => by rw [show Jy 28 = _ from hR]; exact shG_agree drw_lt _ _ (by omega) hr p hp⟩ rfl (Nat.le_of_ble_eq_true rfl) (Nat.le_of_ble_eq_true rfl)
            ·
              obtain ⟨i, rfl⟩ : ∃ j, i = j + 1 := ⟨i - 1, by omega⟩
              refine r_lload K dX3_shuffle_56 rfl ?_
              refine r_ldc2 K (v := lN 1103515245) (List.mem_of_getElem? (i := 4) rfl) dX3_shuffle_58 ?_
              refine r_lmul K dX3_shuffle_61 ?_
              refine r_ldc2 K (v := lN 12345) (List.mem_of_getElem? (i := 5) rfl) dX3_shuffle_62 ?_
              refine r_ladd K dX3_shuffle_65 ?_
              refine r_ldc2 K (v := lN 2147483648) (List.mem_of_getElem? (i := 6) rfl) dX3_shuffle_66 ?_
              refine r_lrem K dX3_shuffle_69 (by omega) (by omega) (by omega) ?_
              obtain ⟨t1, ht1e⟩ : ∃ y, y = (((t * 1103515245) + 12345) % 2147483648) := ⟨_, rfl⟩
              have ht1 : t1 < 2147483648 := by rw [ht1e]; exact Nat.mod_lt _ (by decide)
              refine r_topL (congrArg lN ht1e.symm) ?_
              refine r_lstore (lv' := [(0, .ref (a 8)), (1, .ref (a 3)), (2, .int (nI d)), (3, .int (nI s)), (4, .int (nI (S 19 d))), (5, .long (lN t1)), (7, .int (nI (i + 1)))]) K dX3_shuffle_70 (by decide) rfl ?_
              refine r_lload K dX3_shuffle_72 rfl ?_
              refine r_ldc2 K (v := lN 65536) (List.mem_of_getElem? (i := 7) rfl) dX3_shuffle_74 ?_
              refine r_ldiv K dX3_shuffle_77 (by omega) (by omega) (by omega) ?_
              refine r_iload K dX3_shuffle_78 rfl ?_
              refine r_iconst K (nI 1) dX3_shuffle_80 (by decide) ?_
              refine r_iadd K dX3_shuffle_81 ?_
              refine r_i2l K dX3_shuffle_82 (by omega) ?_
              refine r_lrem K dX3_shuffle_83 (by omega) (by omega) (by omega) ?_
              refine r_l2i K dX3_shuffle_84 ?_
              obtain ⟨j, hj⟩ : ∃ y, y = ((t1 / 65536) % ((i + 1) + 1)) := ⟨_, rfl⟩
              have hjl : j < i + 1 + 1 := by rw [hj]; exact Nat.mod_lt _ (by omega)
              refine r_top (congrArg nI hj.symm) ?_
              refine r_istore (lv' := [(0, .ref (a 8)), (1, .ref (a 3)), (2, .int (nI d)), (3, .int (nI s)), (4, .int (nI (S 19 d))), (5, .long (lN t1)), (7, .int (nI (i + 1))), (8, .int (nI j))]) K dX3_shuffle_85 (by decide) rfl ?_
              refine r_aload_n K dX3_shuffle_87 rfl ?_
              refine r_get K hin_X3_shuffle_3 8 (wC_g8 _ _ _ _) rfl 0 (by decide) (List.mem_of_getElem? (i := 2) rfl) rfl dX3_shuffle_88 ?_
              refine r_iload K dX3_shuffle_91 rfl ?_
              refine r_iald K 28 0 (wC_g28 _ _ _ _) rfl (by omega) (by decide) dX3_shuffle_93 ?_
              refine r_istore (lv' := [(0, .ref (a 8)), (1, .ref (a 3)), (2, .int (nI d)), (3, .int (nI s)), (4, .int (nI (S 19 d))), (5, .long (lN t1)), (7, .int (nI (i + 1))), (8, .int (nI j)), (9, .int (nI (Jy 28 (i + 1))))]) K dX3_shuffle_94 (by decide) rfl ?_
              refine r_aload_n K dX3_shuffle_96 rfl ?_
              refine r_get K hin_X3_shuffle_3 8 (wC_g8 _ _ _ _) rfl 0 (by decide) (List.mem_of_getElem? (i := 2) rfl) rfl dX3_shuffle_97 ?_
              refine r_iload K dX3_shuffle_100 rfl ?_
              refine r_aload_n K dX3_shuffle_102 rfl ?_
              refine r_get K hin_X3_shuffle_3 8 (wC_g8 _ _ _ _) rfl 0 (by decide) (List.mem_of_getElem? (i := 2) rfl) rfl dX3_shuffle_103 ?_
              refine r_iload K dX3_shuffle_106 rfl ?_
              refine r_iald K 28 0 (wC_g28 _ _ _ _) rfl (by omega) (by decide) dX3_shuffle_108 ?_
              refine r_iast K 28 0 (wC_g28 _ _ _ _) rfl (by omega) (by decide) dX3_shuffle_109 (wC_s28 _ _ _ _ _ _) ?_
              refine r_aload_n K dX3_shuffle_110 rfl ?_
              refine r_get K hin_X3_shuffle_3 8 (wC_g8 _ _ _ _) rfl 0 (by decide) (List.mem_of_getElem? (i := 2) rfl) rfl dX3_shuffle_111 ?_
              refine r_iload K dX3_shuffle_114 rfl ?_
              refine r_iload K dX3_shuffle_116 rfl ?_
              refine r_iast K 28 0 (wC_g28 _ _ _ _) rfl (by omega) (by decide) dX3_shuffle_118 (wC_s28 _ _ _ _ _ _) ?_
              refine r_iinc (lv' := [(0, .ref (a 8)), (1, .ref (a 3)), (2, .int (nI d)), (3, .int (nI s)), (4, .int (nI (S 19 d))), (5, .long (lN t1)), (7, .int (nI i)), (8, .int (nI j)), (9, .int (nI (Jy 28 (i + 1))))]) K dX3_shuffle_119 rfl dec_nI (by decide) rfl ?_
              refine r_goto K 50 dX3_shuffle_122 (by decide) ?_
              refine r_pick [0, 1, 2, 3, 4, 5, 6] K rfl ?_
              exact ih i t1 _ (by omega) (by omega) ht1 (fun g hg => (up_ne hg).trans ((up_ne hg).trans (ho2 g hg))) ((sh0_up ht1e hj).trans hR)
        exact M4 (S 19 d) (S 19 d - 1) s Jx (by omega) (Nat.le_refl _) hs ho rfl
      ·
        refine r_aload_n K dX3_shuffle_18 rfl ?_
        refine r_get K hin_X3_shuffle_3 8 (wC_g8 _ _ _ _) rfl 0 (by decide) (List.mem_of_getElem? (i := 2) rfl) rfl dX3_shuffle_19 ?_
        refine r_iload K dX3_shuffle_22 rfl ?_
        refine r_aload_n K dX3_shuffle_24 rfl ?_
        refine r_get K hin_X3_shuffle_0 3 (wC_g3 _ _ _ _) rfl 2 (by decide) (List.mem_of_getElem? (i := 3) rfl) rfl dX3_shuffle_25 ?_
        refine r_iload_n K dX3_shuffle_28 rfl ?_
        refine r_aald2 K 20 2 (wC_g20 _ _ _ _) rfl (by omega) (by decide) (rowsOf_at _ (by omega)) dX3_shuffle_29 ?_
        refine r_iload K dX3_shuffle_30 rfl ?_
        refine r_iald K (30 + d) 0 (wC_row _ _ _ _ (by omega)) rfl (by omega) (by decide) dX3_shuffle_32 ?_
        have hf6 := V_card hV d i (by omega)
        refine r_iast K 28 0 (wC_g28 _ _ _ _) rfl (by omega) (by decide) dX3_shuffle_33 (wC_s28 _ _ _ _ _ _) ?_
        refine r_iinc (lv' := [(0, .ref (a 8)), (1, .ref (a 3)), (2, .int (nI d)), (3, .int (nI s)), (4, .int (nI (S 19 d))), (5, .int (nI (i + 1)))]) K dX3_shuffle_34 rfl (nI_1 _) (by decide) rfl ?_
        refine r_goto K 11 dX3_shuffle_37 (by decide) ?_
        exact ih (i + 1) _ (by omega) (by omega) (fun g hg => (up_ne hg).trans (ho g hg)) (cp_step hr)
  exact L2 (S 19 d + 1) 0 J (by omega) (by omega) (fun _ _ => rfl) (fun p hp => absurd hp (Nat.not_lt_zero p))

set_option maxHeartbeats 4000000 in
set_option maxRecDepth 100000 in
theorem c_X3_shuffle_9 (l : Launch) (D : va_G) (a : Nat → Nat) (c : Nat → ClassId) (S J : St) (hV : V S) (d s : Nat) (hd : d < 12) (hn : 1 ≤ S 19 d) (hs : s < 2147483648) : Cv l yX3_shuffle wsX3_shuffle rmX3_shuffle D (tyW c) [.ref (a 9), .ref (a 3), .int (nI d), .int (nI s)] (wC a c S J) (fun J1 : St => shPost S J d s 29 J1) (fun J1 => wC a c S J1) := by
  refine Cv.of (lv0 := [(0, .ref (a 9)), (1, .ref (a 3)), (2, .int (nI d)), (3, .int (nI s))]) (by decide +kernel) rfl (Nat.le_of_ble_eq_true rfl) rfl (fun G K hret => ?_)
  have hsz := V_size hV d
  refine r_aload_n K dX3_shuffle_0 rfl ?_
  refine r_get K hin_X3_shuffle_0 3 (wC_g3 _ _ _ _) rfl 1 (by decide) (List.mem_of_getElem? (i := 1) rfl) rfl dX3_shuffle_1 ?_
  refine r_iload_n K dX3_shuffle_4 rfl ?_
  refine r_iald K 19 0 (wC_g19 _ _ _ _) rfl (by omega) (by decide) dX3_shuffle_5 ?_
  have hf1 := V_size hV d
  refine r_istore (lv' := [(0, .ref (a 9)), (1, .ref (a 3)), (2, .int (nI d)), (3, .int (nI s)), (4, .int (nI (S 19 d)))]) K dX3_shuffle_6 (by decide) rfl ?_
  refine r_iconst K (nI 0) dX3_shuffle_8 (by decide) ?_
  refine r_istore (lv' := [(0, .ref (a 9)), (1, .ref (a 3)), (2, .int (nI d)), (3, .int (nI s)), (4, .int (nI (S 19 d))), (5, .int (nI 0))]) K dX3_shuffle_9 (by decide) rfl ?_
  have L2 : ∀ (z : Nat) (i : Nat) (Jx : St), S 19 d < i + z → (i ≤ S 19 d) → (∀ g, g ≠ 29 → Jx g = J g) → (∀ p, p < i → Jx 29 p = S (30 + d) p) → G 0 0 (wC a c S Jx) [(0, .ref (a 9)), (1, .ref (a 3)), (2, .int (nI d)), (3, .int (nI s)), (4, .int (nI (S 19 d))), (5, .int (nI i))] 11 [] := by
    intro z
    induction z with
    | zero => intro i Jx hz hi ho hr; exact absurd hz (by omega)
    | succ z ih =>
      intro i Jx hz hi ho hr
      refine r_iload K dX3_shuffle_11 rfl ?_
      refine r_iload K dX3_shuffle_13 rfl ?_
      refine r_ic_ge K 40 dX3_shuffle_15 (by decide) (by omega) (by omega) (fun h3 => ?_) (fun h3 => ?_)
      ·
        have hin : i = S 19 d := by omega
        subst hin
        refine r_iload_n K dX3_shuffle_40 rfl ?_
        refine r_i2l K dX3_shuffle_41 (by omega) ?_
        refine r_lstore (lv' := [(0, .ref (a 9)), (1, .ref (a 3)), (2, .int (nI d)), (3, .int (nI s)), (4, .int (nI (S 19 d))), (5, .long (lN s))]) K dX3_shuffle_42 (by decide) rfl ?_
        refine r_iload K dX3_shuffle_44 rfl ?_
        refine r_iconst K (nI 1) dX3_shuffle_46 (by decide) ?_
        refine r_isub K dX3_shuffle_47 (by omega) ?_
        refine r_istore (lv' := [(0, .ref (a 9)), (1, .ref (a 3)), (2, .int (nI d)), (3, .int (nI s)), (4, .int (nI (S 19 d))), (5, .long (lN s)), (7, .int (nI (S 19 d - 1)))]) K dX3_shuffle_48 (by decide) rfl ?_
        have M4 : ∀ (z2 : Nat) (i t : Nat) (Jy : St), i < z2 → (i ≤ S 19 d - 1) → (t < 2147483648) → (∀ g, g ≠ 29 → Jy g = J g) → (sh0 i (Jy 29) t = (sh0 (S 19 d - 1) (Jx 29) s)) → G 0 0 (wC a c S Jy) [(0, .ref (a 9)), (1, .ref (a 3)), (2, .int (nI d)), (3, .int (nI s)), (4, .int (nI (S 19 d))), (5, .long (lN t)), (7, .int (nI i))] 50 [] := by
          intro z2
          induction z2 with
          | zero => intro i t Jy hz hi ht ho2 hR; exact absurd hz (by omega)
          | succ z2 ih =>
            intro i t Jy hz hi ht ho2 hR
            refine r_iload K dX3_shuffle_50 rfl ?_
            refine r_iconst K (nI 1) dX3_shuffle_52 (by decide) ?_
            refine r_ic_lt K 125 dX3_shuffle_53 (by decide) (by omega) (by decide) (fun h5 => ?_) (fun h5 => ?_)
            ·
              obtain rfl : i = 0 := by omega
              exact hret 0 0 _ _ _ Jy dX3_shuffle_125 ⟨ho2, fun p hp => by rw [show Jy 29 = _ from hR]; exact shG_agree drw_lt _ _ (by omega) hr p hp⟩ rfl (Nat.le_of_ble_eq_true rfl) (Nat.le_of_ble_eq_true rfl)
            ·
              obtain ⟨i, rfl⟩ : ∃ j, i = j + 1 := ⟨i - 1, by omega⟩
              refine r_lload K dX3_shuffle_56 rfl ?_
              refine r_ldc2 K (v := lN 1103515245) (List.mem_of_getElem? (i := 4) rfl) dX3_shuffle_58 ?_
              refine r_lmul K dX3_shuffle_61 ?_
              refine r_ldc2 K (v := lN 12345) (List.mem_of_getElem? (i := 5) rfl) dX3_shuffle_62 ?_
              refine r_ladd K dX3_shuffle_65 ?_
              refine r_ldc2 K (v := lN 2147483648) (List.mem_of_getElem? (i := 6) rfl) dX3_shuffle_66 ?_
              refine r_lrem K dX3_shuffle_69 (by omega) (by omega) (by omega) ?_
              obtain ⟨t1, ht1e⟩ : ∃ y, y = (((t * 1103515245) + 12345) % 2147483648) := ⟨_, rfl⟩
              have ht1 : t1 < 2147483648 := by rw [ht1e]; exact Nat.mod_lt _ (by decide)
              refine r_topL (congrArg lN ht1e.symm) ?_
              refine r_lstore (lv' := [(0, .ref (a 9)), (1, .ref (a 3)), (2, .int (nI d)), (3, .int (nI s)), (4, .int (nI (S 19 d))), (5, .long (lN t1)), (7, .int (nI (i + 1)))]) K dX3_shuffle_70 (by decide) rfl ?_
              refine r_lload K dX3_shuffle_72 rfl ?_
              refine r_ldc2 K (v := lN 65536) (List.mem_of_getElem? (i := 7) rfl) dX3_shuffle_74 ?_
              refine r_ldiv K dX3_shuffle_77 (by omega) (by omega) (by omega) ?_
              refine r_iload K dX3_shuffle_78 rfl ?_
              refine r_iconst K (nI 1) dX3_shuffle_80 (by decide) ?_
              refine r_iadd K dX3_shuffle_81 ?_
              refine r_i2l K dX3_shuffle_82 (by omega) ?_
              refine r_lrem K dX3_shuffle_83 (by omega) (by omega) (by omega) ?_
              refine r_l2i K dX3_shuffle_84 ?_
              obtain ⟨j, hj⟩ : ∃ y, y = ((t1 / 65536) % ((i + 1) + 1)) := ⟨_, rfl⟩
              have hjl : j < i + 1 + 1 := by rw [hj]; exact Nat.mod_lt _ (by omega)
              refine r_top (congrArg nI hj.symm) ?_
              refine r_istore (lv' := [(0, .ref (a 9)), (1, .ref (a 3)), (2, .int (nI d)), (3, .int (nI s)), (4, .int (nI (S 19 d))), (5, .long (lN t1)), (7, .int (nI (i + 1))), (8, .int (nI j))]) K dX3_shuffle_85 (by decide) rfl ?_
              refine r_aload_n K dX3_shuffle_87 rfl ?_
              refine r_get K hin_X3_shuffle_3 9 (wC_g9 _ _ _ _) rfl 0 (by decide) (List.mem_of_getElem? (i := 2) rfl) rfl dX3_shuffle_88 ?_
              refine r_iload K dX3_shuffle_91 rfl ?_
              refine r_iald K 29 0 (wC_g29 _ _ _ _) rfl (by omega) (by decide) dX3_shuffle_93 ?_
              refine r_istore (lv' := [(0, .ref (a 9)), (1, .ref (a 3)), (2, .int (nI d)), (3, .int (nI s)), (4, .int (nI (S 19 d))), (5, .long (lN t1)), (7, .int (nI (i + 1))), (8, .int (nI j)), (9, .int (nI (Jy 29 (i + 1))))]) K dX3_shuffle_94 (by decide) rfl ?_
              refine r_aload_n K dX3_shuffle_96 rfl ?_
              refine r_get K hin_X3_shuffle_3 9 (wC_g9 _ _ _ _) rfl 0 (by decide) (List.mem_of_getElem? (i := 2) rfl) rfl dX3_shuffle_97 ?_
              refine r_iload K dX3_shuffle_100 rfl ?_
              refine r_aload_n K dX3_shuffle_102 rfl ?_
              refine r_get K hin_X3_shuffle_3 9 (wC_g9 _ _ _ _) rfl 0 (by decide) (List.mem_of_getElem? (i := 2) rfl) rfl dX3_shuffle_103 ?_
              refine r_iload K dX3_shuffle_106 rfl ?_
              refine r_iald K 29 0 (wC_g29 _ _ _ _) rfl (by omega) (by decide) dX3_shuffle_108 ?_
              refine r_iast K 29 0 (wC_g29 _ _ _ _) rfl (by omega) (by decide) dX3_shuffle_109 (wC_s29 _ _ _ _ _ _) ?_
              refine r_aload_n K dX3_shuffle_110 rfl ?_
              refine r_get K hin_X3_shuffle_3 9 (wC_g9 _ _ _ _) rfl 0 (by decide) (List.mem_of_getElem? (i := 2) rfl) rfl dX3_shuffle_111 ?_
              refine r_iload K dX3_shuffle_114 rfl ?_
              refine r_iload K dX3_shuffle_116 rfl ?_
              refine r_iast K 29 0 (wC_g29 _ _ _ _) rfl (by omega) (by decide) dX3_shuffle_118 (wC_s29 _ _ _ _ _ _) ?_
              refine r_iinc (lv' := [(0, .ref (a 9)), (1, .ref (a 3)), (2, .int (nI d)), (3, .int (nI s)), (4, .int (nI (S 19 d))), (5, .long (lN t1)), (7, .int (nI i)), (8, .int (nI j)), (9, .int (nI (Jy 29 (i + 1))))]) K dX3_shuffle_119 rfl dec_nI (by decide) rfl ?_
              refine r_goto K 50 dX3_shuffle_122 (by decide) ?_
              refine r_pick [0, 1, 2, 3, 4, 5, 6] K rfl ?_
              exact ih i t1 _ (by omega) (by omega) ht1 (fun g hg => (up_ne hg).trans ((up_ne hg).trans (ho2 g hg))) ((sh0_up ht1e hj).trans hR)
        exact M4 (S 19 d) (S 19 d - 1) s Jx (by omega) (Nat.le_refl _) hs ho rfl
      ·
        refine r_aload_n K dX3_shuffle_18 rfl ?_
        refine r_get K hin_X3_shuffle_3 9 (wC_g9 _ _ _ _) rfl 0 (by decide) (List.mem_of_getElem? (i := 2) rfl) rfl dX3_shuffle_19 ?_
        refine r_iload K dX3_shuffle_22 rfl ?_
        refine r_aload_n K dX3_shuffle_24 rfl ?_
        refine r_get K hin_X3_shuffle_0 3 (wC_g3 _ _ _ _) rfl 2 (by decide) (List.mem_of_getElem? (i := 3) rfl) rfl dX3_shuffle_25 ?_
        refine r_iload_n K dX3_shuffle_28 rfl ?_
        refine r_aald2 K 20 2 (wC_g20 _ _ _ _) rfl (by omega) (by decide) (rowsOf_at _ (by omega)) dX3_shuffle_29 ?_
        refine r_iload K dX3_shuffle_30 rfl ?_
        refine r_iald K (30 + d) 0 (wC_row _ _ _ _ (by omega)) rfl (by omega) (by decide) dX3_shuffle_32 ?_
        have hf6 := V_card hV d i (by omega)
        refine r_iast K 29 0 (wC_g29 _ _ _ _) rfl (by omega) (by decide) dX3_shuffle_33 (wC_s29 _ _ _ _ _ _) ?_
        refine r_iinc (lv' := [(0, .ref (a 9)), (1, .ref (a 3)), (2, .int (nI d)), (3, .int (nI s)), (4, .int (nI (S 19 d))), (5, .int (nI (i + 1)))]) K dX3_shuffle_34 rfl (nI_1 _) (by decide) rfl ?_
        refine r_goto K 11 dX3_shuffle_37 (by decide) ?_
        exact ih (i + 1) _ (by omega) (by omega) (fun g hg => (up_ne hg).trans (ho g hg)) (cp_step hr)
  exact L2 (S 19 d + 1) 0 J (by omega) (by omega) (fun _ _ => rfl) (fun p hp => absurd hp (Nat.not_lt_zero p))

def rmX5_start : Room := { frames := 1, cells := 0, slots := 0, locals := 29 }
theorem hin_X5_start_5 : ∀ w ∈ wsX50, w ∈ wsX5_start := fun _ h => List.mem_cons_of_mem _ (List.mem_append_left _ (List.mem_append_left _ (List.mem_append_right _ h)))
theorem hin_X5_start_0 : ∀ w ∈ wsX00, w ∈ wsX5_start := fun _ h => List.mem_cons_of_mem _ (List.mem_append_left _ (List.mem_append_right _ h))
theorem hin_X5_start_3 : ∀ w ∈ wsX30, w ∈ wsX5_start := fun _ h => List.mem_cons_of_mem _ (List.mem_append_right _ h)
set_option maxHeartbeats 4000000 in
set_option maxRecDepth 100000 in
theorem c_X5_start_6 (l : Launch) (D : va_G) (a : Nat → Nat) (c : Nat → ClassId) (S J : St) (hV : V S) (d s : Nat) (hd : d < 12) (hn : 1 ≤ S 19 d) (hs : s < 2147483648) : Cv l yX5_start wsX5_start rmX5_start D (tyW c) [.ref (a 6), .ref (a 3), .int (nI d), .int (nI s)] (wC a c S J) (fun J1 : St => startPost S J d s 6 28 J1) (fun J1 => wC a c S J1) := by
  refine Cv.of (lv0 := [(0, .ref (a 6)), (1, .ref (a 3)), (2, .int (nI d)), (3, .int (nI s))]) (by decide +kernel) rfl (Nat.le_of_ble_eq_true rfl) rfl (fun G K hret => ?_)
  refine r_aload_n K dX5_start_0 rfl ?_
  refine r_get K hin_X5_start_5 6 (wC_g6 _ _ _ _) rfl 0 (by decide) (List.mem_of_getElem? (i := 1) rfl) rfl dX5_start_1 ?_
  refine r_aload_n K dX5_start_4 rfl ?_
  refine r_iload_n K dX5_start_5 rfl ?_
  refine r_iload_n K dX5_start_6 rfl ?_
  refine r_callVv (rest := []) K (c_X3_shuffle_8 l D a c S J hV d s hd hn hs) 3 gX5_start_X3_shuffle rfl (by decide +kernel) rfl (by decide) 8 (wC_g8 _ _ _ _) rfl rfl (Nat.le_of_ble_eq_true rfl) dX5_start_7 (fun J1 hp => ?_)
  obtain ⟨ho, hr⟩ := hp
  refine r_aload_n K dX5_start_10 rfl ?_
  refine r_iconst K (nI 0) dX5_start_11 (by decide) ?_
  refine r_put K hin_X5_start_5 tyX5 tyX5_ok nmX5 6 (wC_g6 _ _ _ _) rfl 1 (by decide) (List.mem_of_getElem? (i := 2) rfl) rfl rfl rfl (Nat.le_of_ble_eq_true rfl) dX5_start_12 (wC_s6_1 _ _ _ _ _) ?_
  refine r_aload_n K dX5_start_15 rfl ?_
  refine r_iconst K (nI 0) dX5_start_16 (by decide) ?_
  refine r_put K hin_X5_start_5 tyX5 tyX5_ok nmX5 6 (wC_g6 _ _ _ _) rfl 2 (by decide) (List.mem_of_getElem? (i := 3) rfl) rfl rfl rfl (Nat.le_of_ble_eq_true rfl) dX5_start_17 (wC_s6_2 _ _ _ _ _) ?_
  exact hret 0 0 _ _ _ _ dX5_start_20 ⟨fun g h1 h2 => (up_ne h1).trans ((up_ne h1).trans (ho g h2)), fun p hp => by rw [up_ne (by decide), up_ne (by decide)]; exact hr p hp, by rw [up_nk (by decide), up_same], by rw [up_same]⟩ rfl (Nat.le_of_ble_eq_true rfl) (Nat.le_of_ble_eq_true rfl)

set_option maxHeartbeats 4000000 in
set_option maxRecDepth 100000 in
theorem c_X5_start_7 (l : Launch) (D : va_G) (a : Nat → Nat) (c : Nat → ClassId) (S J : St) (hV : V S) (d s : Nat) (hd : d < 12) (hn : 1 ≤ S 19 d) (hs : s < 2147483648) : Cv l yX5_start wsX5_start rmX5_start D (tyW c) [.ref (a 7), .ref (a 3), .int (nI d), .int (nI s)] (wC a c S J) (fun J1 : St => startPost S J d s 7 29 J1) (fun J1 => wC a c S J1) := by
  refine Cv.of (lv0 := [(0, .ref (a 7)), (1, .ref (a 3)), (2, .int (nI d)), (3, .int (nI s))]) (by decide +kernel) rfl (Nat.le_of_ble_eq_true rfl) rfl (fun G K hret => ?_)
  refine r_aload_n K dX5_start_0 rfl ?_
  refine r_get K hin_X5_start_5 7 (wC_g7 _ _ _ _) rfl 0 (by decide) (List.mem_of_getElem? (i := 1) rfl) rfl dX5_start_1 ?_
  refine r_aload_n K dX5_start_4 rfl ?_
  refine r_iload_n K dX5_start_5 rfl ?_
  refine r_iload_n K dX5_start_6 rfl ?_
  refine r_callVv (rest := []) K (c_X3_shuffle_9 l D a c S J hV d s hd hn hs) 3 gX5_start_X3_shuffle rfl (by decide +kernel) rfl (by decide) 9 (wC_g9 _ _ _ _) rfl rfl (Nat.le_of_ble_eq_true rfl) dX5_start_7 (fun J1 hp => ?_)
  obtain ⟨ho, hr⟩ := hp
  refine r_aload_n K dX5_start_10 rfl ?_
  refine r_iconst K (nI 0) dX5_start_11 (by decide) ?_
  refine r_put K hin_X5_start_5 tyX5 tyX5_ok nmX5 7 (wC_g7 _ _ _ _) rfl 1 (by decide) (List.mem_of_getElem? (i := 2) rfl) rfl rfl rfl (Nat.le_of_ble_eq_true rfl) dX5_start_12 (wC_s7_1 _ _ _ _ _) ?_
  refine r_aload_n K dX5_start_15 rfl ?_
  refine r_iconst K (nI 0) dX5_start_16 (by decide) ?_
  refine r_put K hin_X5_start_5 tyX5 tyX5_ok nmX5 7 (wC_g7 _ _ _ _) rfl 2 (by decide) (List.mem_of_getElem? (i := 3) rfl) rfl rfl rfl (Nat.le_of_ble_eq_true rfl) dX5_start_17 (wC_s7_2 _ _ _ _ _) ?_
  exact hret 0 0 _ _ _ _ dX5_start_20 ⟨fun g h1 h2 => (up_ne h1).trans ((up_ne h1).trans (ho g h2)), fun p hp => by rw [up_ne (by decide), up_ne (by decide)]; exact hr p hp, by rw [up_nk (by decide), up_same], by rw [up_same]⟩ rfl (Nat.le_of_ble_eq_true rfl) (Nat.le_of_ble_eq_true rfl)

def rmX5_endRound : Room := { frames := 0, cells := 0, slots := 0, locals := 0 }
theorem hin_X5_endRound_5 : ∀ w ∈ wsX50, w ∈ wsX5_endRound := fun _ h => List.mem_cons_of_mem _ (List.mem_append_right _ h)
set_option maxHeartbeats 4000000 in
set_option maxRecDepth 100000 in
theorem c_X5_endRound_6 (l : Launch) (D : va_G) (a : Nat → Nat) (c : Nat → ClassId) (S J : St) (won : Bool) (t o : Nat) (ht : t < 1000000) (ho : o < 1000000) : Cv l yX5_endRound wsX5_endRound rmX5_endRound D (tyW c) [.ref (a 6), .int (nI ((won).toNat)), .int (nI t), .int (nI o)] (wC a c S J) (fun J1 : St => sidePost J 6 won t o J1) (fun J1 => wC a c S J1) := by
  refine Cv.of (lv0 := [(0, .ref (a 6)), (1, .int (nI ((won).toNat))), (2, .int (nI t)), (3, .int (nI o))]) (by decide +kernel) rfl (Nat.le_of_ble_eq_true rfl) rfl (fun G K hret => ?_)
  refine r_aload_n K dX5_endRound_0 rfl ?_
  refine r_iconst K (nI 0) dX5_endRound_1 (by decide) ?_
  refine r_put K hin_X5_endRound_5 tyX5 tyX5_ok nmX5 6 (wC_g6 _ _ _ _) rfl 2 (by decide) (List.mem_of_getElem? (i := 1) rfl) rfl rfl rfl (Nat.le_of_ble_eq_true rfl) dX5_endRound_2 (wC_s6_2 _ _ _ _ _) ?_
  refine r_iload_n K dX5_endRound_5 rfl ?_
  refine r_if_eqB K 19 dX5_endRound_6 (by decide) (fun h1 => ?_) (fun h1 => ?_)
  ·
    refine r_iload_n K dX5_endRound_19 rfl ?_
    refine r_iconst K (nI 3) dX5_endRound_20 (by decide) ?_
    refine r_ic_ne K 25 dX5_endRound_21 (by decide) (by omega) (by decide) (fun h2 => ?_) (fun h2 => ?_)
    ·
      refine r_iload_n K dX5_endRound_25 rfl ?_
      refine r_iconst K (nI 1) dX5_endRound_26 (by decide) ?_
      refine r_ic_ne K 44 dX5_endRound_27 (by decide) (by omega) (by decide) (fun h3 => ?_) (fun h3 => ?_)
      ·
        refine r_iload_n K dX5_endRound_44 rfl ?_
        refine r_iconst K (nI 2) dX5_endRound_45 (by decide) ?_
        refine r_ic_ne K 58 dX5_endRound_46 (by decide) (by omega) (by decide) (fun h4 => ?_) (fun h4 => ?_)
        ·
          exact hret 0 0 _ _ _ _ dX5_endRound_58 ⟨fun g hg => by simp only [up_ne hg], by simp [up_same, up_nk, ptsN, h1, h2, h3, h4], by simp [up_same, up_nk, ahdN, h1, h2, h3, h4]⟩ rfl (Nat.le_of_ble_eq_true rfl) (Nat.le_of_ble_eq_true rfl)
        ·
          refine r_iload_n K dX5_endRound_49 rfl ?_
          refine r_if_neB K 58 dX5_endRound_50 (by decide) (fun h5 => ?_) (fun h5 => ?_)
          ·
            rw [h1] at h5; exact absurd h5 (by decide)
          ·
            refine r_aload_n K dX5_endRound_53 rfl ?_
            refine r_iconst K (nI 2) dX5_endRound_54 (by decide) ?_
            refine r_put K hin_X5_endRound_5 tyX5 tyX5_ok nmX5 6 (wC_g6 _ _ _ _) rfl 2 (by decide) (List.mem_of_getElem? (i := 1) rfl) rfl rfl rfl (Nat.le_of_ble_eq_true rfl) dX5_endRound_55 (wC_s6_2 _ _ _ _ _) ?_
            exact hret 0 0 _ _ _ _ dX5_endRound_58 ⟨fun g hg => by simp only [up_ne hg], by simp [up_same, up_nk, ptsN, h1, h2, h3, h4, h5], by simp [up_same, up_nk, ahdN, h1, h2, h3, h4, h5]⟩ rfl (Nat.le_of_ble_eq_true rfl) (Nat.le_of_ble_eq_true rfl)
      ·
        refine r_iload_n K dX5_endRound_30 rfl ?_
        refine r_if_eqB K 44 dX5_endRound_31 (by decide) (fun h6 => ?_) (fun h6 => ?_)
        ·
          refine r_iload_n K dX5_endRound_44 rfl ?_
          refine r_iconst K (nI 2) dX5_endRound_45 (by decide) ?_
          refine r_ic_ne K 58 dX5_endRound_46 (by decide) (by omega) (by decide) (fun h7 => ?_) (fun h7 => ?_)
          ·
            exact hret 0 0 _ _ _ _ dX5_endRound_58 ⟨fun g hg => by simp only [up_ne hg], by simp [up_same, up_nk, ptsN, h1, h2, h3, h6, h7], by simp [up_same, up_nk, ahdN, h1, h2, h3, h6, h7]⟩ rfl (Nat.le_of_ble_eq_true rfl) (Nat.le_of_ble_eq_true rfl)
          ·
            exact (show False by omega).elim
        ·
          rw [h1] at h6; exact absurd h6 (by decide)
    ·
      exact hret 0 0 _ _ _ _ dX5_endRound_24 ⟨fun g hg => by simp only [up_ne hg], by simp [up_same, up_nk, ptsN, h1, h2], by simp [up_same, up_nk, ahdN, h1, h2]⟩ rfl (Nat.le_of_ble_eq_true rfl) (Nat.le_of_ble_eq_true rfl)
  ·
    refine r_aload_n K dX5_endRound_9 rfl ?_
    refine r_dup K dX5_endRound_10 rfl ?_
    refine r_get K hin_X5_endRound_5 6 (wC_g6 _ _ _ _) rfl 1 (by decide) (List.mem_of_getElem? (i := 2) rfl) rfl dX5_endRound_11 ?_
    refine r_top (congrArg nI (up_nk (by omega))) ?_
    refine r_iconst K (nI 1) dX5_endRound_14 (by decide) ?_
    refine r_iadd K dX5_endRound_15 ?_
    refine r_put K hin_X5_endRound_5 tyX5 tyX5_ok nmX5 6 (wC_g6 _ _ _ _) rfl 1 (by decide) (List.mem_of_getElem? (i := 2) rfl) rfl rfl rfl (Nat.le_of_ble_eq_true rfl) dX5_endRound_16 (wC_s6_1 _ _ _ _ _) ?_
    refine r_iload_n K dX5_endRound_19 rfl ?_
    refine r_iconst K (nI 3) dX5_endRound_20 (by decide) ?_
    refine r_ic_ne K 25 dX5_endRound_21 (by decide) (by omega) (by decide) (fun h8 => ?_) (fun h8 => ?_)
    ·
      refine r_iload_n K dX5_endRound_25 rfl ?_
      refine r_iconst K (nI 1) dX5_endRound_26 (by decide) ?_
      refine r_ic_ne K 44 dX5_endRound_27 (by decide) (by omega) (by decide) (fun h9 => ?_) (fun h9 => ?_)
      ·
        refine r_iload_n K dX5_endRound_44 rfl ?_
        refine r_iconst K (nI 2) dX5_endRound_45 (by decide) ?_
        refine r_ic_ne K 58 dX5_endRound_46 (by decide) (by omega) (by decide) (fun h10 => ?_) (fun h10 => ?_)
        ·
          exact hret 0 0 _ _ _ _ dX5_endRound_58 ⟨fun g hg => by simp only [up_ne hg], by simp [up_same, up_nk, ptsN, h1, h8, h9, h10], by simp [up_same, up_nk, ahdN, h1, h8, h9, h10]⟩ rfl (Nat.le_of_ble_eq_true rfl) (Nat.le_of_ble_eq_true rfl)
        ·
          refine r_iload_n K dX5_endRound_49 rfl ?_
          refine r_if_neB K 58 dX5_endRound_50 (by decide) (fun h11 => ?_) (fun h11 => ?_)
          ·
            exact hret 0 0 _ _ _ _ dX5_endRound_58 ⟨fun g hg => by simp only [up_ne hg], by simp [up_same, up_nk, ptsN, h1, h8, h9, h10, h11], by simp [up_same, up_nk, ahdN, h1, h8, h9, h10, h11]⟩ rfl (Nat.le_of_ble_eq_true rfl) (Nat.le_of_ble_eq_true rfl)
          ·
            rw [h1] at h11; exact absurd h11 (by decide)
      ·
        refine r_iload_n K dX5_endRound_30 rfl ?_
        refine r_if_eqB K 44 dX5_endRound_31 (by decide) (fun h12 => ?_) (fun h12 => ?_)
        ·
          rw [h1] at h12; exact absurd h12 (by decide)
        ·
          refine r_aload_n K dX5_endRound_34 rfl ?_
          refine r_dup K dX5_endRound_35 rfl ?_
          refine r_get K hin_X5_endRound_5 6 (wC_g6 _ _ _ _) rfl 1 (by decide) (List.mem_of_getElem? (i := 2) rfl) rfl dX5_endRound_36 ?_
          refine r_top (congrArg nI up_same) ?_
          refine r_iconst K (nI 1) dX5_endRound_39 (by decide) ?_
          refine r_iadd K dX5_endRound_40 ?_
          refine r_put K hin_X5_endRound_5 tyX5 tyX5_ok nmX5 6 (wC_g6 _ _ _ _) rfl 1 (by decide) (List.mem_of_getElem? (i := 2) rfl) rfl rfl rfl (Nat.le_of_ble_eq_true rfl) dX5_endRound_41 (wC_s6_1 _ _ _ _ _) ?_
          refine r_iload_n K dX5_endRound_44 rfl ?_
          refine r_iconst K (nI 2) dX5_endRound_45 (by decide) ?_
          refine r_ic_ne K 58 dX5_endRound_46 (by decide) (by omega) (by decide) (fun h13 => ?_) (fun h13 => ?_)
          ·
            exact hret 0 0 _ _ _ _ dX5_endRound_58 ⟨fun g hg => by simp only [up_ne hg], by simp [up_same, up_nk, ptsN, h1, h8, h9, h12, h13], by simp [up_same, up_nk, ahdN, h1, h8, h9, h12, h13]⟩ rfl (Nat.le_of_ble_eq_true rfl) (Nat.le_of_ble_eq_true rfl)
          ·
            exact (show False by omega).elim
    ·
      exact hret 0 0 _ _ _ _ dX5_endRound_24 ⟨fun g hg => by simp only [up_ne hg], by simp [up_same, up_nk, ptsN, h1, h8], by simp [up_same, up_nk, ahdN, h1, h8]⟩ rfl (Nat.le_of_ble_eq_true rfl) (Nat.le_of_ble_eq_true rfl)

set_option maxHeartbeats 4000000 in
set_option maxRecDepth 100000 in
theorem c_X5_endRound_7 (l : Launch) (D : va_G) (a : Nat → Nat) (c : Nat → ClassId) (S J : St) (won : Bool) (t o : Nat) (ht : t < 1000000) (ho : o < 1000000) : Cv l yX5_endRound wsX5_endRound rmX5_endRound D (tyW c) [.ref (a 7), .int (nI ((won).toNat)), .int (nI t), .int (nI o)] (wC a c S J) (fun J1 : St => sidePost J 7 won t o J1) (fun J1 => wC a c S J1) := by
  refine Cv.of (lv0 := [(0, .ref (a 7)), (1, .int (nI ((won).toNat))), (2, .int (nI t)), (3, .int (nI o))]) (by decide +kernel) rfl (Nat.le_of_ble_eq_true rfl) rfl (fun G K hret => ?_)
  refine r_aload_n K dX5_endRound_0 rfl ?_
  refine r_iconst K (nI 0) dX5_endRound_1 (by decide) ?_
  refine r_put K hin_X5_endRound_5 tyX5 tyX5_ok nmX5 7 (wC_g7 _ _ _ _) rfl 2 (by decide) (List.mem_of_getElem? (i := 1) rfl) rfl rfl rfl (Nat.le_of_ble_eq_true rfl) dX5_endRound_2 (wC_s7_2 _ _ _ _ _) ?_
  refine r_iload_n K dX5_endRound_5 rfl ?_
  refine r_if_eqB K 19 dX5_endRound_6 (by decide) (fun h1 => ?_) (fun h1 => ?_)
  ·
    refine r_iload_n K dX5_endRound_19 rfl ?_
    refine r_iconst K (nI 3) dX5_endRound_20 (by decide) ?_
    refine r_ic_ne K 25 dX5_endRound_21 (by decide) (by omega) (by decide) (fun h2 => ?_) (fun h2 => ?_)
    ·
      refine r_iload_n K dX5_endRound_25 rfl ?_
      refine r_iconst K (nI 1) dX5_endRound_26 (by decide) ?_
      refine r_ic_ne K 44 dX5_endRound_27 (by decide) (by omega) (by decide) (fun h3 => ?_) (fun h3 => ?_)
      ·
        refine r_iload_n K dX5_endRound_44 rfl ?_
        refine r_iconst K (nI 2) dX5_endRound_45 (by decide) ?_
        refine r_ic_ne K 58 dX5_endRound_46 (by decide) (by omega) (by decide) (fun h4 => ?_) (fun h4 => ?_)
        ·
          exact hret 0 0 _ _ _ _ dX5_endRound_58 ⟨fun g hg => by simp only [up_ne hg], by simp [up_same, up_nk, ptsN, h1, h2, h3, h4], by simp [up_same, up_nk, ahdN, h1, h2, h3, h4]⟩ rfl (Nat.le_of_ble_eq_true rfl) (Nat.le_of_ble_eq_true rfl)
        ·
          refine r_iload_n K dX5_endRound_49 rfl ?_
          refine r_if_neB K 58 dX5_endRound_50 (by decide) (fun h5 => ?_) (fun h5 => ?_)
          ·
            rw [h1] at h5; exact absurd h5 (by decide)
          ·
            refine r_aload_n K dX5_endRound_53 rfl ?_
            refine r_iconst K (nI 2) dX5_endRound_54 (by decide) ?_
            refine r_put K hin_X5_endRound_5 tyX5 tyX5_ok nmX5 7 (wC_g7 _ _ _ _) rfl 2 (by decide) (List.mem_of_getElem? (i := 1) rfl) rfl rfl rfl (Nat.le_of_ble_eq_true rfl) dX5_endRound_55 (wC_s7_2 _ _ _ _ _) ?_
            exact hret 0 0 _ _ _ _ dX5_endRound_58 ⟨fun g hg => by simp only [up_ne hg], by simp [up_same, up_nk, ptsN, h1, h2, h3, h4, h5], by simp [up_same, up_nk, ahdN, h1, h2, h3, h4, h5]⟩ rfl (Nat.le_of_ble_eq_true rfl) (Nat.le_of_ble_eq_true rfl)
      ·
        refine r_iload_n K dX5_endRound_30 rfl ?_
        refine r_if_eqB K 44 dX5_endRound_31 (by decide) (fun h6 => ?_) (fun h6 => ?_)
        ·
          refine r_iload_n K dX5_endRound_44 rfl ?_
          refine r_iconst K (nI 2) dX5_endRound_45 (by decide) ?_
          refine r_ic_ne K 58 dX5_endRound_46 (by decide) (by omega) (by decide) (fun h7 => ?_) (fun h7 => ?_)
          ·
            exact hret 0 0 _ _ _ _ dX5_endRound_58 ⟨fun g hg => by simp only [up_ne hg], by simp [up_same, up_nk, ptsN, h1, h2, h3, h6, h7], by simp [up_same, up_nk, ahdN, h1, h2, h3, h6, h7]⟩ rfl (Nat.le_of_ble_eq_true rfl) (Nat.le_of_ble_eq_true rfl)
          ·
            exact (show False by omega).elim
        ·
          rw [h1] at h6; exact absurd h6 (by decide)
    ·
      exact hret 0 0 _ _ _ _ dX5_endRound_24 ⟨fun g hg => by simp only [up_ne hg], by simp [up_same, up_nk, ptsN, h1, h2], by simp [up_same, up_nk, ahdN, h1, h2]⟩ rfl (Nat.le_of_ble_eq_true rfl) (Nat.le_of_ble_eq_true rfl)
  ·
    refine r_aload_n K dX5_endRound_9 rfl ?_
    refine r_dup K dX5_endRound_10 rfl ?_
    refine r_get K hin_X5_endRound_5 7 (wC_g7 _ _ _ _) rfl 1 (by decide) (List.mem_of_getElem? (i := 2) rfl) rfl dX5_endRound_11 ?_
    refine r_top (congrArg nI (up_nk (by omega))) ?_
    refine r_iconst K (nI 1) dX5_endRound_14 (by decide) ?_
    refine r_iadd K dX5_endRound_15 ?_
    refine r_put K hin_X5_endRound_5 tyX5 tyX5_ok nmX5 7 (wC_g7 _ _ _ _) rfl 1 (by decide) (List.mem_of_getElem? (i := 2) rfl) rfl rfl rfl (Nat.le_of_ble_eq_true rfl) dX5_endRound_16 (wC_s7_1 _ _ _ _ _) ?_
    refine r_iload_n K dX5_endRound_19 rfl ?_
    refine r_iconst K (nI 3) dX5_endRound_20 (by decide) ?_
    refine r_ic_ne K 25 dX5_endRound_21 (by decide) (by omega) (by decide) (fun h8 => ?_) (fun h8 => ?_)
    ·
      refine r_iload_n K dX5_endRound_25 rfl ?_
      refine r_iconst K (nI 1) dX5_endRound_26 (by decide) ?_
      refine r_ic_ne K 44 dX5_endRound_27 (by decide) (by omega) (by decide) (fun h9 => ?_) (fun h9 => ?_)
      ·
        refine r_iload_n K dX5_endRound_44 rfl ?_
        refine r_iconst K (nI 2) dX5_endRound_45 (by decide) ?_
        refine r_ic_ne K 58 dX5_endRound_46 (by decide) (by omega) (by decide) (fun h10 => ?_) (fun h10 => ?_)
        ·
          exact hret 0 0 _ _ _ _ dX5_endRound_58 ⟨fun g hg => by simp only [up_ne hg], by simp [up_same, up_nk, ptsN, h1, h8, h9, h10], by simp [up_same, up_nk, ahdN, h1, h8, h9, h10]⟩ rfl (Nat.le_of_ble_eq_true rfl) (Nat.le_of_ble_eq_true rfl)
        ·
          refine r_iload_n K dX5_endRound_49 rfl ?_
          refine r_if_neB K 58 dX5_endRound_50 (by decide) (fun h11 => ?_) (fun h11 => ?_)
          ·
            exact hret 0 0 _ _ _ _ dX5_endRound_58 ⟨fun g hg => by simp only [up_ne hg], by simp [up_same, up_nk, ptsN, h1, h8, h9, h10, h11], by simp [up_same, up_nk, ahdN, h1, h8, h9, h10, h11]⟩ rfl (Nat.le_of_ble_eq_true rfl) (Nat.le_of_ble_eq_true rfl)
          ·
            rw [h1] at h11; exact absurd h11 (by decide)
      ·
        refine r_iload_n K dX5_endRound_30 rfl ?_
        refine r_if_eqB K 44 dX5_endRound_31 (by decide) (fun h12 => ?_) (fun h12 => ?_)
        ·
          rw [h1] at h12; exact absurd h12 (by decide)
        ·
          refine r_aload_n K dX5_endRound_34 rfl ?_
          refine r_dup K dX5_endRound_35 rfl ?_
          refine r_get K hin_X5_endRound_5 7 (wC_g7 _ _ _ _) rfl 1 (by decide) (List.mem_of_getElem? (i := 2) rfl) rfl dX5_endRound_36 ?_
          refine r_top (congrArg nI up_same) ?_
          refine r_iconst K (nI 1) dX5_endRound_39 (by decide) ?_
          refine r_iadd K dX5_endRound_40 ?_
          refine r_put K hin_X5_endRound_5 tyX5 tyX5_ok nmX5 7 (wC_g7 _ _ _ _) rfl 1 (by decide) (List.mem_of_getElem? (i := 2) rfl) rfl rfl rfl (Nat.le_of_ble_eq_true rfl) dX5_endRound_41 (wC_s7_1 _ _ _ _ _) ?_
          refine r_iload_n K dX5_endRound_44 rfl ?_
          refine r_iconst K (nI 2) dX5_endRound_45 (by decide) ?_
          refine r_ic_ne K 58 dX5_endRound_46 (by decide) (by omega) (by decide) (fun h13 => ?_) (fun h13 => ?_)
          ·
            exact hret 0 0 _ _ _ _ dX5_endRound_58 ⟨fun g hg => by simp only [up_ne hg], by simp [up_same, up_nk, ptsN, h1, h8, h9, h12, h13], by simp [up_same, up_nk, ahdN, h1, h8, h9, h12, h13]⟩ rfl (Nat.le_of_ble_eq_true rfl) (Nat.le_of_ble_eq_true rfl)
          ·
            exact (show False by omega).elim
    ·
      exact hret 0 0 _ _ _ _ dX5_endRound_24 ⟨fun g hg => by simp only [up_ne hg], by simp [up_same, up_nk, ptsN, h1, h8], by simp [up_same, up_nk, ahdN, h1, h8]⟩ rfl (Nat.le_of_ble_eq_true rfl) (Nat.le_of_ble_eq_true rfl)
end
section
section SPEC4
/-- the first of n places from i on at which f answers -/
def scan {β : Type} (f : Nat → Option β) : Nat → Nat → Option β
  | 0, _ => none
  | n + 1, i => match f i with
    | some y => some y
    | none => scan f n (i + 1)
theorem scan_y {β : Type} {f : Nat → Option β} {n i : Nat} {y : β} (h : f i = some y) : scan f (n + 1) i = some y := by unfold scan; rw [h]
theorem scan_n {β : Type} {f : Nat → Option β} {n i : Nat} (h : f i = none) : scan f (n + 1) i = scan f n (i + 1) := by
  show (match f i with | some y => some y | none => scan f n (i + 1)) = _
  rw [h]
theorem scan_at {β : Type} {f : Nat → Option β} {N x : Nat} (h : x < N) (hf : f x = none) : scan f (N - x) x = scan f (N - (x + 1)) (x + 1) := by
  rw [show N - x = (N - (x + 1)) + 1 by omega, scan_n hf]
theorem scan_hit {β : Type} {f : Nat → Option β} {N x : Nat} {y : β} (h : x < N) (hf : f x = some y) : scan f (N - x) x = some y := by
  rw [show N - x = (N - (x + 1)) + 1 by omega, scan_y hf]
theorem scan_end {β : Type} {f : Nat → Option β} {N x : Nat} (h : N ≤ x) : scan f (N - x) x = none := by
  rw [show N - x = 0 by omega]; rfl
/-- an open offer has the card -/
def liveB (S : St) (x : Nat) : Bool := anyB (fun o => decide (S 25 o ≠ 0) && decide (S 21 o = x)) (S 4 0)
theorem liveB_1 {S : St} {x o : Nat} (h : S 25 o = 0) : (decide (S 25 o ≠ 0) && decide (S 21 o = x)) = false := by rw [decide_eq_false (fun q => q h)]; rfl
theorem liveB_2 {S : St} {x o : Nat} (h : S 21 o ≠ x) : (decide (S 25 o ≠ 0) && decide (S 21 o = x)) = false := by rw [decide_eq_false h, Bool.and_false]
theorem liveB_y {S : St} {x o : Nat} (h1 : S 25 o ≠ 0) (h2 : S 21 o = x) : (decide (S 25 o ≠ 0) && decide (S 21 o = x)) = true := by rw [decide_eq_true h1, decide_eq_true h2]; rfl
def gvB (S : St) (o n : Nat) : Bool := decide (S 22 o = S 23 n)
def g0 (pre : List Nat) (q : Nat) : Nat := pre.getD q 0
/-- x can follow the row -/
def cfL (S : St) (pre : List Nat) (x : Nat) : Bool := decide (S 25 x ≠ 0) && gvB S (g0 pre (pre.length - 1)) x && allB (fun q => decide (S 24 (g0 pre q) ≠ S 24 x)) pre.length
/-- the first way to make the row a ring with m offers more -/
def comp (S : St) (N : Nat) : Nat → List Nat → Option (List Nat)
  | 0, pre => if gvB S (g0 pre (pre.length - 1)) (g0 pre 0) then some pre else none
  | m + 1, pre => scan (fun x => if cfL S pre x then comp S N m (pre ++ [x]) else none) (N - (g0 pre 0 + 1)) (g0 pre 0 + 1)
def fcp (S : St) (N m : Nat) (pre : List Nat) (x : Nat) : Option (List Nat) := if cfL S pre x then comp S N m (pre ++ [x]) else none
theorem comp_s (S : St) (N m : Nat) (pre : List Nat) : comp S N (m + 1) pre = scan (fcp S N m pre) (N - (g0 pre 0 + 1)) (g0 pre 0 + 1) := rfl
theorem scan_prop {β : Type} {P : β → Prop} {f : Nat → Option β} (h : ∀ x y, f x = some y → P y) : ∀ n i y, scan f n i = some y → P y
  | 0, i, y, e => by cases e
  | n + 1, i, y, e => by
    cases hf : f i with
    | some z => rw [scan_y hf] at e; cases e; exact h i _ hf
    | none => rw [scan_n hf] at e; exact scan_prop h n (i + 1) y e
theorem comp_len (S : St) (N : Nat) : ∀ m pre l, comp S N m pre = some l → l.length = pre.length + m
  | 0, pre, l, h => by
    unfold comp at h
    split at h
    · cases h; rfl
    · cases h
  | m + 1, pre, l, h => by
    rw [comp_s] at h
    refine scan_prop (P := fun l => l.length = pre.length + (m + 1)) (fun x y hy => ?_) _ _ l h
    unfold fcp at hy
    split at hy
    · have := comp_len S N m _ y hy
      rw [List.length_append] at this
      simp at this
      omega
    · cases hy
theorem g0_app {pre : List Nat} {x q : Nat} (h : q < pre.length) : g0 (pre ++ [x]) q = g0 pre q := by
  unfold g0
  rw [List.getD_eq_getElem?_getD, List.getD_eq_getElem?_getD, List.getElem?_append_left h]
theorem g0_last {pre : List Nat} {x : Nat} : g0 (pre ++ [x]) pre.length = x := by
  unfold g0
  simp
/-- the row in the cells is the list's -/
def agr (f : Nat → Nat) (l : List Nat) : Prop := ∀ q, q < l.length → f q = g0 l q
theorem agr_up {J : St} {Q x : Nat} {pre : List Nat} (h : agr (J Q) pre) : agr (up J Q pre.length x Q) (pre ++ [x]) := by
  intro q hq
  rw [List.length_append, List.length_singleton] at hq
  rw [up_f, upf_eq]
  by_cases e : q = pre.length
  · rw [if_pos e, e, g0_last]
  · rw [if_neg e, g0_app (by omega)]
    exact h q (by omega)
theorem agr_pre {f : Nat → Nat} {pre : List Nat} {x : Nat} (h : agr f (pre ++ [x])) : agr f pre := fun q hq => by
  rw [h q (by rw [List.length_append]; omega), g0_app hq]
def topf (S : St) (N len : Nat) (x : Nat) : Option (List Nat) := if S 25 x ≠ 0 then comp S N (len - 1) [x] else none
def ringL (S : St) (N len : Nat) : Option (List Nat) := scan (topf S N len) N 0
def frk (S : St) (N : Nat) : Nat → Nat → Option (List Nat)
  | 0, _ => none
  | k + 1, len => match ringL S N len with
    | some l => some l
    | none => frk S N k (len + 1)
/-- the first ring -/
def frl (S : St) : Option (List Nat) := frk S (S 4 0) 3 2
theorem frk_y {S : St} {N k len : Nat} {l : List Nat} (h : ringL S N len = some l) : frk S N (k + 1) len = some l := by unfold frk; rw [h]
theorem frk_n {S : St} {N k len : Nat} (h : ringL S N len = none) : frk S N (k + 1) len = frk S N k (len + 1) := by
  show (match ringL S N len with | some l => some l | none => frk S N k (len + 1)) = _
  rw [h]
def lenO : Option (List Nat) → Nat
  | none => 0
  | some l => l.length
theorem ringL_len {S : St} {N len : Nat} {l : List Nat} (h2 : 1 ≤ len) (h : ringL S N len = some l) : l.length = len := by
  refine scan_prop (P := fun l => l.length = len) (fun x y hy => ?_) _ _ l h
  unfold topf at hy
  split at hy
  · have := comp_len S N _ _ y hy
    simp at this
    omega
  · cases hy
def closePost (S J : St) (N m : Nat) (pre : List Nat) (r : Int32) (J1 : St) : Prop := r = nI (comp S N m pre).isSome.toNat ∧ (∀ g, g ≠ 26 → J1 g = J g) ∧ agr (J1 26) pre ∧ ∀ l, comp S N m pre = some l → agr (J1 26) l
def findPost (S J : St) (r : Int32) (J1 : St) : Prop := r = nI (lenO (frl S)) ∧ (∀ g, g ≠ 26 → J1 g = J g) ∧ ∀ l, frl S = some l → agr (J1 26) l
theorem cfL_1 {S : St} {pre : List Nat} {x : Nat} (h : S 25 x = 0) : cfL S pre x = false := by unfold cfL; rw [decide_eq_false (fun q => q h)]; rfl
theorem cfL_2 {S : St} {pre : List Nat} {x : Nat} (h : gvB S (g0 pre (pre.length - 1)) x = false) : cfL S pre x = false := by unfold cfL; rw [h, Bool.and_false]; rfl
theorem cfL_3 {S : St} {pre : List Nat} {x q : Nat} (hq : q < pre.length) (h : S 24 (g0 pre q) = S 24 x) : cfL S pre x = false := by
  unfold cfL
  rw [allB_no (f := fun q => decide (S 24 (g0 pre q) ≠ S 24 x)) (i := q) (decide_eq_false (fun e => e h)) hq, Bool.and_false]
theorem cfL_y {S : St} {pre : List Nat} {x : Nat} (h1 : S 25 x ≠ 0) (h2 : gvB S (g0 pre (pre.length - 1)) x = true) (h3 : allB (fun q => decide (S 24 (g0 pre q) ≠ S 24 x)) pre.length = true) : cfL S pre x = true := by
  unfold cfL
  rw [decide_eq_true h1, h2, h3]; rfl
theorem isSome_t {β : Type} {o : Option β} (h : o.isSome = true) : ∃ y, o = some y := by
  cases o with
  | none => cases h
  | some y => exact ⟨y, rfl⟩
theorem isSome_f {β : Type} {o : Option β} (h : o.isSome = false) : o = none := by
  cases o with
  | none => rfl
  | some y => cases h
/-- the room of a search m offers deep -/
def rmCl (m : Nat) : Room := { frames := m + 3, cells := 0, slots := 0, locals := 40 * m + 80 }
end SPEC4
section SPEC4b
theorem comp0_some (S : St) (N : Nat) (pre : List Nat) : (comp S N 0 pre).isSome = gvB S (g0 pre (pre.length - 1)) (g0 pre 0) := by
  unfold comp
  cases gvB S (g0 pre (pre.length - 1)) (g0 pre 0) <;> rfl
theorem close_0 {S J : St} {N t : Nat} {pre : List Nat} (ht : pre.length = t + 1) (hag : agr (J 26) pre) : closePost S J N 0 pre (nI (gvB S (g0 pre t) (g0 pre 0)).toNat) J := by
  refine ⟨?_, fun _ _ => rfl, hag, fun l h => ?_⟩
  · rw [comp0_some, show pre.length - 1 = t by omega]
  · unfold comp at h
    split at h
    · cases h; exact hag
    · cases h
theorem close_no {S J J1 : St} {N m : Nat} {pre : List Nat} (h : comp S N m pre = none) (ho : ∀ g, g ≠ 26 → J1 g = J g) (hag : agr (J1 26) pre) : closePost S J N m pre (nI 0) J1 :=
  ⟨by rw [h]; rfl, ho, hag, fun l hl => by rw [h] at hl; cases hl⟩
theorem close_yes {S J J1 : St} {N m : Nat} {pre l : List Nat} (h : comp S N m pre = some l) (ho : ∀ g, g ≠ 26 → J1 g = J g) (hag : agr (J1 26) pre) (hl : agr (J1 26) l) : closePost S J N m pre (nI 1) J1 :=
  ⟨by rw [h]; rfl, ho, hag, fun l' hl' => by rw [h] at hl'; cases hl'; exact hl⟩
theorem fcp_n {S : St} {N m : Nat} {pre : List Nat} {x : Nat} (h : cfL S pre x = false) : fcp S N m pre x = none := by unfold fcp; rw [if_neg (by rw [h]; decide)]
theorem fcp_c {S : St} {N m : Nat} {pre : List Nat} {x : Nat} (h : cfL S pre x = true) : fcp S N m pre x = comp S N m (pre ++ [x]) := by unfold fcp; rw [if_pos h]
theorem find_yes {S J J1 : St} {len : Nat} {l : List Nat} (h2 : 1 ≤ len) (h5 : len ≤ 4) (hf : frl S = frk S (S 4 0) (5 - len) len) (hr : ringL S (S 4 0) len = some l) (ho : ∀ g, g ≠ 26 → J1 g = J g) (hl : agr (J1 26) l) : findPost S J (nI len) J1 := by
  have hs : frl S = some l := by rw [hf, show 5 - len = (4 - len) + 1 by omega]; exact frk_y hr
  refine ⟨?_, ho, fun l' hl' => ?_⟩
  · rw [hs]
    show nI len = nI l.length
    rw [ringL_len h2 hr]
  · rw [hs] at hl'; cases hl'; exact hl
theorem find_no {S J J1 : St} (hf : frl S = none) (ho : ∀ g, g ≠ 26 → J1 g = J g) : findPost S J (nI 0) J1 :=
  ⟨by rw [hf]; rfl, ho, fun l hl => by rw [hf] at hl; cases hl⟩
theorem topf_n {S : St} {N len x : Nat} (h : S 25 x = 0) : topf S N len x = none := by unfold topf; rw [if_neg (fun q => q h)]
theorem topf_c {S : St} {N len x : Nat} (h : S 25 x ≠ 0) : topf S N len x = comp S N (len - 1) [x] := by unfold topf; rw [if_pos h]
theorem agr_one {J : St} {x : Nat} : agr (up J 26 0 x 26) [x] := by
  intro q hq
  have e : q = 0 := by simpa using hq
  subst e
  rw [up_same]; rfl
end SPEC4b
end
section
def rmX2_append : Room := { frames := 0, cells := 0, slots := 0, locals := 0 }
theorem hin_X2_append_2 : ∀ w ∈ wsX20, w ∈ wsX2_append := fun _ h => List.mem_cons_of_mem _ (List.mem_append_left _ (List.mem_append_right _ h))
theorem hin_X2_append_4 : ∀ w ∈ wsX40, w ∈ wsX2_append := fun _ h => List.mem_cons_of_mem _ (List.mem_append_right _ h)
set_option maxHeartbeats 4000000 in
set_option maxRecDepth 100000 in
theorem c_X2_append (l : Launch) (D : va_G) (a : Nat → Nat) (c : Nat → ClassId) (S J : St) (hV : V S) (x k : Nat) (hx : x < 80) (hc : S 4 0 < 40) : Cs l yX2_append wsX2_append rmX2_append D (tyW c) [.ref (a 4), .int (nI x), .int (nI k), .ref (a 2)] (wC a c S J) (nI (S 4 0)) (wC a c (up (up (up (up (up (up S 21 (S 4 0) x) 22 (S 4 0) (S 15 x)) 23 (S 4 0) k) 24 (S 4 0) (S 17 x)) 25 (S 4 0) 1) 4 0 (S 4 0 + 1)) J) := by
  refine Ci.of (lv0 := [(0, .ref (a 4)), (1, .int (nI x)), (2, .int (nI k)), (3, .ref (a 2))]) (by decide +kernel) rfl (Nat.le_of_ble_eq_true rfl) rfl (fun G K hret => ?_)
  have hkd := V_kind hV x
  refine r_aload_n K dX2_append_0 rfl ?_
  refine r_get K hin_X2_append_2 4 (wC_g4 _ _ _ _) rfl 6 (by decide) (List.mem_of_getElem? (i := 1) rfl) rfl dX2_append_1 ?_
  have hf1 := V_b hV 4 0
  refine r_istore (lv' := [(0, .ref (a 4)), (1, .int (nI x)), (2, .int (nI k)), (3, .ref (a 2)), (4, .int (nI (S 4 0)))]) K dX2_append_4 (by decide) rfl ?_
  refine r_aload_n K dX2_append_6 rfl ?_
  refine r_get K hin_X2_append_2 4 (wC_g4 _ _ _ _) rfl 0 (by decide) (List.mem_of_getElem? (i := 2) rfl) rfl dX2_append_7 ?_
  refine r_iload K dX2_append_10 rfl ?_
  refine r_iload_n K dX2_append_12 rfl ?_
  refine r_iast K 21 0 (wC_g21 _ _ _ _) rfl (by omega) (by decide) dX2_append_13 (wC_s21 _ _ _ _ _ _) ?_
  refine r_aload_n K dX2_append_14 rfl ?_
  refine r_get K hin_X2_append_2 4 (wC_g4 _ _ _ _) rfl 1 (by decide) (List.mem_of_getElem? (i := 3) rfl) rfl dX2_append_15 ?_
  refine r_iload K dX2_append_18 rfl ?_
  refine r_aload_n K dX2_append_20 rfl ?_
  refine r_get K hin_X2_append_4 2 (wC_g2 _ _ _ _) rfl 0 (by decide) (List.mem_of_getElem? (i := 4) rfl) rfl dX2_append_21 ?_
  refine r_iload_n K dX2_append_24 rfl ?_
  refine r_iald K 15 0 (wC_g15 _ _ _ _) rfl (by omega) (by decide) dX2_append_25 ?_
  refine r_top (congrArg nI (congrFun (up_ne (by decide)) _)) ?_
  have hf2 := V_kind hV x
  refine r_iast K 22 0 (wC_g22 _ _ _ _) rfl (by omega) (by decide) dX2_append_26 (wC_s22 _ _ _ _ _ _) ?_
  refine r_aload_n K dX2_append_27 rfl ?_
  refine r_get K hin_X2_append_2 4 (wC_g4 _ _ _ _) rfl 2 (by decide) (List.mem_of_getElem? (i := 5) rfl) rfl dX2_append_28 ?_
  refine r_iload K dX2_append_31 rfl ?_
  refine r_iload_n K dX2_append_33 rfl ?_
  refine r_iast K 23 0 (wC_g23 _ _ _ _) rfl (by omega) (by decide) dX2_append_34 (wC_s23 _ _ _ _ _ _) ?_
  refine r_aload_n K dX2_append_35 rfl ?_
  refine r_get K hin_X2_append_2 4 (wC_g4 _ _ _ _) rfl 3 (by decide) (List.mem_of_getElem? (i := 6) rfl) rfl dX2_append_36 ?_
  refine r_iload K dX2_append_39 rfl ?_
  refine r_aload_n K dX2_append_41 rfl ?_
  refine r_get K hin_X2_append_4 2 (wC_g2 _ _ _ _) rfl 2 (by decide) (List.mem_of_getElem? (i := 7) rfl) rfl dX2_append_42 ?_
  refine r_iload_n K dX2_append_45 rfl ?_
  refine r_iald K 17 0 (wC_g17 _ _ _ _) rfl (by omega) (by decide) dX2_append_46 ?_
  refine r_top (congrArg nI (congrFun (up_ne (by decide)) _)) ?_
  refine r_top (congrArg nI (congrFun (up_ne (by decide)) _)) ?_
  refine r_top (congrArg nI (congrFun (up_ne (by decide)) _)) ?_
  have hf3 := V_b hV 17 x
  refine r_iast K 24 0 (wC_g24 _ _ _ _) rfl (by omega) (by decide) dX2_append_47 (wC_s24 _ _ _ _ _ _) ?_
  refine r_aload_n K dX2_append_48 rfl ?_
  refine r_get K hin_X2_append_2 4 (wC_g4 _ _ _ _) rfl 4 (by decide) (List.mem_of_getElem? (i := 8) rfl) rfl dX2_append_49 ?_
  refine r_iload K dX2_append_52 rfl ?_
  refine r_iconst K (nI 1) dX2_append_54 (by decide) ?_
  refine r_zast K 25 1 (wC_g25 _ _ _ _) rfl (by omega) (by decide) (by decide) dX2_append_55 (wC_s25 _ _ _ _ _ _) ?_
  refine r_aload_n K dX2_append_56 rfl ?_
  refine r_dup K dX2_append_57 rfl ?_
  refine r_get K hin_X2_append_2 4 (wC_g4 _ _ _ _) rfl 6 (by decide) (List.mem_of_getElem? (i := 1) rfl) rfl dX2_append_58 ?_
  refine r_top (congrArg nI (congrFun (up_ne (by decide)) _)) ?_
  refine r_top (congrArg nI (congrFun (up_ne (by decide)) _)) ?_
  refine r_top (congrArg nI (congrFun (up_ne (by decide)) _)) ?_
  refine r_top (congrArg nI (congrFun (up_ne (by decide)) _)) ?_
  refine r_top (congrArg nI (congrFun (up_ne (by decide)) _)) ?_
  refine r_iconst K (nI 1) dX2_append_61 (by decide) ?_
  refine r_iadd K dX2_append_62 ?_
  refine r_put K hin_X2_append_2 tyX2 tyX2_ok nmX2 4 (wC_g4 _ _ _ _) rfl 6 (by decide) (List.mem_of_getElem? (i := 1) rfl) rfl rfl rfl (Nat.le_of_ble_eq_true rfl) dX2_append_63 (wC_s4_6 _ _ _ _ _) ?_
  refine r_iload K dX2_append_66 rfl ?_
  exact hret 0 0 _ _ _ (nI (S 4 0)) () dX2_append_68 rfl rfl (Nat.le_of_ble_eq_true rfl) (Nat.le_of_ble_eq_true rfl)

def rmX2_hasLive : Room := { frames := 0, cells := 0, slots := 0, locals := 0 }
theorem hin_X2_hasLive_2 : ∀ w ∈ wsX20, w ∈ wsX2_hasLive := fun _ h => List.mem_cons_of_mem _ (List.mem_append_right _ h)
set_option maxHeartbeats 4000000 in
set_option maxRecDepth 100000 in
theorem c_X2_hasLive (l : Launch) (D : va_G) (a : Nat → Nat) (c : Nat → ClassId) (S J : St) (hV : V S) (x : Nat) (hx : x < 1000000) : Cs l yX2_hasLive wsX2_hasLive rmX2_hasLive D (tyW c) [.ref (a 4), .int (nI x)] (wC a c S J) (nI (liveB S x).toNat) (wC a c S J) := by
  refine Ci.ofZ (lv0 := [(0, .ref (a 4)), (1, .int (nI x))]) (by decide +kernel) rfl (Nat.le_of_ble_eq_true rfl) rfl (fun G K hret => ?_)
  have hof := V_offers hV
  refine r_iconst K (nI 0) dX2_hasLive_0 (by decide) ?_
  refine r_istore_n (lv' := [(0, .ref (a 4)), (1, .int (nI x)), (2, .int (nI 0))]) K dX2_hasLive_1 (by decide) rfl ?_
  have L1 : ∀ (z : Nat) (i : Nat), S 4 0 < i + z → (i ≤ S 4 0) → (anyB (fun o => decide (S 25 o ≠ 0) && decide (S 21 o = x)) i = false) → G 0 0 (wC a c S J) [(0, .ref (a 4)), (1, .int (nI x)), (2, .int (nI i))] 2 [] := by
    intro z
    induction z with
    | zero => intro i hz hi hn; exact absurd hz (by omega)
    | succ z ih =>
      intro i hz hi hn
      refine r_iload_n K dX2_hasLive_2 rfl ?_
      refine r_aload_n K dX2_hasLive_3 rfl ?_
      refine r_get K hin_X2_hasLive_2 4 (wC_g4 _ _ _ _) rfl 6 (by decide) (List.mem_of_getElem? (i := 1) rfl) rfl dX2_hasLive_4 ?_
      have hf2 := V_b hV 4 0
      refine r_ic_ge K 37 dX2_hasLive_7 (by decide) (by omega) (by omega) (fun h3 => ?_) (fun h3 => ?_)
      ·
        refine r_iconst K (nI 0) dX2_hasLive_37 (by decide) ?_
        exact hret 0 0 _ _ _ 0 () dX2_hasLive_38 (by decide) (by rw [show liveB S x = false from (by unfold liveB; rw [show S 4 0 = i by omega]; exact hn)]; rfl) rfl (Nat.le_of_ble_eq_true rfl) (Nat.le_of_ble_eq_true rfl)
      ·
        refine r_aload_n K dX2_hasLive_10 rfl ?_
        refine r_get K hin_X2_hasLive_2 4 (wC_g4 _ _ _ _) rfl 4 (by decide) (List.mem_of_getElem? (i := 2) rfl) rfl dX2_hasLive_11 ?_
        refine r_iload_n K dX2_hasLive_14 rfl ?_
        refine r_zald K 25 1 (wC_g25 _ _ _ _) rfl (by omega) (by decide) dX2_hasLive_15 ?_
        have hf4 := V_b hV 25 i
        refine r_if_eq K 31 dX2_hasLive_16 (by decide) (by omega) (fun h5 => ?_) (fun h5 => ?_)
        ·
          refine r_iinc (lv' := [(0, .ref (a 4)), (1, .int (nI x)), (2, .int (nI (i + 1)))]) K dX2_hasLive_31 rfl (nI_1 _) (by decide) rfl ?_
          refine r_goto K 2 dX2_hasLive_34 (by decide) ?_
          exact ih (i + 1) (by omega) (by omega) (anyB_s hn (liveB_1 h5))
        ·
          refine r_aload_n K dX2_hasLive_19 rfl ?_
          refine r_get K hin_X2_hasLive_2 4 (wC_g4 _ _ _ _) rfl 0 (by decide) (List.mem_of_getElem? (i := 3) rfl) rfl dX2_hasLive_20 ?_
          refine r_iload_n K dX2_hasLive_23 rfl ?_
          refine r_iald K 21 0 (wC_g21 _ _ _ _) rfl (by omega) (by decide) dX2_hasLive_24 ?_
          have hf6 := V_ocard hV i
          refine r_iload_n K dX2_hasLive_25 rfl ?_
          refine r_ic_ne K 31 dX2_hasLive_26 (by decide) (by omega) (by omega) (fun h7 => ?_) (fun h7 => ?_)
          ·
            refine r_iinc (lv' := [(0, .ref (a 4)), (1, .int (nI x)), (2, .int (nI (i + 1)))]) K dX2_hasLive_31 rfl (nI_1 _) (by decide) rfl ?_
            refine r_goto K 2 dX2_hasLive_34 (by decide) ?_
            exact ih (i + 1) (by omega) (by omega) (anyB_s hn (liveB_2 h7))
          ·
            refine r_iconst K (nI 1) dX2_hasLive_29 (by decide) ?_
            exact hret 0 0 _ _ _ 1 () dX2_hasLive_30 (by decide) (by rw [show liveB S x = true from (anyB_of (f := (fun o => decide (S 25 o ≠ 0) && decide (S 21 o = x))) (i := i) (liveB_y h5 h7) (by omega))]; rfl) rfl (Nat.le_of_ble_eq_true rfl) (Nat.le_of_ble_eq_true rfl)
  exact L1 (S 4 0 + 1) 0 (by omega) (by omega) rfl

def rmX2_canGive : Room := { frames := 0, cells := 0, slots := 0, locals := 0 }
theorem hin_X2_canGive_2 : ∀ w ∈ wsX20, w ∈ wsX2_canGive := fun _ h => List.mem_cons_of_mem _ (List.mem_append_right _ h)
set_option maxHeartbeats 4000000 in
set_option maxRecDepth 100000 in
theorem c_X2_canGive (l : Launch) (D : va_G) (a : Nat → Nat) (c : Nat → ClassId) (S J : St) (hV : V S) (o x : Nat) (ho : o < 40) (hx : x < 40) : Cs l yX2_canGive wsX2_canGive rmX2_canGive D (tyW c) [.ref (a 4), .int (nI o), .int (nI x)] (wC a c S J) (nI (gvB S o x).toNat) (wC a c S J) := by
  refine Ci.ofZ (lv0 := [(0, .ref (a 4)), (1, .int (nI o)), (2, .int (nI x))]) (by decide +kernel) rfl (Nat.le_of_ble_eq_true rfl) rfl (fun G K hret => ?_)
  refine r_aload_n K dX2_canGive_0 rfl ?_
  refine r_get K hin_X2_canGive_2 4 (wC_g4 _ _ _ _) rfl 1 (by decide) (List.mem_of_getElem? (i := 1) rfl) rfl dX2_canGive_1 ?_
  refine r_iload_n K dX2_canGive_4 rfl ?_
  refine r_iald K 22 0 (wC_g22 _ _ _ _) rfl (by omega) (by decide) dX2_canGive_5 ?_
  have hf1 := V_b hV 22 o
  refine r_aload_n K dX2_canGive_6 rfl ?_
  refine r_get K hin_X2_canGive_2 4 (wC_g4 _ _ _ _) rfl 2 (by decide) (List.mem_of_getElem? (i := 2) rfl) rfl dX2_canGive_7 ?_
  refine r_iload_n K dX2_canGive_10 rfl ?_
  refine r_iald K 23 0 (wC_g23 _ _ _ _) rfl (by omega) (by decide) dX2_canGive_11 ?_
  have hf2 := V_b hV 23 x
  refine r_ic_ne K 19 dX2_canGive_12 (by decide) (by omega) (by omega) (fun h3 => ?_) (fun h3 => ?_)
  ·
    refine r_iconst K (nI 0) dX2_canGive_19 (by decide) ?_
    exact hret 0 0 _ _ _ 0 () dX2_canGive_20 (by decide) (by rw [show gvB S o x = false from decide_eq_false h3]; rfl) rfl (Nat.le_of_ble_eq_true rfl) (Nat.le_of_ble_eq_true rfl)
  ·
    refine r_iconst K (nI 1) dX2_canGive_15 (by decide) ?_
    refine r_goto K 20 dX2_canGive_16 (by decide) ?_
    exact hret 0 0 _ _ _ 1 () dX2_canGive_20 (by decide) (by rw [show gvB S o x = true from decide_eq_true h3]; rfl) rfl (Nat.le_of_ble_eq_true rfl) (Nat.le_of_ble_eq_true rfl)

def rmX2_canFollow : Room := { frames := 1, cells := 0, slots := 0, locals := 22 }
theorem hin_X2_canFollow_2 : ∀ w ∈ wsX20, w ∈ wsX2_canFollow := fun _ h => List.mem_cons_of_mem _ (List.mem_append_right _ h)
set_option maxHeartbeats 4000000 in
set_option maxRecDepth 100000 in
theorem c_X2_canFollow (l : Launch) (D : va_G) (a : Nat → Nat) (c : Nat → ClassId) (S J : St) (hV : V S) (pre : List Nat) (t x : Nat) (ht : pre.length = t + 1) (ht4 : t < 4) (hag : agr (J 26) pre) (hgN : ∀ q, q < pre.length → g0 pre q < 40) (hx : x < 40) : Cs l yX2_canFollow wsX2_canFollow rmX2_canFollow D (tyW c) [.ref (a 4), .int (nI t), .int (nI x)] (wC a c S J) (nI (cfL S pre x).toNat) (wC a c S J) := by
  refine Ci.ofZ (lv0 := [(0, .ref (a 4)), (1, .int (nI t)), (2, .int (nI x))]) (by decide +kernel) rfl (Nat.le_of_ble_eq_true rfl) rfl (fun G K hret => ?_)
  refine r_aload_n K dX2_canFollow_0 rfl ?_
  refine r_get K hin_X2_canFollow_2 4 (wC_g4 _ _ _ _) rfl 4 (by decide) (List.mem_of_getElem? (i := 1) rfl) rfl dX2_canFollow_1 ?_
  refine r_iload_n K dX2_canFollow_4 rfl ?_
  refine r_zald K 25 1 (wC_g25 _ _ _ _) rfl (by omega) (by decide) dX2_canFollow_5 ?_
  have hf1 := V_b hV 25 x
  refine r_if_eq K 23 dX2_canFollow_6 (by decide) (by omega) (fun h2 => ?_) (fun h2 => ?_)
  ·
    refine r_iconst K (nI 0) dX2_canFollow_23 (by decide) ?_
    exact hret 0 0 _ _ _ 0 () dX2_canFollow_24 (by decide) (by rw [show cfL S pre x = false from cfL_1 h2]; rfl) rfl (Nat.le_of_ble_eq_true rfl) (Nat.le_of_ble_eq_true rfl)
  ·
    refine r_aload_n K dX2_canFollow_9 rfl ?_
    refine r_aload_n K dX2_canFollow_10 rfl ?_
    refine r_get K hin_X2_canFollow_2 4 (wC_g4 _ _ _ _) rfl 5 (by decide) (List.mem_of_getElem? (i := 2) rfl) rfl dX2_canFollow_11 ?_
    refine r_iload_n K dX2_canFollow_14 rfl ?_
    refine r_iald K 26 0 (wC_g26 _ _ _ _) rfl (by omega) (by decide) dX2_canFollow_15 ?_
    refine r_top (congrArg nI (hag t (by omega))) ?_
    have hg3 := hgN t (by omega)
    refine r_iload_n K dX2_canFollow_16 rfl ?_
    refine r_callVs (rest := []) K (c_X2_canGive l D a c S J hV (g0 pre t) x (by omega) (by omega)) 2 gX2_canFollow_X2_canGive rfl (by decide +kernel) rfl (by decide) 4 (wC_g4 _ _ _ _) rfl rfl (Nat.le_of_ble_eq_true rfl) dX2_canFollow_17 rfl rfl ?_
    refine r_if_neB K 25 dX2_canFollow_20 (by decide) (fun h4 => ?_) (fun h4 => ?_)
    ·
      have hlv := h2
      have hgv : gvB S (g0 pre (pre.length - 1)) x = true := by rw [show pre.length - 1 = t by omega]; exact h4
      refine r_iconst K (nI 0) dX2_canFollow_25 (by decide) ?_
      refine r_istore_n (lv' := [(0, .ref (a 4)), (1, .int (nI t)), (2, .int (nI x)), (3, .int (nI 0))]) K dX2_canFollow_26 (by decide) rfl ?_
      have L5 : ∀ (z : Nat) (i : Nat), t + 1 < i + z → (i ≤ t + 1) → (allB (fun q => decide (S 24 (g0 pre q) ≠ S 24 x)) i = true) → G 0 0 (wC a c S J) [(0, .ref (a 4)), (1, .int (nI t)), (2, .int (nI x)), (3, .int (nI i))] 27 [] := by
        intro z
        induction z with
        | zero => intro i hz hi hn; exact absurd hz (by omega)
        | succ z ih =>
          intro i hz hi hn
          refine r_iload_n K dX2_canFollow_27 rfl ?_
          refine r_iload_n K dX2_canFollow_28 rfl ?_
          refine r_ic_gt K 60 dX2_canFollow_29 (by decide) (by omega) (by omega) (fun h6 => ?_) (fun h6 => ?_)
          ·
            refine r_iconst K (nI 1) dX2_canFollow_60 (by decide) ?_
            exact hret 0 0 _ _ _ 1 () dX2_canFollow_61 (by decide) (by rw [show cfL S pre x = true from cfL_y hlv hgv (by rw [show pre.length = i by omega]; exact hn)]; rfl) rfl (Nat.le_of_ble_eq_true rfl) (Nat.le_of_ble_eq_true rfl)
          ·
            refine r_aload_n K dX2_canFollow_32 rfl ?_
            refine r_get K hin_X2_canFollow_2 4 (wC_g4 _ _ _ _) rfl 3 (by decide) (List.mem_of_getElem? (i := 3) rfl) rfl dX2_canFollow_33 ?_
            refine r_aload_n K dX2_canFollow_36 rfl ?_
            refine r_get K hin_X2_canFollow_2 4 (wC_g4 _ _ _ _) rfl 5 (by decide) (List.mem_of_getElem? (i := 2) rfl) rfl dX2_canFollow_37 ?_
            refine r_iload_n K dX2_canFollow_40 rfl ?_
            refine r_iald K 26 0 (wC_g26 _ _ _ _) rfl (by omega) (by decide) dX2_canFollow_41 ?_
            refine r_top (congrArg nI (hag i (by omega))) ?_
            have hg7 := hgN i (by omega)
            refine r_iald K 24 0 (wC_g24 _ _ _ _) rfl (by omega) (by decide) dX2_canFollow_42 ?_
            have hf8 := V_b hV 24 (g0 pre i)
            refine r_aload_n K dX2_canFollow_43 rfl ?_
            refine r_get K hin_X2_canFollow_2 4 (wC_g4 _ _ _ _) rfl 3 (by decide) (List.mem_of_getElem? (i := 3) rfl) rfl dX2_canFollow_44 ?_
            refine r_iload_n K dX2_canFollow_47 rfl ?_
            refine r_iald K 24 0 (wC_g24 _ _ _ _) rfl (by omega) (by decide) dX2_canFollow_48 ?_
            have hf9 := V_b hV 24 x
            refine r_ic_ne K 54 dX2_canFollow_49 (by decide) (by omega) (by omega) (fun h10 => ?_) (fun h10 => ?_)
            ·
              refine r_iinc (lv' := [(0, .ref (a 4)), (1, .int (nI t)), (2, .int (nI x)), (3, .int (nI (i + 1)))]) K dX2_canFollow_54 rfl (nI_1 _) (by decide) rfl ?_
              refine r_goto K 27 dX2_canFollow_57 (by decide) ?_
              exact ih (i + 1) (by omega) (by omega) (allB_s hn (decide_eq_true h10))
            ·
              refine r_iconst K (nI 0) dX2_canFollow_52 (by decide) ?_
              exact hret 0 0 _ _ _ 0 () dX2_canFollow_53 (by decide) (by rw [show cfL S pre x = false from cfL_3 (q := i) (by omega) h10]; rfl) rfl (Nat.le_of_ble_eq_true rfl) (Nat.le_of_ble_eq_true rfl)
      exact L5 (t + 2) 0 (by omega) (by omega) rfl
    ·
      refine r_iconst K (nI 0) dX2_canFollow_23 (by decide) ?_
      exact hret 0 0 _ _ _ 0 () dX2_canFollow_24 (by decide) (by rw [show cfL S pre x = false from cfL_2 (by rw [show pre.length - 1 = t by omega]; exact h4)]; rfl) rfl (Nat.le_of_ble_eq_true rfl) (Nat.le_of_ble_eq_true rfl)

theorem hin_X2_closes_2 : ∀ w ∈ wsX20, w ∈ wsX2_closes := fun _ h => List.mem_cons_of_mem _ (List.mem_append_right _ h)
set_option maxHeartbeats 4000000 in
set_option maxRecDepth 100000 in
theorem c_X2_closes (l : Launch) (D : va_G) (a : Nat → Nat) (c : Nat → ClassId) (S : St) (hV : V S) : ∀ (m : Nat) (J : St) (pre : List Nat) (t len : Nat), pre.length = t + 1 → len = t + 1 + m → len ≤ 4 → agr (J 26) pre → (∀ q, q < pre.length → g0 pre q < S 4 0) →
    Ci l yX2_closes wsX2_closes (rmCl m) D (tyW c) [.ref (a 4), .int (nI t), .int (nI len)] (wC a c S J) (fun r J1 => closePost S J (S 4 0) m pre r J1) (fun J1 => wC a c S J1) := by
  have hof := V_offers hV
  intro m
  induction m with
  | zero =>
    intro J pre t len ht hlen hl4 hag hgN'
    have hgN : ∀ q, q < pre.length → g0 pre q < 40 := fun q hq => Nat.lt_of_lt_of_le (hgN' q hq) hof
    refine Ci.ofZ (lv0 := [(0, .ref (a 4)), (1, .int (nI t)), (2, .int (nI len))]) (by decide +kernel) rfl (Nat.le_of_ble_eq_true rfl) rfl (fun G K hret => ?_)
    refine r_iload_n K dX2_closes_0 rfl ?_
    refine r_iload_n K dX2_closes_1 rfl ?_
    refine r_iconst K (nI 1) dX2_closes_2 (by decide) ?_
    refine r_isub K dX2_closes_3 (by omega) ?_
    refine r_ic_ge K 12 dX2_closes_4 (by decide) (by omega) (by omega) (fun h1 => ?_) (fun h1 => ?_)
    ·
      refine r_aload_n K dX2_closes_12 rfl ?_
      refine r_aload_n K dX2_closes_13 rfl ?_
      refine r_get K hin_X2_closes_2 4 (wC_g4 _ _ _ _) rfl 5 (by decide) (List.mem_of_getElem? (i := 1) rfl) rfl dX2_closes_14 ?_
      refine r_iload_n K dX2_closes_17 rfl ?_
      refine r_iald K 26 0 (wC_g26 _ _ _ _) rfl (by omega) (by decide) dX2_closes_18 ?_
      refine r_top (congrArg nI (hag t (by omega))) ?_
      have hg2 := hgN t (by omega)
      refine r_aload_n K dX2_closes_19 rfl ?_
      refine r_get K hin_X2_closes_2 4 (wC_g4 _ _ _ _) rfl 5 (by decide) (List.mem_of_getElem? (i := 1) rfl) rfl dX2_closes_20 ?_
      refine r_iconst K (nI 0) dX2_closes_23 (by decide) ?_
      refine r_iald K 26 0 (wC_g26 _ _ _ _) rfl (by omega) (by decide) dX2_closes_24 ?_
      refine r_top (congrArg nI (hag 0 (by omega))) ?_
      have hg3 := hgN 0 (by omega)
      refine r_callVs (rest := []) K (c_X2_canGive l D a c S J hV (g0 pre t) (g0 pre 0) (by omega) (by omega)) 2 gX2_closes_X2_canGive rfl (by decide +kernel) rfl (by decide) 4 (wC_g4 _ _ _ _) rfl rfl (Nat.le_of_ble_eq_true rfl) dX2_closes_25 rfl rfl ?_
      exact hret 0 0 _ _ _ _ _ dX2_closes_28 (toNat_lt2 _) (close_0 ht hag) rfl (Nat.zero_le _) (Nat.zero_le _)
    ·
      exact (show False by omega).elim
  | succ m ihm =>
    intro J pre t len ht hlen hl4 hag hgN'
    have hgN : ∀ q, q < pre.length → g0 pre q < 40 := fun q hq => Nat.lt_of_lt_of_le (hgN' q hq) hof
    have hg0 := hgN' 0 (by omega)
    refine Ci.ofZ (lv0 := [(0, .ref (a 4)), (1, .int (nI t)), (2, .int (nI len))]) (by decide +kernel) rfl (Nat.le_of_ble_eq_true rfl) rfl (fun G K hret => ?_)
    refine r_iload_n K dX2_closes_0 rfl ?_
    refine r_iload_n K dX2_closes_1 rfl ?_
    refine r_iconst K (nI 1) dX2_closes_2 (by decide) ?_
    refine r_isub K dX2_closes_3 (by omega) ?_
    refine r_ic_ge K 12 dX2_closes_4 (by decide) (by omega) (by omega) (fun h1 => ?_) (fun h1 => ?_)
    ·
      exact (show False by omega).elim
    ·
      refine r_iload_n K dX2_closes_7 rfl ?_
      refine r_iconst K (nI 3) dX2_closes_8 (by decide) ?_
      refine r_ic_lt K 29 dX2_closes_9 (by decide) (by omega) (by decide) (fun h2 => ?_) (fun h2 => ?_)
      ·
        refine r_aload_n K dX2_closes_29 rfl ?_
        refine r_get K hin_X2_closes_2 4 (wC_g4 _ _ _ _) rfl 5 (by decide) (List.mem_of_getElem? (i := 1) rfl) rfl dX2_closes_30 ?_
        refine r_iconst K (nI 0) dX2_closes_33 (by decide) ?_
        refine r_iald K 26 0 (wC_g26 _ _ _ _) rfl (by omega) (by decide) dX2_closes_34 ?_
        refine r_top (congrArg nI (hag 0 (by omega))) ?_
        have hg3 := hgN 0 (by omega)
        refine r_iconst K (nI 1) dX2_closes_35 (by decide) ?_
        refine r_iadd K dX2_closes_36 ?_
        refine r_istore_n (lv' := [(0, .ref (a 4)), (1, .int (nI t)), (2, .int (nI len)), (3, .int (nI (g0 pre 0 + 1)))]) K dX2_closes_37 (by decide) rfl ?_
        have L4 : ∀ (z : Nat) (x : Nat) (Jx : St), S 4 0 < x + z → (x ≤ S 4 0) → (∀ g, g ≠ 26 → Jx g = J g) → (agr (Jx 26) pre) → (comp S (S 4 0) (m + 1) pre = scan (fcp S (S 4 0) m pre) (S 4 0 - x) x) → G 0 0 (wC a c S Jx) [(0, .ref (a 4)), (1, .int (nI t)), (2, .int (nI len)), (3, .int (nI x))] 38 [] := by
          intro z
          induction z with
          | zero => intro x Jx hz hx ho hag hsc; exact absurd hz (by omega)
          | succ z ih =>
            intro x Jx hz hx ho hag hsc
            refine r_iload_n K dX2_closes_38 rfl ?_
            refine r_aload_n K dX2_closes_39 rfl ?_
            refine r_get K hin_X2_closes_2 4 (wC_g4 _ _ _ _) rfl 6 (by decide) (List.mem_of_getElem? (i := 2) rfl) rfl dX2_closes_40 ?_
            have hf5 := V_b hV 4 0
            refine r_ic_ge K 83 dX2_closes_43 (by decide) (by omega) (by omega) (fun h6 => ?_) (fun h6 => ?_)
            ·
              refine r_iconst K (nI 0) dX2_closes_83 (by decide) ?_
              exact hret 0 0 _ _ _ 0 _ dX2_closes_84 (by decide) (close_no (by rw [hsc]; exact scan_end (by omega)) ho hag) rfl (Nat.zero_le _) (Nat.zero_le _)
            ·
              refine r_aload_n K dX2_closes_46 rfl ?_
              refine r_iload_n K dX2_closes_47 rfl ?_
              refine r_iload_n K dX2_closes_48 rfl ?_
              refine r_callVs (rest := []) K (c_X2_canFollow l D a c S Jx hV pre t x ht (by omega) hag hgN (by omega)) 2 gX2_closes_X2_canFollow rfl (by decide +kernel) rfl (by simp only [okRoom, rmCl, rmX2_canFollow]; omega) 4 (wC_g4 _ _ _ _) rfl rfl (Nat.le_of_ble_eq_true rfl) dX2_closes_49 rfl rfl ?_
              refine r_if_eqB K 77 dX2_closes_52 (by decide) (fun h7 => ?_) (fun h7 => ?_)
              ·
                refine r_iinc (lv' := [(0, .ref (a 4)), (1, .int (nI t)), (2, .int (nI len)), (3, .int (nI (x + 1)))]) K dX2_closes_77 rfl (nI_1 _) (by decide) rfl ?_
                refine r_goto K 38 dX2_closes_80 (by decide) ?_
                exact ih (x + 1) Jx (by omega) (by omega) ho hag (by rw [hsc]; exact scan_at (by omega) (fcp_n h7))
              ·
                have hcf := h7
                refine r_aload_n K dX2_closes_55 rfl ?_
                refine r_get K hin_X2_closes_2 4 (wC_g4 _ _ _ _) rfl 5 (by decide) (List.mem_of_getElem? (i := 1) rfl) rfl dX2_closes_56 ?_
                refine r_iload_n K dX2_closes_59 rfl ?_
                refine r_iconst K (nI 1) dX2_closes_60 (by decide) ?_
                refine r_iadd K dX2_closes_61 ?_
                refine r_iload_n K dX2_closes_62 rfl ?_
                refine r_iast K 26 0 (wC_g26 _ _ _ _) rfl (by omega) (by decide) dX2_closes_63 (wC_s26 _ _ _ _ _ _) ?_
                refine r_aload_n K dX2_closes_64 rfl ?_
                refine r_iload_n K dX2_closes_65 rfl ?_
                refine r_iconst K (nI 1) dX2_closes_66 (by decide) ?_
                refine r_iadd K dX2_closes_67 ?_
                refine r_iload_n K dX2_closes_68 rfl ?_
                have hag2 : agr (up Jx 26 (t + 1) x 26) (pre ++ [x]) := by rw [← ht]; exact agr_up hag
                have hgN2 : ∀ q, q < (pre ++ [x]).length → g0 (pre ++ [x]) q < S 4 0 := by
                  intro q hq
                  rw [List.length_append, List.length_singleton] at hq
                  by_cases e : q = pre.length
                  · rw [e, g0_last]; omega
                  · rw [g0_app (by omega)]; exact hgN' q (by omega)
                refine r_callS (rest := []) K (ihm (up Jx 26 (t + 1) x) (pre ++ [x]) (t + 1) len (by rw [List.length_append, List.length_singleton]; omega) (by omega) hl4 hag2 hgN2) 3 gX2_closes_X2_closes rfl (by decide +kernel) rfl (by simp only [okRoom, rmCl]; omega) rfl (Nat.le_of_ble_eq_true rfl) dX2_closes_69 (fun r J1 hp => ?_)
                obtain ⟨hr, ho1, hagp, hl1⟩ := hp
                subst hr
                refine r_if_eqB K 77 dX2_closes_72 (by decide) (fun h8 => ?_) (fun h8 => ?_)
                ·
                  refine r_iinc (lv' := [(0, .ref (a 4)), (1, .int (nI t)), (2, .int (nI len)), (3, .int (nI (x + 1)))]) K dX2_closes_77 rfl (nI_1 _) (by decide) rfl ?_
                  refine r_goto K 38 dX2_closes_80 (by decide) ?_
                  exact ih (x + 1) J1 (by omega) (by omega) (fun g hg => (ho1 g hg).trans ((up_ne hg).trans (ho g hg))) (agr_pre hagp) (by rw [hsc]; exact scan_at (by omega) (by rw [fcp_c hcf]; exact isSome_f h8))
                ·
                  refine r_iconst K (nI 1) dX2_closes_75 (by decide) ?_
                  obtain ⟨l', hl'⟩ := isSome_t h8
                  exact hret 0 0 _ _ _ 1 _ dX2_closes_76 (by decide) (close_yes (l := l') (by rw [hsc]; exact scan_hit (by omega) (by rw [fcp_c hcf]; exact hl')) (fun g hg => (ho1 g hg).trans ((up_ne hg).trans (ho g hg))) (agr_pre hagp) (hl1 _ hl')) rfl (Nat.zero_le _) (Nat.zero_le _)
        exact L4 (S 4 0 + 1) (g0 pre 0 + 1) J (by omega) (by omega) (fun _ _ => rfl) hag rfl
      ·
        exact (show False by omega).elim

def rmX2_findRing : Room := { frames := 9, cells := 0, slots := 0, locals := 300 }
theorem hin_X2_findRing_2 : ∀ w ∈ wsX20, w ∈ wsX2_findRing := fun _ h => List.mem_cons_of_mem _ (List.mem_append_right _ h)
set_option maxHeartbeats 4000000 in
set_option maxRecDepth 100000 in
theorem c_X2_findRing (l : Launch) (D : va_G) (a : Nat → Nat) (c : Nat → ClassId) (S J : St) (hV : V S) : Ci l yX2_findRing wsX2_findRing rmX2_findRing D (tyW c) [.ref (a 4)] (wC a c S J) (fun r J1 => findPost S J r J1) (fun J1 => wC a c S J1) := by
  refine Ci.of (lv0 := [(0, .ref (a 4))]) (by decide +kernel) rfl (Nat.le_of_ble_eq_true rfl) rfl (fun G K hret => ?_)
  have hof := V_offers hV
  refine r_iconst K (nI 2) dX2_findRing_0 (by decide) ?_
  refine r_istore_n (lv' := [(0, .ref (a 4)), (1, .int (nI 2))]) K dX2_findRing_1 (by decide) rfl ?_
  have L1 : ∀ (z : Nat) (len : Nat) (Jx : St), 5 < len + z → (2 ≤ len) → (len ≤ 5) → (∀ g, g ≠ 26 → Jx g = J g) → (frl S = frk S (S 4 0) (5 - len) len) → G 0 0 (wC a c S Jx) [(0, .ref (a 4)), (1, .int (nI len))] 2 [] := by
    intro z
    induction z with
    | zero => intro len Jx hz h2 h5 ho hfr; exact absurd hz (by omega)
    | succ z ih1 =>
      intro len Jx hz h2 h5 ho hfr
      refine r_iload_n K dX2_findRing_2 rfl ?_
      refine r_iconst K (nI 4) dX2_findRing_3 (by decide) ?_
      refine r_ic_gt K 56 dX2_findRing_4 (by decide) (by omega) (by decide) (fun h2 => ?_) (fun h2 => ?_)
      ·
        refine r_iconst K (nI 0) dX2_findRing_56 (by decide) ?_
        exact hret 0 0 _ _ _ _ _ dX2_findRing_57 (find_no (by rw [hfr, show 5 - len = 0 by omega]; rfl) ho) rfl (Nat.le_of_ble_eq_true rfl) (Nat.le_of_ble_eq_true rfl)
      ·
        refine r_iconst K (nI 0) dX2_findRing_7 (by decide) ?_
        refine r_istore_n (lv' := [(0, .ref (a 4)), (1, .int (nI len)), (2, .int (nI 0))]) K dX2_findRing_8 (by decide) rfl ?_
        have M3 : ∀ (z2 : Nat) (x : Nat) (Jy : St), S 4 0 < x + z2 → (x ≤ S 4 0) → (∀ g, g ≠ 26 → Jy g = J g) → (ringL S (S 4 0) len = scan (topf S (S 4 0) len) (S 4 0 - x) x) → G 0 0 (wC a c S Jy) [(0, .ref (a 4)), (1, .int (nI len)), (2, .int (nI x))] 9 [] := by
          intro z2
          induction z2 with
          | zero => intro x Jy hz hx ho2 hsc; exact absurd hz (by omega)
          | succ z2 ih =>
            intro x Jy hz hx ho2 hsc
            refine r_iload_n K dX2_findRing_9 rfl ?_
            refine r_aload_n K dX2_findRing_10 rfl ?_
            refine r_get K hin_X2_findRing_2 4 (wC_g4 _ _ _ _) rfl 6 (by decide) (List.mem_of_getElem? (i := 1) rfl) rfl dX2_findRing_11 ?_
            have hf4 := V_b hV 4 0
            refine r_ic_ge K 50 dX2_findRing_14 (by decide) (by omega) (by omega) (fun h5 => ?_) (fun h5 => ?_)
            ·
              refine r_iinc (lv' := [(0, .ref (a 4)), (1, .int (nI (len + 1))), (2, .int (nI x))]) K dX2_findRing_50 rfl (nI_1 _) (by decide) rfl ?_
              refine r_goto K 2 dX2_findRing_53 (by decide) ?_
              refine r_pick [0, 1] K rfl ?_
              exact ih1 (len + 1) _ (by omega) (by omega) (by omega) ho2 (by rw [hfr, show 5 - len = (5 - (len + 1)) + 1 by omega]; exact frk_n (by rw [hsc]; exact scan_end (by omega)))
            ·
              refine r_aload_n K dX2_findRing_17 rfl ?_
              refine r_get K hin_X2_findRing_2 4 (wC_g4 _ _ _ _) rfl 5 (by decide) (List.mem_of_getElem? (i := 2) rfl) rfl dX2_findRing_18 ?_
              refine r_iconst K (nI 0) dX2_findRing_21 (by decide) ?_
              refine r_iload_n K dX2_findRing_22 rfl ?_
              refine r_iast K 26 0 (wC_g26 _ _ _ _) rfl (by omega) (by decide) dX2_findRing_23 (wC_s26 _ _ _ _ _ _) ?_
              refine r_aload_n K dX2_findRing_24 rfl ?_
              refine r_get K hin_X2_findRing_2 4 (wC_g4 _ _ _ _) rfl 4 (by decide) (List.mem_of_getElem? (i := 3) rfl) rfl dX2_findRing_25 ?_
              refine r_iload_n K dX2_findRing_28 rfl ?_
              refine r_zald K 25 1 (wC_g25 _ _ _ _) rfl (by omega) (by decide) dX2_findRing_29 ?_
              have hf6 := V_b hV 25 x
              refine r_if_eq K 44 dX2_findRing_30 (by decide) (by omega) (fun h7 => ?_) (fun h7 => ?_)
              ·
                refine r_iinc (lv' := [(0, .ref (a 4)), (1, .int (nI len)), (2, .int (nI (x + 1)))]) K dX2_findRing_44 rfl (nI_1 _) (by decide) rfl ?_
                refine r_goto K 9 dX2_findRing_47 (by decide) ?_
                exact ih (x + 1) _ (by omega) (by omega) (fun g hg => (up_ne hg).trans (ho2 g hg)) (by rw [hsc]; exact scan_at (by omega) (topf_n h7))
              ·
                have hlv := h7
                refine r_aload_n K dX2_findRing_33 rfl ?_
                refine r_iconst K (nI 0) dX2_findRing_34 (by decide) ?_
                refine r_iload_n K dX2_findRing_35 rfl ?_
                have hgN2 : ∀ q, q < [x].length → g0 [x] q < S 4 0 := by
                  intro q hq
                  have e : q = 0 := by simpa using hq
                  subst e
                  show x < S 4 0
                  omega
                refine r_callS (rest := []) K (c_X2_closes l D a c S hV (len - 1) (up Jy 26 0 x) [x] 0 len rfl (by omega) (by omega) agr_one hgN2) 3 gX2_findRing_X2_closes rfl (by decide +kernel) rfl (by simp only [okRoom, rmCl, rmX2_findRing]; omega) rfl (Nat.le_of_ble_eq_true rfl) dX2_findRing_36 (fun r J1 hp => ?_)
                obtain ⟨hr, ho1, hagp, hl1⟩ := hp
                subst hr
                refine r_if_eqB K 44 dX2_findRing_39 (by decide) (fun h8 => ?_) (fun h8 => ?_)
                ·
                  refine r_iinc (lv' := [(0, .ref (a 4)), (1, .int (nI len)), (2, .int (nI (x + 1)))]) K dX2_findRing_44 rfl (nI_1 _) (by decide) rfl ?_
                  refine r_goto K 9 dX2_findRing_47 (by decide) ?_
                  exact ih (x + 1) J1 (by omega) (by omega) (fun g hg => (ho1 g hg).trans ((up_ne hg).trans (ho2 g hg))) (by rw [hsc]; exact scan_at (by omega) (by rw [topf_c hlv]; exact isSome_f h8))
                ·
                  refine r_iload_n K dX2_findRing_42 rfl ?_
                  obtain ⟨l', hl'⟩ := isSome_t h8
                  exact hret 0 0 _ _ _ _ _ dX2_findRing_43 (find_yes (l := l') (by omega) (by omega) hfr (by rw [hsc]; exact scan_hit (by omega) (by rw [topf_c hlv]; exact hl')) (fun g hg => (ho1 g hg).trans ((up_ne hg).trans (ho2 g hg))) (hl1 _ hl')) rfl (Nat.le_of_ble_eq_true rfl) (Nat.le_of_ble_eq_true rfl)
        exact M3 (S 4 0 + 1) 0 Jx (by omega) (by omega) ho (by rw [Nat.sub_zero]; rfl)
  exact L1 4 2 J (by omega) (by omega) (by omega) (fun _ _ => rfl) rfl
end
