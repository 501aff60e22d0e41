section
-- ===== PART A: goes FIRST, ahead of the names: the tables' words, and 'selects' of the private methods out of them =====
/-- a private method of a class that the tables say can be made, by its rows of tables_1 -/
def lw_okq (q : MethodName × Nat) : Prop := (q.1.cls ≠ "java/lang/invoke/MethodHandle" ∧ q.1.cls ≠ "java/lang/invoke/VarHandle") ∧ Cond.instantiable q.1.cls q.2 ∈ tables_1 ∧ Cond.privateMethod q.1 ∈ tables_1 ∧ Cond.instanceMethod q.1 ∈ tables_1
theorem lw_p0 : lw_okq (⟨"Cardhouse$Offers", "canGive", "(II)Z"⟩, 7) := ⟨⟨by decide +kernel, by decide +kernel⟩, List.mem_of_getElem? (i := 116) (by decide +kernel), List.mem_of_getElem? (i := 214) (by decide +kernel), List.mem_of_getElem? (i := 215) (by decide +kernel)⟩
theorem lw_p1 : lw_okq (⟨"Cardhouse$Offers", "canFollow", "(II)Z"⟩, 7) := ⟨⟨by decide +kernel, by decide +kernel⟩, List.mem_of_getElem? (i := 116) (by decide +kernel), List.mem_of_getElem? (i := 218) (by decide +kernel), List.mem_of_getElem? (i := 219) (by decide +kernel)⟩
theorem lw_p2 : lw_okq (⟨"java/lang/Throwable", "fillInStackTrace", "(I)Ljava/lang/Throwable;"⟩, 6) := ⟨⟨by decide +kernel, by decide +kernel⟩, List.mem_of_getElem? (i := 276) (by decide +kernel), List.mem_of_getElem? (i := 274) (by decide +kernel), List.mem_of_getElem? (i := 275) (by decide +kernel)⟩
theorem lw_p3 : lw_okq (⟨"Cardhouse", "needDeck", "(I)V"⟩, 7) := ⟨⟨by decide +kernel, by decide +kernel⟩, List.mem_of_getElem? (i := 17) (by decide +kernel), List.mem_of_getElem? (i := 412) (by decide +kernel), List.mem_of_getElem? (i := 413) (by decide +kernel)⟩
theorem lw_p4 : lw_okq (⟨"Cardhouse", "needCard", "(I)V"⟩, 7) := ⟨⟨by decide +kernel, by decide +kernel⟩, List.mem_of_getElem? (i := 17) (by decide +kernel), List.mem_of_getElem? (i := 417) (by decide +kernel), List.mem_of_getElem? (i := 418) (by decide +kernel)⟩
theorem lw_p5 : lw_okq (⟨"Cardhouse", "needPlace", "(II)V"⟩, 7) := ⟨⟨by decide +kernel, by decide +kernel⟩, List.mem_of_getElem? (i := 17) (by decide +kernel), List.mem_of_getElem? (i := 440) (by decide +kernel), List.mem_of_getElem? (i := 441) (by decide +kernel)⟩
theorem lw_p6 : lw_okq (⟨"Cardhouse", "needAllowed", "(I)V"⟩, 7) := ⟨⟨by decide +kernel, by decide +kernel⟩, List.mem_of_getElem? (i := 17) (by decide +kernel), List.mem_of_getElem? (i := 461) (by decide +kernel), List.mem_of_getElem? (i := 462) (by decide +kernel)⟩
theorem lw_p7 : lw_okq (⟨"Cardhouse", "playRound", "(I)V"⟩, 7) := ⟨⟨by decide +kernel, by decide +kernel⟩, List.mem_of_getElem? (i := 17) (by decide +kernel), List.mem_of_getElem? (i := 479) (by decide +kernel), List.mem_of_getElem? (i := 480) (by decide +kernel)⟩
theorem lw_p8 : lw_okq (⟨"Cardhouse", "giveWins", "(I)V"⟩, 7) := ⟨⟨by decide +kernel, by decide +kernel⟩, List.mem_of_getElem? (i := 17) (by decide +kernel), List.mem_of_getElem? (i := 487) (by decide +kernel), List.mem_of_getElem? (i := 488) (by decide +kernel)⟩
theorem lw_p9 : lw_okq (⟨"Cardhouse", "needOffer", "(I)V"⟩, 7) := ⟨⟨by decide +kernel, by decide +kernel⟩, List.mem_of_getElem? (i := 17) (by decide +kernel), List.mem_of_getElem? (i := 517) (by decide +kernel), List.mem_of_getElem? (i := 518) (by decide +kernel)⟩
theorem lw_p10 : lw_okq (⟨"CardhouseModel", "goes", "(ZZZ)Z"⟩, 23) := ⟨⟨by decide +kernel, by decide +kernel⟩, List.mem_of_getElem? (i := 611) (by decide +kernel), List.mem_of_getElem? (i := 701) (by decide +kernel), List.mem_of_getElem? (i := 702) (by decide +kernel)⟩
theorem lw_p11 : lw_okq (⟨"CardhouseModel", "manyAllowed", "()I"⟩, 23) := ⟨⟨by decide +kernel, by decide +kernel⟩, List.mem_of_getElem? (i := 611) (by decide +kernel), List.mem_of_getElem? (i := 709) (by decide +kernel), List.mem_of_getElem? (i := 710) (by decide +kernel)⟩
theorem lw_p12 : lw_okq (⟨"CardhouseModel", "allows", "(I)Z"⟩, 23) := ⟨⟨by decide +kernel, by decide +kernel⟩, List.mem_of_getElem? (i := 611) (by decide +kernel), List.mem_of_getElem? (i := 713) (by decide +kernel), List.mem_of_getElem? (i := 714) (by decide +kernel)⟩
theorem lw_p13 : lw_okq (⟨"CardhouseModel", "kindAt", "(II)I"⟩, 23) := ⟨⟨by decide +kernel, by decide +kernel⟩, List.mem_of_getElem? (i := 611) (by decide +kernel), List.mem_of_getElem? (i := 717) (by decide +kernel), List.mem_of_getElem? (i := 718) (by decide +kernel)⟩
theorem lw_p14 : lw_okq (⟨"CardhouseModel", "manyOf", "(II)I"⟩, 23) := ⟨⟨by decide +kernel, by decide +kernel⟩, List.mem_of_getElem? (i := 611) (by decide +kernel), List.mem_of_getElem? (i := 721) (by decide +kernel), List.mem_of_getElem? (i := 722) (by decide +kernel)⟩
theorem lw_p15 : lw_okq (⟨"CardhouseModel", "isDeck", "(I)Z"⟩, 23) := ⟨⟨by decide +kernel, by decide +kernel⟩, List.mem_of_getElem? (i := 611) (by decide +kernel), List.mem_of_getElem? (i := 744) (by decide +kernel), List.mem_of_getElem? (i := 745) (by decide +kernel)⟩
def lw_privs_1 : List (MethodName × Nat) := [(⟨"Cardhouse$Offers", "canGive", "(II)Z"⟩, 7), (⟨"Cardhouse$Offers", "canFollow", "(II)Z"⟩, 7), (⟨"java/lang/Throwable", "fillInStackTrace", "(I)Ljava/lang/Throwable;"⟩, 6), (⟨"Cardhouse", "needDeck", "(I)V"⟩, 7), (⟨"Cardhouse", "needCard", "(I)V"⟩, 7), (⟨"Cardhouse", "needPlace", "(II)V"⟩, 7), (⟨"Cardhouse", "needAllowed", "(I)V"⟩, 7), (⟨"Cardhouse", "playRound", "(I)V"⟩, 7), (⟨"Cardhouse", "giveWins", "(I)V"⟩, 7), (⟨"Cardhouse", "needOffer", "(I)V"⟩, 7), (⟨"CardhouseModel", "goes", "(ZZZ)Z"⟩, 23), (⟨"CardhouseModel", "manyAllowed", "()I"⟩, 23), (⟨"CardhouseModel", "allows", "(I)Z"⟩, 23), (⟨"CardhouseModel", "kindAt", "(II)I"⟩, 23), (⟨"CardhouseModel", "manyOf", "(II)I"⟩, 23), (⟨"CardhouseModel", "isDeck", "(I)Z"⟩, 23)]
theorem lw_r1 : ∀ q ∈ lw_privs_1, lw_okq q := List.forall_mem_cons.mpr ⟨lw_p0, List.forall_mem_cons.mpr ⟨lw_p1, List.forall_mem_cons.mpr ⟨lw_p2, List.forall_mem_cons.mpr ⟨lw_p3, List.forall_mem_cons.mpr ⟨lw_p4, List.forall_mem_cons.mpr ⟨lw_p5, List.forall_mem_cons.mpr ⟨lw_p6, List.forall_mem_cons.mpr ⟨lw_p7, List.forall_mem_cons.mpr ⟨lw_p8, List.forall_mem_cons.mpr ⟨lw_p9, List.forall_mem_cons.mpr ⟨lw_p10, List.forall_mem_cons.mpr ⟨lw_p11, List.forall_mem_cons.mpr ⟨lw_p12, List.forall_mem_cons.mpr ⟨lw_p13, List.forall_mem_cons.mpr ⟨lw_p14, List.forall_mem_cons.mpr ⟨lw_p15, fun _ h => absurd h List.not_mem_nil⟩⟩⟩⟩⟩⟩⟩⟩⟩⟩⟩⟩⟩⟩⟩⟩
theorem lw_p16 : lw_okq (⟨"CardhouseModel", "isCard", "(I)Z"⟩, 23) := ⟨⟨by decide +kernel, by decide +kernel⟩, List.mem_of_getElem? (i := 611) (by decide +kernel), List.mem_of_getElem? (i := 748) (by decide +kernel), List.mem_of_getElem? (i := 749) (by decide +kernel)⟩
theorem lw_p17 : lw_okq (⟨"CardhouseModel", "isIn", "(II)Z"⟩, 23) := ⟨⟨by decide +kernel, by decide +kernel⟩, List.mem_of_getElem? (i := 611) (by decide +kernel), List.mem_of_getElem? (i := 752) (by decide +kernel), List.mem_of_getElem? (i := 753) (by decide +kernel)⟩
theorem lw_p18 : lw_okq (⟨"CardhouseModel", "shuffles", "(III)V"⟩, 23) := ⟨⟨by decide +kernel, by decide +kernel⟩, List.mem_of_getElem? (i := 611) (by decide +kernel), List.mem_of_getElem? (i := 764) (by decide +kernel), List.mem_of_getElem? (i := 765) (by decide +kernel)⟩
theorem lw_p19 : lw_okq (⟨"CardhouseModel", "effect", "(IIZ)I"⟩, 23) := ⟨⟨by decide +kernel, by decide +kernel⟩, List.mem_of_getElem? (i := 611) (by decide +kernel), List.mem_of_getElem? (i := 772) (by decide +kernel), List.mem_of_getElem? (i := 773) (by decide +kernel)⟩
theorem lw_p20 : lw_okq (⟨"CardhouseModel", "wonBy", "(I)V"⟩, 23) := ⟨⟨by decide +kernel, by decide +kernel⟩, List.mem_of_getElem? (i := 611) (by decide +kernel), List.mem_of_getElem? (i := 776) (by decide +kernel), List.mem_of_getElem? (i := 777) (by decide +kernel)⟩
theorem lw_p21 : lw_okq (⟨"CardhouseModel", "opens", "(I)Z"⟩, 23) := ⟨⟨by decide +kernel, by decide +kernel⟩, List.mem_of_getElem? (i := 611) (by decide +kernel), List.mem_of_getElem? (i := 784) (by decide +kernel), List.mem_of_getElem? (i := 785) (by decide +kernel)⟩
theorem lw_p22 : lw_okq (⟨"CardhouseModel", "isOffer", "(I)Z"⟩, 23) := ⟨⟨by decide +kernel, by decide +kernel⟩, List.mem_of_getElem? (i := 611) (by decide +kernel), List.mem_of_getElem? (i := 792) (by decide +kernel), List.mem_of_getElem? (i := 793) (by decide +kernel)⟩
theorem lw_p23 : lw_okq (⟨"CardhouseModel", "first", "()I"⟩, 23) := ⟨⟨by decide +kernel, by decide +kernel⟩, List.mem_of_getElem? (i := 611) (by decide +kernel), List.mem_of_getElem? (i := 800) (by decide +kernel), List.mem_of_getElem? (i := 801) (by decide +kernel)⟩
theorem lw_p24 : lw_okq (⟨"CardhouseModel", "hasRing", "(I)Z"⟩, 23) := ⟨⟨by decide +kernel, by decide +kernel⟩, List.mem_of_getElem? (i := 611) (by decide +kernel), List.mem_of_getElem? (i := 804) (by decide +kernel), List.mem_of_getElem? (i := 805) (by decide +kernel)⟩
theorem lw_p25 : lw_okq (⟨"CardhouseModel", "fits", "(II)Z"⟩, 23) := ⟨⟨by decide +kernel, by decide +kernel⟩, List.mem_of_getElem? (i := 611) (by decide +kernel), List.mem_of_getElem? (i := 808) (by decide +kernel), List.mem_of_getElem? (i := 809) (by decide +kernel)⟩
theorem lw_p26 : lw_okq (⟨"CardhouseModel", "gives", "(II)Z"⟩, 23) := ⟨⟨by decide +kernel, by decide +kernel⟩, List.mem_of_getElem? (i := 611) (by decide +kernel), List.mem_of_getElem? (i := 812) (by decide +kernel), List.mem_of_getElem? (i := 813) (by decide +kernel)⟩
theorem lw_p27 : lw_okq (⟨"CardhouseModel", "told", "(I)I"⟩, 23) := ⟨⟨by decide +kernel, by decide +kernel⟩, List.mem_of_getElem? (i := 611) (by decide +kernel), List.mem_of_getElem? (i := 820) (by decide +kernel), List.mem_of_getElem? (i := 821) (by decide +kernel)⟩
theorem lw_p28 : lw_okq (⟨"CardhouseModel", "ordersOf", "(III)I"⟩, 23) := ⟨⟨by decide +kernel, by decide +kernel⟩, List.mem_of_getElem? (i := 611) (by decide +kernel), List.mem_of_getElem? (i := 856) (by decide +kernel), List.mem_of_getElem? (i := 857) (by decide +kernel)⟩
def lw_privs_2 : List (MethodName × Nat) := [(⟨"CardhouseModel", "isCard", "(I)Z"⟩, 23), (⟨"CardhouseModel", "isIn", "(II)Z"⟩, 23), (⟨"CardhouseModel", "shuffles", "(III)V"⟩, 23), (⟨"CardhouseModel", "effect", "(IIZ)I"⟩, 23), (⟨"CardhouseModel", "wonBy", "(I)V"⟩, 23), (⟨"CardhouseModel", "opens", "(I)Z"⟩, 23), (⟨"CardhouseModel", "isOffer", "(I)Z"⟩, 23), (⟨"CardhouseModel", "first", "()I"⟩, 23), (⟨"CardhouseModel", "hasRing", "(I)Z"⟩, 23), (⟨"CardhouseModel", "fits", "(II)Z"⟩, 23), (⟨"CardhouseModel", "gives", "(II)Z"⟩, 23), (⟨"CardhouseModel", "told", "(I)I"⟩, 23), (⟨"CardhouseModel", "ordersOf", "(III)I"⟩, 23)]
theorem lw_r2 : ∀ q ∈ lw_privs_2, lw_okq q := List.forall_mem_cons.mpr ⟨lw_p16, List.forall_mem_cons.mpr ⟨lw_p17, List.forall_mem_cons.mpr ⟨lw_p18, List.forall_mem_cons.mpr ⟨lw_p19, List.forall_mem_cons.mpr ⟨lw_p20, List.forall_mem_cons.mpr ⟨lw_p21, List.forall_mem_cons.mpr ⟨lw_p22, List.forall_mem_cons.mpr ⟨lw_p23, List.forall_mem_cons.mpr ⟨lw_p24, List.forall_mem_cons.mpr ⟨lw_p25, List.forall_mem_cons.mpr ⟨lw_p26, List.forall_mem_cons.mpr ⟨lw_p27, List.forall_mem_cons.mpr ⟨lw_p28, fun _ h => absurd h List.not_mem_nil⟩⟩⟩⟩⟩⟩⟩⟩⟩⟩⟩⟩⟩
def lw_privs : List (MethodName × Nat) := lw_privs_1 ++ (lw_privs_2)
def lw_tbl : List Cond := k2_sels lw_privs ++ tables_1
theorem lw_privs_ok : ∀ q ∈ lw_privs, lw_okq q := by
  show ∀ q ∈ lw_privs_1 ++ (lw_privs_2), lw_okq q
  exact List.forall_mem_append.mpr ⟨lw_r1, lw_r2⟩
-- ===== end of PART A; then your names; then what follows =====
end
section
/-! ===== BEGIN words of one list among another's, by their places ===== -/
theorem goodIn_r {big : List Cond} (ws : List Cond) (ps : List Nat) (hp : ws = ps.filterMap (fun i => big[i]?)) (h : ws.all goodWord = true) : GoodIn big ws := by
  intro w hw
  have h1 := List.all_eq_true.mp h w hw
  rw [hp] at hw
  obtain ⟨i, -, hi⟩ := List.mem_filterMap.mp hw
  have hm : w ∈ big := by first | exact List.mem_of_getElem? hi | exact List.getElem?_mem hi
  exact ⟨hm, good_of_word h1⟩
theorem goodIn_app {big a b : List Cond} (ha : GoodIn big a) (hb : GoodIn big b) : GoodIn big (a ++ b) := fun w h => (List.mem_append.mp h).elim (ha w) (hb w)
theorem goodIn_ca {big a b : List Cond} {c : Cond} (ha : GoodIn big (c :: a)) (hb : GoodIn big b) : GoodIn big (c :: (a ++ b)) := fun w h => (List.mem_cons.mp h).elim (fun e => ha w (List.mem_cons.mpr (Or.inl e))) (fun h => (List.mem_append.mp h).elim (fun h => ha w (List.mem_cons.mpr (Or.inr h))) (hb w))
theorem goodIn_sub {big ws : List Cond} (hm : ∀ w ∈ ws, w ∈ big) (h : ws.all goodWord = true) : GoodIn big ws := fun w hw => ⟨hm w hw, good_of_word (List.all_eq_true.mp h w hw)⟩
/-! ===== END ===== -/

/-- an array over a row type: what the tables say of 'new T[n][m]' -/
def va_AOA (t : FieldType) (U : State) : Prop := (Cond.arrayOver (.array t)).before #[] U = true
theorem va_AOA.of {t : FieldType} {A : Array Value} {U : State} (h : (Cond.arrayOver (.array t)).before A U = true) : va_AOA t U := h
theorem va_AOA.use {t : FieldType} {A : Array Value} {U : State} (h : va_AOA t U) : (Cond.arrayOver (.array t)).before A U = true := h
theorem va_AOA.moved {t : FieldType} {u U : State} (hvm : u.vm.Alike U.vm) (h : va_AOA t u) : va_AOA t U := arrayOver_alikeB hvm h
/-! ===== BEGIN new T[n][m]: the outer array a place, the inner ones among the pooled ===== -/
/-- f, but v at every address of l -/
def vr_up {α : Type} (f : Nat → α) (l : List Nat) (v : α) : Nat → α := fun a => if a ∈ l then v else f a
theorem vr_up_in {α : Type} {f : Nat → α} {l : List Nat} {v : α} {a : Nat} (h : a ∈ l) : vr_up f l v a = v := if_pos h
theorem vr_up_ne {α : Type} {f : Nat → α} {l : List Nat} {v : α} {a : Nat} (h : a ∉ l) : vr_up f l v a = f a := if_neg h
theorem vr_rows {L l : List Nat} {f : Nat → va_E} {e : va_E} (h : ∀ a, a ∈ l → a ∉ L) : va_pl L f ++ l.map (fun a => (a, e)) = va_pl (L ++ l) (vr_up f l e) := by
  unfold va_pl
  rw [List.map_append]
  congr 1
  · apply List.map_congr_left
    intro a ha
    rw [vr_up_ne (fun q => h a q ha)]
  · apply List.map_congr_left
    intro a ha
    rw [vr_up_in ha]
theorem vr_lay {X rows : va_W} {x : Nat × va_E} {pl : va_W} {D : va_G} {cl : List vw_C} {H : Heap} (hP : va_P D cl (((X ++ pl) ++ [x]) ++ rows) H) : va_P D cl ((X ++ [x]) ++ (pl ++ rows)) H := by
  rw [List.append_assoc (X ++ pl)] at hP
  have h := va_P.swap hP
  rw [← List.append_assoc X] at h
  have h2 := va_P.swap h
  rw [List.append_assoc (X ++ [x])] at h2
  exact h2
theorem vr_layD {X rows : va_W} {x : Nat × va_E} {pl : va_W} {A : Nat → Prop} (hD : va_D A (((X ++ pl) ++ [x]) ++ rows)) : va_D A ((X ++ [x]) ++ (pl ++ rows)) := by
  rw [List.append_assoc (X ++ pl)] at hD
  have h := va_D.swap hD
  rw [← List.append_assoc X] at h
  have h2 := va_D.swap h
  rw [List.append_assoc (X ++ [x])] at h2
  exact h2
theorem vr_outer (c : ClassId) (N h0 : Nat) : ∀ i : Nat, Jvm.Free.Multi.outerC c N h0 i = arrV c N (fun j => va_rf (if j < i then some (h0 + 1 + j) else none))
  | 0 => by
    show ({ cls := c, slots := Array.replicate N .null, vm := .none } : Cell) = _
    rw [arrV_new]
    refine congrArg (arrV c N) (funext fun j => ?_)
    simp [va_rf]
  | i + 1 => by
    show (Jvm.Free.Multi.outerC c N h0 i).setSlot i (.ref (h0 + 1 + i)) = _
    rw [vr_outer c N h0 i, arrV_store]
    refine congrArg (arrV c N) (funext fun j => ?_)
    by_cases e : j = i
    · subst e
      simp [updV, va_rf]
    · by_cases h : j < i
      · simp [updV, e, h, Nat.lt_succ_of_lt h]
      · simp [updV, e, h, show ¬ j < i + 1 by omega]
section VGM
variable {p : Program} {l : Launch} {e : Env} {R : Room} {s : State} {m : MethodId} {args : Array Value} {below : List Frame} {meth : Method} {c : Code} {H : Heap} {locs : List Loc} {cells slots : Nat} {Q : State → Prop}
variable {cc : ByteArray} {pc : Nat} {ls : Array Slot} {rest : List Value} {D : va_G} {cl : List vw_C} {A : Nat → Prop} {a : Nat} {tys : List (ClassId × FieldType)} {ws : va_W} {H0 : Heap}
theorem va_mna {X : va_W} {L : List Nat} {f : Nat → va_E} {cc : ByteArray} (hexec : p.tables.exec = Jvm.exec) (hb : c.code = cc) {own : String} {index : Nat} {ty : FieldType} {cy : ClassId} (hown : s.vm.findClass own = some m.cls) (hclink : (Cond.classLink own index ("[" ++ (FieldType.array ty).toString)).before args s = true) (hover : va_AOA ty s) (harr : (Cond.arrayClass ty).before args s = true) (hcy : s.vm.findClass (FieldType.array ty).toString = some cy)
    (hK : va_K D cl tys s) (hP : va_P D cl (X ++ va_pl L f) H) (hD : va_D A (X ++ va_pl L f)) (hS : va_S A H0 H locs) (hA : ∀ q, H0.size ≤ q → A q) {n k : Int32} {N' K' : Nat} {z : vp_A} (hn : ¬ n < 0) (hk : ¬ k < 0) (hN : n.toNatClampNeg = N') (hM : k.toNatClampNeg = K')
    (hb1 : N' * 4 ≤ 536870912) (hb2 : K' * componentBytes ty ≤ 536870912) (hb3 : K' ≤ 536870912) (hdf : fits ty (defaultValue ty) = true) (hdd : (defaultValue ty).isDefault = true) (hcells : cells + (1 + N') ≤ R.cells) (hslots : slots + (N' + N' * K') ≤ R.slots) (hz : ∀ c : ClassId, Jvm.Free.Multi.innerC c K' (defaultValue ty) = vp_cell c z) (hdg : decode cc pc = .ok (.multianewarray index 2, 4))
    (kk : ∀ (q : Nat) (r : Nat → Nat) (cA : ClassId) (H1 : Heap), (∀ i j : Nat, i < N' → j < N' → r i = r j → i = j) → (∀ i : Nat, i < N' → r i ∉ L) → va_K D cl (tys ++ [(cA, .array ty)]) s →
      va_P D cl ((X ++ [(q, .inl (cA, N', .inr (.inr (.inr (.inr (fun i => if i < N' then some (r i) else none))))))]) ++ va_pl (L ++ (List.range N').map r) (vr_up f ((List.range N').map r) (.inl (cy, z)))) H1 → va_D A ((X ++ [(q, .inl (cA, N', .inr (.inr (.inr (.inr (fun i => if i < N' then some (r i) else none))))))]) ++ va_pl (L ++ (List.range N').map r) (vr_up f ((List.range N').map r) (.inl (cy, z)))) → va_S A H0 H1 locs →
      W p l e R s m args below meth c H1 locs (cells + 1 + N') (slots + N' + N' * K') Q (F0 m (pc + 4) ls (.ref q :: rest))) : W p l e R s m args below meth c H locs cells slots Q (F0 m pc ls (.int k :: .int n :: rest)) := by
  subst hN
  subst hM
  intro T hT Xs
  obtain ⟨vm₁, cA, comp, -, fA, fC, hO, -, X', step⟩ := Xs.multianewarray2F hexec hown hclink (va_AOA.use hover) harr (g := F0 m pc ls (.int k :: .int n :: rest)) rfl (by rw [hb]; exact hdg) rfl hn hk hb1 hb2 hb3 hdf hdd hcells hslots
  have ec : some cy = some comp := hcy.symm.trans fC
  cases ec
  generalize hF : Jvm.Free.Multi.fill (T.setVm vm₁) cA cy n.toNatClampNeg k.toNatClampNeg (defaultValue ty) n.toNatClampNeg = F at X' step
  have hTh : (T.setVm vm₁).heap = H := hT
  obtain ⟨f1, f2, -, -⟩ := Jvm.Free.Multi.fill_facts (T.setVm vm₁) cA cy n.toNatClampNeg k.toNatClampNeg (defaultValue ty) n.toNatClampNeg
  rw [hF, hTh] at f1 f2
  have hold : ∀ x : Nat, x < H.size → F.heap[x]? = H[x]? := fun x hx => by
    have := Jvm.Free.Multi.fill_old (T.setVm vm₁) cA cy n.toNatClampNeg k.toNatClampNeg (defaultValue ty) (a := x) (by rw [hTh]; exact hx) n.toNatClampNeg
    rw [hF, hTh] at this
    exact this
  have hrow : ∀ j : Nat, j < n.toNatClampNeg → F.heap[H.size + 1 + j]? = some (vp_cell cy z) := fun j hj => by
    have := Jvm.Free.Multi.fill_inner (T.setVm vm₁) cA cy n.toNatClampNeg k.toNatClampNeg (defaultValue ty) n.toNatClampNeg j hj
    rw [hF, hTh, hz] at this
    exact this
  have hout : Jvm.Free.Multi.outerC cA n.toNatClampNeg H.size n.toNatClampNeg = vp_cell cA (n.toNatClampNeg, .inr (.inr (.inr (.inr (fun i => if i < n.toNatClampNeg then some (H.size + 1 + i) else none))))) := by
    rw [vp_cell_q]
    exact vr_outer cA n.toNatClampNeg H.size n.toNatClampNeg
  rw [hout] at f2
  have hlt : ∀ a, a ∈ L → a < H.size := fun a ha => by
    obtain ⟨k9, hk9⟩ := va_pl_get (X := X) (f := f) ha
    exact (hP k9 _ hk9).lt
  have hnl : ∀ i : Nat, i < n.toNatClampNeg → H.size + 1 + i ∉ L := fun i _ h => by
    have := hlt _ h
    omega
  have hnm : ∀ a, a ∈ (List.range n.toNatClampNeg).map (fun i => H.size + 1 + i) → a ∉ L := fun a ha h => by
    obtain ⟨i, -, rfl⟩ := List.mem_map.mp ha
    have := hlt _ h
    omega
  have hP0 : va_P D cl (X ++ va_pl L f) F.heap := hP.kept (fun k9 x hx => hold x.1 ((hP k9 x hx).lt))
  have hP1 : va_P D cl ((X ++ va_pl L f) ++ [(H.size, .inl (cA, n.toNatClampNeg, .inr (.inr (.inr (.inr (fun i => if i < n.toNatClampNeg then some (H.size + 1 + i) else none))))))]) F.heap := hP0.app (fun k9 x hx => by
    have h0 : k9 < 1 := (List.getElem?_eq_some_iff.mp hx).1
    rw [show k9 = 0 by omega] at hx
    cases hx
    exact f2)
  have hP2 : va_P D cl (((X ++ va_pl L f) ++ [(H.size, .inl (cA, n.toNatClampNeg, .inr (.inr (.inr (.inr (fun i => if i < n.toNatClampNeg then some (H.size + 1 + i) else none))))))]) ++ ((List.range n.toNatClampNeg).map (fun i => H.size + 1 + i)).map (fun a => (a, .inl (cy, z)))) F.heap := hP1.app (fun k9 x hx => by
    obtain ⟨a, ha, rfl⟩ := List.mem_map.mp (List.mem_of_getElem? hx)
    obtain ⟨i, hi, rfl⟩ := List.mem_map.mp ha
    exact hrow i (List.mem_range.mp hi))
  have hD2 : va_D A (((X ++ va_pl L f) ++ [(H.size, .inl (cA, n.toNatClampNeg, .inr (.inr (.inr (.inr (fun i => if i < n.toNatClampNeg then some (H.size + 1 + i) else none))))))]) ++ ((List.range n.toNatClampNeg).map (fun i => H.size + 1 + i)).map (fun a => (a, .inl (cy, z)))) := by
    have hD1 := hD.push (e := .inl (cA, n.toNatClampNeg, .inr (.inr (.inr (.inr (fun i => if i < n.toNatClampNeg then some (H.size + 1 + i) else none)))))) hP rfl (hA _ hS.1)
    generalize hW1 : (X ++ va_pl L f) ++ [(H.size, .inl (cA, n.toNatClampNeg, .inr (.inr (.inr (.inr (fun i => if i < n.toNatClampNeg then some (H.size + 1 + i) else none))))))] = W1 at hD1 hP1 ⊢
    have hle : ∀ (k9 : Nat) (x : Nat × va_E), W1[k9]? = some x → x.1 ≤ H.size := fun k9 x hx => by
      rw [← hW1] at hx
      by_cases hl : k9 < (X ++ va_pl L f).length
      · rw [List.getElem?_append_left hl] at hx
        exact Nat.le_of_lt ((hP k9 x hx).lt)
      · rw [List.getElem?_append_right (by omega)] at hx
        have h0 : k9 - (X ++ va_pl L f).length < 1 := (List.getElem?_eq_some_iff.mp hx).1
        rw [show k9 - (X ++ va_pl L f).length = 0 by omega] at hx
        cases hx
        exact Nat.le_refl _
    have hr : ∀ (k9 : Nat) (x : Nat × va_E), (((List.range n.toNatClampNeg).map (fun i => H.size + 1 + i)).map (fun a => ((a, .inl (cy, z)) : Nat × va_E)))[k9]? = some x → x.1 = H.size + 1 + k9 := fun k9 x hx => by
      rw [List.getElem?_map, List.getElem?_map] at hx
      by_cases h9 : k9 < n.toNatClampNeg
      · rw [List.getElem?_range h9] at hx
        cases hx
        rfl
      · have hn0 : (List.range n.toNatClampNeg)[k9]? = none := List.getElem?_eq_none (by rw [List.length_range]; omega)
        rw [hn0] at hx
        cases hx
    refine ⟨fun i j x y hi hj hxy => ?_, fun k9 x hx => ?_⟩
    · by_cases h1 : i < W1.length <;> by_cases h2 : j < W1.length
      · rw [List.getElem?_append_left h1] at hi
        rw [List.getElem?_append_left h2] at hj
        exact hD1.1 i j x y hi hj hxy
      · rw [List.getElem?_append_left h1] at hi
        rw [List.getElem?_append_right (by omega)] at hj
        have := hle _ _ hi
        have := hr _ _ hj
        omega
      · rw [List.getElem?_append_right (by omega)] at hi
        rw [List.getElem?_append_left h2] at hj
        have := hle _ _ hj
        have := hr _ _ hi
        omega
      · rw [List.getElem?_append_right (by omega)] at hi hj
        have := hr _ _ hi
        have := hr _ _ hj
        omega
    · by_cases h1 : k9 < W1.length
      · rw [List.getElem?_append_left h1] at hx
        exact hD1.2 k9 x hx
      · rw [List.getElem?_append_right (by omega)] at hx
        have := hr _ _ hx
        exact hA _ (by have := hS.1; omega)
  have hAr : ArrOfT s cA (.array ty) := fun N9 z9 => by
    obtain ⟨-, k9, hk9, cm9, hkk9⟩ := (hO 0 0 0).1
    exact ⟨(fun q hq => by cases hq), k9, hk9, cm9, hkk9⟩
  have hK2 : va_K D cl (tys ++ [(cA, .array ty)]) s := ⟨hK.1, fun k9 x hx => by
    by_cases hl : k9 < tys.length
    · rw [List.getElem?_append_left hl] at hx
      exact hK.2 k9 x hx
    · rw [List.getElem?_append_right (by omega)] at hx
      have h0 : k9 - tys.length < 1 := (List.getElem?_eq_some_iff.mp hx).1
      rw [show k9 - tys.length = 0 by omega] at hx
      cases hx
      exact ⟨hAr, fA⟩⟩
  obtain ⟨t, a1, b1⟩ := kk H.size (fun i => H.size + 1 + i) cA F.heap (fun i j _ _ h => by have h9 : H.size + 1 + i = H.size + 1 + j := h; omega) hnl hK2 (by rw [← vr_rows hnm]; exact vr_lay hP2) (by rw [← vr_rows hnm]; exact vr_layD hD2) ⟨by rw [f1]; have := hS.1; omega, fun x h1 h2 => (hold x (Nat.lt_of_lt_of_le h1 hS.1)).trans (hS.2.1 x h1 h2), hS.2.2⟩ F rfl X'
  refine ⟨t, step t ?_, b1⟩
  have e : T.heap.size = H.size := by rw [hT]
  rw [e]
  exact a1
end VGM
/-! ===== END ===== -/

/-! ===== BEGIN exceptions that leave a method, and their catching by the caller (launches without stack traces) ===== -/
section VXA
/-! The laws vx_back, vx_callV, vx_callS, vx_callSW, vx_throw0, vx_throwS follow proofs of the library, with one case more: JvmDerived/Free/Laws.lean (Back.of_free), Shelf42/LK1.lean (callV, callS), Shelf/KitTraced.lean (throwNew0V, throwNewS). -/
/-- where a method has thrown q: the class by its name, the cell, what was written, the world -/
def vx_T (XC : String → State → State → Prop) (st : State) (q : Addr) (t : State) (mc ms : Nat) (free : Addr → Prop) : Prop :=
  ∃ (E : String) (ce : Cell) (L : List Loc), XC E st t ∧ t.heap[q]? = some ce ∧ ce.vm = .none ∧ st.vm.findClass E = some ce.cls ∧ st.WarmedH t.vm ∧ st.sameButNew ({ t with vm := st.vm } : State) L mc ms ∧ ∀ z ∈ L, free z.base
def vx_Q (Qc : Array Value → State → Outcome → State → Prop) (XC : String → State → State → Prop) (mc ms : Nat) (free : Addr → Prop) : Array Value → State → Outcome → State → Prop := fun a st o t =>
  (Qc a st o t ∧ ∃ L, FrameEnd st o t L mc ms ∧ ∀ q ∈ L, free q.base) ∨ ∃ q, o = .threw q ∧ vx_T XC st q t mc ms free
/-- a callee that returns or throws -/
def vx_Met (l : Launch) (y : MethodName) (ws : List Cond) (rm : Room) (Pc : Array Value → State → Prop) (Qc : Array Value → State → Outcome → State → Prop) (XC : String → State → State → Prop) (mc ms : Nat) (free : Addr → Prop) : Prop :=
  MetFree l y (headSpec ws rm) Pc (fun _ _ _ _ _ => True) (vx_Q Qc XC mc ms free)
def vx_Post (XC : String → State → State → Prop) (mc ms : Nat) (free : Addr → Prop) : Pt → Array Value → Addr → Pt → Prop := fun A a q B =>
  ∃ (g : JFrame) (mk : MethodId) (t : State) (L : List Loc) (E : String) (ce : Cell), B.U.heap = t.heap ∧ B.U.vm = t.vm ∧ XC E (A.U.calling g mk a) t ∧ t.heap[q]? = some ce ∧ ce.vm = .none ∧ A.U.vm.findClass E = some ce.cls ∧ B.locs = A.locs ++ L ∧ (∀ z ∈ L, free z.base) ∧ B.cells = A.cells + mc ∧ B.slots = A.slots + ms
def vx_Back (l : Launch) (R : Room) (p : Program) (e : Env) (below : List Frame) (s : State) (sargs : Array Value) (y : MethodName) (len W9 : Nat)
    (Pre : Pt → Array Value → Prop) (Post : Pt → Array Value → Option Value → Pt → Prop) (PostX : Pt → Array Value → Addr → Pt → Prop) : Prop :=
  ∀ (m : MethodId) (meth : Method) (c : Code) (A : Pt) (g : JFrame) (ig : Instr) (mk : MethodId) (a : Array Value),
    Stand p l e R s m sargs below meth c A.U A.locs A.cells A.slots → g.method = m → g.locals.size = c.maxLocals → decode c.code g.pc = .ok (ig, len) →
    2 * g.monitorRoom + (g.stack.map fun v => v.category).sum ≤ W9 → A.U.methodNamed? y = some mk → Pre A a →
    (∃ (v : Option Value) (B : Pt), Stand p l e R s m sargs below meth c B.U B.locs B.cells B.slots ∧ Post A a v B ∧
      Steps p.tables e below (doInvoke e (A.U.setTop g) [] mk a).1 (B.U.setTop { g with pc := g.pc + len, stack := v.toList ++ g.stack })) ∨
    (∃ (q : Addr) (B : Pt), Stand p l e R s m sargs below meth c B.U B.locs B.cells B.slots ∧ PostX A a q B ∧
      Steps p.tables e below (doInvoke e (A.U.setTop g) [] mk a).1 ((B.U.setTop g).pushFrame (.throwing q)))
section Payer
variable {l : Launch} {R : Room} {p : Program} {e : Env} {below : List Frame} {s : State} {sargs : Array Value} {y : MethodName} {len W9 : Nat}
theorem vx_back {ws : List Cond} {rm : Room} {Pc : Array Value → State → Prop} {Qc : Array Value → State → Outcome → State → Prop} {XC : String → State → State → Prop} {mc ms : Nat} {free : Addr → Prop} {bytes : ByteArray} {maxL : Nat} {ret : Option FieldType}
    (hM : vx_Met l y ws rm Pc Qc XC mc ms free) (hblind : FrameBlind Pc) (hrc : rm.cells = mc) (hrs : rm.slots = ms)
    (hframes : rm.frames + 1 ≤ R.frames) (hlocals : W9 + (maxL + 11) + rm.locals ≤ R.locals)
    (hws : ∀ w ∈ ws, ∀ a' U, s.WarmedH U.vm → w.before a' U = true) (hcode : Cond.code y bytes maxL ret ∈ ws) (hinit : ∀ a' U, s.WarmedH U.vm → (Cond.initialized y.cls).before a' U = true) :
    vx_Back l R p e below s sargs y len W9 (PreOf R mc ms Pc) (PostOf Qc mc ms free) (vx_Post XC mc ms free) := by
  intro m meth c A g ig mk a X hg hsize hdg hW hn hp
  have h1 : (headSpec ws rm).pre.before a A.U = true := atoms_intro fun w hw => hws w hw _ _ X.warmed
  have h2 : (Cond.code y bytes maxL ret).before a A.U = true := hws _ hcode _ _ X.warmed
  have h3 : (Cond.initialized y.cls).before a A.U = true := hinit _ _ X.warmed
  have h4 : A.cells + (headSpec ws rm).room.cells ≤ R.cells := by rw [show (headSpec ws rm).room.cells = mc from hrc]; exact hp.1
  have h5 : A.slots + (headSpec ws rm).room.slots ≤ R.slots := by rw [show (headSpec ws rm).room.slots = ms from hrs]; exact hp.2.1
  have hPc : Pc a (A.U.calling g mk a) := hblind _ _ _ _ hp.2.2
  obtain ⟨U, Ls, c0, s0⟩ := A
  dsimp only [Pt.U, Pt.locs, Pt.cells, Pt.slots] at h1 h2 h3 h4 h5 X hn hPc ⊢
  obtain ⟨methY, cY, hmY, hcY, -, hlY, -, -, -, -⟩ := Cond.code_spec hn h2
  obtain ⟨kY, hkY, -⟩ := className_of_methodNamed hn
  have hinitY : kY.init = .initialized := Cond.initialized_spec (findClass_of_methodNamed hn) hkY h3
  have h : At U g.method c below := by rw [hg]; exact X.here
  have hlocals9 : W9 + (maxL + 11) + (headSpec ws rm).room.locals ≤ R.locals := hlocals
  have happ : (headSpec ws rm).appliesLoose y e.platform (U.calling g mk a) = true :=
    Spec.appliesLoose_calling (g := g) h hdg hn hkY hinitY
      (X.room_calling (g := g) (R' := (headSpec ws rm).room) hsize hmY hcY hframes (by rw [hlY]; omega) h4 h5) h1
  obtain ⟨mid, hmid⟩ := h.above
  have hfr : (U.setTop g).frames = (.java g :: mid) ++ below := by rw [State.frames_setTop' g h.top, hmid]; rfl
  obtain ⟨o, s₂, hsteps, -, hend, hq⟩ := Steps.callFree hM p X.admits X.cas X.clock (acts := []) hfr happ hPc trivial
  have hq' : vx_Q Qc XC mc ms free a (U.calling g mk a) o s₂ := hq
  rw [State.frames_setTop' g h.top] at hend
  obtain ⟨g₀, hg0⟩ := Option.isSome_iff_exists.mp h.top
  obtain ⟨r, hr⟩ := State.topJava?_eq_some.mp hg0
  have hr' : (({ U with heap := s₂.heap, slotsUsed := s₂.slotsUsed } : State).setVm s₂.vm).frames = .java g₀ :: r := hr
  rcases hq' with ⟨hqc, L, hfe, hL⟩ | ⟨q, rfl, E, ce, L, hx, hce, hcv, hcl, hW₂, hsm, hL⟩
  · obtain ⟨⟨v, rfl⟩, hW₂, e2, q2, q3, q4, q5, q6⟩ := id hfe
    have e3 : s₂ = ({ (U.calling g mk a).setFrames s₂.frames with heap := s₂.heap, slotsUsed := s₂.slotsUsed } : State).setVm s₂.vm := by
      have : s₂ = ({ s₂ with vm := (U.calling g mk a).vm } : State).setVm s₂.vm := rfl
      rw [e2] at this
      exact this
    obtain ⟨c₂, i₂, len₂, hc₂, hd₂, hf₂⟩ := hend
    have hW' : U.WarmedH s₂.vm := hW₂
    have hcc : c₂ = c := by
      have h1 : s₂.code? g.method = U.code? g.method := by
        rw [State.code?_eq, State.code?_eq, hW'.alike.method?]
      exact Option.some.inj (hc₂.symm.trans (h1.trans h.code))
    subst hcc
    have hlen : len₂ = len := by rw [hdg] at hd₂; cases hd₂; rfl
    subst hlen
    have hs₂ : s₂ = (({ U with heap := s₂.heap, slotsUsed := s₂.slotsUsed } : State).setVm s₂.vm).setTop { g with pc := g.pc + len₂, stack := v.toList ++ g.stack } := by
      refine e3.trans ?_
      rw [hf₂, State.calling_eq h.top, State.setFrames_setFrames, State.setTop_of_frames _ hr', hr]
      rfl
    have hsame : U.sameButNew ({ U with heap := s₂.heap, slotsUsed := s₂.slotsUsed } : State) L mc ms := by
      refine ⟨?_, q2, q3, q4, q5, q6⟩
      obtain ⟨t, ht, -⟩ := State.frames_cons hr
      show ({ U with heap := s₂.heap, slotsUsed := s₂.slotsUsed } : State) = { U.setFrames U.frames with heap := s₂.heap, slotsUsed := s₂.slotsUsed }
      rw [State.setFrames_self ht]
    subst hg
    refine Or.inl ⟨v, ⟨(({ U with heap := s₂.heap, slotsUsed := s₂.slotsUsed } : State).setVm s₂.vm), Ls ++ L, c0 + mc, s0 + ms⟩,
      ⟨X.admits, X.cas, X.clock, X.frames, X.room, X.hears, X.method, X.code, (X.here.setHeapUsed s₂.heap s₂.slotsUsed).setVm hW'.alike, X.tail, State.WarmedH.trans X.warmed hW', X.limits, X.bytes, X.same.trans (hsame.setVm s.vm)⟩,
      ⟨g, mk, s₂, L, rfl, rfl, hqc, rfl, hL, rfl, rfl⟩, ?_⟩
    show Steps p.tables e below _ ((({ U with heap := s₂.heap, slotsUsed := s₂.slotsUsed } : State).setVm s₂.vm).setTop { g with pc := g.pc + len₂, stack := v.toList ++ g.stack })
    rw [← hs₂]
    exact hsteps
  · obtain ⟨e2, q2, q3, q4, q5, q6⟩ := id hsm
    have e3 : s₂ = ({ (U.calling g mk a).setFrames s₂.frames with heap := s₂.heap, slotsUsed := s₂.slotsUsed } : State).setVm s₂.vm := by
      have : s₂ = ({ s₂ with vm := (U.calling g mk a).vm } : State).setVm s₂.vm := rfl
      rw [e2] at this
      exact this
    have hf₂ : s₂.frames = .throwing q :: .java g :: U.frames.tail := hend
    have hW' : U.WarmedH s₂.vm := hW₂
    have hs₂ : s₂ = ((({ U with heap := s₂.heap, slotsUsed := s₂.slotsUsed } : State).setVm s₂.vm).setTop g).pushFrame (.throwing q) := by
      refine e3.trans ?_
      rw [hf₂, State.calling_eq h.top, State.setFrames_setFrames, State.pushFrame, State.frames_setTop _ hr', State.setTop_of_frames _ hr', State.setFrames_setFrames, hr]
      rfl
    have hsame : U.sameButNew ({ U with heap := s₂.heap, slotsUsed := s₂.slotsUsed } : State) L mc ms := by
      refine ⟨?_, q2, q3, q4, q5, q6⟩
      obtain ⟨t, ht, -⟩ := State.frames_cons hr
      show ({ U with heap := s₂.heap, slotsUsed := s₂.slotsUsed } : State) = { U.setFrames U.frames with heap := s₂.heap, slotsUsed := s₂.slotsUsed }
      rw [State.setFrames_self ht]
    subst hg
    refine Or.inr ⟨q, ⟨(({ U with heap := s₂.heap, slotsUsed := s₂.slotsUsed } : State).setVm s₂.vm), Ls ++ L, c0 + mc, s0 + ms⟩,
      ⟨X.admits, X.cas, X.clock, X.frames, X.room, X.hears, X.method, X.code, (X.here.setHeapUsed s₂.heap s₂.slotsUsed).setVm hW'.alike, X.tail, State.WarmedH.trans X.warmed hW', X.limits, X.bytes, X.same.trans (hsame.setVm s.vm)⟩,
      ⟨g, mk, s₂, L, E, ce, rfl, rfl, hx, hce, hcv, hcl, rfl, hL, rfl, rfl⟩, ?_⟩
    show Steps p.tables e below _ (((({ U with heap := s₂.heap, slotsUsed := s₂.slotsUsed } : State).setVm s₂.vm).setTop g).pushFrame (.throwing q))
    rw [← hs₂]
    exact hsteps
end Payer
section Calls
variable {p : Program} {l : Launch} {e : Env} {R : Room} {s : State} {m : MethodId} {args : Array Value} {below : List Frame} {meth : Method} {c : Code} {T : State} {locs : List Loc} {cells slots : Nat}
theorem vx_callV (X : Stand p l e R s m args below meth c T locs cells slots) (hexec : p.tables.exec = Jvm.exec) {own C : String} {index : Nat} {y : MethodName} {bytes : ByteArray} {maxL : Nat} {ret : Option FieldType}
    (hown : s.vm.findClass own = some m.cls) (hlink : (Cond.methodLink own index y).before args s = true) (hinst : (Cond.instanceMethod y).before args s = true) (hsel : (Cond.selects C y y).before args s = true)
    (hcode : (Cond.code y bytes maxL ret).before args s = true) (hy : y.cls ≠ "java/lang/invoke/MethodHandle" ∧ y.cls ≠ "java/lang/invoke/VarHandle")
    {W9 : Nat} {Pre : Pt → Array Value → Prop} {Post : Pt → Array Value → Option Value → Pt → Prop} {PostX : Pt → Array Value → Addr → Pt → Prop} (hK : vx_Back l R p e below s args y 3 W9 Pre Post PostX)
    {b : Addr} {cellB : Cell} (hcell : T.heap[b]? = some cellB) (hobj : cellB.vm.isStatics = false) (hcls : s.vm.findClass C = some cellB.cls)
    {g : JFrame} (hg : g.method = m) (hsize : g.locals.size = c.maxLocals) {argsL rest : List Value} (hlen : ∀ sig, parseMethodDescriptor y.desc = some sig → argsL.length = sig.parameters.length)
    (hstack : g.stack = argsL.reverse ++ .ref b :: rest) (hW : 2 * g.monitorRoom + (rest.map fun v => v.category).sum ≤ W9) (hdg : decode c.code g.pc = .ok (.invokevirtual index, 3))
    (hpre : ∀ vm₁, s.WarmedH vm₁ → Pre ⟨T.setVm vm₁, locs, cells, slots⟩ (Value.ref b :: argsL).toArray) :
    (∃ (v : Option Value) (vm₁ : Vm) (B : Pt), s.WarmedH vm₁ ∧ Stand p l e R s m args below meth c B.U B.locs B.cells B.slots ∧ Post ⟨T.setVm vm₁, locs, cells, slots⟩ (Value.ref b :: argsL).toArray v B ∧
      ∀ target, Steps p.tables e below (B.U.setTop { g with pc := g.pc + 3, stack := v.toList ++ rest }) target → Steps p.tables e below (T.setTop g) target) ∨
    (∃ (q : Addr) (vm₁ : Vm) (B : Pt), s.WarmedH vm₁ ∧ Stand p l e R s m args below meth c B.U B.locs B.cells B.slots ∧ PostX ⟨T.setVm vm₁, locs, cells, slots⟩ (Value.ref b :: argsL).toArray q B ∧
      Steps p.tables e below (T.setTop g) ((B.U.setTop { g with stack := rest }).pushFrame (.throwing q))) := by
  obtain ⟨mk, methM, hnamed, hmethM, hstM, habM⟩ := Cond.instanceMethod_spec hinst
  obtain ⟨methM', cM, hmethM', -, -, -, -, -, -, hsigM⟩ := Cond.code_spec hnamed hcode
  cases hmethM.symm.trans hmethM'
  obtain ⟨c2, r2, m2, q1, q2, q3, q4, kP, hkP, hkPi⟩ := Cond.selects_spec hsel
  cases hcls.symm.trans q1
  cases (State.methodFound?_of_named hnamed hy).symm.trans q2
  cases hnamed.symm.trans q3
  have hselP : selectMethod e.platform s.vm cellB.cls mk = .method mk := by rw [Launch.admits_selectMethod X.admits]; exact q4
  obtain ⟨vm₁, X₁, hstep₁⟩ := X.invokevirtual hexec hown hlink hnamed hmethM hstM hkP hkPi hy (a := b) (cell := cellB) hcell
    (fun z h => by rw [h] at hobj; cases hobj) hselP hmethM habM hkP hkPi (g := g) hg (argsL := argsL) (rest := rest) (hlen _ hsigM) hstack hdg
  rcases hK m meth c ⟨T.setVm vm₁, locs, cells, slots⟩ { g with stack := rest } (.invokevirtual index) mk (Value.ref b :: argsL).toArray X₁ hg hsize hdg hW (X₁.named hnamed) (hpre vm₁ X₁.warmed) with ⟨v, B, X', hpost, hsteps⟩ | ⟨q, B, X', hpost, hsteps⟩
  · exact Or.inl ⟨v, vm₁, B, X₁.warmed, X', hpost, fun target h => hstep₁ _ fun acts => by rw [doInvoke_state]; exact hsteps.trans h⟩
  · exact Or.inr ⟨q, vm₁, B, X₁.warmed, X', hpost, hstep₁ _ fun acts => by rw [doInvoke_state]; exact hsteps⟩
theorem vx_callS (X : Stand p l e R s m args below meth c T locs cells slots) (hexec : p.tables.exec = Jvm.exec) {own : String} {index : Nat} {y : MethodName} {bytes : ByteArray} {maxL : Nat} {ret : Option FieldType}
    (hown : s.vm.findClass own = some m.cls) (hlink : (Cond.methodLink own index y).before args s = true) (hstat : (Cond.static y).before args s = true) (hinit : (Cond.initialized y.cls).before args s = true)
    (hcode : (Cond.code y bytes maxL ret).before args s = true) (hy : y.cls ≠ "java/lang/invoke/MethodHandle" ∧ y.cls ≠ "java/lang/invoke/VarHandle")
    {W9 : Nat} {Pre : Pt → Array Value → Prop} {Post : Pt → Array Value → Option Value → Pt → Prop} {PostX : Pt → Array Value → Addr → Pt → Prop} (hK : vx_Back l R p e below s args y 3 W9 Pre Post PostX)
    {g : JFrame} (hg : g.method = m) (hsize : g.locals.size = c.maxLocals) {argsL rest : List Value} (hlen : ∀ sig, parseMethodDescriptor y.desc = some sig → argsL.length = sig.parameters.length)
    (hstack : g.stack = argsL.reverse ++ rest) (hW : 2 * g.monitorRoom + (rest.map fun v => v.category).sum ≤ W9) (hdg : decode c.code g.pc = .ok (.invokestatic index, 3))
    (hpre : ∀ vm₁, s.WarmedH vm₁ → Pre ⟨T.setVm vm₁, locs, cells, slots⟩ argsL.toArray) :
    (∃ (v : Option Value) (vm₁ : Vm) (B : Pt), s.WarmedH vm₁ ∧ Stand p l e R s m args below meth c B.U B.locs B.cells B.slots ∧ Post ⟨T.setVm vm₁, locs, cells, slots⟩ argsL.toArray v B ∧
      ∀ target, Steps p.tables e below (B.U.setTop { g with pc := g.pc + 3, stack := v.toList ++ rest }) target → Steps p.tables e below (T.setTop g) target) ∨
    (∃ (q : Addr) (vm₁ : Vm) (B : Pt), s.WarmedH vm₁ ∧ Stand p l e R s m args below meth c B.U B.locs B.cells B.slots ∧ PostX ⟨T.setVm vm₁, locs, cells, slots⟩ argsL.toArray q B ∧
      Steps p.tables e below (T.setTop g) ((B.U.setTop { g with stack := rest }).pushFrame (.throwing q))) := by
  obtain ⟨mk, hnamed⟩ := Cond.code_named hcode
  obtain ⟨methM, cM, hmethM, -, -, -, -, -, -, hsigM⟩ := Cond.code_spec hnamed hcode
  have hstatic : methM.isStatic = true := Cond.static_spec hnamed hmethM hstat
  obtain ⟨kP, hkP, -⟩ := className_of_methodNamed hnamed
  have hinitP : kP.init = .initialized := Cond.initialized_spec (findClass_of_methodNamed hnamed) hkP hinit
  obtain ⟨vm₁, X₁, hstep₁⟩ := X.invokestatic hexec hown hlink hnamed hmethM hstatic hkP hinitP hy (g := g) hg (argsL := argsL) (rest := rest) (hlen _ hsigM) hstack hdg
  rcases hK m meth c ⟨T.setVm vm₁, locs, cells, slots⟩ { g with stack := rest } (.invokestatic index) mk argsL.toArray X₁ hg hsize hdg hW (X₁.named hnamed) (hpre vm₁ X₁.warmed) with ⟨v, B, X', hpost, hsteps⟩ | ⟨q, B, X', hpost, hsteps⟩
  · exact Or.inl ⟨v, vm₁, B, X₁.warmed, X', hpost, fun target h => hstep₁ _ fun acts => by rw [doInvoke_state]; exact hsteps.trans h⟩
  · exact Or.inr ⟨q, vm₁, B, X₁.warmed, X', hpost, hstep₁ _ fun acts => by rw [doInvoke_state]; exact hsteps⟩
end Calls
theorem vx_cls {s : State} {T : State} {vm₁ : Vm} {E : String} {k : ClassId} (hW : s.WarmedH vm₁) (h : (T.setVm vm₁).vm.findClass E = some k) : s.vm.findClass E = some k := by
  have h1 : vm₁.findClass E = some k := h
  rw [hW.alike.findClass] at h1
  exact h1
/-- the method's frame g, with q thrown over it -/
def vx_W (p : Program) (l : Launch) (e : Env) (R : Room) (s : State) (m : MethodId) (args : Array Value) (below : List Frame) (meth : Method) (c : Code) (H : Heap) (locs : List Loc) (cells slots : Nat) (Q : State → Prop) (g : JFrame) (q : Addr) : Prop :=
  ∀ T : State, T.heap = H → Stand p l e R s m args below meth c T locs cells slots → ∃ t, Steps p.tables e below ((T.setTop g).pushFrame (.throwing q)) t ∧ Q t
def vx_Run (p : Program) (l : Launch) (e : Env) (R : Room) (s : State) (m : MethodId) (args : Array Value) (below : List Frame) (meth : Method) (c : Code) (H : Heap) (locs : List Loc) (cells slots mc ms : Nat) (g : JFrame) (rest : List Value) (Qa : State → Outcome → State → Prop) (XC : String → State → State → Prop) (free : Addr → Prop) : Prop :=
  ∀ T : State, T.heap = H → Stand p l e R s m args below meth c T locs cells slots →
    (∃ (v : Option Value) (st₀ t T' : State) (L : List Loc), st₀.heap = H ∧ Stand p l e R s m args below meth c T' (locs ++ L) (cells + mc) (slots + ms) ∧ (∀ q ∈ L, free q.base) ∧ T'.heap = t.heap ∧ T'.vm = t.vm ∧ Qa st₀ (.returned v) t ∧
      Goes p e below T g T' { g with pc := g.pc + 3, stack := v.toList ++ rest }) ∨
    (∃ (q : Addr) (st₀ t T' : State) (L : List Loc) (E : String) (ce : Cell), st₀.heap = H ∧ Stand p l e R s m args below meth c T' (locs ++ L) (cells + mc) (slots + ms) ∧ (∀ z ∈ L, free z.base) ∧ T'.heap = t.heap ∧ T'.vm = t.vm ∧ XC E st₀ t ∧ t.heap[q]? = some ce ∧ ce.vm = .none ∧ s.vm.findClass E = some ce.cls ∧
      Steps p.tables e below (T.setTop g) ((T'.setTop { g with stack := rest }).pushFrame (.throwing q)))
def vx_X {S : Type} (px : S → Prop) (B : String → S → State → Prop) (A : Nat → Prop) : String → State → State → Prop := fun E st t => ∃ u : S, px u ∧ B E u t ∧ va_F A st t
section Runs
variable {p : Program} {l : Launch} {e : Env} {R : Room} {s : State} {m : MethodId} {args : Array Value} {below : List Frame} {meth : Method} {c : Code} {H : Heap} {locs : List Loc} {cells slots : Nat}
variable {y : MethodName} {bytes cc : ByteArray} {maxL nL mc ms n index : Nat} {ret : Option FieldType} {ws : List Cond} {rm : Room} {Pc : Array Value → State → Prop} {Qc : Array Value → State → Outcome → State → Prop} {XC : String → State → State → Prop} {free : Addr → Prop} {Ts : List Cond} {own C : String} {b : Addr} {As rest : List Value} {g : JFrame}
theorem vx_callBack (cb : CallB R s args own index y bytes maxL ret ws rm mc ms n) (hM : vx_Met l y ws rm Pc Qc XC mc ms free) (hbl : FrameBlind Pc) : vx_Back l R p e below s args y 3 8 (PreOf R mc ms Pc) (PostOf Qc mc ms free) (vx_Post XC mc ms free) := by
  obtain ⟨hrc, hrs, hfr, hlo, hws, hcw, -, hini, -⟩ := cb
  exact vx_back (bytes := bytes) (maxL := maxL) (ret := ret) hM hbl hrc hrs hfr hlo hws hcw (fun a' U hW => word_at hW (Or.inl (by first | rfl | simp [Cond.onTables, Cond.keeps, Cond.steady])) hini)
theorem vx_runV (S : CallFix p m c cc nL s args Ts own) (hM : vx_Met l y ws rm Pc Qc XC mc ms free) (cw : CallW R s args own C index y bytes maxL ret ws rm mc ms n) (hp : PreV s H C b Pc As)
    (hg : g.method = m) (hn : As.length = n) (hsize : g.locals.size = nL) (hstack : g.stack = As.reverse ++ .ref b :: rest) (hW : 2 * g.monitorRoom + (rest.map fun v => v.category).sum ≤ 8) (hdg : decode cc g.pc = .ok (.invokevirtual index, 3)) (hf : cells + mc ≤ R.cells ∧ slots + ms ≤ R.slots) :
    vx_Run p l e R s m args below meth c H locs cells slots mc ms g rest (Qc (Value.ref b :: As).toArray) XC free := by
  have hK : vx_Back l R p e below s args y 3 8 (PreOf R mc ms Pc) (PostOf Qc mc ms free) (vx_Post XC mc ms free) := vx_callBack cw.1 hM hp.1
  obtain ⟨⟨-, -, -, -, -, -, hcode, -, hy, hlen, hl⟩, hin, hse⟩ := cw
  obtain ⟨hx, hb, hml, ho, -⟩ := S
  obtain ⟨-, ⟨cellB, hcB, hoB, hclB⟩, hPc⟩ := hp
  intro T hT X
  rcases vx_callV X hx (C := C) (bytes := bytes) (maxL := maxL) (ret := ret) ho hl hin hse hcode hy hK (by rw [hT]; exact hcB) hoB hclB hg (hsize.trans hml.symm) (argsL := As) (rest := rest) (fun sig h => hn.trans (hlen sig h)) hstack hW (by rw [hb]; exact hdg)
    (fun vm₁ hW₁ => ⟨hf.1, hf.2, hPc (T.setVm vm₁) hT hW₁⟩) with ⟨v, vm₁, ⟨U', l2, c2, s2⟩, hW₁, X', ⟨g', mk, t, L, e1, e2, hq, h1, hL, h2, h3⟩, st⟩ | ⟨q, vm₁, ⟨U', l2, c2, s2⟩, hW₁, X', ⟨g', mk, t, L, E, ce, e1, e2, hq, hce, hcv, hcl, h1, hL, h2, h3⟩, st⟩
  · dsimp only [Pt.U, Pt.locs, Pt.cells, Pt.slots] at X' e1 e2 h1 h2 h3 st
    subst h1; subst h2; subst h3
    exact Or.inl ⟨v, (T.setVm vm₁).calling g' mk (Value.ref b :: As).toArray, t, U', L, hT, X', hL, e1, e2, hq, st⟩
  · dsimp only [Pt.U, Pt.locs, Pt.cells, Pt.slots] at X' e1 e2 h1 h2 h3 st hcl
    subst h1; subst h2; subst h3
    exact Or.inr ⟨q, (T.setVm vm₁).calling g' mk (Value.ref b :: As).toArray, t, U', L, E, ce, hT, X', hL, e1, e2, hq, hce, hcv, vx_cls hW₁ hcl, st⟩
theorem vx_runS (S : CallFix p m c cc nL s args Ts own) (hM : vx_Met l y ws rm Pc Qc XC mc ms free) (cw : CallB R s args own index y bytes maxL ret ws rm mc ms n ∧ (Cond.static y).before args s = true) (hp : PreS s H Pc As)
    (hg : g.method = m) (hn : As.length = n) (hsize : g.locals.size = nL) (hstack : g.stack = As.reverse ++ rest) (hW : 2 * g.monitorRoom + (rest.map fun v => v.category).sum ≤ 8) (hdg : decode cc g.pc = .ok (.invokestatic index, 3)) (hf : cells + mc ≤ R.cells ∧ slots + ms ≤ R.slots) :
    vx_Run p l e R s m args below meth c H locs cells slots mc ms g rest (Qc As.toArray) XC free := by
  have hK : vx_Back l R p e below s args y 3 8 (PreOf R mc ms Pc) (PostOf Qc mc ms free) (vx_Post XC mc ms free) := vx_callBack cw.1 hM hp.1
  obtain ⟨⟨-, -, -, -, -, -, hcode, hini, hy, hlen, hl⟩, hstt⟩ := cw
  obtain ⟨hx, hb, hml, ho, -⟩ := S
  intro T hT X
  rcases vx_callS X hx (bytes := bytes) (maxL := maxL) (ret := ret) ho hl hstt hini hcode hy hK hg (hsize.trans hml.symm) (argsL := As) (rest := rest) (fun sig h => hn.trans (hlen sig h)) hstack hW (by rw [hb]; exact hdg)
    (fun vm₁ hW₁ => ⟨hf.1, hf.2, hp.2 (T.setVm vm₁) hT hW₁⟩) with ⟨v, vm₁, ⟨U', l2, c2, s2⟩, hW₁, X', ⟨g', mk, t, L, e1, e2, hq, h1, hL, h2, h3⟩, st⟩ | ⟨q, vm₁, ⟨U', l2, c2, s2⟩, hW₁, X', ⟨g', mk, t, L, E, ce, e1, e2, hq, hce, hcv, hcl, h1, hL, h2, h3⟩, st⟩
  · dsimp only [Pt.U, Pt.locs, Pt.cells, Pt.slots] at X' e1 e2 h1 h2 h3 st
    subst h1; subst h2; subst h3
    exact Or.inl ⟨v, (T.setVm vm₁).calling g' mk As.toArray, t, U', L, hT, X', hL, e1, e2, hq, st⟩
  · dsimp only [Pt.U, Pt.locs, Pt.cells, Pt.slots] at X' e1 e2 h1 h2 h3 st hcl
    subst h1; subst h2; subst h3
    exact Or.inr ⟨q, (T.setVm vm₁).calling g' mk As.toArray, t, U', L, E, ce, hT, X', hL, e1, e2, hq, hce, hcv, vx_cls hW₁ hcl, st⟩
end Runs
section Rows
variable {p : Program} {l : Launch} {e : Env} {R : Room} {s : State} {m : MethodId} {args : Array Value} {below : List Frame} {meth : Method} {c : Code} {H : Heap} {locs : List Loc} {cells slots : Nat} {Q : State → Prop}
variable {mc ms : Nat} {free : Addr → Prop} {A0 A1 : Nat → Prop} {H0 : Heap} {a : Array Value} {pc : Nat} {ls : Array Slot} {st0 rest : List Value}
theorem vx_keep {st₀ t T' : State} {L : List Loc} (h0 : st₀.heap = H) (e1 : T'.heap = t.heap) (hS : va_S A0 H0 H locs) (hA : ∀ q, q < H.size → A1 q → A0 q) (hf : ∀ q, free q → A0 q) (hL : ∀ q ∈ L, free q.base) (hF : va_F A1 st₀ t) :
    H.size ≤ T'.heap.size ∧ (∀ q : Nat, q < H.size → ¬ A1 q → T'.heap[q]? = H[q]?) ∧ va_S A0 H0 T'.heap (locs ++ L) := by
  obtain ⟨hz, hk⟩ := hF
  rw [h0] at hz hk
  exact ⟨by rw [e1]; exact hz, fun q h1 h2 => by rw [e1]; exact hk q h1 h2,
    ⟨Nat.le_trans hS.1 (by rw [e1]; exact hz), fun q h1 h2 => by rw [e1, hk q (Nat.lt_of_lt_of_le h1 hS.1) (fun z => h2 (hA q (Nat.lt_of_lt_of_le h1 hS.1) z))]; exact hS.2.1 q h1 h2, fun q hq => by
      rcases List.mem_append.mp hq with h | h
      · exact hS.2.2 q h
      · exact hf _ (hL q h)⟩⟩
theorem vx_calli {S SX : Type} {post : Int32 → S → Prop} {px : SX → Prop} {B : S → State → Prop} {BX : String → SX → State → Prop} {AX : Nat → Prop} (hr : vx_Run p l e R s m args below meth c H locs cells slots mc ms (F0 m pc ls st0) rest (va_Qi post B A1 a) (vx_X px BX AX) free) (hS : va_S A0 H0 H locs) (hA : ∀ q, q < H.size → A1 q → A0 q) (hf : ∀ q, free q → A0 q) (hAX : ∀ q, q < H.size → AX q → A0 q)
    (kx : ∀ (E : String) (ce : Cell) (q9 : Addr) (u : SX) (t : State) (H1 : Heap) (locs1 : List Loc), t.heap = H1 → s.vm.Alike t.vm → px u → BX E u t → H.size ≤ H1.size → (∀ q : Nat, q < H.size → ¬ AX q → H1[q]? = H[q]?) → va_S A0 H0 H1 locs1 → H1[q9]? = some ce → ce.vm = .none → s.vm.findClass E = some ce.cls → vx_W p l e R s m args below meth c H1 locs1 (cells + mc) (slots + ms) Q (F0 m pc ls rest) q9)
    (kk : ∀ (r : Int32) (u : S) (t : State) (H1 : Heap) (locs1 : List Loc), t.heap = H1 → s.vm.Alike t.vm → post r u → B u t → H.size ≤ H1.size → (∀ q : Nat, q < H.size → ¬ A1 q → H1[q]? = H[q]?) → va_S A0 H0 H1 locs1 → W p l e R s m args below meth c H1 locs1 (cells + mc) (slots + ms) Q (F0 m (pc + 3) ls (.int r :: rest))) : W p l e R s m args below meth c H locs cells slots Q (F0 m pc ls st0) := by
  intro T hT X
  rcases hr T hT X with ⟨v, st₀, t, T', L, h0, X', hL, e1, e2, ⟨⟨r, u, hv, hp, hb⟩, hF⟩, st⟩ | ⟨q, st₀, t, T', L, E, ce, h0, X', hL, e1, e2, ⟨u, hp, hb, hF⟩, hce, hcv, hcl, st⟩
  · cases hv
    obtain ⟨k1, k2, k3⟩ := vx_keep h0 e1 hS hA hf hL hF
    obtain ⟨t2, a1, b1⟩ := kk r u t T'.heap (locs ++ L) e1.symm (by rw [← e2]; exact X'.warmed.alike) hp hb k1 k2 k3 T' rfl X'
    exact ⟨t2, st t2 a1, b1⟩
  · obtain ⟨k1, k2, k3⟩ := vx_keep h0 e1 hS hAX hf hL hF
    obtain ⟨t2, a1, b1⟩ := kx E ce q u t T'.heap (locs ++ L) e1.symm (by rw [← e2]; exact X'.warmed.alike) hp hb k1 k2 k3 (by rw [e1]; exact hce) hcv hcl T' rfl X'
    exact ⟨t2, st.trans a1, b1⟩
theorem vx_calll {S SX : Type} {post : Int64 → S → Prop} {px : SX → Prop} {B : S → State → Prop} {BX : String → SX → State → Prop} {AX : Nat → Prop} (hr : vx_Run p l e R s m args below meth c H locs cells slots mc ms (F0 m pc ls st0) rest (va_Ql post B A1 a) (vx_X px BX AX) free) (hS : va_S A0 H0 H locs) (hA : ∀ q, q < H.size → A1 q → A0 q) (hf : ∀ q, free q → A0 q) (hAX : ∀ q, q < H.size → AX q → A0 q)
    (kx : ∀ (E : String) (ce : Cell) (q9 : Addr) (u : SX) (t : State) (H1 : Heap) (locs1 : List Loc), t.heap = H1 → s.vm.Alike t.vm → px u → BX E u t → H.size ≤ H1.size → (∀ q : Nat, q < H.size → ¬ AX q → H1[q]? = H[q]?) → va_S A0 H0 H1 locs1 → H1[q9]? = some ce → ce.vm = .none → s.vm.findClass E = some ce.cls → vx_W p l e R s m args below meth c H1 locs1 (cells + mc) (slots + ms) Q (F0 m pc ls rest) q9)
    (kk : ∀ (r : Int64) (u : S) (t : State) (H1 : Heap) (locs1 : List Loc), t.heap = H1 → s.vm.Alike t.vm → post r u → B u t → H.size ≤ H1.size → (∀ q : Nat, q < H.size → ¬ A1 q → H1[q]? = H[q]?) → va_S A0 H0 H1 locs1 → W p l e R s m args below meth c H1 locs1 (cells + mc) (slots + ms) Q (F0 m (pc + 3) ls (.long r :: rest))) : W p l e R s m args below meth c H locs cells slots Q (F0 m pc ls st0) := by
  intro T hT X
  rcases hr T hT X with ⟨v, st₀, t, T', L, h0, X', hL, e1, e2, ⟨⟨r, u, hv, hp, hb⟩, hF⟩, st⟩ | ⟨q, st₀, t, T', L, E, ce, h0, X', hL, e1, e2, ⟨u, hp, hb, hF⟩, hce, hcv, hcl, st⟩
  · cases hv
    obtain ⟨k1, k2, k3⟩ := vx_keep h0 e1 hS hA hf hL hF
    obtain ⟨t2, a1, b1⟩ := kk r u t T'.heap (locs ++ L) e1.symm (by rw [← e2]; exact X'.warmed.alike) hp hb k1 k2 k3 T' rfl X'
    exact ⟨t2, st t2 a1, b1⟩
  · obtain ⟨k1, k2, k3⟩ := vx_keep h0 e1 hS hAX hf hL hF
    obtain ⟨t2, a1, b1⟩ := kx E ce q u t T'.heap (locs ++ L) e1.symm (by rw [← e2]; exact X'.warmed.alike) hp hb k1 k2 k3 (by rw [e1]; exact hce) hcv hcl T' rfl X'
    exact ⟨t2, st.trans a1, b1⟩
theorem vx_callf {S SX : Type} {post : UInt32 → S → Prop} {px : SX → Prop} {B : S → State → Prop} {BX : String → SX → State → Prop} {AX : Nat → Prop} (hr : vx_Run p l e R s m args below meth c H locs cells slots mc ms (F0 m pc ls st0) rest (va_Qf post B A1 a) (vx_X px BX AX) free) (hS : va_S A0 H0 H locs) (hA : ∀ q, q < H.size → A1 q → A0 q) (hf : ∀ q, free q → A0 q) (hAX : ∀ q, q < H.size → AX q → A0 q)
    (kx : ∀ (E : String) (ce : Cell) (q9 : Addr) (u : SX) (t : State) (H1 : Heap) (locs1 : List Loc), t.heap = H1 → s.vm.Alike t.vm → px u → BX E u t → H.size ≤ H1.size → (∀ q : Nat, q < H.size → ¬ AX q → H1[q]? = H[q]?) → va_S A0 H0 H1 locs1 → H1[q9]? = some ce → ce.vm = .none → s.vm.findClass E = some ce.cls → vx_W p l e R s m args below meth c H1 locs1 (cells + mc) (slots + ms) Q (F0 m pc ls rest) q9)
    (kk : ∀ (r : UInt32) (u : S) (t : State) (H1 : Heap) (locs1 : List Loc), t.heap = H1 → s.vm.Alike t.vm → post r u → B u t → H.size ≤ H1.size → (∀ q : Nat, q < H.size → ¬ A1 q → H1[q]? = H[q]?) → va_S A0 H0 H1 locs1 → W p l e R s m args below meth c H1 locs1 (cells + mc) (slots + ms) Q (F0 m (pc + 3) ls (.float r :: rest))) : W p l e R s m args below meth c H locs cells slots Q (F0 m pc ls st0) := by
  intro T hT X
  rcases hr T hT X with ⟨v, st₀, t, T', L, h0, X', hL, e1, e2, ⟨⟨r, u, hv, hp, hb⟩, hF⟩, st⟩ | ⟨q, st₀, t, T', L, E, ce, h0, X', hL, e1, e2, ⟨u, hp, hb, hF⟩, hce, hcv, hcl, st⟩
  · cases hv
    obtain ⟨k1, k2, k3⟩ := vx_keep h0 e1 hS hA hf hL hF
    obtain ⟨t2, a1, b1⟩ := kk r u t T'.heap (locs ++ L) e1.symm (by rw [← e2]; exact X'.warmed.alike) hp hb k1 k2 k3 T' rfl X'
    exact ⟨t2, st t2 a1, b1⟩
  · obtain ⟨k1, k2, k3⟩ := vx_keep h0 e1 hS hAX hf hL hF
    obtain ⟨t2, a1, b1⟩ := kx E ce q u t T'.heap (locs ++ L) e1.symm (by rw [← e2]; exact X'.warmed.alike) hp hb k1 k2 k3 (by rw [e1]; exact hce) hcv hcl T' rfl X'
    exact ⟨t2, st.trans a1, b1⟩
theorem vx_calld {S SX : Type} {post : UInt64 → S → Prop} {px : SX → Prop} {B : S → State → Prop} {BX : String → SX → State → Prop} {AX : Nat → Prop} (hr : vx_Run p l e R s m args below meth c H locs cells slots mc ms (F0 m pc ls st0) rest (va_Qd post B A1 a) (vx_X px BX AX) free) (hS : va_S A0 H0 H locs) (hA : ∀ q, q < H.size → A1 q → A0 q) (hf : ∀ q, free q → A0 q) (hAX : ∀ q, q < H.size → AX q → A0 q)
    (kx : ∀ (E : String) (ce : Cell) (q9 : Addr) (u : SX) (t : State) (H1 : Heap) (locs1 : List Loc), t.heap = H1 → s.vm.Alike t.vm → px u → BX E u t → H.size ≤ H1.size → (∀ q : Nat, q < H.size → ¬ AX q → H1[q]? = H[q]?) → va_S A0 H0 H1 locs1 → H1[q9]? = some ce → ce.vm = .none → s.vm.findClass E = some ce.cls → vx_W p l e R s m args below meth c H1 locs1 (cells + mc) (slots + ms) Q (F0 m pc ls rest) q9)
    (kk : ∀ (r : UInt64) (u : S) (t : State) (H1 : Heap) (locs1 : List Loc), t.heap = H1 → s.vm.Alike t.vm → post r u → B u t → H.size ≤ H1.size → (∀ q : Nat, q < H.size → ¬ A1 q → H1[q]? = H[q]?) → va_S A0 H0 H1 locs1 → W p l e R s m args below meth c H1 locs1 (cells + mc) (slots + ms) Q (F0 m (pc + 3) ls (.double r :: rest))) : W p l e R s m args below meth c H locs cells slots Q (F0 m pc ls st0) := by
  intro T hT X
  rcases hr T hT X with ⟨v, st₀, t, T', L, h0, X', hL, e1, e2, ⟨⟨r, u, hv, hp, hb⟩, hF⟩, st⟩ | ⟨q, st₀, t, T', L, E, ce, h0, X', hL, e1, e2, ⟨u, hp, hb, hF⟩, hce, hcv, hcl, st⟩
  · cases hv
    obtain ⟨k1, k2, k3⟩ := vx_keep h0 e1 hS hA hf hL hF
    obtain ⟨t2, a1, b1⟩ := kk r u t T'.heap (locs ++ L) e1.symm (by rw [← e2]; exact X'.warmed.alike) hp hb k1 k2 k3 T' rfl X'
    exact ⟨t2, st t2 a1, b1⟩
  · obtain ⟨k1, k2, k3⟩ := vx_keep h0 e1 hS hAX hf hL hF
    obtain ⟨t2, a1, b1⟩ := kx E ce q u t T'.heap (locs ++ L) e1.symm (by rw [← e2]; exact X'.warmed.alike) hp hb k1 k2 k3 (by rw [e1]; exact hce) hcv hcl T' rfl X'
    exact ⟨t2, st.trans a1, b1⟩
theorem vx_callv {S SX : Type} {post : S → Prop} {px : SX → Prop} {B : S → State → Prop} {BX : String → SX → State → Prop} {AX : Nat → Prop} (hr : vx_Run p l e R s m args below meth c H locs cells slots mc ms (F0 m pc ls st0) rest (va_Qv post B A1 a) (vx_X px BX AX) free) (hS : va_S A0 H0 H locs) (hA : ∀ q, q < H.size → A1 q → A0 q) (hf : ∀ q, free q → A0 q) (hAX : ∀ q, q < H.size → AX q → A0 q)
    (kx : ∀ (E : String) (ce : Cell) (q9 : Addr) (u : SX) (t : State) (H1 : Heap) (locs1 : List Loc), t.heap = H1 → s.vm.Alike t.vm → px u → BX E u t → H.size ≤ H1.size → (∀ q : Nat, q < H.size → ¬ AX q → H1[q]? = H[q]?) → va_S A0 H0 H1 locs1 → H1[q9]? = some ce → ce.vm = .none → s.vm.findClass E = some ce.cls → vx_W p l e R s m args below meth c H1 locs1 (cells + mc) (slots + ms) Q (F0 m pc ls rest) q9)
    (kk : ∀ (u : S) (t : State) (H1 : Heap) (locs1 : List Loc), t.heap = H1 → s.vm.Alike t.vm → post u → B u t → H.size ≤ H1.size → (∀ q : Nat, q < H.size → ¬ A1 q → H1[q]? = H[q]?) → va_S A0 H0 H1 locs1 → W p l e R s m args below meth c H1 locs1 (cells + mc) (slots + ms) Q (F0 m (pc + 3) ls (rest))) : W p l e R s m args below meth c H locs cells slots Q (F0 m pc ls st0) := by
  intro T hT X
  rcases hr T hT X with ⟨v, st₀, t, T', L, h0, X', hL, e1, e2, ⟨⟨u, hv, hp, hb⟩, hF⟩, st⟩ | ⟨q, st₀, t, T', L, E, ce, h0, X', hL, e1, e2, ⟨u, hp, hb, hF⟩, hce, hcv, hcl, st⟩
  · cases hv
    obtain ⟨k1, k2, k3⟩ := vx_keep h0 e1 hS hA hf hL hF
    obtain ⟨t2, a1, b1⟩ := kk u t T'.heap (locs ++ L) e1.symm (by rw [← e2]; exact X'.warmed.alike) hp hb k1 k2 k3 T' rfl X'
    exact ⟨t2, st t2 a1, b1⟩
  · obtain ⟨k1, k2, k3⟩ := vx_keep h0 e1 hS hAX hf hL hF
    obtain ⟨t2, a1, b1⟩ := kx E ce q u t T'.heap (locs ++ L) e1.symm (by rw [← e2]; exact X'.warmed.alike) hp hb k1 k2 k3 (by rw [e1]; exact hce) hcv hcl T' rfl X'
    exact ⟨t2, st.trans a1, b1⟩
/-- caught by the row x of this method's table; the rows ahead don't take it -/
theorem vx_catch {own name : String} {E : String} {ce : Cell} {q : Addr} (hown : s.vm.findClass own = some m.cls) (pre : List ExceptionTableEntry) (x : ExceptionTableEntry) (suf : List ExceptionTableEntry) (hsplit : c.exceptionTable.toList = pre ++ x :: suf)
    (hpass : ∀ z ∈ pre, covers z pc = false ∨ (z.catchType ≠ 0 ∧ ∃ nm : String, (Cond.classLink own z.catchType nm).before args s = true ∧ va_Nc E nm s)) (hx : covers x pc = true) (h0 : x.catchType ≠ 0)
    (hlink : (Cond.classLink own x.catchType name).before args s = true) (hcast : (Cond.castable E name).before args s = true) (hcell : H[q]? = some ce) (hv : ce.vm = .none) (hcl : s.vm.findClass E = some ce.cls)
    (kk : W p l e R s m args below meth c H locs cells slots Q (F0 m x.handlerPc ls [.ref q])) : vx_W p l e R s m args below meth c H locs cells slots Q (F0 m pc ls rest) q := by
  intro T hT X
  have hpl : e.platform.magicAccessors = ({} : Platform).magicAccessors := by rw [X.admits.platform]
  obtain ⟨c3, c4, hc3, hc4, hasg⟩ := Cond.castable_spec hcast
  cases Option.some.inj (hc3.symm.trans hcl)
  obtain ⟨c5, hc5, hcl5⟩ := Cond.classLink_spec hown hlink e.platform hpl
  cases Option.some.inj (hc4.symm.trans hc5)
  obtain ⟨vm', X', st⟩ := X.thenCaughtThrough q (g := F0 m pc ls rest) rfl (Steps.refl _) (by rw [hT]; exact hcell) (by rw [hv]; rfl) (by obtain ⟨k9, h9, -⟩ := Vm.findClass_spec hcl; exact ⟨k9, h9⟩) pre x suf hsplit
    (fun z hz => by
      rcases hpass z hz with h | ⟨hz0, nm, hl1, hn1⟩
      · exact Or.inl h
      · obtain ⟨c6, hc6, hcl6⟩ := Cond.classLink_spec hown hl1 e.platform hpl
        obtain ⟨a8, b8, h1, h2, h3⟩ := hn1
        cases Option.some.inj (h1.symm.trans hcl)
        cases Option.some.inj (h2.symm.trans hc6)
        exact Or.inr ⟨hz0, _, hcl6, h3⟩) hx (Or.inr ⟨h0, c4, hcl5, hasg⟩)
  obtain ⟨t, a1, b1⟩ := kk (T.setVm vm') hT X'
  exact ⟨t, st.trans a1, b1⟩
end Rows
section Ends
variable {p : Program} {l : Launch} {e : Env} {R : Room} {s : State} {m : MethodId} {args : Array Value} {below : List Frame} {meth : Method} {c : Code} {H : Heap} {locs : List Loc} {cells slots : Nat} {Q : State → Prop}
variable {mc ms : Nat} {free : Addr → Prop} {A0 A1 : Nat → Prop} {H0 : Heap} {a : Array Value} {ls : Array Slot} {st0 rest : List Value}
variable {Qc : Array Value → State → Outcome → State → Prop} {XC : String → State → State → Prop}
/-- what a body that may throw owes at its end -/
def vx_MQ (below : List Frame) (Qc : Array Value → State → Outcome → State → Prop) (XC : String → State → State → Prop) (a : Array Value) (s : State) (mc ms : Nat) (free : Addr → Prop) : State → Prop := fun t =>
  ∃ o, t.status = .running ∧ Ended t below o ∧ vx_Q Qc XC mc ms free a s o t
theorem vx_ret {g : JFrame} {mc ms : Nat} (k : W p l e R s m args below meth c H locs cells slots (MQ below Qc args s mc ms free) g) : W p l e R s m args below meth c H locs cells slots (vx_MQ below Qc XC args s mc ms free) g := by
  intro T hT X
  obtain ⟨t, a1, o, b1, b2, b3, b4⟩ := k T hT X
  exact ⟨t, a1, o, b1, b2, Or.inl ⟨b3, b4⟩⟩
/-- not caught here: it goes on to the caller -/
theorem vx_widen {g : JFrame} {q : Addr} {k n : Nat} (h1 : cells ≤ k) (h2 : slots ≤ n) (kk : vx_W p l e R s m args below meth c H locs k n Q g q) : vx_W p l e R s m args below meth c H locs cells slots Q g q := fun T hT X => kk T hT (stand_widen X h1 h2)
theorem vx_out {pc : Nat} {E : String} {ce : Cell} {q : Addr} {mc ms : Nat} (hout : ∀ x ∈ c.exceptionTable.toList, covers x pc = false) (hlocks : meth.locks = false) (hcell : H[q]? = some ce) (hv : ce.vm = .none) (hcl : s.vm.findClass E = some ce.cls)
    (hx : ∀ t : State, t.heap = H → s.vm.Alike t.vm → XC E s t) (hf : ∀ z ∈ locs, free z.base) (hc : cells ≤ mc) (hs : slots ≤ ms) :
    vx_W p l e R s m args below meth c H locs cells slots (vx_MQ below Qc XC args s mc ms free) (F0 m pc ls rest) q := by
  intro T hT X
  obtain ⟨st1, hrun, hend, hW, hsm⟩ := X.leaveThrown q (g := F0 m pc ls rest) rfl rfl rfl hout hlocks
  have hcell9 : (T.setFrames (.throwing q :: below)).heap[q]? = some ce := by
    show T.heap[q]? = some ce
    rw [hT]; exact hcell
  exact ⟨_, st1, .threw q, hrun, hend, Or.inr ⟨q, rfl, E, ce, locs, hx _ hT hW.alike, hcell9, hv, hcl, hW, hsm.mono hc hs, hf⟩⟩
theorem vx_frame {U : State} {k n : Nat} (h : s.sameButNew ({ U with vm := s.vm } : State) locs k n) : s.heap.size ≤ U.heap.size ∧ ∀ q : Nat, q < s.heap.size → (∀ z ∈ locs, z.base ≠ q) → U.heap[q]? = s.heap[q]? := by
  obtain ⟨-, h2, -, -, -, h6⟩ := h
  refine ⟨h2, fun q hq hz => ?_⟩
  obtain ⟨c9, e1, e2, e3, e4⟩ := h6 q _ (Array.getElem?_eq_getElem hq)
  have hs : c9.slots = (s.heap[q]).slots := Array.ext_getElem? fun i => e4 i fun hm => hz _ hm rfl
  have h9 : c9 = s.heap[q] := by
    rw [hs] at e2
    exact e2
  have e5 : U.heap[q]? = some c9 := e1
  rw [e5, h9, Array.getElem?_eq_getElem hq]
/-- the words of a throw but the four that speak of the heap -/
def vx_no (w : Cond) : Bool := decide (w ≠ .isRef (.static Bundle.tN "UNASSIGNED_STACK" Bundle.steD)) && decide (w ≠ .isRef (.static Bundle.tN "SUPPRESSED_SENTINEL" Bundle.listD)) && decide (w ≠ .laysStatic Bundle.tN "UNASSIGNED_STACK" Bundle.steD) && decide (w ≠ .laysStatic Bundle.tN "SUPPRESSED_SENTINEL" Bundle.listD)
def vx_at0 (own : String) (ic : Nat) (X : String) (names : List String) : List Cond := (Bundle.ownAtoms0 own ic X names).filter vx_no
def vx_atS (own : String) (ic : Nat) (X : String) (names : List String) : List Cond := (Bundle.ownAtoms own ic X names).filter vx_no
/-- a word that the tables alone decide, or a good one -/
def vx_ot (w : Cond) : Bool := w.onTables || goodWord w
theorem vx_ot_at {args a' : Array Value} {s U : State} {w : Cond} (hW : s.WarmedH U.vm) (hvm : s.vm = U.vm) (hg : vx_ot w = true) (h : w.before args s = true) : w.before a' U = true := by
  simp only [vx_ot, Bool.or_eq_true] at hg
  rcases hg with hg | hg
  · exact va_tabs hg hvm h
  · exact word_at hW (good_of_word hg) h
/-- a list's words: the good ones out of the method's own list, the others by premises of their own -/
theorem vx_hat {args : Array Value} {s : State} {L B : List Cond} (h1 : ∀ w ∈ L.filter goodWord, w.before args s = true) (h2 : ∀ w ∈ L.filter (fun w => !goodWord w), w ∈ B) (h3 : ∀ w ∈ B, w.before args s = true) : ∀ w ∈ L, w.before args s = true := by
  intro w hw
  by_cases g : goodWord w = true
  · exact h1 w (List.mem_filter.mpr ⟨hw, g⟩)
  · refine h3 w (h2 w (List.mem_filter.mpr ⟨hw, ?_⟩))
    show (!goodWord w) = true
    cases hgw : goodWord w
    · rfl
    · exact absurd hgw g
theorem vx_c {args : Array Value} {s : State} {w : Cond} {B : List Cond} (h : w.before args s = true) (t : ∀ w ∈ B, w.before args s = true) : ∀ w' ∈ w :: B, w'.before args s = true := fun w' h' => (List.mem_cons.mp h').elim (fun e => by rw [e]; exact h) (t w')
theorem vx_n {args : Array Value} {s : State} : ∀ w ∈ ([] : List Cond), w.before args s = true := fun _ h => nomatch h
theorem vx_own {args : Array Value} {s : State} {L : List Cond} (h1 : ∀ w ∈ L.filter vx_no, w.before args s = true)
    (hU : (Cond.isRef (.static Bundle.tN "UNASSIGNED_STACK" Bundle.steD)).before args s = true) (hN : (Cond.isRef (.static Bundle.tN "SUPPRESSED_SENTINEL" Bundle.listD)).before args s = true)
    (lU : (Cond.laysStatic Bundle.tN "UNASSIGNED_STACK" Bundle.steD).before args s = true) (lN : (Cond.laysStatic Bundle.tN "SUPPRESSED_SENTINEL" Bundle.listD).before args s = true) : ∀ w ∈ L, w.before args s = true := by
  intro w hw
  by_cases e1 : w = .isRef (.static Bundle.tN "UNASSIGNED_STACK" Bundle.steD)
  · rw [e1]; exact hU
  · by_cases e2 : w = .isRef (.static Bundle.tN "SUPPRESSED_SENTINEL" Bundle.listD)
    · rw [e2]; exact hN
    · by_cases e3 : w = .laysStatic Bundle.tN "UNASSIGNED_STACK" Bundle.steD
      · rw [e3]; exact lU
      · by_cases e4 : w = .laysStatic Bundle.tN "SUPPRESSED_SENTINEL" Bundle.listD
        · rw [e4]; exact lN
        · exact h1 w (List.mem_filter.mpr ⟨hw, by unfold vx_no; rw [decide_eq_true e1, decide_eq_true e2, decide_eq_true e3, decide_eq_true e4]; rfl⟩)
/-- where a static field lies, its class's statics cell in H -/
def vx_L (C n d : String) (A : Nat → Prop) (U : State) (H : Heap) : Prop := ∃ (c : ClassId) (k : Class) (i : Nat) (f : Field) (a : Nat) (cell : Cell), U.vm.findClass C = some c ∧ U.fieldFound? C n d = some (c, k, i, f) ∧ f.isStatic = true ∧ k.statics = some a ∧ H[a]? = some cell ∧ cell.vm.isStatics = true ∧ cell.cls = c ∧ f.slot < cell.slots.size ∧ k.staticTypes[f.slot]? = some f.type ∧ ¬ A a
theorem vx_L.moved {C n d : String} {A : Nat → Prop} {u U : State} {H : Heap} (hvm : u.vm.Alike U.vm) (h : vx_L C n d A u H) : vx_L C n d A U H := by
  obtain ⟨c, k, i, f, a, cell, h1, h2, h3, h4, h5, h6, h7, h8, h9, h10⟩ := h
  obtain ⟨k', hi', he⟩ := State.fieldFound?_setVm hvm h2
  exact ⟨c, k', i, f, a, cell, by rw [hvm.findClass]; exact h1, hi', h3, by rw [he]; exact h4, h5, h6, h7, h8, by rw [he]; exact h9, h10⟩
theorem vx_L.kept {C n d : String} {A : Nat → Prop} {U : State} {H H1 : Heap} (h : vx_L C n d A U H) (hq : ∀ a : Nat, a < H.size → ¬ A a → H1[a]? = H[a]?) : vx_L C n d A U H1 := by
  obtain ⟨c, k, i, f, a, cell, h1, h2, h3, h4, h5, h6, h7, h8, h9, h10⟩ := h
  exact ⟨c, k, i, f, a, cell, h1, h2, h3, h4, by rw [hq a (Array.getElem?_eq_some_iff.mp h5).1 h10]; exact h5, h6, h7, h8, h9, h10⟩
theorem vx_L.narrow {C n d : String} {A B : Nat → Prop} {U : State} {H : Heap} (h : vx_L C n d A U H) (hAB : ∀ q, B q → A q) : vx_L C n d B U H := by
  obtain ⟨c, k, i, f, a, cell, h1, h2, h3, h4, h5, h6, h7, h8, h9, h10⟩ := h
  exact ⟨c, k, i, f, a, cell, h1, h2, h3, h4, h5, h6, h7, h8, h9, fun z => h10 (hAB _ z)⟩
theorem vx_L.word {C n d : String} {A : Nat → Prop} {s : State} {args : Array Value} (h : vx_L C n d A s s.heap) : (Cond.laysStatic C n d).before args s = true := by
  obtain ⟨c, k, i, f, a, cell, h1, h2, h3, h4, h5, h6, h7, h8, h9, -⟩ := h
  show (Cond.laysStatic C n d).holds args s none s [] = true
  exact Cond.laysStatic_of h1 h2 h3 h4 h5 h6 h7 h8 h9
/-- .. and what it holds: null or some reference -/
def vx_Zq (C n d : String) (A : Nat → Prop) (U : State) (H : Heap) : Prop := va_Zq C n d A U H ∧ vx_L C n d A U H
theorem vx_Zq.moved {C n d : String} {A : Nat → Prop} {u U : State} {H : Heap} (hvm : u.vm.Alike U.vm) (h : vx_Zq C n d A u H) : vx_Zq C n d A U H := ⟨va_Zq.moved hvm h.1, vx_L.moved hvm h.2⟩
theorem vx_Zq.kept {C n d : String} {A : Nat → Prop} {U : State} {H H1 : Heap} (h : vx_Zq C n d A U H) (hq : ∀ a : Nat, a < H.size → ¬ A a → H1[a]? = H[a]?) : vx_Zq C n d A U H1 := ⟨va_Zq.kept h.1 hq, vx_L.kept h.2 hq⟩
theorem vx_Zq.narrow {C n d : String} {A B : Nat → Prop} {U : State} {H : Heap} (h : vx_Zq C n d A U H) (hAB : ∀ q, B q → A q) : vx_Zq C n d B U H := ⟨va_Zq.narrow h.1 hAB, vx_L.narrow h.2 hAB⟩
theorem vx_Zqof {args : Array Value} {s : State} {C n d : String} {A : Nat → Prop} (hl : (Cond.laysStatic C n d).before args s = true) (hini : (Cond.initialized C).before args s = true) (h : (Cond.isRef (.static C n d)).before args s = true) (hA : ∀ a : Nat, a < s.heap.size → ¬ A a) : vx_Zq C n d A s s.heap := by
  refine ⟨va_Zqof hl hini h hA, ?_⟩
  obtain ⟨c, k, i, f, a, cell, h1, h2, h3, h4, h5, h6, h7, h8, h9⟩ := Cond.laysStatic_spec hl
  exact ⟨c, k, i, f, a, cell, h1, h2, h3, h4, h5, h6, h7, h8, h9, hA a (Array.getElem?_eq_some_iff.mp h5).1⟩
theorem vx_isRef {C n d : String} {v : Value} {A : Nat → Prop} {s : State} {args : Array Value} (h : va_Z C n d v A s s.heap) (hv : v.isRef = true) : (Cond.isRef (.static C n d)).before args s = true := by
  obtain ⟨cf, kf, fi, f, a, cell, h1, h2, h3, h4, h5, h6, h7, -⟩ := h
  have he : (Term.static C n d).eval args s none [] s = some v := by
    simp [Term.eval, State.fieldNamed?, h1, h2, h4, h5, h6, h7]
  simp only [Cond.before, Cond.holds, Cond.value, he]
  cases v <;> simp_all [Value.isRef]
theorem vx_isRefq {C n d : String} {A : Nat → Prop} {s : State} {args : Array Value} (h : va_Zq C n d A s s.heap) : (Cond.isRef (.static C n d)).before args s = true := by
  rcases h with h | ⟨t, h⟩
  · exact vx_isRef h rfl
  · exact vx_isRef h rfl
/-- the same frame, seen from here: as if the method were called anew in this heap -/
theorem vx_rebase {T : State} (X : Stand p l e R s m args below meth c T locs cells slots) {R' : Room} (hf : R'.frames ≤ R.frames) (hl : R'.locals ≤ R.locals) (hc : cells + R'.cells ≤ R.cells) (hs : slots + R'.slots ≤ R.slots) :
    Stand p l e R' ((T.setVm s.vm).setFrames (.invoking m args :: below)) m args below meth c T [] 0 0 := by
  have htop : (T.setVm s.vm).topJava?.isSome := X.here.top
  have hF : ((T.setVm s.vm).setFrames (.invoking m args :: below)).frames = .invoking m args :: below := State.frames_setFrames _ (State.cur_lt_of_top htop)
  obtain ⟨g₀, hg0⟩ := Option.isSome_iff_exists.mp htop
  obtain ⟨r, hr⟩ := State.topJava?_eq_some.mp hg0
  have hl9 : e.platform.stackLimits (T.setVm s.vm).me = e.platform.stackLimits s.me := X.limits
  have hb9 : (T.setVm s.vm).me.stackBytes = s.me.stackBytes := X.bytes
  refine ⟨X.admits, X.cas, X.clock, hF, ?_, X.hears, X.method, X.code, X.here, X.tail, X.warmed, ?_, ?_, ?_⟩
  · have h := X.room
    have hU : ((T.setVm s.vm).setFrames (.invoking m args :: below)).localsInUse = s.localsInUse := by
      rw [State.localsInUse_invoking hF (meth := meth) (c := c) X.method X.code, State.localsInUse_invoking X.frames X.method X.code]
    simp only [State.hasRoom, Bool.and_eq_true, decide_eq_true_eq] at h ⊢
    obtain ⟨⟨⟨⟨h1, h2, h3, h4, h5, h6⟩, h7⟩, h8⟩, h9⟩ := h
    rw [X.frames, List.length_cons] at h2 h3
    have q1 := X.heapSize
    have q2 := X.used
    simp only [hF, hU, List.length_cons, State.stackLimits_setFrames, State.stackBytes_setFrames, hl9, hb9]
    refine ⟨⟨⟨⟨by omega, by omega, by omega, by omega, by omega, h6⟩, ?_⟩, ?_⟩, X.book⟩
    · show T.heap.size + R'.cells ≤ e.platform.maxCells
      omega
    · show T.slotsUsed + R'.slots ≤ e.platform.maxSlots
      omega
  · rw [State.stackLimits_setFrames]; rfl
  · rw [State.stackBytes_setFrames]; rfl
  · refine ⟨?_, Nat.le_refl _, Nat.le_refl _, ?_, ?_, fun a c9 h9 => ⟨c9, h9, rfl, rfl, fun _ _ => rfl⟩⟩
    · obtain ⟨t, ht, -⟩ := State.frames_cons hr
      show T.setVm s.vm = { ((T.setVm s.vm).setFrames (.invoking m args :: below)).setFrames (T.setVm s.vm).frames with heap := T.heap, slotsUsed := T.slotsUsed }
      rw [State.setFrames_setFrames, State.setFrames_self ht]
      rfl
    · show T.slotsUsed = T.slotsUsed + ((T.heap.toList.drop T.heap.size).map (·.slots.size)).sum
      rw [List.drop_eq_nil_of_le (Nat.le_of_eq Array.length_toList)]
      rfl
    · show ((T.heap.toList.drop T.heap.size).map (·.slots.size)).sum ≤ 0
      rw [List.drop_eq_nil_of_le (Nat.le_of_eq Array.length_toList)]
      exact Nat.le_refl _
/-- 'throw new E()': new; dup; invokespecial; athrow -/
theorem vx_throw0 {cc : ByteArray} {pc : Nat} (hexec : p.tables.exec = Jvm.exec) (hb : c.code = cc) (hl : l.stackTraces = false) {own cls : String} {names : List String} {ik ic mc ms : Nat} {A : Nat → Prop}
    (hown : s.vm.findClass own = some m.cls) (hcls : Bundle.fit cls = true) (hnames : ∀ n ∈ names, Bundle.fit n = true)
    (hk : (Cond.classLink own ik cls).before args s = true) (hini : (Cond.initialized cls).before args s = true) (hat : ∀ w ∈ vx_at0 own ic cls names, w.before args s = true)
    (hgood : ∀ w ∈ Cond.classLink own ik cls :: Cond.initialized cls :: vx_at0 own ic cls names, vx_ot w = true)
    (hU : vx_Zq Bundle.tN "UNASSIGNED_STACK" Bundle.steD A s s.heap) (hN : vx_Zq Bundle.tN "SUPPRESSED_SENTINEL" Bundle.listD A s s.heap) (hS : va_S A s.heap H locs) (hsize : ls.size = c.maxLocals)
    (d0 : decode cc pc = .ok (.new ik, 3)) (d3 : decode cc (pc + 3) = .ok (.dup, 1)) (d4 : decode cc (pc + 4) = .ok (.invokespecial ic, 3)) (d7 : decode cc (pc + 7) = .ok (.athrow, 1))
    (hout : ∀ x ∈ c.exceptionTable.toList, covers x (pc + 7) = false)
    (hRframes : names.length + 3 < R.frames) (hRlocals : (rest.map fun v => v.category).sum + (13 * (names.length + 1) + 42) ≤ R.locals) (hRcells : cells + 1 ≤ R.cells) (hRslots : slots + 6 ≤ R.slots) (hlocks : meth.locks = false)
    (hx : ∀ t : State, s.vm.Alike t.vm → H.size ≤ t.heap.size → (∀ q : Nat, q < H.size → t.heap[q]? = H[q]?) → XC cls s t)
    (hf : ∀ z ∈ locs, free z.base) (hc : cells + 1 ≤ mc) (hs : slots + 6 ≤ ms) :
    W p l e R s m args below meth c H locs cells slots (vx_MQ below Qc XC args s mc ms free) (F0 m pc ls rest) := by
  intro T hT X
  have htr : e.platform.stackTraces = false := (show e.platform.stackTraces = l.stackTraces by rw [X.admits.platform]).trans hl
  have Y := vx_rebase X (R' := { frames := R.frames, locals := R.locals, cells := 1, slots := 6 }) (Nat.le_refl _) (Nat.le_refl _) hRcells hRslots
  obtain ⟨s', hA⟩ : ∃ z, z = (T.setVm s.vm).setFrames (.invoking m args :: below) := ⟨_, rfl⟩
  rw [← hA] at Y
  have hvm : s'.vm = s.vm := by rw [hA]; rfl
  have hhp : s'.heap = H := by rw [hA]; exact hT
  have hW0 : s.WarmedH s'.vm := by rw [hvm]; exact State.WarmedH.refl s
  have hat' : ∀ w ∈ vx_at0 own ic cls names, w.before args s' = true := fun w hw => vx_ot_at hW0 hvm.symm (hgood w (List.mem_cons_of_mem _ (List.mem_cons_of_mem _ hw))) (hat w hw)
  have hk' : (Cond.classLink own ik cls).before args s' = true := vx_ot_at hW0 hvm.symm (hgood _ List.mem_cons_self) hk
  have hini' : (Cond.initialized cls).before args s' = true := vx_ot_at hW0 hvm.symm (hgood _ (List.mem_cons_of_mem _ List.mem_cons_self)) hini
  have hU' : vx_Zq Bundle.tN "UNASSIGNED_STACK" Bundle.steD A s' s'.heap := by rw [hhp]; exact vx_Zq.moved hW0.alike (hU.kept hS.2.1)
  have hN' : vx_Zq Bundle.tN "SUPPRESSED_SENTINEL" Bundle.listD A s' s'.heap := by rw [hhp]; exact vx_Zq.moved hW0.alike (hN.kept hS.2.1)
  have h : ∀ w ∈ Bundle.ownAtoms0 own ic cls names, w.before args s' = true := vx_own hat' (vx_isRefq hU'.1) (vx_isRefq hN'.1) hU'.2.word hN'.2.word
  have hown' : s'.vm.findClass own = some m.cls := by rw [hvm]; exact hown
  have hins : (Cond.instantiable cls 6).before args s' = true := h _ (by simp [Bundle.ownAtoms0])
  obtain ⟨vm₁, cX, kX, hfX, hkX, -, -, X₁, st1⟩ := Y.newCold hexec (own := own) (C := cls) (index := ik) (n := 6) hown' hk' hins hini'
    (g := F0 m pc ls rest) rfl (by rw [hb]; exact d0) (Nat.le_refl _) (Nat.le_refl _)
  generalize hT1 : (T.setVm vm₁).pushCell { cls := cX, slots := kX.instanceTypes.map defaultValue, vm := .none } = T1 at X₁ st1
  have hcat : (Value.ref T.heap.size).category = 1 := rfl
  have hcellA : T1.heap[T.heap.size]? = some (freshCell cX kX) := by rw [← hT1]; exact State.heap_pushCell_size _ _
  have d3' : decode c.code (pc + 3) = .ok (.dup, 1) := by rw [hb]; exact d3
  obtain ⟨U, hsteps, hrun, hend, hW, hsame, ce, hce, hO⟩ := X₁.ctorThrow0 hexec htr (own := own) (cls := cls) (names := names) (ic := ic) hown' hcls hnames h (fun x hx => nomatch hx) hfX hkX hcellA (by rw [hhp, hT]; exact Nat.le_refl _)
    (g := { method := m, pc := pc + 4, locals := ls, stack := .ref T.heap.size :: .ref T.heap.size :: rest, locked := none }) rfl hsize rfl rfl (rest := rest) rfl
    (by rw [hb]; exact d4) (by rw [hb]; exact d7) hout hRframes (by simp only [List.map_cons, List.sum_cons, hcat]; omega) hlocks
  obtain ⟨f1, f2⟩ := vx_frame hsame
  rw [hhp] at f1 f2
  have hWs : s.WarmedH U.vm := State.WarmedH.trans hW0 hW
  have hcl : s.vm.findClass cls = some ce.cls := by
    have h9 := hO.cls
    rw [hvm] at h9
    exact h9
  have hall : s.sameButNew ({ U with vm := s.vm } : State) locs mc ms := by
    subst hA
    obtain ⟨e1, e2⟩ := hsame
    rw [State.setFrames_setFrames] at e1
    have h2 : (T.setVm s.vm).sameButNew ({ U with vm := s.vm } : State) [] (0 + 1) (0 + 6) := ⟨e1, e2⟩
    have h3 := X.same.trans h2
    rw [List.append_nil] at h3
    exact h3.mono hc hs
  refine ⟨U, ?_, .threw T.heap.size, hrun, hend, Or.inr ⟨T.heap.size, rfl, cls, ce, locs, hx U hWs.alike f1 (fun q hq => f2 q hq (fun z hz => nomatch hz)), hce, hO.vm, hcl, hWs, hall, hf⟩⟩
  refine st1 _ ?_
  show Steps p.tables e below (T1.setTop { method := m, pc := pc + 3, locals := ls, stack := .ref T.heap.size :: rest, locked := none }) _
  jvm_step X₁.here [X₁.here.top, hexec, d3', Value.category]
  exact hsteps
/-- 'throw new E("text")': new; dup; ldc; invokespecial; athrow -/
theorem vx_throwS {cc : ByteArray} {pc : Nat} (hexec : p.tables.exec = Jvm.exec) (hb : c.code = cc) (hl : l.stackTraces = false) {own cls text : String} {names : List String} {ik is ic mc ms sa : Nat} {A : Nat → Prop}
    (hown : s.vm.findClass own = some m.cls) (hcls : Bundle.fit cls = true) (hnames : ∀ n ∈ names, Bundle.fit n = true)
    (hk : (Cond.classLink own ik cls).before args s = true) (hini : (Cond.initialized cls).before args s = true) (hstr : vk_R own is text sa s) (hat : ∀ w ∈ vx_atS own ic cls names, w.before args s = true)
    (hgood : ∀ w ∈ Cond.classLink own ik cls :: Cond.initialized cls :: vx_atS own ic cls names, vx_ot w = true)
    (hU : vx_Zq Bundle.tN "UNASSIGNED_STACK" Bundle.steD A s s.heap) (hN : vx_Zq Bundle.tN "SUPPRESSED_SENTINEL" Bundle.listD A s s.heap) (hS : va_S A s.heap H locs) (hsize : ls.size = c.maxLocals)
    (d0 : decode cc pc = .ok (.new ik, 3)) (d3 : decode cc (pc + 3) = .ok (.dup, 1)) (d4 : decode cc (pc + 4) = .ok (.ldc is, 2)) (d6 : decode cc (pc + 6) = .ok (.invokespecial ic, 3)) (d9 : decode cc (pc + 9) = .ok (.athrow, 1))
    (hout : ∀ x ∈ c.exceptionTable.toList, covers x (pc + 9) = false)
    (hRframes : names.length + 3 < R.frames) (hRlocals : (rest.map fun v => v.category).sum + (13 * (names.length + 1) + 43) ≤ R.locals) (hRcells : cells + 1 ≤ R.cells) (hRslots : slots + 6 ≤ R.slots) (hlocks : meth.locks = false)
    (hx : ∀ t : State, s.vm.Alike t.vm → H.size ≤ t.heap.size → (∀ q : Nat, q < H.size → t.heap[q]? = H[q]?) → XC cls s t)
    (hf : ∀ z ∈ locs, free z.base) (hc : cells + 1 ≤ mc) (hs : slots + 6 ≤ ms) :
    W p l e R s m args below meth c H locs cells slots (vx_MQ below Qc XC args s mc ms free) (F0 m pc ls rest) := by
  intro T hT X
  have htr : e.platform.stackTraces = false := (show e.platform.stackTraces = l.stackTraces by rw [X.admits.platform]).trans hl
  have Y := vx_rebase X (R' := { frames := R.frames, locals := R.locals, cells := 1, slots := 6 }) (Nat.le_refl _) (Nat.le_refl _) hRcells hRslots
  obtain ⟨s', hA⟩ : ∃ z, z = (T.setVm s.vm).setFrames (.invoking m args :: below) := ⟨_, rfl⟩
  rw [← hA] at Y
  have hvm : s'.vm = s.vm := by rw [hA]; rfl
  have hhp : s'.heap = H := by rw [hA]; exact hT
  have hW0 : s.WarmedH s'.vm := by rw [hvm]; exact State.WarmedH.refl s
  have hat' : ∀ w ∈ vx_atS own ic cls names, w.before args s' = true := fun w hw => vx_ot_at hW0 hvm.symm (hgood w (List.mem_cons_of_mem _ (List.mem_cons_of_mem _ hw))) (hat w hw)
  have hk' : (Cond.classLink own ik cls).before args s' = true := vx_ot_at hW0 hvm.symm (hgood _ List.mem_cons_self) hk
  have hini' : (Cond.initialized cls).before args s' = true := vx_ot_at hW0 hvm.symm (hgood _ (List.mem_cons_of_mem _ List.mem_cons_self)) hini
  have hU' : vx_Zq Bundle.tN "UNASSIGNED_STACK" Bundle.steD A s' s'.heap := by rw [hhp]; exact vx_Zq.moved hW0.alike (hU.kept hS.2.1)
  have hN' : vx_Zq Bundle.tN "SUPPRESSED_SENTINEL" Bundle.listD A s' s'.heap := by rw [hhp]; exact vx_Zq.moved hW0.alike (hN.kept hS.2.1)
  have h : ∀ w ∈ Bundle.ownAtoms own ic cls names, w.before args s' = true := vx_own hat' (vx_isRefq hU'.1) (vx_isRefq hN'.1) hU'.2.word hN'.2.word
  have hown' : s'.vm.findClass own = some m.cls := by rw [hvm]; exact hown
  have hins : (Cond.instantiable cls 6).before args s' = true := h _ (by simp [Bundle.ownAtoms])
  obtain ⟨vm₁, cX, kX, hfX, hkX, -, -, X₁, st1⟩ := Y.newCold hexec (own := own) (C := cls) (index := ik) (n := 6) hown' hk' hins hini'
    (g := F0 m pc ls rest) rfl (by rw [hb]; exact d0) (Nat.le_refl _) (Nat.le_refl _)
  generalize hT1 : (T.setVm vm₁).pushCell { cls := cX, slots := kX.instanceTypes.map defaultValue, vm := .none } = T1 at X₁ st1
  have hcat : (Value.ref T.heap.size).category = 1 := rfl
  have hcellA : T1.heap[T.heap.size]? = some (freshCell cX kX) := by rw [← hT1]; exact State.heap_pushCell_size _ _
  have d3' : decode c.code (pc + 3) = .ok (.dup, 1) := by rw [hb]; exact d3
  have d4' : decode c.code (pc + 4) = .ok (.ldc is, 2) := by rw [hb]; exact d4
  have hstr' : vk_R own is text sa s' := vk_R.warm hW0 hstr
  obtain ⟨U, hsteps, hrun, hend, hW, hsame, ce, hce, hO⟩ := X₁.ctorThrowS hexec htr (own := own) (cls := cls) (names := names) (ic := ic) hown' hcls hnames h (fun x hx => nomatch hx) hfX hkX hcellA (by rw [hhp, hT]; exact Nat.le_refl _) (msg := .ref sa) rfl
    (g := { method := m, pc := pc + 6, locals := ls, stack := .ref sa :: .ref T.heap.size :: .ref T.heap.size :: rest, locked := none }) rfl hsize rfl rfl (rest := rest) rfl
    (by rw [hb]; exact d6) (by rw [hb]; exact d9) hout hRframes (by simp only [List.map_cons, List.sum_cons, hcat]; omega) hlocks
  obtain ⟨f1, f2⟩ := vx_frame hsame
  rw [hhp] at f1 f2
  have hWs : s.WarmedH U.vm := State.WarmedH.trans hW0 hW
  have hcl : s.vm.findClass cls = some ce.cls := by
    have h9 := hO.cls
    rw [hvm] at h9
    exact h9
  have hall : s.sameButNew ({ U with vm := s.vm } : State) locs mc ms := by
    subst hA
    obtain ⟨e1, e2⟩ := hsame
    rw [State.setFrames_setFrames] at e1
    have h2 : (T.setVm s.vm).sameButNew ({ U with vm := s.vm } : State) [] (0 + 1) (0 + 6) := ⟨e1, e2⟩
    have h3 := X.same.trans h2
    rw [List.append_nil] at h3
    exact h3.mono hc hs
  refine ⟨U, ?_, .threw T.heap.size, hrun, hend, Or.inr ⟨T.heap.size, rfl, cls, ce, locs, hx U hWs.alike f1 (fun q hq => f2 q hq (fun z hz => nomatch hz)), hce, hO.vm, hcl, hWs, hall, hf⟩⟩
  refine st1 _ ?_
  show Steps p.tables e below (T1.setTop { method := m, pc := pc + 3, locals := ls, stack := .ref T.heap.size :: rest, locked := none }) _
  jvm_step X₁.here [X₁.here.top, hexec, d3', Value.category]
  exact X₁.ldcString hexec (own := own) (text := text) (index := is) (a := sa) hown' hstr'.1 hstr'.2
    (g := { method := m, pc := pc + 4, locals := ls, stack := .ref T.heap.size :: .ref T.heap.size :: rest, locked := none }) rfl d4' _ hsteps
/-- 'throw new E("text")', the text by a wide index -/
theorem vx_throwSW {cc : ByteArray} {pc : Nat} (hexec : p.tables.exec = Jvm.exec) (hb : c.code = cc) (hl : l.stackTraces = false) {own cls text : String} {names : List String} {ik is ic mc ms sa : Nat} {A : Nat → Prop}
    (hown : s.vm.findClass own = some m.cls) (hcls : Bundle.fit cls = true) (hnames : ∀ n ∈ names, Bundle.fit n = true)
    (hk : (Cond.classLink own ik cls).before args s = true) (hini : (Cond.initialized cls).before args s = true) (hstr : vk_R own is text sa s) (hat : ∀ w ∈ vx_atS own ic cls names, w.before args s = true)
    (hgood : ∀ w ∈ Cond.classLink own ik cls :: Cond.initialized cls :: vx_atS own ic cls names, vx_ot w = true)
    (hU : vx_Zq Bundle.tN "UNASSIGNED_STACK" Bundle.steD A s s.heap) (hN : vx_Zq Bundle.tN "SUPPRESSED_SENTINEL" Bundle.listD A s s.heap) (hS : va_S A s.heap H locs) (hsize : ls.size = c.maxLocals)
    (d0 : decode cc pc = .ok (.new ik, 3)) (d3 : decode cc (pc + 3) = .ok (.dup, 1)) (d4 : decode cc (pc + 4) = .ok (.ldc_w is, 3)) (d7 : decode cc (pc + 7) = .ok (.invokespecial ic, 3)) (d10 : decode cc (pc + 10) = .ok (.athrow, 1))
    (hout : ∀ x ∈ c.exceptionTable.toList, covers x (pc + 10) = false)
    (hRframes : names.length + 3 < R.frames) (hRlocals : (rest.map fun v => v.category).sum + (13 * (names.length + 1) + 43) ≤ R.locals) (hRcells : cells + 1 ≤ R.cells) (hRslots : slots + 6 ≤ R.slots) (hlocks : meth.locks = false)
    (hx : ∀ t : State, s.vm.Alike t.vm → H.size ≤ t.heap.size → (∀ q : Nat, q < H.size → t.heap[q]? = H[q]?) → XC cls s t)
    (hf : ∀ z ∈ locs, free z.base) (hc : cells + 1 ≤ mc) (hs : slots + 6 ≤ ms) :
    W p l e R s m args below meth c H locs cells slots (vx_MQ below Qc XC args s mc ms free) (F0 m pc ls rest) := by
  intro T hT X
  have htr : e.platform.stackTraces = false := (show e.platform.stackTraces = l.stackTraces by rw [X.admits.platform]).trans hl
  have Y := vx_rebase X (R' := { frames := R.frames, locals := R.locals, cells := 1, slots := 6 }) (Nat.le_refl _) (Nat.le_refl _) hRcells hRslots
  obtain ⟨s', hA⟩ : ∃ z, z = (T.setVm s.vm).setFrames (.invoking m args :: below) := ⟨_, rfl⟩
  rw [← hA] at Y
  have hvm : s'.vm = s.vm := by rw [hA]; rfl
  have hhp : s'.heap = H := by rw [hA]; exact hT
  have hW0 : s.WarmedH s'.vm := by rw [hvm]; exact State.WarmedH.refl s
  have hat' : ∀ w ∈ vx_atS own ic cls names, w.before args s' = true := fun w hw => vx_ot_at hW0 hvm.symm (hgood w (List.mem_cons_of_mem _ (List.mem_cons_of_mem _ hw))) (hat w hw)
  have hk' : (Cond.classLink own ik cls).before args s' = true := vx_ot_at hW0 hvm.symm (hgood _ List.mem_cons_self) hk
  have hini' : (Cond.initialized cls).before args s' = true := vx_ot_at hW0 hvm.symm (hgood _ (List.mem_cons_of_mem _ List.mem_cons_self)) hini
  have hU' : vx_Zq Bundle.tN "UNASSIGNED_STACK" Bundle.steD A s' s'.heap := by rw [hhp]; exact vx_Zq.moved hW0.alike (hU.kept hS.2.1)
  have hN' : vx_Zq Bundle.tN "SUPPRESSED_SENTINEL" Bundle.listD A s' s'.heap := by rw [hhp]; exact vx_Zq.moved hW0.alike (hN.kept hS.2.1)
  have h : ∀ w ∈ Bundle.ownAtoms own ic cls names, w.before args s' = true := vx_own hat' (vx_isRefq hU'.1) (vx_isRefq hN'.1) hU'.2.word hN'.2.word
  have hown' : s'.vm.findClass own = some m.cls := by rw [hvm]; exact hown
  have hins : (Cond.instantiable cls 6).before args s' = true := h _ (by simp [Bundle.ownAtoms])
  obtain ⟨vm₁, cX, kX, hfX, hkX, -, -, X₁, st1⟩ := Y.newCold hexec (own := own) (C := cls) (index := ik) (n := 6) hown' hk' hins hini'
    (g := F0 m pc ls rest) rfl (by rw [hb]; exact d0) (Nat.le_refl _) (Nat.le_refl _)
  generalize hT1 : (T.setVm vm₁).pushCell { cls := cX, slots := kX.instanceTypes.map defaultValue, vm := .none } = T1 at X₁ st1
  have hcat : (Value.ref T.heap.size).category = 1 := rfl
  have hcellA : T1.heap[T.heap.size]? = some (freshCell cX kX) := by rw [← hT1]; exact State.heap_pushCell_size _ _
  have d3' : decode c.code (pc + 3) = .ok (.dup, 1) := by rw [hb]; exact d3
  have d4' : decode c.code (pc + 4) = .ok (.ldc_w is, 3) := by rw [hb]; exact d4
  have hstr' : vk_R own is text sa s' := vk_R.warm hW0 hstr
  obtain ⟨U, hsteps, hrun, hend, hW, hsame, ce, hce, hO⟩ := X₁.ctorThrowS hexec htr (own := own) (cls := cls) (names := names) (ic := ic) hown' hcls hnames h (fun x hx => nomatch hx) hfX hkX hcellA (by rw [hhp, hT]; exact Nat.le_refl _) (msg := .ref sa) rfl
    (g := { method := m, pc := pc + 7, locals := ls, stack := .ref sa :: .ref T.heap.size :: .ref T.heap.size :: rest, locked := none }) rfl hsize rfl rfl (rest := rest) rfl
    (by rw [hb]; exact d7) (by rw [hb]; exact d10) hout hRframes (by simp only [List.map_cons, List.sum_cons, hcat]; omega) hlocks
  obtain ⟨f1, f2⟩ := vx_frame hsame
  rw [hhp] at f1 f2
  have hWs : s.WarmedH U.vm := State.WarmedH.trans hW0 hW
  have hcl : s.vm.findClass cls = some ce.cls := by
    have h9 := hO.cls
    rw [hvm] at h9
    exact h9
  have hall : s.sameButNew ({ U with vm := s.vm } : State) locs mc ms := by
    subst hA
    obtain ⟨e1, e2⟩ := hsame
    rw [State.setFrames_setFrames] at e1
    have h2 : (T.setVm s.vm).sameButNew ({ U with vm := s.vm } : State) [] (0 + 1) (0 + 6) := ⟨e1, e2⟩
    have h3 := X.same.trans h2
    rw [List.append_nil] at h3
    exact h3.mono hc hs
  refine ⟨U, ?_, .threw T.heap.size, hrun, hend, Or.inr ⟨T.heap.size, rfl, cls, ce, locs, hx U hWs.alike f1 (fun q hq => f2 q hq (fun z hz => nomatch hz)), hce, hO.vm, hcl, hWs, hall, hf⟩⟩
  refine st1 _ ?_
  show Steps p.tables e below (T1.setTop { method := m, pc := pc + 3, locals := ls, stack := .ref T.heap.size :: rest, locked := none }) _
  jvm_step X₁.here [X₁.here.top, hexec, d3', Value.category]
  exact X₁.ldcStringW hexec (own := own) (text := text) (index := is) (a := sa) hown' hstr'.1 hstr'.2
    (g := { method := m, pc := pc + 4, locals := ls, stack := .ref T.heap.size :: .ref T.heap.size :: rest, locked := none }) rfl d4' _ hsteps
end Ends
section Bodies
variable {l : Launch}
theorem vx_ofW {y : MethodName} {ws ws' : List Cond} {rm : Room} {Pc : Array Value → State → Prop} {Qc : Array Value → State → Outcome → State → Prop} {XC : String → State → State → Prop} {mc ms : Nat} {free : Addr → Prop} {cc : ByteArray} {maxL : Nat} {ret : Option FieldType}
    (hy : plainName y.cls = true) (hw : ws = Cond.code y cc maxL ret :: ws')
    (body : ∀ p e s m args below meth c s₁, BodyLoose p l y (headSpec ws rm) cc maxL ret e s m args below meth c s₁ → c.maxLocals = maxL → (∀ x ∈ c.exceptionTable.toList, False) → Pc args s →
      W p l e (headSpec ws rm).room s m args below meth c s.heap [] 0 0 (vx_MQ below Qc XC args s mc ms free) (entryFrame m args maxL)) : vx_Met l y ws rm Pc Qc XC mc ms free := by
  refine MetFree.of_bodyS (code := cc) (maxLocals := maxL) (ret := ret) hy ?_ ?_
  · intro args s m h hn
    obtain ⟨meth, c, h1, h2, h3, h4, h5, h6, -, -⟩ := Cond.code_spec hn (atoms_spec (ws := ws) h _ (by rw [hw]; exact List.mem_cons_self))
    exact ⟨meth, c, h1, h2, h3, h4, h5, h6⟩
  · intro p e s m args below meth c s₁ B hml hP _
    have hh0 : s₁.heap = s.heap := by rw [B.state]; rfl
    have ht : ∀ x ∈ c.exceptionTable.toList, False := by
      obtain ⟨meth9, c9, h1, h2, -, -, -, -, h7, -⟩ := Cond.code_spec B.named (atoms_spec (ws := ws) B.pre _ (by rw [hw]; exact List.mem_cons_self))
      cases Option.some.inj (h1.symm.trans B.method)
      cases Option.some.inj (h2.symm.trans (Stand.of_body B).code)
      intro x hx
      rw [Array.isEmpty_iff.mp h7] at hx
      cases hx
    obtain ⟨t, a1, o, b1, b2, b3⟩ := body p e s m args below meth c s₁ B hml ht hP s₁ hh0 (Stand.of_body B)
    exact ⟨t, o, a1, b1, b2, b3⟩
/-- the table of a body with handlers -/
theorem vx_table {p : Program} {x y : MethodName} {S : Spec} {cc bytes : ByteArray} {maxL maxL' : Nat} {ret ret' : Option FieldType} {e : Env} {s s₁ : State} {m : MethodId} {args : Array Value} {below : List Frame} {meth : Method} {c : Code} {hh : List (Nat × Nat × Nat × Nat)}
    (B : BodyLoose p l y S cc maxL ret e s m args below meth c s₁) (h : (Cond.codeWith y bytes maxL' ret' hh).before args s = true) : c.exceptionTable.toList = tableOf hh := by
  obtain ⟨m9, meth9, c9, hn9, h1, h2, -, -, h6, -⟩ := Cond.codeWith_spec h
  cases Option.some.inj (hn9.symm.trans B.named)
  cases Option.some.inj (h1.symm.trans B.method)
  cases Option.some.inj (h2.symm.trans (Stand.of_body B).code)
  rw [← h6, table_eq]
end Bodies
end VXA
/-! ===== END ===== -/
/-! ===== BEGIN a static call of a method with an exception table ===== -/
section VXS
variable {p : Program} {l : Launch} {e : Env} {R : Room} {s : State} {m : MethodId} {args : Array Value} {below : List Frame} {meth : Method} {c : Code} {T : State} {H : Heap} {locs : List Loc} {cells slots : Nat}
abbrev vx_CSW (R : Room) (s : State) (args : Array Value) (own : String) (index : Nat) (y : MethodName) (bytes : ByteArray) (maxL : Nat) (ret : Option FieldType) (hh : List (Nat × Nat × Nat × Nat)) (ws : List Cond) (rm : Room) (mc ms n : Nat) : Prop :=
  (rm.cells = mc ∧ rm.slots = ms ∧ rm.frames + 1 ≤ R.frames ∧ 8 + (maxL + 11) + rm.locals ≤ R.locals ∧ (∀ w ∈ ws, ∀ (a' : Array Value) (U : State), s.WarmedH U.vm → w.before a' U = true) ∧ Cond.codeWith y bytes maxL ret hh ∈ ws) ∧
  (Cond.codeWith y bytes maxL ret hh).before args s = true ∧ (Cond.initialized y.cls).before args s = true ∧ (y.cls ≠ "java/lang/invoke/MethodHandle" ∧ y.cls ≠ "java/lang/invoke/VarHandle") ∧
  (∀ sig, parseMethodDescriptor y.desc = some sig → n = sig.parameters.length) ∧ (Cond.methodLink own index y).before args s = true ∧ (Cond.static y).before args s = true
theorem vx_cwSW {own : String} {index maxL mc ms : Nat} {y : MethodName} {bytes : ByteArray} {ret : Option FieldType} {hh : List (Nat × Nat × Nat × Nat)} {Ts ws ws' : List Cond} {rm : Room} (n : Nat) (ht : ∀ w ∈ Ts, w.before args s = true) (hT : GoodIn Ts (va_wsS own index y ws)) (hw : ws = Cond.codeWith y bytes maxL ret hh :: ws') (hrc : rm.cells = mc) (hrs : rm.slots = ms)
    (hd : y.cls ≠ "java/lang/invoke/MethodHandle" ∧ y.cls ≠ "java/lang/invoke/VarHandle" ∧ (parseMethodDescriptor y.desc).map (fun d => d.parameters.length) = some n) (hR : rm.frames + 1 ≤ R.frames ∧ 8 + (maxL + 11) + rm.locals ≤ R.locals) :
    vx_CSW R s args own index y bytes maxL ret hh ws rm mc ms n := by
  have ok : ∀ w ∈ va_wsS own index y ws, w.before args s = true := fun w h => ht w (hT w h).1
  have hG : GoodIn Ts ws := fun w h => hT w (by unfold va_wsS; exact List.mem_append_right _ h)
  have hc : Cond.codeWith y bytes maxL ret hh ∈ ws := by rw [hw]; exact List.mem_cons_self
  refine ⟨⟨hrc, hrs, hR.1, hR.2, pay_in ht hG, hc⟩, ht _ (hG _ hc).1, ok _ (by simp [va_wsS]), ⟨hd.1, hd.2.1⟩, fun sig h => ?_, ok _ (by simp [va_wsS]), ok _ (by simp [va_wsS])⟩
  have h2 := hd.2.2
  rw [h] at h2
  exact (Option.some.inj h2).symm
theorem vx_callSW (X : Stand p l e R s m args below meth c T locs cells slots) (hexec : p.tables.exec = Jvm.exec) {own : String} {index : Nat} {y : MethodName} {bytes : ByteArray} {maxL : Nat} {ret : Option FieldType} {hh : List (Nat × Nat × Nat × Nat)}
    (hown : s.vm.findClass own = some m.cls) (hlink : (Cond.methodLink own index y).before args s = true) (hstat : (Cond.static y).before args s = true) (hinit : (Cond.initialized y.cls).before args s = true)
    (hcode : (Cond.codeWith y bytes maxL ret hh).before args s = true) (hy : y.cls ≠ "java/lang/invoke/MethodHandle" ∧ y.cls ≠ "java/lang/invoke/VarHandle")
    {W9 : Nat} {Pre : Pt → Array Value → Prop} {Post : Pt → Array Value → Option Value → Pt → Prop} (hK : Back l R p e below s args y 3 W9 Pre Post)
    {g : JFrame} (hg : g.method = m) (hsize : g.locals.size = c.maxLocals) {argsL rest : List Value} (hlen : ∀ sig, parseMethodDescriptor y.desc = some sig → argsL.length = sig.parameters.length)
    (hstack : g.stack = argsL.reverse ++ rest) (hW : 2 * g.monitorRoom + (rest.map fun v => v.category).sum ≤ W9) (hdg : decode c.code g.pc = .ok (.invokestatic index, 3))
    (hpre : ∀ vm₁, s.WarmedH vm₁ → Pre ⟨T.setVm vm₁, locs, cells, slots⟩ argsL.toArray) :
    ∃ (v : Option Value) (vm₁ : Vm) (B : Pt), s.WarmedH vm₁ ∧ Stand p l e R s m args below meth c B.U B.locs B.cells B.slots ∧ Post ⟨T.setVm vm₁, locs, cells, slots⟩ argsL.toArray v B ∧
      ∀ target, Steps p.tables e below (B.U.setTop { g with pc := g.pc + 3, stack := v.toList ++ rest }) target → Steps p.tables e below (T.setTop g) target := by
  obtain ⟨mk, methM, cM, hnamed, hmethM, -, -, -, -, -, -, hsigM⟩ := Cond.codeWith_spec hcode
  have hstatic : methM.isStatic = true := Cond.static_spec hnamed hmethM hstat
  obtain ⟨kP, hkP, -⟩ := className_of_methodNamed hnamed
  have hinitP : kP.init = .initialized := Cond.initialized_spec (findClass_of_methodNamed hnamed) hkP hinit
  obtain ⟨vm₁, X₁, hstep₁⟩ := X.invokestatic hexec hown hlink hnamed hmethM hstatic hkP hinitP hy (g := g) hg (argsL := argsL) (rest := rest) (hlen _ hsigM) hstack hdg
  obtain ⟨v, B, X', hpost, hsteps⟩ := hK m meth c ⟨T.setVm vm₁, locs, cells, slots⟩ { g with stack := rest } (.invokestatic index) mk argsL.toArray X₁ hg hsize hdg hW (X₁.named hnamed) (hpre vm₁ X₁.warmed)
  exact ⟨v, vm₁, B, X₁.warmed, X', hpost, fun target h => hstep₁ _ fun acts => by rw [doInvoke_state]; exact hsteps.trans h⟩
theorem vx_runSW {y : MethodName} {bytes cc : ByteArray} {maxL nL mc ms n index : Nat} {ret : Option FieldType} {hh : List (Nat × Nat × Nat × Nat)} {ws : List Cond} {rm : Room} {Pc : Array Value → State → Prop} {Qc : Array Value → State → Outcome → State → Prop} {free : Addr → Prop} {Ts : List Cond} {own : String} {As rest : List Value} {g : JFrame}
    (S : CallFix p m c cc nL s args Ts own) (hM : Met l y ws rm Pc Qc mc ms free) (cw : vx_CSW R s args own index y bytes maxL ret hh ws rm mc ms n) (hp : PreS s H Pc As)
    (hg : g.method = m) (hn : As.length = n) (hsize : g.locals.size = nL) (hstack : g.stack = As.reverse ++ rest) (hW : 2 * g.monitorRoom + (rest.map fun v => v.category).sum ≤ 8) (hdg : decode cc g.pc = .ok (.invokestatic index, 3)) (hf : cells + mc ≤ R.cells ∧ slots + ms ≤ R.slots) :
    va_Run p l e R s m args below meth c H locs cells slots mc ms g rest (Qc As.toArray) (free) := by
  obtain ⟨⟨hrc, hrs, hfr, hlo, hws, hcw⟩, hcode, hini, hy, hlen, hl, hstt⟩ := cw
  have hK : Back l R p e below s args y 3 8 (PreOf R mc ms Pc) (PostOf Qc mc ms free) := va_backW (hh := hh) (bytes := bytes) (maxL := maxL) (ret := ret) hM hp.1 hrc hrs hfr hlo hws hcw (fun a' U hW => word_at hW (Or.inl (by first | rfl | simp [Cond.onTables, Cond.keeps, Cond.steady])) hini)
  obtain ⟨hx, hb, hml, ho, -⟩ := S
  intro T hT X
  obtain ⟨v, vm₁, ⟨U', l2, c2, s2⟩, hW₁, X', ⟨g', mk, t, L, e1, e2, hq, h1, hL, h2, h3⟩, st⟩ := vx_callSW X hx (hh := hh) (bytes := bytes) (maxL := maxL) (ret := ret) ho hl hstt hini hcode hy hK hg (hsize.trans hml.symm) (argsL := As) (rest := rest) (fun sig h => hn.trans (hlen sig h)) hstack hW (by rw [hb]; exact hdg)
    (fun vm₁ hW₁ => ⟨hf.1, hf.2, hp.2 (T.setVm vm₁) hT hW₁⟩)
  dsimp only [Pt.U, Pt.locs, Pt.cells, Pt.slots] at X' e1 e2 h1 h2 h3 st
  subst h1; subst h2; subst h3
  exact ⟨v, (T.setVm vm₁).calling g' mk As.toArray, t, U', L, hT, X', hL, e1, e2, hq, st⟩
/-- not caught here, past rows that name other classes: it goes on to the caller -/
theorem vx_outP {p : Program} {l : Launch} {e : Env} {R : Room} {s : State} {m : MethodId} {args : Array Value} {below : List Frame} {meth : Method} {c : Code} {H : Heap} {locs : List Loc} {cells slots : Nat} {free : Addr → Prop} {ls : Array Slot} {rest : List Value} {Qc : Array Value → State → Outcome → State → Prop} {XC : String → State → State → Prop}
    {pc : Nat} {own E : String} {ce : Cell} {q : Addr} {mc ms : Nat} (hown : s.vm.findClass own = some m.cls) (hlocks : meth.locks = false)
    (hpass : ∀ z ∈ c.exceptionTable.toList, covers z pc = false ∨ (z.catchType ≠ 0 ∧ ∃ nm : String, (Cond.classLink own z.catchType nm).before args s = true ∧ va_Nc E nm s)) (hcell : H[q]? = some ce) (hv : ce.vm = .none) (hcl : s.vm.findClass E = some ce.cls)
    (hx : ∀ t : State, t.heap = H → s.vm.Alike t.vm → XC E s t) (hf : ∀ z ∈ locs, free z.base) (hc : cells ≤ mc) (hs : slots ≤ ms) :
    vx_W p l e R s m args below meth c H locs cells slots (vx_MQ below Qc XC args s mc ms free) (F0 m pc ls rest) q := by
  intro T hT X
  have hpl : e.platform.magicAccessors = ({} : Platform).magicAccessors := by rw [X.admits.platform]
  obtain ⟨vm', hW', X', st⟩ := X.outThrough hlocks q (g := F0 m pc ls rest) rfl rfl rfl (cell := ce) (by rw [hT]; exact hcell) (by rw [hv]; rfl)
    (by obtain ⟨k9, h9, -⟩ := Vm.findClass_spec hcl; exact ⟨k9, h9⟩) (fun z hz => by
      rcases hpass z hz with h | ⟨hz0, nm, hl1, hn1⟩
      · exact Or.inl h
      · obtain ⟨c6, hc6, hcl6⟩ := Cond.classLink_spec hown hl1 e.platform hpl
        obtain ⟨a8, b8, h1, h2, h3⟩ := hn1
        cases Option.some.inj (h1.symm.trans hcl)
        cases Option.some.inj (h2.symm.trans hc6)
        exact Or.inr ⟨hz0, _, hcl6, h3⟩)
  obtain ⟨g₀, hfr⟩ := X'.frames_eq
  have hcell9 : ((T.setVm vm').setFrames (.throwing q :: below)).heap[q]? = some ce := by
    show T.heap[q]? = some ce
    rw [hT]; exact hcell
  have hend : Ended ((T.setVm vm').setFrames (.throwing q :: below)) below (.threw q) := State.frames_setFrames _ (State.cur_lt_of_frames hfr)
  refine ⟨(T.setVm vm').setFrames (.throwing q :: below), ?_, .threw q, X'.here.running, hend, Or.inr ⟨q, rfl, E, ce, locs, hx _ hT (X'.ends _).1.alike, hcell9, hv, hcl, (X'.ends _).1, (X'.ends _).2.mono hc hs, hf⟩⟩
  rw [X.pushThrowing_eq]
  exact st
/-- a thing of a world lies in the heap -/
theorem vx_lt {D : va_G} {cl : List vw_C} {ws : va_W} {H1 : Heap} (h : va_P D cl ws H1) {k : Nat} {q : Nat × va_E} (hk : ws[k]? = some q) : q.1 < H1.size := (h k q hk).lt
end VXS
/-! ===== END ===== -/
/-! ===== BEGIN methods with a table of their own: called by a name, returning or throwing ===== -/
section VXH
/-! vx_backW, vx_callVX, vx_callSX, vx_callVW, vx_runVW, vx_runVX, vx_runSX, vx_ofWH follow the same proofs as their sisters above (Free/Laws.lean, Shelf42/LK1.lean); vx_outP calls Shelf42/NT130.lean (outThrough). -/
section
variable {l : Launch} {R : Room} {p : Program} {e : Env} {below : List Frame} {s : State} {sargs : Array Value} {y : MethodName} {len W9 : Nat}
theorem vx_backW {ws : List Cond} {rm : Room} {Pc : Array Value → State → Prop} {Qc : Array Value → State → Outcome → State → Prop} {XC : String → State → State → Prop} {mc ms : Nat} {free : Addr → Prop} {bytes : ByteArray} {maxL : Nat} {ret : Option FieldType} {hh : List (Nat × Nat × Nat × Nat)}
    (hM : vx_Met l y ws rm Pc Qc XC mc ms free) (hblind : FrameBlind Pc) (hrc : rm.cells = mc) (hrs : rm.slots = ms)
    (hframes : rm.frames + 1 ≤ R.frames) (hlocals : W9 + (maxL + 11) + rm.locals ≤ R.locals)
    (hws : ∀ w ∈ ws, ∀ a' U, s.WarmedH U.vm → w.before a' U = true) (hcode : Cond.codeWith y bytes maxL ret hh ∈ ws) (hinit : ∀ a' U, s.WarmedH U.vm → (Cond.initialized y.cls).before a' U = true) :
    vx_Back l R p e below s sargs y len W9 (PreOf R mc ms Pc) (PostOf Qc mc ms free) (vx_Post XC mc ms free) := by
  intro m meth c A g ig mk a X hg hsize hdg hW hn hp
  have h1 : (headSpec ws rm).pre.before a A.U = true := atoms_intro fun w hw => hws w hw _ _ X.warmed
  have h2 : (Cond.codeWith y bytes maxL ret hh).before a A.U = true := hws _ hcode _ _ X.warmed
  have h3 : (Cond.initialized y.cls).before a A.U = true := hinit _ _ X.warmed
  have h4 : A.cells + (headSpec ws rm).room.cells ≤ R.cells := by rw [show (headSpec ws rm).room.cells = mc from hrc]; exact hp.1
  have h5 : A.slots + (headSpec ws rm).room.slots ≤ R.slots := by rw [show (headSpec ws rm).room.slots = ms from hrs]; exact hp.2.1
  have hPc : Pc a (A.U.calling g mk a) := hblind _ _ _ _ hp.2.2
  obtain ⟨U, Ls, c0, s0⟩ := A
  dsimp only [Pt.U, Pt.locs, Pt.cells, Pt.slots] at h1 h2 h3 h4 h5 X hn hPc ⊢
  obtain ⟨m9, methY, cY, hn9, hmY, hcY, -, hlY, -⟩ := Cond.codeWith_spec h2
  cases Option.some.inj (hn9.symm.trans hn)
  obtain ⟨kY, hkY, -⟩ := className_of_methodNamed hn
  have hinitY : kY.init = .initialized := Cond.initialized_spec (findClass_of_methodNamed hn) hkY h3
  have h : At U g.method c below := by rw [hg]; exact X.here
  have hlocals9 : W9 + (maxL + 11) + (headSpec ws rm).room.locals ≤ R.locals := hlocals
  have happ : (headSpec ws rm).appliesLoose y e.platform (U.calling g mk a) = true :=
    Spec.appliesLoose_calling (g := g) h hdg hn hkY hinitY
      (X.room_calling (g := g) (R' := (headSpec ws rm).room) hsize hmY hcY hframes (by rw [hlY]; omega) h4 h5) h1
  obtain ⟨mid, hmid⟩ := h.above
  have hfr : (U.setTop g).frames = (.java g :: mid) ++ below := by rw [State.frames_setTop' g h.top, hmid]; rfl
  obtain ⟨o, s₂, hsteps, -, hend, hq⟩ := Steps.callFree hM p X.admits X.cas X.clock (acts := []) hfr happ hPc trivial
  have hq' : vx_Q Qc XC mc ms free a (U.calling g mk a) o s₂ := hq
  rw [State.frames_setTop' g h.top] at hend
  obtain ⟨g₀, hg0⟩ := Option.isSome_iff_exists.mp h.top
  obtain ⟨r, hr⟩ := State.topJava?_eq_some.mp hg0
  have hr' : (({ U with heap := s₂.heap, slotsUsed := s₂.slotsUsed } : State).setVm s₂.vm).frames = .java g₀ :: r := hr
  rcases hq' with ⟨hqc, L, hfe, hL⟩ | ⟨q, rfl, E, ce, L, hx, hce, hcv, hcl, hW₂, hsm, hL⟩
  · obtain ⟨⟨v, rfl⟩, hW₂, e2, q2, q3, q4, q5, q6⟩ := id hfe
    have e3 : s₂ = ({ (U.calling g mk a).setFrames s₂.frames with heap := s₂.heap, slotsUsed := s₂.slotsUsed } : State).setVm s₂.vm := by
      have : s₂ = ({ s₂ with vm := (U.calling g mk a).vm } : State).setVm s₂.vm := rfl
      rw [e2] at this
      exact this
    obtain ⟨c₂, i₂, len₂, hc₂, hd₂, hf₂⟩ := hend
    have hW' : U.WarmedH s₂.vm := hW₂
    have hcc : c₂ = c := by
      have h1 : s₂.code? g.method = U.code? g.method := by
        rw [State.code?_eq, State.code?_eq, hW'.alike.method?]
      exact Option.some.inj (hc₂.symm.trans (h1.trans h.code))
    subst hcc
    have hlen : len₂ = len := by rw [hdg] at hd₂; cases hd₂; rfl
    subst hlen
    have hs₂ : s₂ = (({ U with heap := s₂.heap, slotsUsed := s₂.slotsUsed } : State).setVm s₂.vm).setTop { g with pc := g.pc + len₂, stack := v.toList ++ g.stack } := by
      refine e3.trans ?_
      rw [hf₂, State.calling_eq h.top, State.setFrames_setFrames, State.setTop_of_frames _ hr', hr]
      rfl
    have hsame : U.sameButNew ({ U with heap := s₂.heap, slotsUsed := s₂.slotsUsed } : State) L mc ms := by
      refine ⟨?_, q2, q3, q4, q5, q6⟩
      obtain ⟨t, ht, -⟩ := State.frames_cons hr
      show ({ U with heap := s₂.heap, slotsUsed := s₂.slotsUsed } : State) = { U.setFrames U.frames with heap := s₂.heap, slotsUsed := s₂.slotsUsed }
      rw [State.setFrames_self ht]
    subst hg
    refine Or.inl ⟨v, ⟨(({ U with heap := s₂.heap, slotsUsed := s₂.slotsUsed } : State).setVm s₂.vm), Ls ++ L, c0 + mc, s0 + ms⟩,
      ⟨X.admits, X.cas, X.clock, X.frames, X.room, X.hears, X.method, X.code, (X.here.setHeapUsed s₂.heap s₂.slotsUsed).setVm hW'.alike, X.tail, State.WarmedH.trans X.warmed hW', X.limits, X.bytes, X.same.trans (hsame.setVm s.vm)⟩,
      ⟨g, mk, s₂, L, rfl, rfl, hqc, rfl, hL, rfl, rfl⟩, ?_⟩
    show Steps p.tables e below _ ((({ U with heap := s₂.heap, slotsUsed := s₂.slotsUsed } : State).setVm s₂.vm).setTop { g with pc := g.pc + len₂, stack := v.toList ++ g.stack })
    rw [← hs₂]
    exact hsteps
  · obtain ⟨e2, q2, q3, q4, q5, q6⟩ := id hsm
    have e3 : s₂ = ({ (U.calling g mk a).setFrames s₂.frames with heap := s₂.heap, slotsUsed := s₂.slotsUsed } : State).setVm s₂.vm := by
      have : s₂ = ({ s₂ with vm := (U.calling g mk a).vm } : State).setVm s₂.vm := rfl
      rw [e2] at this
      exact this
    have hf₂ : s₂.frames = .throwing q :: .java g :: U.frames.tail := hend
    have hW' : U.WarmedH s₂.vm := hW₂
    have hs₂ : s₂ = ((({ U with heap := s₂.heap, slotsUsed := s₂.slotsUsed } : State).setVm s₂.vm).setTop g).pushFrame (.throwing q) := by
      refine e3.trans ?_
      rw [hf₂, State.calling_eq h.top, State.setFrames_setFrames, State.pushFrame, State.frames_setTop _ hr', State.setTop_of_frames _ hr', State.setFrames_setFrames, hr]
      rfl
    have hsame : U.sameButNew ({ U with heap := s₂.heap, slotsUsed := s₂.slotsUsed } : State) L mc ms := by
      refine ⟨?_, q2, q3, q4, q5, q6⟩
      obtain ⟨t, ht, -⟩ := State.frames_cons hr
      show ({ U with heap := s₂.heap, slotsUsed := s₂.slotsUsed } : State) = { U.setFrames U.frames with heap := s₂.heap, slotsUsed := s₂.slotsUsed }
      rw [State.setFrames_self ht]
    subst hg
    refine Or.inr ⟨q, ⟨(({ U with heap := s₂.heap, slotsUsed := s₂.slotsUsed } : State).setVm s₂.vm), Ls ++ L, c0 + mc, s0 + ms⟩,
      ⟨X.admits, X.cas, X.clock, X.frames, X.room, X.hears, X.method, X.code, (X.here.setHeapUsed s₂.heap s₂.slotsUsed).setVm hW'.alike, X.tail, State.WarmedH.trans X.warmed hW', X.limits, X.bytes, X.same.trans (hsame.setVm s.vm)⟩,
      ⟨g, mk, s₂, L, E, ce, rfl, rfl, hx, hce, hcv, hcl, rfl, hL, rfl, rfl⟩, ?_⟩
    show Steps p.tables e below _ (((({ U with heap := s₂.heap, slotsUsed := s₂.slotsUsed } : State).setVm s₂.vm).setTop g).pushFrame (.throwing q))
    rw [← hs₂]
    exact hsteps
end
variable {p : Program} {l : Launch} {e : Env} {R : Room} {s : State} {m : MethodId} {args : Array Value} {below : List Frame} {meth : Method} {c : Code} {T : State} {H : Heap} {locs : List Loc} {cells slots : Nat}
theorem vx_callVX (X : Stand p l e R s m args below meth c T locs cells slots) (hexec : p.tables.exec = Jvm.exec) {own C : String} {index : Nat} {y : MethodName} {bytes : ByteArray} {maxL : Nat} {ret : Option FieldType} {hh : List (Nat × Nat × Nat × Nat)}
    (hown : s.vm.findClass own = some m.cls) (hlink : (Cond.methodLink own index y).before args s = true) (hinst : (Cond.instanceMethod y).before args s = true) (hsel : (Cond.selects C y y).before args s = true)
    (hcode : (Cond.codeWith y bytes maxL ret hh).before args s = true) (hy : y.cls ≠ "java/lang/invoke/MethodHandle" ∧ y.cls ≠ "java/lang/invoke/VarHandle")
    {W9 : Nat} {Pre : Pt → Array Value → Prop} {Post : Pt → Array Value → Option Value → Pt → Prop} {PostX : Pt → Array Value → Addr → Pt → Prop} (hK : vx_Back l R p e below s args y 3 W9 Pre Post PostX)
    {b : Addr} {cellB : Cell} (hcell : T.heap[b]? = some cellB) (hobj : cellB.vm.isStatics = false) (hcls : s.vm.findClass C = some cellB.cls)
    {g : JFrame} (hg : g.method = m) (hsize : g.locals.size = c.maxLocals) {argsL rest : List Value} (hlen : ∀ sig, parseMethodDescriptor y.desc = some sig → argsL.length = sig.parameters.length)
    (hstack : g.stack = argsL.reverse ++ .ref b :: rest) (hW : 2 * g.monitorRoom + (rest.map fun v => v.category).sum ≤ W9) (hdg : decode c.code g.pc = .ok (.invokevirtual index, 3))
    (hpre : ∀ vm₁, s.WarmedH vm₁ → Pre ⟨T.setVm vm₁, locs, cells, slots⟩ (Value.ref b :: argsL).toArray) :
    (∃ (v : Option Value) (vm₁ : Vm) (B : Pt), s.WarmedH vm₁ ∧ Stand p l e R s m args below meth c B.U B.locs B.cells B.slots ∧ Post ⟨T.setVm vm₁, locs, cells, slots⟩ (Value.ref b :: argsL).toArray v B ∧
      ∀ target, Steps p.tables e below (B.U.setTop { g with pc := g.pc + 3, stack := v.toList ++ rest }) target → Steps p.tables e below (T.setTop g) target) ∨
    (∃ (q : Addr) (vm₁ : Vm) (B : Pt), s.WarmedH vm₁ ∧ Stand p l e R s m args below meth c B.U B.locs B.cells B.slots ∧ PostX ⟨T.setVm vm₁, locs, cells, slots⟩ (Value.ref b :: argsL).toArray q B ∧
      Steps p.tables e below (T.setTop g) ((B.U.setTop { g with stack := rest }).pushFrame (.throwing q))) := by
  obtain ⟨mk, methM, hnamed, hmethM, hstM, habM⟩ := Cond.instanceMethod_spec hinst
  obtain ⟨m8, methM', cM, hn8, hmethM', -, -, -, -, -, -, hsigM⟩ := Cond.codeWith_spec hcode
  cases Option.some.inj (hn8.symm.trans hnamed)
  cases hmethM.symm.trans hmethM'
  obtain ⟨c2, r2, m2, q1, q2, q3, q4, kP, hkP, hkPi⟩ := Cond.selects_spec hsel
  cases hcls.symm.trans q1
  cases (State.methodFound?_of_named hnamed hy).symm.trans q2
  cases hnamed.symm.trans q3
  have hselP : selectMethod e.platform s.vm cellB.cls mk = .method mk := by rw [Launch.admits_selectMethod X.admits]; exact q4
  obtain ⟨vm₁, X₁, hstep₁⟩ := X.invokevirtual hexec hown hlink hnamed hmethM hstM hkP hkPi hy (a := b) (cell := cellB) hcell
    (fun z h => by rw [h] at hobj; cases hobj) hselP hmethM habM hkP hkPi (g := g) hg (argsL := argsL) (rest := rest) (hlen _ hsigM) hstack hdg
  rcases hK m meth c ⟨T.setVm vm₁, locs, cells, slots⟩ { g with stack := rest } (.invokevirtual index) mk (Value.ref b :: argsL).toArray X₁ hg hsize hdg hW (X₁.named hnamed) (hpre vm₁ X₁.warmed) with ⟨v, B, X', hpost, hsteps⟩ | ⟨q, B, X', hpost, hsteps⟩
  · exact Or.inl ⟨v, vm₁, B, X₁.warmed, X', hpost, fun target h => hstep₁ _ fun acts => by rw [doInvoke_state]; exact hsteps.trans h⟩
  · exact Or.inr ⟨q, vm₁, B, X₁.warmed, X', hpost, hstep₁ _ fun acts => by rw [doInvoke_state]; exact hsteps⟩
theorem vx_callSX (X : Stand p l e R s m args below meth c T locs cells slots) (hexec : p.tables.exec = Jvm.exec) {own : String} {index : Nat} {y : MethodName} {bytes : ByteArray} {maxL : Nat} {ret : Option FieldType} {hh : List (Nat × Nat × Nat × Nat)}
    (hown : s.vm.findClass own = some m.cls) (hlink : (Cond.methodLink own index y).before args s = true) (hstat : (Cond.static y).before args s = true) (hinit : (Cond.initialized y.cls).before args s = true)
    (hcode : (Cond.codeWith y bytes maxL ret hh).before args s = true) (hy : y.cls ≠ "java/lang/invoke/MethodHandle" ∧ y.cls ≠ "java/lang/invoke/VarHandle")
    {W9 : Nat} {Pre : Pt → Array Value → Prop} {Post : Pt → Array Value → Option Value → Pt → Prop} {PostX : Pt → Array Value → Addr → Pt → Prop} (hK : vx_Back l R p e below s args y 3 W9 Pre Post PostX)
    {g : JFrame} (hg : g.method = m) (hsize : g.locals.size = c.maxLocals) {argsL rest : List Value} (hlen : ∀ sig, parseMethodDescriptor y.desc = some sig → argsL.length = sig.parameters.length)
    (hstack : g.stack = argsL.reverse ++ rest) (hW : 2 * g.monitorRoom + (rest.map fun v => v.category).sum ≤ W9) (hdg : decode c.code g.pc = .ok (.invokestatic index, 3))
    (hpre : ∀ vm₁, s.WarmedH vm₁ → Pre ⟨T.setVm vm₁, locs, cells, slots⟩ argsL.toArray) :
    (∃ (v : Option Value) (vm₁ : Vm) (B : Pt), s.WarmedH vm₁ ∧ Stand p l e R s m args below meth c B.U B.locs B.cells B.slots ∧ Post ⟨T.setVm vm₁, locs, cells, slots⟩ argsL.toArray v B ∧
      ∀ target, Steps p.tables e below (B.U.setTop { g with pc := g.pc + 3, stack := v.toList ++ rest }) target → Steps p.tables e below (T.setTop g) target) ∨
    (∃ (q : Addr) (vm₁ : Vm) (B : Pt), s.WarmedH vm₁ ∧ Stand p l e R s m args below meth c B.U B.locs B.cells B.slots ∧ PostX ⟨T.setVm vm₁, locs, cells, slots⟩ argsL.toArray q B ∧
      Steps p.tables e below (T.setTop g) ((B.U.setTop { g with stack := rest }).pushFrame (.throwing q))) := by
  obtain ⟨mk, methM, cM, hnamed, hmethM, -, -, -, -, -, -, hsigM⟩ := Cond.codeWith_spec hcode
  have hstatic : methM.isStatic = true := Cond.static_spec hnamed hmethM hstat
  obtain ⟨kP, hkP, -⟩ := className_of_methodNamed hnamed
  have hinitP : kP.init = .initialized := Cond.initialized_spec (findClass_of_methodNamed hnamed) hkP hinit
  obtain ⟨vm₁, X₁, hstep₁⟩ := X.invokestatic hexec hown hlink hnamed hmethM hstatic hkP hinitP hy (g := g) hg (argsL := argsL) (rest := rest) (hlen _ hsigM) hstack hdg
  rcases hK m meth c ⟨T.setVm vm₁, locs, cells, slots⟩ { g with stack := rest } (.invokestatic index) mk argsL.toArray X₁ hg hsize hdg hW (X₁.named hnamed) (hpre vm₁ X₁.warmed) with ⟨v, B, X', hpost, hsteps⟩ | ⟨q, B, X', hpost, hsteps⟩
  · exact Or.inl ⟨v, vm₁, B, X₁.warmed, X', hpost, fun target h => hstep₁ _ fun acts => by rw [doInvoke_state]; exact hsteps.trans h⟩
  · exact Or.inr ⟨q, vm₁, B, X₁.warmed, X', hpost, hstep₁ _ fun acts => by rw [doInvoke_state]; exact hsteps⟩
theorem vx_callVW (X : Stand p l e R s m args below meth c T locs cells slots) (hexec : p.tables.exec = Jvm.exec) {own C : String} {index : Nat} {y : MethodName} {bytes : ByteArray} {maxL : Nat} {ret : Option FieldType} {hh : List (Nat × Nat × Nat × Nat)}
    (hown : s.vm.findClass own = some m.cls) (hlink : (Cond.methodLink own index y).before args s = true) (hinst : (Cond.instanceMethod y).before args s = true) (hsel : (Cond.selects C y y).before args s = true)
    (hcode : (Cond.codeWith y bytes maxL ret hh).before args s = true) (hy : y.cls ≠ "java/lang/invoke/MethodHandle" ∧ y.cls ≠ "java/lang/invoke/VarHandle")
    {W9 : Nat} {Pre : Pt → Array Value → Prop} {Post : Pt → Array Value → Option Value → Pt → Prop} (hK : Back l R p e below s args y 3 W9 Pre Post)
    {b : Addr} {cellB : Cell} (hcell : T.heap[b]? = some cellB) (hobj : cellB.vm.isStatics = false) (hcls : s.vm.findClass C = some cellB.cls)
    {g : JFrame} (hg : g.method = m) (hsize : g.locals.size = c.maxLocals) {argsL rest : List Value} (hlen : ∀ sig, parseMethodDescriptor y.desc = some sig → argsL.length = sig.parameters.length)
    (hstack : g.stack = argsL.reverse ++ .ref b :: rest) (hW : 2 * g.monitorRoom + (rest.map fun v => v.category).sum ≤ W9) (hdg : decode c.code g.pc = .ok (.invokevirtual index, 3))
    (hpre : ∀ vm₁, s.WarmedH vm₁ → Pre ⟨T.setVm vm₁, locs, cells, slots⟩ (Value.ref b :: argsL).toArray) :
    ∃ (v : Option Value) (vm₁ : Vm) (B : Pt), s.WarmedH vm₁ ∧ Stand p l e R s m args below meth c B.U B.locs B.cells B.slots ∧ Post ⟨T.setVm vm₁, locs, cells, slots⟩ (Value.ref b :: argsL).toArray v B ∧
      ∀ target, Steps p.tables e below (B.U.setTop { g with pc := g.pc + 3, stack := v.toList ++ rest }) target → Steps p.tables e below (T.setTop g) target := by
  obtain ⟨mk, methM, hnamed, hmethM, hstM, habM⟩ := Cond.instanceMethod_spec hinst
  obtain ⟨m8, methM', cM, hn8, hmethM', -, -, -, -, -, -, hsigM⟩ := Cond.codeWith_spec hcode
  cases Option.some.inj (hn8.symm.trans hnamed)
  cases hmethM.symm.trans hmethM'
  obtain ⟨c2, r2, m2, q1, q2, q3, q4, kP, hkP, hkPi⟩ := Cond.selects_spec hsel
  cases hcls.symm.trans q1
  cases (State.methodFound?_of_named hnamed hy).symm.trans q2
  cases hnamed.symm.trans q3
  have hselP : selectMethod e.platform s.vm cellB.cls mk = .method mk := by rw [Launch.admits_selectMethod X.admits]; exact q4
  obtain ⟨vm₁, X₁, hstep₁⟩ := X.invokevirtual hexec hown hlink hnamed hmethM hstM hkP hkPi hy (a := b) (cell := cellB) hcell
    (fun z h => by rw [h] at hobj; cases hobj) hselP hmethM habM hkP hkPi (g := g) hg (argsL := argsL) (rest := rest) (hlen _ hsigM) hstack hdg
  obtain ⟨v, B, X', hpost, hsteps⟩ := hK m meth c ⟨T.setVm vm₁, locs, cells, slots⟩ { g with stack := rest } (.invokevirtual index) mk (Value.ref b :: argsL).toArray X₁ hg hsize hdg hW (X₁.named hnamed) (hpre vm₁ X₁.warmed)
  exact ⟨v, vm₁, B, X₁.warmed, X', hpost, fun target h => hstep₁ _ fun acts => by rw [doInvoke_state]; exact hsteps.trans h⟩
abbrev vx_CVW (R : Room) (s : State) (args : Array Value) (own C : String) (index : Nat) (y : MethodName) (bytes : ByteArray) (maxL : Nat) (ret : Option FieldType) (hh : List (Nat × Nat × Nat × Nat)) (ws : List Cond) (rm : Room) (mc ms n : Nat) : Prop :=
  (rm.cells = mc ∧ rm.slots = ms ∧ rm.frames + 1 ≤ R.frames ∧ 8 + (maxL + 11) + rm.locals ≤ R.locals ∧ (∀ w ∈ ws, ∀ (a' : Array Value) (U : State), s.WarmedH U.vm → w.before a' U = true) ∧ Cond.codeWith y bytes maxL ret hh ∈ ws) ∧
  (Cond.codeWith y bytes maxL ret hh).before args s = true ∧ (Cond.initialized y.cls).before args s = true ∧ (y.cls ≠ "java/lang/invoke/MethodHandle" ∧ y.cls ≠ "java/lang/invoke/VarHandle") ∧
  (∀ sig, parseMethodDescriptor y.desc = some sig → n = sig.parameters.length) ∧ (Cond.methodLink own index y).before args s = true ∧ (Cond.instanceMethod y).before args s = true ∧ (Cond.selects C y y).before args s = true
theorem vx_cwVW {own C : String} {index maxL mc ms : Nat} {y : MethodName} {bytes : ByteArray} {ret : Option FieldType} {hh : List (Nat × Nat × Nat × Nat)} {Ts ws ws' : List Cond} {rm : Room} (n : Nat) (ht : ∀ w ∈ Ts, w.before args s = true) (hT : GoodIn Ts (wsV own index C y ws)) (hw : ws = Cond.codeWith y bytes maxL ret hh :: ws') (hrc : rm.cells = mc) (hrs : rm.slots = ms)
    (hd : y.cls = C ∧ y.cls ≠ "java/lang/invoke/MethodHandle" ∧ y.cls ≠ "java/lang/invoke/VarHandle" ∧ (parseMethodDescriptor y.desc).map (fun d => d.parameters.length) = some n) (hR : rm.frames + 1 ≤ R.frames ∧ 8 + (maxL + 11) + rm.locals ≤ R.locals) :
    vx_CVW R s args own C index y bytes maxL ret hh ws rm mc ms n := by
  obtain ⟨hC, hd⟩ := hd
  subst hC
  have ok : ∀ w ∈ wsV own index y.cls y ws, w.before args s = true := fun w h => ht w (hT w h).1
  have hG : GoodIn Ts ws := fun w h => hT w (by unfold wsV; exact List.mem_append_right _ h)
  have hc : Cond.codeWith y bytes maxL ret hh ∈ ws := by rw [hw]; exact List.mem_cons_self
  refine ⟨⟨hrc, hrs, hR.1, hR.2, pay_in ht hG, hc⟩, ht _ (hG _ hc).1, ok _ (by simp [wsV]), ⟨hd.1, hd.2.1⟩, fun sig h => ?_, ok _ (by simp [wsV]), ok _ (by simp [wsV]), ok _ (by simp [wsV])⟩
  have h2 := hd.2.2
  rw [h] at h2
  exact (Option.some.inj h2).symm
theorem vx_runVW {y : MethodName} {bytes cc : ByteArray} {maxL nL mc ms n index : Nat} {ret : Option FieldType} {hh : List (Nat × Nat × Nat × Nat)} {ws : List Cond} {rm : Room} {Pc : Array Value → State → Prop} {Qc : Array Value → State → Outcome → State → Prop} {free : Addr → Prop} {Ts : List Cond} {own C : String} {b : Addr} {As rest : List Value} {g : JFrame}
    (S : CallFix p m c cc nL s args Ts own) (hM : Met l y ws rm Pc Qc mc ms free) (cw : vx_CVW R s args own C index y bytes maxL ret hh ws rm mc ms n) (hp : PreV s H C b Pc As)
    (hg : g.method = m) (hn : As.length = n) (hsize : g.locals.size = nL) (hstack : g.stack = As.reverse ++ .ref b :: rest) (hW : 2 * g.monitorRoom + (rest.map fun v => v.category).sum ≤ 8) (hdg : decode cc g.pc = .ok (.invokevirtual index, 3)) (hf : cells + mc ≤ R.cells ∧ slots + ms ≤ R.slots) :
    va_Run p l e R s m args below meth c H locs cells slots mc ms g rest (Qc (Value.ref b :: As).toArray) free := by
  obtain ⟨⟨hrc, hrs, hfr, hlo, hws, hcw⟩, hcode, hini, hy, hlen, hl, hin, hse⟩ := cw
  have hK : Back l R p e below s args y 3 8 (PreOf R mc ms Pc) (PostOf Qc mc ms free) := va_backW (hh := hh) (bytes := bytes) (maxL := maxL) (ret := ret) hM hp.1 hrc hrs hfr hlo hws hcw (fun a' U hW => word_at hW (Or.inl (by first | rfl | simp [Cond.onTables, Cond.keeps, Cond.steady])) hini)
  obtain ⟨hx, hb, hml, ho, -⟩ := S
  obtain ⟨-, ⟨cellB, hcB, hoB, hclB⟩, hPc⟩ := hp
  intro T hT X
  obtain ⟨v, vm₁, ⟨U', l2, c2, s2⟩, hW₁, X', ⟨g', mk, t, L, e1, e2, hq, h1, hL, h2, h3⟩, st⟩ := vx_callVW X hx (C := C) (hh := hh) (bytes := bytes) (maxL := maxL) (ret := ret) ho hl hin hse hcode hy hK (by rw [hT]; exact hcB) hoB hclB hg (hsize.trans hml.symm) (argsL := As) (rest := rest) (fun sig h => hn.trans (hlen sig h)) hstack hW (by rw [hb]; exact hdg)
    (fun vm₁ hW₁ => ⟨hf.1, hf.2, hPc (T.setVm vm₁) hT hW₁⟩)
  dsimp only [Pt.U, Pt.locs, Pt.cells, Pt.slots] at X' e1 e2 h1 h2 h3 st
  subst h1; subst h2; subst h3
  exact ⟨v, (T.setVm vm₁).calling g' mk (Value.ref b :: As).toArray, t, U', L, hT, X', hL, e1, e2, hq, st⟩
section
variable {y : MethodName} {bytes cc : ByteArray} {maxL nL mc ms n index : Nat} {ret : Option FieldType} {ws : List Cond} {rm : Room} {Pc : Array Value → State → Prop} {Qc : Array Value → State → Outcome → State → Prop} {XC : String → State → State → Prop} {free : Addr → Prop} {Ts : List Cond} {own C : String} {b : Addr} {As rest : List Value} {g : JFrame}
theorem vx_runVX {hh : List (Nat × Nat × Nat × Nat)} (S : CallFix p m c cc nL s args Ts own) (hM : vx_Met l y ws rm Pc Qc XC mc ms free) (cw : vx_CVW R s args own C index y bytes maxL ret hh ws rm mc ms n) (hp : PreV s H C b Pc As)
    (hg : g.method = m) (hn : As.length = n) (hsize : g.locals.size = nL) (hstack : g.stack = As.reverse ++ .ref b :: rest) (hW : 2 * g.monitorRoom + (rest.map fun v => v.category).sum ≤ 8) (hdg : decode cc g.pc = .ok (.invokevirtual index, 3)) (hf : cells + mc ≤ R.cells ∧ slots + ms ≤ R.slots) :
    vx_Run p l e R s m args below meth c H locs cells slots mc ms g rest (Qc (Value.ref b :: As).toArray) XC free := by
  obtain ⟨⟨hrc, hrs, hfr, hlo, hws, hcw⟩, hcode, hini, hy, hlen, hl, hin, hse⟩ := cw
  have hK : vx_Back l R p e below s args y 3 8 (PreOf R mc ms Pc) (PostOf Qc mc ms free) (vx_Post XC mc ms free) := vx_backW (hh := hh) (bytes := bytes) (maxL := maxL) (ret := ret) hM hp.1 hrc hrs hfr hlo hws hcw (fun a' U hW => word_at hW (Or.inl (by first | rfl | simp [Cond.onTables, Cond.keeps, Cond.steady])) hini)
  obtain ⟨hx, hb, hml, ho, -⟩ := S
  obtain ⟨-, ⟨cellB, hcB, hoB, hclB⟩, hPc⟩ := hp
  intro T hT X
  rcases vx_callVX X hx (C := C) (hh := hh) (bytes := bytes) (maxL := maxL) (ret := ret) ho hl hin hse hcode hy hK (by rw [hT]; exact hcB) hoB hclB hg (hsize.trans hml.symm) (argsL := As) (rest := rest) (fun sig h => hn.trans (hlen sig h)) hstack hW (by rw [hb]; exact hdg)
    (fun vm₁ hW₁ => ⟨hf.1, hf.2, hPc (T.setVm vm₁) hT hW₁⟩) with ⟨v, vm₁, ⟨U', l2, c2, s2⟩, hW₁, X', ⟨g', mk, t, L, e1, e2, hq, h1, hL, h2, h3⟩, st⟩ | ⟨q, vm₁, ⟨U', l2, c2, s2⟩, hW₁, X', ⟨g', mk, t, L, E, ce, e1, e2, hq, hce, hcv, hcl, h1, hL, h2, h3⟩, st⟩
  · dsimp only [Pt.U, Pt.locs, Pt.cells, Pt.slots] at X' e1 e2 h1 h2 h3 st
    subst h1; subst h2; subst h3
    exact Or.inl ⟨v, (T.setVm vm₁).calling g' mk (Value.ref b :: As).toArray, t, U', L, hT, X', hL, e1, e2, hq, st⟩
  · dsimp only [Pt.U, Pt.locs, Pt.cells, Pt.slots] at X' e1 e2 h1 h2 h3 st hcl
    subst h1; subst h2; subst h3
    exact Or.inr ⟨q, (T.setVm vm₁).calling g' mk (Value.ref b :: As).toArray, t, U', L, E, ce, hT, X', hL, e1, e2, hq, hce, hcv, vx_cls hW₁ hcl, st⟩
theorem vx_runSX {hh : List (Nat × Nat × Nat × Nat)} (S : CallFix p m c cc nL s args Ts own) (hM : vx_Met l y ws rm Pc Qc XC mc ms free) (cw : vx_CSW R s args own index y bytes maxL ret hh ws rm mc ms n) (hp : PreS s H Pc As)
    (hg : g.method = m) (hn : As.length = n) (hsize : g.locals.size = nL) (hstack : g.stack = As.reverse ++ rest) (hW : 2 * g.monitorRoom + (rest.map fun v => v.category).sum ≤ 8) (hdg : decode cc g.pc = .ok (.invokestatic index, 3)) (hf : cells + mc ≤ R.cells ∧ slots + ms ≤ R.slots) :
    vx_Run p l e R s m args below meth c H locs cells slots mc ms g rest (Qc As.toArray) XC free := by
  obtain ⟨⟨hrc, hrs, hfr, hlo, hws, hcw⟩, hcode, hini, hy, hlen, hl, hstt⟩ := cw
  have hK : vx_Back l R p e below s args y 3 8 (PreOf R mc ms Pc) (PostOf Qc mc ms free) (vx_Post XC mc ms free) := vx_backW (hh := hh) (bytes := bytes) (maxL := maxL) (ret := ret) hM hp.1 hrc hrs hfr hlo hws hcw (fun a' U hW => word_at hW (Or.inl (by first | rfl | simp [Cond.onTables, Cond.keeps, Cond.steady])) hini)
  obtain ⟨hx, hb, hml, ho, -⟩ := S
  intro T hT X
  rcases vx_callSX X hx (hh := hh) (bytes := bytes) (maxL := maxL) (ret := ret) ho hl hstt hini hcode hy hK hg (hsize.trans hml.symm) (argsL := As) (rest := rest) (fun sig h => hn.trans (hlen sig h)) hstack hW (by rw [hb]; exact hdg)
    (fun vm₁ hW₁ => ⟨hf.1, hf.2, hp.2 (T.setVm vm₁) hT hW₁⟩) with ⟨v, vm₁, ⟨U', l2, c2, s2⟩, hW₁, X', ⟨g', mk, t, L, e1, e2, hq, h1, hL, h2, h3⟩, st⟩ | ⟨q, vm₁, ⟨U', l2, c2, s2⟩, hW₁, X', ⟨g', mk, t, L, E, ce, e1, e2, hq, hce, hcv, hcl, h1, hL, h2, h3⟩, st⟩
  · dsimp only [Pt.U, Pt.locs, Pt.cells, Pt.slots] at X' e1 e2 h1 h2 h3 st
    subst h1; subst h2; subst h3
    exact Or.inl ⟨v, (T.setVm vm₁).calling g' mk As.toArray, t, U', L, hT, X', hL, e1, e2, hq, st⟩
  · dsimp only [Pt.U, Pt.locs, Pt.cells, Pt.slots] at X' e1 e2 h1 h2 h3 st hcl
    subst h1; subst h2; subst h3
    exact Or.inr ⟨q, (T.setVm vm₁).calling g' mk As.toArray, t, U', L, E, ce, hT, X', hL, e1, e2, hq, hce, hcv, vx_cls hW₁ hcl, st⟩
end
end VXH
theorem vx_ofWH {l : Launch} {y : MethodName} {ws ws' : List Cond} {rm : Room} {Pc : Array Value → State → Prop} {Qc : Array Value → State → Outcome → State → Prop} {XC : String → State → State → Prop} {mc ms : Nat} {free : Addr → Prop} {cc : ByteArray} {maxL : Nat} {ret : Option FieldType} {hh : List (Nat × Nat × Nat × Nat)}
    (hy : plainName y.cls = true) (hw : ws = Cond.codeWith y cc maxL ret hh :: ws')
    (body : ∀ p e s m args below meth c s₁, BodyLoose p l y (headSpec ws rm) cc maxL ret e s m args below meth c s₁ → c.maxLocals = maxL → Pc args s →
      W p l e (headSpec ws rm).room s m args below meth c s.heap [] 0 0 (vx_MQ below Qc XC args s mc ms free) (entryFrame m args maxL)) : vx_Met l y ws rm Pc Qc XC mc ms free := by
  refine MetFree.of_bodyS (code := cc) (maxLocals := maxL) (ret := ret) hy ?_ ?_
  · intro args s m h hn
    obtain ⟨m9, meth, c, hn9, h1, h2, h3, h4, -, h5, h6, -⟩ := Cond.codeWith_spec (atoms_spec (ws := ws) h _ (by rw [hw]; exact List.mem_cons_self))
    cases hn.symm.trans hn9
    exact ⟨meth, c, h1, h2, h3, h4, h5, h6⟩
  · intro p e s m args below meth c s₁ B hml hP _
    have hh0 : s₁.heap = s.heap := by rw [B.state]; rfl
    obtain ⟨t, a1, o, b1, b2, b3⟩ := body p e s m args below meth c s₁ B hml hP s₁ hh0 (Stand.of_body B)
    exact ⟨t, o, a1, b1, b2, b3⟩
/-! ===== END ===== -/
end
section
/-! ===== BEGIN printed: names, fields, word lists, decode rows ===== -/
def RX0 : String := "Cardhouse$Decks"
def TX0 : u_T := fun k => match k with
  | 0 => ("Cardhouse$Decks", "owner", "[I", true)
  | 1 => ("Cardhouse$Decks", "size", "[I", true)
  | 2 => ("Cardhouse$Decks", "cards", "[[I", true)
  | 3 => ("Cardhouse$Decks", "count", "I", false)
  | 4 => ("Cardhouse$Decks", "formatSize", "I", false)
  | _ => ("Cardhouse$Decks", "formatMost", "I", false)
def tyX0 : Nat → FieldType := fun k => match k with
  | 0 => .array .int
  | 1 => .array .int
  | 2 => .array (.array .int)
  | 3 => .int
  | 4 => .int
  | _ => .int
abbrev wsX00 : List Cond := u_ws RX0 TX0 6
theorem nmX0 : ∀ a, a < 6 → ∀ b, b < 6 → a ≠ b → (TX0 a).2.1 ≠ (TX0 b).2.1 := by decide +kernel
theorem tyX0_ok : ∀ k, k < 6 → parseFieldDescriptor (TX0 k).2.2.1 = some (tyX0 k) := by decide +kernel
abbrev cX0_init : ByteArray := prog_2_method_1_code
def yX0_init : MethodName := ⟨RX0, "<init>", "()V"⟩
abbrev cX0_append : ByteArray := prog_2_method_2_code
def yX0_append : MethodName := ⟨RX0, "append", "(I)I"⟩
abbrev cX0_holds : ByteArray := prog_2_method_3_code
def yX0_holds : MethodName := ⟨RX0, "holds", "(II)Z"⟩
abbrev cX0_putBehind : ByteArray := prog_2_method_4_code
def yX0_putBehind : MethodName := ⟨RX0, "putBehind", "(II)I"⟩
abbrev cX0_takeOut : ByteArray := prog_2_method_5_code
def yX0_takeOut : MethodName := ⟨RX0, "takeOut", "(II)I"⟩
abbrev cX0_placesOf : ByteArray := prog_2_method_6_code
def yX0_placesOf : MethodName := ⟨RX0, "placesOf", "(IILCardhouse$Prints;)I"⟩
abbrev cX0_countOf : ByteArray := prog_2_method_7_code
def yX0_countOf : MethodName := ⟨RX0, "countOf", "(IILCardhouse$Prints;)I"⟩
abbrev cX0_fitsFormat : ByteArray := prog_2_method_8_code
def yX0_fitsFormat : MethodName := ⟨RX0, "fitsFormat", "(ILCardhouse$Kinds;LCardhouse$Prints;)Z"⟩
abbrev cX0_countFitting : ByteArray := prog_2_method_9_code
def yX0_countFitting : MethodName := ⟨RX0, "countFitting", "(LCardhouse$Kinds;LCardhouse$Prints;)I"⟩
def RX1 : String := "Cardhouse$Kinds"
def TX1 : u_T := fun k => match k with
  | 0 => ("Cardhouse$Kinds", "power", "[I", true)
  | 1 => ("Cardhouse$Kinds", "trigger", "[I", true)
  | 2 => ("Cardhouse$Kinds", "isBanned", "[Z", true)
  | 3 => ("Cardhouse$Kinds", "copies", "[I", true)
  | _ => ("Cardhouse$Kinds", "wins", "[I", true)
def tyX1 : Nat → FieldType := fun k => match k with
  | 0 => .array .int
  | 1 => .array .int
  | 2 => .array .boolean
  | 3 => .array .int
  | _ => .array .int
abbrev wsX10 : List Cond := u_ws RX1 TX1 5
theorem nmX1 : ∀ a, a < 5 → ∀ b, b < 5 → a ≠ b → (TX1 a).2.1 ≠ (TX1 b).2.1 := by decide +kernel
theorem tyX1_ok : ∀ k, k < 5 → parseFieldDescriptor (TX1 k).2.2.1 = some (tyX1 k) := by decide +kernel
abbrev cX1_init : ByteArray := prog_3_method_1_code
def yX1_init : MethodName := ⟨RX1, "<init>", "()V"⟩
def RX2 : String := "Cardhouse$Offers"
def TX2 : u_T := fun k => match k with
  | 0 => ("Cardhouse$Offers", "card", "[I", true)
  | 1 => ("Cardhouse$Offers", "given", "[I", true)
  | 2 => ("Cardhouse$Offers", "wanted", "[I", true)
  | 3 => ("Cardhouse$Offers", "collector", "[I", true)
  | 4 => ("Cardhouse$Offers", "isLive", "[Z", true)
  | 5 => ("Cardhouse$Offers", "ring", "[I", true)
  | _ => ("Cardhouse$Offers", "count", "I", false)
def tyX2 : Nat → FieldType := fun k => match k with
  | 0 => .array .int
  | 1 => .array .int
  | 2 => .array .int
  | 3 => .array .int
  | 4 => .array .boolean
  | 5 => .array .int
  | _ => .int
abbrev wsX20 : List Cond := u_ws RX2 TX2 7
theorem nmX2 : ∀ a, a < 7 → ∀ b, b < 7 → a ≠ b → (TX2 a).2.1 ≠ (TX2 b).2.1 := by decide +kernel
theorem tyX2_ok : ∀ k, k < 7 → parseFieldDescriptor (TX2 k).2.2.1 = some (tyX2 k) := by decide +kernel
abbrev cX2_init : ByteArray := prog_4_method_1_code
def yX2_init : MethodName := ⟨RX2, "<init>", "()V"⟩
abbrev cX2_append : ByteArray := prog_4_method_2_code
def yX2_append : MethodName := ⟨RX2, "append", "(IILCardhouse$Prints;)I"⟩
abbrev cX2_hasLive : ByteArray := prog_4_method_3_code
def yX2_hasLive : MethodName := ⟨RX2, "hasLive", "(I)Z"⟩
abbrev cX2_findRing : ByteArray := prog_4_method_4_code
def yX2_findRing : MethodName := ⟨RX2, "findRing", "()I"⟩
abbrev cX2_closes : ByteArray := prog_4_method_5_code
def yX2_closes : MethodName := ⟨RX2, "closes", "(LCardhouse$Offers;II)Z"⟩
abbrev cX2_canFollow : ByteArray := prog_4_method_6_code
def yX2_canFollow : MethodName := ⟨RX2, "canFollow", "(II)Z"⟩
abbrev cX2_canGive : ByteArray := prog_4_method_7_code
def yX2_canGive : MethodName := ⟨RX2, "canGive", "(II)Z"⟩
def RX3 : String := "Cardhouse$Pile"
def TX3 : u_T := fun k => match k with
  | _ => ("Cardhouse$Pile", "cards", "[I", true)
def tyX3 : Nat → FieldType := fun k => match k with
  | _ => .array .int
abbrev wsX30 : List Cond := u_ws RX3 TX3 1
theorem nmX3 : ∀ a, a < 1 → ∀ b, b < 1 → a ≠ b → (TX3 a).2.1 ≠ (TX3 b).2.1 := by decide +kernel
theorem tyX3_ok : ∀ k, k < 1 → parseFieldDescriptor (TX3 k).2.2.1 = some (tyX3 k) := by decide +kernel
abbrev cX3_init : ByteArray := prog_5_method_1_code
def yX3_init : MethodName := ⟨RX3, "<init>", "()V"⟩
abbrev cX3_shuffle : ByteArray := prog_5_method_2_code
def yX3_shuffle : MethodName := ⟨RX3, "shuffle", "(LCardhouse$Decks;II)V"⟩
def RX4 : String := "Cardhouse$Prints"
def TX4 : u_T := fun k => match k with
  | 0 => ("Cardhouse$Prints", "kind", "[I", true)
  | 1 => ("Cardhouse$Prints", "number", "[I", true)
  | 2 => ("Cardhouse$Prints", "collector", "[I", true)
  | _ => ("Cardhouse$Prints", "count", "I", false)
def tyX4 : Nat → FieldType := fun k => match k with
  | 0 => .array .int
  | 1 => .array .int
  | 2 => .array .int
  | _ => .int
abbrev wsX40 : List Cond := u_ws RX4 TX4 4
theorem nmX4 : ∀ a, a < 4 → ∀ b, b < 4 → a ≠ b → (TX4 a).2.1 ≠ (TX4 b).2.1 := by decide +kernel
theorem tyX4_ok : ∀ k, k < 4 → parseFieldDescriptor (TX4 k).2.2.1 = some (tyX4 k) := by decide +kernel
abbrev cX4_init : ByteArray := prog_6_method_1_code
def yX4_init : MethodName := ⟨RX4, "<init>", "()V"⟩
abbrev cX4_append : ByteArray := prog_6_method_2_code
def yX4_append : MethodName := ⟨RX4, "append", "(III)I"⟩
abbrev cX4_countOf : ByteArray := prog_6_method_3_code
def yX4_countOf : MethodName := ⟨RX4, "countOf", "(II)I"⟩
def RX5 : String := "Cardhouse$Side"
def TX5 : u_T := fun k => match k with
  | 0 => ("Cardhouse$Side", "pile", "LCardhouse$Pile;", true)
  | 1 => ("Cardhouse$Side", "points", "I", false)
  | _ => ("Cardhouse$Side", "ahead", "I", false)
def tyX5 : Nat → FieldType := fun k => match k with
  | 0 => .object "Cardhouse$Pile"
  | 1 => .int
  | _ => .int
abbrev wsX50 : List Cond := u_ws RX5 TX5 3
theorem nmX5 : ∀ a, a < 3 → ∀ b, b < 3 → a ≠ b → (TX5 a).2.1 ≠ (TX5 b).2.1 := by decide +kernel
theorem tyX5_ok : ∀ k, k < 3 → parseFieldDescriptor (TX5 k).2.2.1 = some (tyX5 k) := by decide +kernel
abbrev cX5_init : ByteArray := prog_7_method_1_code
def yX5_init : MethodName := ⟨RX5, "<init>", "()V"⟩
abbrev cX5_start : ByteArray := prog_7_method_2_code
def yX5_start : MethodName := ⟨RX5, "start", "(LCardhouse$Decks;II)V"⟩
abbrev cX5_endRound : ByteArray := prog_7_method_3_code
def yX5_endRound : MethodName := ⟨RX5, "endRound", "(ZII)V"⟩
def RX6 : String := "Cardhouse"
def TX6 : u_T := fun k => match k with
  | 0 => ("Cardhouse", "kinds", "LCardhouse$Kinds;", true)
  | 1 => ("Cardhouse", "prints", "LCardhouse$Prints;", true)
  | 2 => ("Cardhouse", "decks", "LCardhouse$Decks;", true)
  | 3 => ("Cardhouse", "offers", "LCardhouse$Offers;", true)
  | 4 => ("Cardhouse", "pile", "LCardhouse$Pile;", true)
  | 5 => ("Cardhouse", "firstSide", "LCardhouse$Side;", true)
  | _ => ("Cardhouse", "secondSide", "LCardhouse$Side;", true)
def tyX6 : Nat → FieldType := fun k => match k with
  | 0 => .object "Cardhouse$Kinds"
  | 1 => .object "Cardhouse$Prints"
  | 2 => .object "Cardhouse$Decks"
  | 3 => .object "Cardhouse$Offers"
  | 4 => .object "Cardhouse$Pile"
  | 5 => .object "Cardhouse$Side"
  | _ => .object "Cardhouse$Side"
abbrev wsX60 : List Cond := u_ws RX6 TX6 7
theorem nmX6 : ∀ a, a < 7 → ∀ b, b < 7 → a ≠ b → (TX6 a).2.1 ≠ (TX6 b).2.1 := by decide +kernel
theorem tyX6_ok : ∀ k, k < 7 → parseFieldDescriptor (TX6 k).2.2.1 = some (tyX6 k) := by decide +kernel
abbrev cX6_init : ByteArray := prog_1_method_1_code
def yX6_init : MethodName := ⟨RX6, "<init>", "()V"⟩
abbrev cX6_setKind : ByteArray := prog_1_method_2_code
def yX6_setKind : MethodName := ⟨RX6, "setKind", "(III)I"⟩
abbrev cX6_setFormat : ByteArray := prog_1_method_3_code
def yX6_setFormat : MethodName := ⟨RX6, "setFormat", "(II)I"⟩
abbrev cX6_ban : ByteArray := prog_1_method_4_code
def yX6_ban : MethodName := ⟨RX6, "ban", "(IZ)I"⟩
abbrev cX6_print : ByteArray := prog_1_method_5_code
def yX6_print : MethodName := ⟨RX6, "print", "(II)I"⟩
abbrev cX6_deck : ByteArray := prog_1_method_6_code
def yX6_deck : MethodName := ⟨RX6, "deck", "(I)I"⟩
abbrev cX6_add : ByteArray := prog_1_method_7_code
def yX6_add : MethodName := ⟨RX6, "add", "(II)I"⟩
abbrev cX6_cut : ByteArray := prog_1_method_8_code
def yX6_cut : MethodName := ⟨RX6, "cut", "(II)I"⟩
abbrev cX6_play : ByteArray := prog_1_method_9_code
def yX6_play : MethodName := ⟨RX6, "play", "(IIII)I"⟩
abbrev cX6_offer : ByteArray := prog_1_method_10_code
def yX6_offer : MethodName := ⟨RX6, "offer", "(II)I"⟩
abbrev cX6_takeBack : ByteArray := prog_1_method_11_code
def yX6_takeBack : MethodName := ⟨RX6, "takeBack", "(I)I"⟩
abbrev cX6_trade : ByteArray := prog_1_method_12_code
def yX6_trade : MethodName := ⟨RX6, "trade", "()I"⟩
abbrev cX6_cards : ByteArray := prog_1_method_13_code
def yX6_cards : MethodName := ⟨RX6, "cards", "()I"⟩
abbrev cX6_printOf : ByteArray := prog_1_method_14_code
def yX6_printOf : MethodName := ⟨RX6, "printOf", "(I)I"⟩
abbrev cX6_collectorOf : ByteArray := prog_1_method_15_code
def yX6_collectorOf : MethodName := ⟨RX6, "collectorOf", "(I)I"⟩
abbrev cX6_has : ByteArray := prog_1_method_16_code
def yX6_has : MethodName := ⟨RX6, "has", "(II)I"⟩
abbrev cX6_wins : ByteArray := prog_1_method_17_code
def yX6_wins : MethodName := ⟨RX6, "wins", "(I)I"⟩
abbrev cX6_price : ByteArray := prog_1_method_18_code
def yX6_price : MethodName := ⟨RX6, "price", "(I)I"⟩
abbrev cX6_isAllowed : ByteArray := prog_1_method_19_code
def yX6_isAllowed : MethodName := ⟨RX6, "isAllowed", "(I)Z"⟩
abbrev cX6_shuffled : ByteArray := prog_1_method_20_code
def yX6_shuffled : MethodName := ⟨RX6, "shuffled", "(III)I"⟩
abbrev cX6_orders : ByteArray := prog_1_method_21_code
def yX6_orders : MethodName := ⟨RX6, "orders", "(III)I"⟩
abbrev cX6_ordersByAll : ByteArray := prog_1_method_22_code
def yX6_ordersByAll : MethodName := ⟨RX6, "ordersByAll", "(III)I"⟩
abbrev cX6_isOpen : ByteArray := prog_1_method_23_code
def yX6_isOpen : MethodName := ⟨RX6, "isOpen", "(I)Z"⟩
abbrev cX6_ring : ByteArray := prog_1_method_24_code
def yX6_ring : MethodName := ⟨RX6, "ring", "(I)I"⟩
abbrev cX6_needKind : ByteArray := prog_1_method_25_code
def yX6_needKind : MethodName := ⟨RX6, "needKind", "(I)V"⟩
abbrev cX6_needCollector : ByteArray := prog_1_method_26_code
def yX6_needCollector : MethodName := ⟨RX6, "needCollector", "(I)V"⟩
abbrev cX6_needCard : ByteArray := prog_1_method_27_code
def yX6_needCard : MethodName := ⟨RX6, "needCard", "(I)V"⟩
abbrev cX6_needDeck : ByteArray := prog_1_method_28_code
def yX6_needDeck : MethodName := ⟨RX6, "needDeck", "(I)V"⟩
abbrev cX6_needPlace : ByteArray := prog_1_method_29_code
def yX6_needPlace : MethodName := ⟨RX6, "needPlace", "(II)V"⟩
abbrev cX6_needOffer : ByteArray := prog_1_method_30_code
def yX6_needOffer : MethodName := ⟨RX6, "needOffer", "(I)V"⟩
abbrev cX6_needRange : ByteArray := prog_1_method_31_code
def yX6_needRange : MethodName := ⟨RX6, "needRange", "(III)V"⟩
abbrev cX6_needSeed : ByteArray := prog_1_method_32_code
def yX6_needSeed : MethodName := ⟨RX6, "needSeed", "(I)V"⟩
abbrev cX6_needAllowed : ByteArray := prog_1_method_33_code
def yX6_needAllowed : MethodName := ⟨RX6, "needAllowed", "(I)V"⟩
abbrev cX6_playRound : ByteArray := prog_1_method_34_code
def yX6_playRound : MethodName := ⟨RX6, "playRound", "(I)V"⟩
abbrev cX6_giveWins : ByteArray := prog_1_method_35_code
def yX6_giveWins : MethodName := ⟨RX6, "giveWins", "(I)V"⟩
abbrev cX6_countOrders : ByteArray := prog_1_method_36_code
def yX6_countOrders : MethodName := ⟨RX6, "countOrders", "(IIIIIZ)I"⟩
def RX7 : String := "CardhouseModel"
def TX7 : u_T := fun k => match k with
  | 0 => ("CardhouseModel", "power", "[I", true)
  | 1 => ("CardhouseModel", "trigger", "[I", true)
  | 2 => ("CardhouseModel", "banned", "[Z", true)
  | 3 => ("CardhouseModel", "printed", "[I", true)
  | 4 => ("CardhouseModel", "wins", "[I", true)
  | 5 => ("CardhouseModel", "size", "I", false)
  | 6 => ("CardhouseModel", "most", "I", false)
  | 7 => ("CardhouseModel", "cards", "I", false)
  | 8 => ("CardhouseModel", "kind", "[I", true)
  | 9 => ("CardhouseModel", "number", "[I", true)
  | 10 => ("CardhouseModel", "collector", "[I", true)
  | 11 => ("CardhouseModel", "decks", "I", false)
  | 12 => ("CardhouseModel", "owner", "[I", true)
  | 13 => ("CardhouseModel", "many", "[I", true)
  | 14 => ("CardhouseModel", "card", "[I", true)
  | 15 => ("CardhouseModel", "row", "[I", true)
  | 16 => ("CardhouseModel", "offers", "I", false)
  | 17 => ("CardhouseModel", "offered", "[I", true)
  | 18 => ("CardhouseModel", "by", "[I", true)
  | 19 => ("CardhouseModel", "wanted", "[I", true)
  | 20 => ("CardhouseModel", "closed", "[Z", true)
  | 21 => ("CardhouseModel", "ring", "[I", true)
  | _ => ("CardhouseModel", "thrown", "I", false)
def tyX7 : Nat → FieldType := fun k => match k with
  | 0 => .array .int
  | 1 => .array .int
  | 2 => .array .boolean
  | 3 => .array .int
  | 4 => .array .int
  | 5 => .int
  | 6 => .int
  | 7 => .int
  | 8 => .array .int
  | 9 => .array .int
  | 10 => .array .int
  | 11 => .int
  | 12 => .array .int
  | 13 => .array .int
  | 14 => .array .int
  | 15 => .array .int
  | 16 => .int
  | 17 => .array .int
  | 18 => .array .int
  | 19 => .array .int
  | 20 => .array .boolean
  | 21 => .array .int
  | _ => .int
abbrev wsX70 : List Cond := u_ws RX7 TX7 23
theorem nmX7 : ∀ a, a < 23 → ∀ b, b < 23 → a ≠ b → (TX7 a).2.1 ≠ (TX7 b).2.1 := by decide +kernel
theorem tyX7_ok : ∀ k, k < 23 → parseFieldDescriptor (TX7 k).2.2.1 = some (tyX7 k) := by decide +kernel
abbrev cX7_init : ByteArray := prog_9_method_1_code
def yX7_init : MethodName := ⟨RX7, "<init>", "()V"⟩
abbrev cX7_thrown : ByteArray := prog_9_method_2_code
def yX7_thrown : MethodName := ⟨RX7, "thrown", "()I"⟩
abbrev cX7_in : ByteArray := prog_9_method_3_code
def yX7_in : MethodName := ⟨RX7, "in", "(III)Z"⟩
abbrev cX7_goes : ByteArray := prog_9_method_4_code
def yX7_goes : MethodName := ⟨RX7, "goes", "(ZZZ)Z"⟩
abbrev cX7_told : ByteArray := prog_9_method_5_code
def yX7_told : MethodName := ⟨RX7, "told", "(I)I"⟩
abbrev cX7_isKind : ByteArray := prog_9_method_6_code
def yX7_isKind : MethodName := ⟨RX7, "isKind", "(I)Z"⟩
abbrev cX7_isCollector : ByteArray := prog_9_method_7_code
def yX7_isCollector : MethodName := ⟨RX7, "isCollector", "(I)Z"⟩
abbrev cX7_isCard : ByteArray := prog_9_method_8_code
def yX7_isCard : MethodName := ⟨RX7, "isCard", "(I)Z"⟩
abbrev cX7_isDeck : ByteArray := prog_9_method_9_code
def yX7_isDeck : MethodName := ⟨RX7, "isDeck", "(I)Z"⟩
abbrev cX7_isOffer : ByteArray := prog_9_method_10_code
def yX7_isOffer : MethodName := ⟨RX7, "isOffer", "(I)Z"⟩
abbrev cX7_setKind : ByteArray := prog_9_method_11_code
def yX7_setKind : MethodName := ⟨RX7, "setKind", "(III)I"⟩
abbrev cX7_kindAt : ByteArray := prog_9_method_12_code
def yX7_kindAt : MethodName := ⟨RX7, "kindAt", "(II)I"⟩
abbrev cX7_manyOf : ByteArray := prog_9_method_13_code
def yX7_manyOf : MethodName := ⟨RX7, "manyOf", "(II)I"⟩
abbrev cX7_allows : ByteArray := prog_9_method_14_code
def yX7_allows : MethodName := ⟨RX7, "allows", "(I)Z"⟩
abbrev cX7_manyAllowed : ByteArray := prog_9_method_15_code
def yX7_manyAllowed : MethodName := ⟨RX7, "manyAllowed", "()I"⟩
abbrev cX7_setFormat : ByteArray := prog_9_method_16_code
def yX7_setFormat : MethodName := ⟨RX7, "setFormat", "(II)I"⟩
abbrev cX7_ban : ByteArray := prog_9_method_17_code
def yX7_ban : MethodName := ⟨RX7, "ban", "(IZ)I"⟩
abbrev cX7_print : ByteArray := prog_9_method_18_code
def yX7_print : MethodName := ⟨RX7, "print", "(II)I"⟩
abbrev cX7_deck : ByteArray := prog_9_method_19_code
def yX7_deck : MethodName := ⟨RX7, "deck", "(I)I"⟩
abbrev cX7_isIn : ByteArray := prog_9_method_20_code
def yX7_isIn : MethodName := ⟨RX7, "isIn", "(II)Z"⟩
abbrev cX7_add : ByteArray := prog_9_method_21_code
def yX7_add : MethodName := ⟨RX7, "add", "(II)I"⟩
abbrev cX7_cut : ByteArray := prog_9_method_22_code
def yX7_cut : MethodName := ⟨RX7, "cut", "(II)I"⟩
abbrev cX7_shuffles : ByteArray := prog_9_method_23_code
def yX7_shuffles : MethodName := ⟨RX7, "shuffles", "(III)V"⟩
abbrev cX7_effect : ByteArray := prog_9_method_24_code
def yX7_effect : MethodName := ⟨RX7, "effect", "(IIZ)I"⟩
abbrev cX7_wonBy : ByteArray := prog_9_method_25_code
def yX7_wonBy : MethodName := ⟨RX7, "wonBy", "(I)V"⟩
abbrev cX7_play : ByteArray := prog_9_method_26_code
def yX7_play : MethodName := ⟨RX7, "play", "(IIII)I"⟩
abbrev cX7_opens : ByteArray := prog_9_method_27_code
def yX7_opens : MethodName := ⟨RX7, "opens", "(I)Z"⟩
abbrev cX7_offer : ByteArray := prog_9_method_28_code
def yX7_offer : MethodName := ⟨RX7, "offer", "(II)I"⟩
abbrev cX7_takeBack : ByteArray := prog_9_method_29_code
def yX7_takeBack : MethodName := ⟨RX7, "takeBack", "(I)I"⟩
abbrev cX7_gives : ByteArray := prog_9_method_30_code
def yX7_gives : MethodName := ⟨RX7, "gives", "(II)Z"⟩
abbrev cX7_fits : ByteArray := prog_9_method_31_code
def yX7_fits : MethodName := ⟨RX7, "fits", "(II)Z"⟩
abbrev cX7_hasRing : ByteArray := prog_9_method_32_code
def yX7_hasRing : MethodName := ⟨RX7, "hasRing", "(I)Z"⟩
abbrev cX7_first : ByteArray := prog_9_method_33_code
def yX7_first : MethodName := ⟨RX7, "first", "()I"⟩
abbrev cX7_trade : ByteArray := prog_9_method_34_code
def yX7_trade : MethodName := ⟨RX7, "trade", "()I"⟩
abbrev cX7_cards : ByteArray := prog_9_method_35_code
def yX7_cards : MethodName := ⟨RX7, "cards", "()I"⟩
abbrev cX7_printOf : ByteArray := prog_9_method_36_code
def yX7_printOf : MethodName := ⟨RX7, "printOf", "(I)I"⟩
abbrev cX7_collectorOf : ByteArray := prog_9_method_37_code
def yX7_collectorOf : MethodName := ⟨RX7, "collectorOf", "(I)I"⟩
abbrev cX7_has : ByteArray := prog_9_method_38_code
def yX7_has : MethodName := ⟨RX7, "has", "(II)I"⟩
abbrev cX7_wins : ByteArray := prog_9_method_39_code
def yX7_wins : MethodName := ⟨RX7, "wins", "(I)I"⟩
abbrev cX7_price : ByteArray := prog_9_method_40_code
def yX7_price : MethodName := ⟨RX7, "price", "(I)I"⟩
abbrev cX7_isAllowed : ByteArray := prog_9_method_41_code
def yX7_isAllowed : MethodName := ⟨RX7, "isAllowed", "(I)Z"⟩
abbrev cX7_shuffled : ByteArray := prog_9_method_42_code
def yX7_shuffled : MethodName := ⟨RX7, "shuffled", "(III)I"⟩
abbrev cX7_ordersOf : ByteArray := prog_9_method_43_code
def yX7_ordersOf : MethodName := ⟨RX7, "ordersOf", "(III)I"⟩
abbrev cX7_orders : ByteArray := prog_9_method_44_code
def yX7_orders : MethodName := ⟨RX7, "orders", "(III)I"⟩
abbrev cX7_ordersByAll : ByteArray := prog_9_method_45_code
def yX7_ordersByAll : MethodName := ⟨RX7, "ordersByAll", "(III)I"⟩
abbrev cX7_isOpen : ByteArray := prog_9_method_46_code
def yX7_isOpen : MethodName := ⟨RX7, "isOpen", "(I)Z"⟩
abbrev cX7_ring : ByteArray := prog_9_method_47_code
def yX7_ring : MethodName := ⟨RX7, "ring", "(I)I"⟩
def RJ6 : String := "java/lang/Integer"
def TJ6 : u_T := fun k => match k with
  | _ => ("", "", "", false)
def tyJ6 : Nat → FieldType := fun k => match k with
  | _ => .int
abbrev wsJ60 : List Cond := u_ws RJ6 TJ6 0
theorem nmJ6 : ∀ a, a < 0 → ∀ b, b < 0 → a ≠ b → (TJ6 a).2.1 ≠ (TJ6 b).2.1 := by decide +kernel
theorem tyJ6_ok : ∀ k, k < 0 → parseFieldDescriptor (TJ6 k).2.2.1 = some (tyJ6 k) := by decide +kernel
abbrev cJ6_bitCount_0f7a4 : ByteArray := prog_14_method_49_code
def yJ6_bitCount_0f7a4 : MethodName := ⟨RJ6, "bitCount", "(I)I"⟩
def RJ0 : String := "java/lang/String"
def TJ0 : u_T := fun k => match k with
  | _ => ("", "", "", false)
def tyJ0 : Nat → FieldType := fun k => match k with
  | _ => .int
abbrev wsJ00 : List Cond := u_ws RJ0 TJ0 0
theorem nmJ0 : ∀ a, a < 0 → ∀ b, b < 0 → a ≠ b → (TJ0 a).2.1 ≠ (TJ0 b).2.1 := by decide +kernel
theorem tyJ0_ok : ∀ k, k < 0 → parseFieldDescriptor (TJ0 k).2.2.1 = some (tyJ0 k) := by decide +kernel
def RL : String := "CardhouseLaw"
abbrev cL_setKind : ByteArray := method_3_code
def yL_setKind : MethodName := ⟨RL, "setKind", "(LCardhouse;III[J)I"⟩
abbrev cL_setFormat : ByteArray := method_4_code
def yL_setFormat : MethodName := ⟨RL, "setFormat", "(LCardhouse;II[J)I"⟩
abbrev cL_ban : ByteArray := method_5_code
def yL_ban : MethodName := ⟨RL, "ban", "(LCardhouse;IZ[J)I"⟩
abbrev cL_print : ByteArray := method_6_code
def yL_print : MethodName := ⟨RL, "print", "(LCardhouse;II[J)I"⟩
abbrev cL_deck : ByteArray := method_7_code
def yL_deck : MethodName := ⟨RL, "deck", "(LCardhouse;I[J)I"⟩
abbrev cL_add : ByteArray := method_8_code
def yL_add : MethodName := ⟨RL, "add", "(LCardhouse;II[J)I"⟩
abbrev cL_cut : ByteArray := method_9_code
def yL_cut : MethodName := ⟨RL, "cut", "(LCardhouse;II[J)I"⟩
abbrev cL_play : ByteArray := method_10_code
def yL_play : MethodName := ⟨RL, "play", "(LCardhouse;IIII[J)I"⟩
abbrev cL_offer : ByteArray := method_11_code
def yL_offer : MethodName := ⟨RL, "offer", "(LCardhouse;II[J)I"⟩
abbrev cL_takeBack : ByteArray := method_12_code
def yL_takeBack : MethodName := ⟨RL, "takeBack", "(LCardhouse;I[J)I"⟩
abbrev cL_printOf : ByteArray := method_13_code
def yL_printOf : MethodName := ⟨RL, "printOf", "(LCardhouse;I[J)I"⟩
abbrev cL_collectorOf : ByteArray := method_14_code
def yL_collectorOf : MethodName := ⟨RL, "collectorOf", "(LCardhouse;I[J)I"⟩
abbrev cL_has : ByteArray := method_15_code
def yL_has : MethodName := ⟨RL, "has", "(LCardhouse;II[J)I"⟩
abbrev cL_wins : ByteArray := method_16_code
def yL_wins : MethodName := ⟨RL, "wins", "(LCardhouse;I[J)I"⟩
abbrev cL_price : ByteArray := method_17_code
def yL_price : MethodName := ⟨RL, "price", "(LCardhouse;I[J)I"⟩
abbrev cL_isAllowed : ByteArray := method_18_code
def yL_isAllowed : MethodName := ⟨RL, "isAllowed", "(LCardhouse;I[J)I"⟩
abbrev cL_shuffled : ByteArray := method_19_code
def yL_shuffled : MethodName := ⟨RL, "shuffled", "(LCardhouse;III[J)I"⟩
abbrev cL_orders : ByteArray := method_20_code
def yL_orders : MethodName := ⟨RL, "orders", "(LCardhouse;III[J)I"⟩
abbrev cL_ordersByAll : ByteArray := method_21_code
def yL_ordersByAll : MethodName := ⟨RL, "ordersByAll", "(LCardhouse;III[J)I"⟩
abbrev cL_isOpen : ByteArray := method_22_code
def yL_isOpen : MethodName := ⟨RL, "isOpen", "(LCardhouse;I[J)I"⟩
abbrev cL_ring : ByteArray := method_23_code
def yL_ring : MethodName := ⟨RL, "ring", "(LCardhouse;I[J)I"⟩
abbrev cL_law : ByteArray := code
def yL_law : MethodName := ⟨RL, "law", "([I)Z"⟩
def wsX0_init : List Cond := .code yX0_init cX0_init 1 none :: ([.methodLink RX0 3 objectInit, .instanceMethod objectInit, .code objectInit ⟨#[0xb1]⟩ 1 none, .arrayClass .int, .fieldLink RX0 9 "Cardhouse$Decks" "owner" "[I", .fieldLink RX0 15 "Cardhouse$Decks" "size" "[I", .classLink RX0 18 "[[I", .fieldLink RX0 20 "Cardhouse$Decks" "cards" "[[I", .fieldLink RX0 23 "Cardhouse$Decks" "formatSize" "I", .fieldLink RX0 27 "Cardhouse$Decks" "formatMost" "I"] ++ wsX00)
def wsX0_append : List Cond := .code yX0_append cX0_append 3 (some .int) :: ([.fieldLink RX0 30 "Cardhouse$Decks" "count" "I", .fieldLink RX0 9 "Cardhouse$Decks" "owner" "[I"] ++ wsX00)
def wsX0_holds : List Cond := .code yX0_holds cX0_holds 4 (some .boolean) :: ([.fieldLink RX0 15 "Cardhouse$Decks" "size" "[I", .fieldLink RX0 20 "Cardhouse$Decks" "cards" "[[I"] ++ wsX00)
def wsX0_putBehind : List Cond := .code yX0_putBehind cX0_putBehind 3 (some .int) :: ([.fieldLink RX0 20 "Cardhouse$Decks" "cards" "[[I", .fieldLink RX0 15 "Cardhouse$Decks" "size" "[I"] ++ wsX00)
def wsX0_takeOut : List Cond := .code yX0_takeOut cX0_takeOut 5 (some .int) :: ([.fieldLink RX0 20 "Cardhouse$Decks" "cards" "[[I", .fieldLink RX0 15 "Cardhouse$Decks" "size" "[I"] ++ wsX00)
def wsX0_placesOf : List Cond := .code yX0_placesOf cX0_placesOf 6 (some .int) :: ([.fieldLink RX0 15 "Cardhouse$Decks" "size" "[I", .fieldLink RX0 33 "Cardhouse$Prints" "kind" "[I", .fieldLink RX0 20 "Cardhouse$Decks" "cards" "[[I"] ++ wsX00 ++ wsX40)
def wsJ6_bitCount_0f7a4 : List Cond := .code yJ6_bitCount_0f7a4 cJ6_bitCount_0f7a4 1 (some .int) :: ([.constant RJ6 265 (1431655765), .constant RJ6 266 (858993459), .constant RJ6 267 (252645135)])
def wsX0_countOf : List Cond := .code yX0_countOf cX0_countOf 4 (some .int) :: ([.methodLink RX0 38 yX0_placesOf, .instanceMethod yX0_placesOf, .selects RX0 yX0_placesOf yX0_placesOf, .initialized RX0, .code yX0_placesOf cX0_placesOf 6 (some .int), .fieldLink RX0 15 "Cardhouse$Decks" "size" "[I", .fieldLink RX0 33 "Cardhouse$Prints" "kind" "[I", .fieldLink RX0 20 "Cardhouse$Decks" "cards" "[[I", .methodLink RX0 42 yJ6_bitCount_0f7a4, .static yJ6_bitCount_0f7a4, .initialized RJ6, .code yJ6_bitCount_0f7a4 cJ6_bitCount_0f7a4 1 (some .int), .constant RJ6 265 (1431655765), .constant RJ6 266 (858993459), .constant RJ6 267 (252645135)] ++ wsX00 ++ wsX40)
def wsX0_fitsFormat : List Cond := .code yX0_fitsFormat cX0_fitsFormat 7 (some .boolean) :: ([.fieldLink RX0 15 "Cardhouse$Decks" "size" "[I", .fieldLink RX0 23 "Cardhouse$Decks" "formatSize" "I", .fieldLink RX0 20 "Cardhouse$Decks" "cards" "[[I", .fieldLink RX0 33 "Cardhouse$Prints" "kind" "[I", .fieldLink RX0 48 "Cardhouse$Prints" "collector" "[I", .fieldLink RX0 9 "Cardhouse$Decks" "owner" "[I", .fieldLink RX0 51 "Cardhouse$Kinds" "isBanned" "[Z", .fieldLink RX0 27 "Cardhouse$Decks" "formatMost" "I", .methodLink RX0 57 yX0_countOf, .instanceMethod yX0_countOf, .selects RX0 yX0_countOf yX0_countOf, .initialized RX0, .code yX0_countOf cX0_countOf 4 (some .int), .methodLink RX0 38 yX0_placesOf, .instanceMethod yX0_placesOf, .selects RX0 yX0_placesOf yX0_placesOf, .code yX0_placesOf cX0_placesOf 6 (some .int), .methodLink RX0 42 yJ6_bitCount_0f7a4, .static yJ6_bitCount_0f7a4, .initialized RJ6, .code yJ6_bitCount_0f7a4 cJ6_bitCount_0f7a4 1 (some .int), .constant RJ6 265 (1431655765), .constant RJ6 266 (858993459), .constant RJ6 267 (252645135)] ++ wsX00 ++ wsX40 ++ wsX10)
def wsX0_countFitting_r1 : List Cond := [Cond.fieldLink RX0 30 "Cardhouse$Decks" "count" "I", Cond.methodLink RX0 60 yX0_fitsFormat, Cond.instanceMethod yX0_fitsFormat, Cond.selects RX0 yX0_fitsFormat yX0_fitsFormat, Cond.initialized RX0, Cond.code yX0_fitsFormat cX0_fitsFormat 7 (some .boolean), Cond.fieldLink RX0 15 "Cardhouse$Decks" "size" "[I", Cond.fieldLink RX0 23 "Cardhouse$Decks" "formatSize" "I", Cond.fieldLink RX0 20 "Cardhouse$Decks" "cards" "[[I", Cond.fieldLink RX0 33 "Cardhouse$Prints" "kind" "[I", Cond.fieldLink RX0 48 "Cardhouse$Prints" "collector" "[I", Cond.fieldLink RX0 9 "Cardhouse$Decks" "owner" "[I", Cond.fieldLink RX0 51 "Cardhouse$Kinds" "isBanned" "[Z", Cond.fieldLink RX0 27 "Cardhouse$Decks" "formatMost" "I", Cond.methodLink RX0 57 yX0_countOf, Cond.instanceMethod yX0_countOf, Cond.selects RX0 yX0_countOf yX0_countOf, Cond.code yX0_countOf cX0_countOf 4 (some .int), Cond.methodLink RX0 38 yX0_placesOf, Cond.instanceMethod yX0_placesOf, Cond.selects RX0 yX0_placesOf yX0_placesOf, Cond.code yX0_placesOf cX0_placesOf 6 (some .int), Cond.methodLink RX0 42 yJ6_bitCount_0f7a4, Cond.static yJ6_bitCount_0f7a4]
def wsX0_countFitting_r2 : List Cond := [Cond.initialized RJ6, Cond.code yJ6_bitCount_0f7a4 cJ6_bitCount_0f7a4 1 (some .int), Cond.constant RJ6 265 (1431655765), Cond.constant RJ6 266 (858993459), Cond.constant RJ6 267 (252645135)]
def wsX0_countFitting : List Cond := .code yX0_countFitting cX0_countFitting 5 (some .int) :: ((wsX0_countFitting_r1 ++ wsX0_countFitting_r2) ++ wsX00 ++ wsX40 ++ wsX10)
def wsX1_init : List Cond := .code yX1_init cX1_init 1 none :: ([.methodLink RX1 3 objectInit, .instanceMethod objectInit, .code objectInit ⟨#[0xb1]⟩ 1 none, .arrayClass .int, .fieldLink RX1 9 "Cardhouse$Kinds" "power" "[I", .fieldLink RX1 15 "Cardhouse$Kinds" "trigger" "[I", .arrayClass .boolean, .fieldLink RX1 18 "Cardhouse$Kinds" "isBanned" "[Z", .fieldLink RX1 22 "Cardhouse$Kinds" "copies" "[I", .fieldLink RX1 25 "Cardhouse$Kinds" "wins" "[I"] ++ wsX10)
def wsX2_init : List Cond := .code yX2_init cX2_init 1 none :: ([.methodLink RX2 3 objectInit, .instanceMethod objectInit, .code objectInit ⟨#[0xb1]⟩ 1 none, .arrayClass .int, .fieldLink RX2 9 "Cardhouse$Offers" "card" "[I", .fieldLink RX2 15 "Cardhouse$Offers" "given" "[I", .fieldLink RX2 18 "Cardhouse$Offers" "wanted" "[I", .fieldLink RX2 21 "Cardhouse$Offers" "collector" "[I", .arrayClass .boolean, .fieldLink RX2 24 "Cardhouse$Offers" "isLive" "[Z", .fieldLink RX2 28 "Cardhouse$Offers" "ring" "[I"] ++ wsX20)
def wsX2_append : List Cond := .code yX2_append cX2_append 5 (some .int) :: ([.fieldLink RX2 31 "Cardhouse$Offers" "count" "I", .fieldLink RX2 9 "Cardhouse$Offers" "card" "[I", .fieldLink RX2 15 "Cardhouse$Offers" "given" "[I", .fieldLink RX2 35 "Cardhouse$Prints" "kind" "[I", .fieldLink RX2 18 "Cardhouse$Offers" "wanted" "[I", .fieldLink RX2 21 "Cardhouse$Offers" "collector" "[I", .fieldLink RX2 40 "Cardhouse$Prints" "collector" "[I", .fieldLink RX2 24 "Cardhouse$Offers" "isLive" "[Z"] ++ wsX20 ++ wsX40)
def wsX2_hasLive : List Cond := .code yX2_hasLive cX2_hasLive 3 (some .boolean) :: ([.fieldLink RX2 31 "Cardhouse$Offers" "count" "I", .fieldLink RX2 24 "Cardhouse$Offers" "isLive" "[Z", .fieldLink RX2 9 "Cardhouse$Offers" "card" "[I"] ++ wsX20)
def wsX2_canGive : List Cond := .code yX2_canGive cX2_canGive 3 (some .boolean) :: ([.fieldLink RX2 15 "Cardhouse$Offers" "given" "[I", .fieldLink RX2 18 "Cardhouse$Offers" "wanted" "[I"] ++ wsX20)
def wsX2_canFollow : List Cond := .code yX2_canFollow cX2_canFollow 4 (some .boolean) :: ([.fieldLink RX2 24 "Cardhouse$Offers" "isLive" "[Z", .fieldLink RX2 28 "Cardhouse$Offers" "ring" "[I", .fieldLink RX2 21 "Cardhouse$Offers" "collector" "[I", .methodLink RX2 45 yX2_canGive, .instanceMethod yX2_canGive, .selects RX2 yX2_canGive yX2_canGive, .initialized RX2, .code yX2_canGive cX2_canGive 3 (some .boolean), .fieldLink RX2 15 "Cardhouse$Offers" "given" "[I", .fieldLink RX2 18 "Cardhouse$Offers" "wanted" "[I"] ++ wsX20)
def wsX2_closes : List Cond := .code yX2_closes cX2_closes 4 (some .boolean) :: ([.fieldLink RX2 28 "Cardhouse$Offers" "ring" "[I", .fieldLink RX2 31 "Cardhouse$Offers" "count" "I", .methodLink RX2 45 yX2_canGive, .instanceMethod yX2_canGive, .selects RX2 yX2_canGive yX2_canGive, .initialized RX2, .code yX2_canGive cX2_canGive 3 (some .boolean), .fieldLink RX2 15 "Cardhouse$Offers" "given" "[I", .fieldLink RX2 18 "Cardhouse$Offers" "wanted" "[I", .methodLink RX2 49 yX2_canFollow, .instanceMethod yX2_canFollow, .selects RX2 yX2_canFollow yX2_canFollow, .code yX2_canFollow cX2_canFollow 4 (some .boolean), .fieldLink RX2 24 "Cardhouse$Offers" "isLive" "[Z", .fieldLink RX2 21 "Cardhouse$Offers" "collector" "[I", .methodLink RX2 41 yX2_closes, .static yX2_closes] ++ wsX20)
def wsX2_findRing : List Cond := .code yX2_findRing cX2_findRing 3 (some .int) :: ([.fieldLink RX2 31 "Cardhouse$Offers" "count" "I", .fieldLink RX2 28 "Cardhouse$Offers" "ring" "[I", .fieldLink RX2 24 "Cardhouse$Offers" "isLive" "[Z", .methodLink RX2 41 yX2_closes, .static yX2_closes, .initialized RX2, .code yX2_closes cX2_closes 4 (some .boolean), .methodLink RX2 45 yX2_canGive, .instanceMethod yX2_canGive, .selects RX2 yX2_canGive yX2_canGive, .code yX2_canGive cX2_canGive 3 (some .boolean), .fieldLink RX2 15 "Cardhouse$Offers" "given" "[I", .fieldLink RX2 18 "Cardhouse$Offers" "wanted" "[I", .methodLink RX2 49 yX2_canFollow, .instanceMethod yX2_canFollow, .selects RX2 yX2_canFollow yX2_canFollow, .code yX2_canFollow cX2_canFollow 4 (some .boolean), .fieldLink RX2 21 "Cardhouse$Offers" "collector" "[I"] ++ wsX20)
def wsX3_init : List Cond := .code yX3_init cX3_init 1 none :: ([.methodLink RX3 3 objectInit, .instanceMethod objectInit, .code objectInit ⟨#[0xb1]⟩ 1 none, .arrayClass .int, .fieldLink RX3 9 "Cardhouse$Pile" "cards" "[I"] ++ wsX30)
def wsX3_shuffle : List Cond := .code yX3_shuffle cX3_shuffle 10 none :: ([.fieldLink RX3 15 "Cardhouse$Decks" "size" "[I", .fieldLink RX3 9 "Cardhouse$Pile" "cards" "[I", .fieldLink RX3 20 "Cardhouse$Decks" "cards" "[[I", .constantLong RX3 23 (1103515245), .constantLong RX3 25 (12345), .constantLong RX3 27 (2147483648), .constantLong RX3 29 (65536)] ++ wsX00 ++ wsX30)
def wsX4_init : List Cond := .code yX4_init cX4_init 1 none :: ([.methodLink RX4 3 objectInit, .instanceMethod objectInit, .code objectInit ⟨#[0xb1]⟩ 1 none, .arrayClass .int, .fieldLink RX4 9 "Cardhouse$Prints" "kind" "[I", .fieldLink RX4 15 "Cardhouse$Prints" "number" "[I", .fieldLink RX4 18 "Cardhouse$Prints" "collector" "[I"] ++ wsX40)
def wsX4_append : List Cond := .code yX4_append cX4_append 5 (some .int) :: ([.fieldLink RX4 21 "Cardhouse$Prints" "count" "I", .fieldLink RX4 9 "Cardhouse$Prints" "kind" "[I", .fieldLink RX4 15 "Cardhouse$Prints" "number" "[I", .fieldLink RX4 18 "Cardhouse$Prints" "collector" "[I"] ++ wsX40)
def wsX4_countOf : List Cond := .code yX4_countOf cX4_countOf 5 (some .int) :: ([.fieldLink RX4 21 "Cardhouse$Prints" "count" "I", .fieldLink RX4 18 "Cardhouse$Prints" "collector" "[I", .fieldLink RX4 9 "Cardhouse$Prints" "kind" "[I"] ++ wsX40)
def wsX5_init : List Cond := .code yX5_init cX5_init 1 none :: ([.methodLink RX5 3 objectInit, .instanceMethod objectInit, .code objectInit ⟨#[0xb1]⟩ 1 none, .classLink RX5 9 RX3, .instantiable RX3 1, .initialized RX3, .fieldLink RX5 12 "Cardhouse$Side" "pile" "LCardhouse$Pile;", .instanceMethod yX3_init, .code yX3_init cX3_init 1 none, .methodLink RX3 3 objectInit, .arrayClass .int, .fieldLink RX3 9 "Cardhouse$Pile" "cards" "[I"] ++ wsX30 ++ wsX50)
def wsX5_start : List Cond := .code yX5_start cX5_start 4 none :: ([.fieldLink RX5 12 "Cardhouse$Side" "pile" "LCardhouse$Pile;", .fieldLink RX5 22 "Cardhouse$Side" "points" "I", .fieldLink RX5 26 "Cardhouse$Side" "ahead" "I", .methodLink RX5 18 yX3_shuffle, .instanceMethod yX3_shuffle, .selects RX3 yX3_shuffle yX3_shuffle, .initialized RX3, .code yX3_shuffle cX3_shuffle 10 none, .fieldLink RX3 15 "Cardhouse$Decks" "size" "[I", .fieldLink RX3 9 "Cardhouse$Pile" "cards" "[I", .fieldLink RX3 20 "Cardhouse$Decks" "cards" "[[I", .constantLong RX3 23 (1103515245), .constantLong RX3 25 (12345), .constantLong RX3 27 (2147483648), .constantLong RX3 29 (65536)] ++ wsX50 ++ wsX00 ++ wsX30)
def wsX5_endRound : List Cond := .code yX5_endRound cX5_endRound 4 none :: ([.fieldLink RX5 26 "Cardhouse$Side" "ahead" "I", .fieldLink RX5 22 "Cardhouse$Side" "points" "I"] ++ wsX50)
def wsX6_init_r1 : List Cond := [Cond.methodLink RX6 1 objectInit, Cond.instanceMethod objectInit, Cond.code objectInit ⟨#[0xb1]⟩ 1 none, Cond.classLink RX6 7 RX1, Cond.instantiable RX1 5, Cond.initialized RX1, Cond.fieldLink RX6 10 "Cardhouse" "kinds" "LCardhouse$Kinds;", Cond.classLink RX6 16 RX4, Cond.instantiable RX4 4, Cond.initialized RX4, Cond.fieldLink RX6 19 "Cardhouse" "prints" "LCardhouse$Prints;", Cond.classLink RX6 23 RX0, Cond.instantiable RX0 6, Cond.initialized RX0, Cond.fieldLink RX6 26 "Cardhouse" "decks" "LCardhouse$Decks;", Cond.classLink RX6 30 RX2, Cond.instantiable RX2 7, Cond.initialized RX2, Cond.fieldLink RX6 33 "Cardhouse" "offers" "LCardhouse$Offers;", Cond.classLink RX6 37 RX3, Cond.instantiable RX3 1, Cond.initialized RX3, Cond.fieldLink RX6 40 "Cardhouse" "pile" "LCardhouse$Pile;", Cond.classLink RX6 44 RX5]
def wsX6_init_r2 : List Cond := [Cond.instantiable RX5 3, Cond.initialized RX5, Cond.fieldLink RX6 47 "Cardhouse" "firstSide" "LCardhouse$Side;", Cond.fieldLink RX6 51 "Cardhouse" "secondSide" "LCardhouse$Side;", Cond.instanceMethod yX1_init, Cond.code yX1_init cX1_init 1 none, Cond.methodLink RX1 3 objectInit, Cond.arrayClass .int, Cond.fieldLink RX1 9 "Cardhouse$Kinds" "power" "[I", Cond.fieldLink RX1 15 "Cardhouse$Kinds" "trigger" "[I", Cond.arrayClass .boolean, Cond.fieldLink RX1 18 "Cardhouse$Kinds" "isBanned" "[Z", Cond.fieldLink RX1 22 "Cardhouse$Kinds" "copies" "[I", Cond.fieldLink RX1 25 "Cardhouse$Kinds" "wins" "[I", Cond.instanceMethod yX4_init, Cond.code yX4_init cX4_init 1 none, Cond.methodLink RX4 3 objectInit, Cond.fieldLink RX4 9 "Cardhouse$Prints" "kind" "[I", Cond.fieldLink RX4 15 "Cardhouse$Prints" "number" "[I", Cond.fieldLink RX4 18 "Cardhouse$Prints" "collector" "[I", Cond.instanceMethod yX0_init, Cond.code yX0_init cX0_init 1 none, Cond.methodLink RX0 3 objectInit, Cond.fieldLink RX0 9 "Cardhouse$Decks" "owner" "[I"]
def wsX6_init_r3 : List Cond := [Cond.fieldLink RX0 15 "Cardhouse$Decks" "size" "[I", Cond.classLink RX0 18 "[[I", Cond.fieldLink RX0 20 "Cardhouse$Decks" "cards" "[[I", Cond.fieldLink RX0 23 "Cardhouse$Decks" "formatSize" "I", Cond.fieldLink RX0 27 "Cardhouse$Decks" "formatMost" "I", Cond.instanceMethod yX2_init, Cond.code yX2_init cX2_init 1 none, Cond.methodLink RX2 3 objectInit, Cond.fieldLink RX2 9 "Cardhouse$Offers" "card" "[I", Cond.fieldLink RX2 15 "Cardhouse$Offers" "given" "[I", Cond.fieldLink RX2 18 "Cardhouse$Offers" "wanted" "[I", Cond.fieldLink RX2 21 "Cardhouse$Offers" "collector" "[I", Cond.fieldLink RX2 24 "Cardhouse$Offers" "isLive" "[Z", Cond.fieldLink RX2 28 "Cardhouse$Offers" "ring" "[I", Cond.instanceMethod yX3_init, Cond.code yX3_init cX3_init 1 none, Cond.methodLink RX3 3 objectInit, Cond.fieldLink RX3 9 "Cardhouse$Pile" "cards" "[I", Cond.instanceMethod yX5_init, Cond.code yX5_init cX5_init 1 none, Cond.methodLink RX5 3 objectInit, Cond.classLink RX5 9 RX3, Cond.fieldLink RX5 12 "Cardhouse$Side" "pile" "LCardhouse$Pile;"]
def wsX6_init : List Cond := .code yX6_init cX6_init 1 none :: ((wsX6_init_r1 ++ (wsX6_init_r2 ++ wsX6_init_r3)) ++ wsX10 ++ wsX60 ++ wsX40 ++ wsX00 ++ wsX20 ++ wsX30 ++ wsX50)
def wsX6_needKind : List Cond := .code yX6_needKind cX6_needKind 1 none :: ([.classLink RX6 236 "java/lang/IndexOutOfBoundsException", .initialized "java/lang/IndexOutOfBoundsException"] ++ (vx_atS RX6 240 "java/lang/IndexOutOfBoundsException" ["java/lang/RuntimeException", "java/lang/Exception"]).filter goodWord)
def wsX6_needRange : List Cond := .code yX6_needRange cX6_needRange 3 none :: ([.classLink RX6 122 "java/lang/IllegalArgumentException", .initialized "java/lang/IllegalArgumentException"] ++ (vx_atS RX6 126 "java/lang/IllegalArgumentException" ["java/lang/RuntimeException", "java/lang/Exception"]).filter goodWord)
def wsX6_setKind : List Cond := .code yX6_setKind cX6_setKind 5 (some .int) :: ([.fieldLink RX6 10 "Cardhouse" "kinds" "LCardhouse$Kinds;", .fieldLink RX6 62 "Cardhouse$Kinds" "power" "[I", .fieldLink RX6 66 "Cardhouse$Kinds" "trigger" "[I", .methodLink RX6 54 yX6_needKind, .static yX6_needKind, .initialized RX6, .code yX6_needKind cX6_needKind 1 none, .classLink RX6 236 "java/lang/IndexOutOfBoundsException", .initialized "java/lang/IndexOutOfBoundsException", .methodLink RX6 58 yX6_needRange, .static yX6_needRange, .code yX6_needRange cX6_needRange 3 none, .classLink RX6 122 "java/lang/IllegalArgumentException", .initialized "java/lang/IllegalArgumentException"] ++ wsX60 ++ wsX10 ++ (vx_atS RX6 240 "java/lang/IndexOutOfBoundsException" ["java/lang/RuntimeException", "java/lang/Exception"]).filter goodWord ++ (vx_atS RX6 126 "java/lang/IllegalArgumentException" ["java/lang/RuntimeException", "java/lang/Exception"]).filter goodWord)
def wsX6_setFormat_r1 : List Cond := [Cond.fieldLink RX6 26 "Cardhouse" "decks" "LCardhouse$Decks;", Cond.fieldLink RX6 69 "Cardhouse$Decks" "formatSize" "I", Cond.fieldLink RX6 73 "Cardhouse$Decks" "formatMost" "I", Cond.fieldLink RX6 10 "Cardhouse" "kinds" "LCardhouse$Kinds;", Cond.fieldLink RX6 19 "Cardhouse" "prints" "LCardhouse$Prints;", Cond.methodLink RX6 58 yX6_needRange, Cond.static yX6_needRange, Cond.initialized RX6, Cond.code yX6_needRange cX6_needRange 3 none, Cond.classLink RX6 122 "java/lang/IllegalArgumentException", Cond.initialized "java/lang/IllegalArgumentException", Cond.methodLink RX6 76 yX0_countFitting, Cond.instanceMethod yX0_countFitting, Cond.selects RX0 yX0_countFitting yX0_countFitting, Cond.initialized RX0, Cond.code yX0_countFitting cX0_countFitting 5 (some .int), Cond.fieldLink RX0 30 "Cardhouse$Decks" "count" "I", Cond.methodLink RX0 60 yX0_fitsFormat, Cond.instanceMethod yX0_fitsFormat, Cond.selects RX0 yX0_fitsFormat yX0_fitsFormat, Cond.code yX0_fitsFormat cX0_fitsFormat 7 (some .boolean), Cond.fieldLink RX0 15 "Cardhouse$Decks" "size" "[I", Cond.fieldLink RX0 23 "Cardhouse$Decks" "formatSize" "I", Cond.fieldLink RX0 20 "Cardhouse$Decks" "cards" "[[I"]
def wsX6_setFormat_r2 : List Cond := [Cond.fieldLink RX0 33 "Cardhouse$Prints" "kind" "[I", Cond.fieldLink RX0 48 "Cardhouse$Prints" "collector" "[I", Cond.fieldLink RX0 9 "Cardhouse$Decks" "owner" "[I", Cond.fieldLink RX0 51 "Cardhouse$Kinds" "isBanned" "[Z", Cond.fieldLink RX0 27 "Cardhouse$Decks" "formatMost" "I", Cond.methodLink RX0 57 yX0_countOf, Cond.instanceMethod yX0_countOf, Cond.selects RX0 yX0_countOf yX0_countOf, Cond.code yX0_countOf cX0_countOf 4 (some .int), Cond.methodLink RX0 38 yX0_placesOf, Cond.instanceMethod yX0_placesOf, Cond.selects RX0 yX0_placesOf yX0_placesOf, Cond.code yX0_placesOf cX0_placesOf 6 (some .int), Cond.methodLink RX0 42 yJ6_bitCount_0f7a4, Cond.static yJ6_bitCount_0f7a4, Cond.initialized RJ6, Cond.code yJ6_bitCount_0f7a4 cJ6_bitCount_0f7a4 1 (some .int), Cond.constant RJ6 265 (1431655765), Cond.constant RJ6 266 (858993459), Cond.constant RJ6 267 (252645135)]
def wsX6_setFormat : List Cond := .code yX6_setFormat cX6_setFormat 3 (some .int) :: ((wsX6_setFormat_r1 ++ wsX6_setFormat_r2) ++ wsX60 ++ wsX00 ++ wsX40 ++ wsX10 ++ (vx_atS RX6 126 "java/lang/IllegalArgumentException" ["java/lang/RuntimeException", "java/lang/Exception"]).filter goodWord)
def wsX6_ban_r1 : List Cond := [Cond.fieldLink RX6 10 "Cardhouse" "kinds" "LCardhouse$Kinds;", Cond.fieldLink RX6 80 "Cardhouse$Kinds" "isBanned" "[Z", Cond.fieldLink RX6 26 "Cardhouse" "decks" "LCardhouse$Decks;", Cond.fieldLink RX6 19 "Cardhouse" "prints" "LCardhouse$Prints;", Cond.methodLink RX6 54 yX6_needKind, Cond.static yX6_needKind, Cond.initialized RX6, Cond.code yX6_needKind cX6_needKind 1 none, Cond.classLink RX6 236 "java/lang/IndexOutOfBoundsException", Cond.initialized "java/lang/IndexOutOfBoundsException", Cond.methodLink RX6 76 yX0_countFitting, Cond.instanceMethod yX0_countFitting, Cond.selects RX0 yX0_countFitting yX0_countFitting, Cond.initialized RX0, Cond.code yX0_countFitting cX0_countFitting 5 (some .int), Cond.fieldLink RX0 30 "Cardhouse$Decks" "count" "I", Cond.methodLink RX0 60 yX0_fitsFormat, Cond.instanceMethod yX0_fitsFormat, Cond.selects RX0 yX0_fitsFormat yX0_fitsFormat, Cond.code yX0_fitsFormat cX0_fitsFormat 7 (some .boolean), Cond.fieldLink RX0 15 "Cardhouse$Decks" "size" "[I", Cond.fieldLink RX0 23 "Cardhouse$Decks" "formatSize" "I", Cond.fieldLink RX0 20 "Cardhouse$Decks" "cards" "[[I", Cond.fieldLink RX0 33 "Cardhouse$Prints" "kind" "[I"]
def wsX6_ban_r2 : List Cond := [Cond.fieldLink RX0 48 "Cardhouse$Prints" "collector" "[I", Cond.fieldLink RX0 9 "Cardhouse$Decks" "owner" "[I", Cond.fieldLink RX0 51 "Cardhouse$Kinds" "isBanned" "[Z", Cond.fieldLink RX0 27 "Cardhouse$Decks" "formatMost" "I", Cond.methodLink RX0 57 yX0_countOf, Cond.instanceMethod yX0_countOf, Cond.selects RX0 yX0_countOf yX0_countOf, Cond.code yX0_countOf cX0_countOf 4 (some .int), Cond.methodLink RX0 38 yX0_placesOf, Cond.instanceMethod yX0_placesOf, Cond.selects RX0 yX0_placesOf yX0_placesOf, Cond.code yX0_placesOf cX0_placesOf 6 (some .int), Cond.methodLink RX0 42 yJ6_bitCount_0f7a4, Cond.static yJ6_bitCount_0f7a4, Cond.initialized RJ6, Cond.code yJ6_bitCount_0f7a4 cJ6_bitCount_0f7a4 1 (some .int), Cond.constant RJ6 265 (1431655765), Cond.constant RJ6 266 (858993459), Cond.constant RJ6 267 (252645135)]
def wsX6_ban : List Cond := .code yX6_ban cX6_ban 3 (some .int) :: ((wsX6_ban_r1 ++ wsX6_ban_r2) ++ wsX60 ++ wsX10 ++ wsX00 ++ wsX40 ++ (vx_atS RX6 240 "java/lang/IndexOutOfBoundsException" ["java/lang/RuntimeException", "java/lang/Exception"]).filter goodWord)
def wsX6_needCollector : List Cond := .code yX6_needCollector cX6_needCollector 1 none :: ([.classLink RX6 236 "java/lang/IndexOutOfBoundsException", .initialized "java/lang/IndexOutOfBoundsException"] ++ (vx_atS RX6 240 "java/lang/IndexOutOfBoundsException" ["java/lang/RuntimeException", "java/lang/Exception"]).filter goodWord)
def wsX6_print : List Cond := .code yX6_print cX6_print 3 (some .int) :: ([.classLink RX6 90 "java/lang/IllegalStateException", .initialized "java/lang/IllegalStateException", .fieldLink RX6 19 "Cardhouse" "prints" "LCardhouse$Prints;", .fieldLink RX6 87 "Cardhouse$Prints" "count" "I", .fieldLink RX6 10 "Cardhouse" "kinds" "LCardhouse$Kinds;", .fieldLink RX6 97 "Cardhouse$Kinds" "copies" "[I", .methodLink RX6 54 yX6_needKind, .static yX6_needKind, .initialized RX6, .code yX6_needKind cX6_needKind 1 none, .classLink RX6 236 "java/lang/IndexOutOfBoundsException", .initialized "java/lang/IndexOutOfBoundsException", .methodLink RX6 84 yX6_needCollector, .static yX6_needCollector, .code yX6_needCollector cX6_needCollector 1 none, .methodLink RX6 100 yX4_append, .instanceMethod yX4_append, .selects RX4 yX4_append yX4_append, .initialized RX4, .code yX4_append cX4_append 5 (some .int), .fieldLink RX4 21 "Cardhouse$Prints" "count" "I", .fieldLink RX4 9 "Cardhouse$Prints" "kind" "[I", .fieldLink RX4 15 "Cardhouse$Prints" "number" "[I", .fieldLink RX4 18 "Cardhouse$Prints" "collector" "[I"] ++ wsX60 ++ wsX40 ++ wsX10 ++ (vx_atS RX6 94 "java/lang/IllegalStateException" ["java/lang/RuntimeException", "java/lang/Exception"]).filter goodWord ++ (vx_atS RX6 240 "java/lang/IndexOutOfBoundsException" ["java/lang/RuntimeException", "java/lang/Exception"]).filter goodWord)
def wsX6_deck : List Cond := .code yX6_deck cX6_deck 2 (some .int) :: ([.classLink RX6 90 "java/lang/IllegalStateException", .initialized "java/lang/IllegalStateException", .fieldLink RX6 26 "Cardhouse" "decks" "LCardhouse$Decks;", .fieldLink RX6 104 "Cardhouse$Decks" "count" "I", .methodLink RX6 84 yX6_needCollector, .static yX6_needCollector, .initialized RX6, .code yX6_needCollector cX6_needCollector 1 none, .classLink RX6 236 "java/lang/IndexOutOfBoundsException", .initialized "java/lang/IndexOutOfBoundsException", .methodLink RX6 107 yX0_append, .instanceMethod yX0_append, .selects RX0 yX0_append yX0_append, .initialized RX0, .code yX0_append cX0_append 3 (some .int), .fieldLink RX0 30 "Cardhouse$Decks" "count" "I", .fieldLink RX0 9 "Cardhouse$Decks" "owner" "[I"] ++ wsX60 ++ wsX00 ++ (vx_atS RX6 94 "java/lang/IllegalStateException" ["java/lang/RuntimeException", "java/lang/Exception"]).filter goodWord ++ (vx_atS RX6 240 "java/lang/IndexOutOfBoundsException" ["java/lang/RuntimeException", "java/lang/Exception"]).filter goodWord)
def wsX6_needDeck : List Cond := .code yX6_needDeck cX6_needDeck 2 none :: ([.classLink RX6 236 "java/lang/IndexOutOfBoundsException", .initialized "java/lang/IndexOutOfBoundsException", .fieldLink RX6 26 "Cardhouse" "decks" "LCardhouse$Decks;", .fieldLink RX6 104 "Cardhouse$Decks" "count" "I"] ++ wsX60 ++ wsX00 ++ (vx_atS RX6 240 "java/lang/IndexOutOfBoundsException" ["java/lang/RuntimeException", "java/lang/Exception"]).filter goodWord)
def wsX6_needCard : List Cond := .code yX6_needCard cX6_needCard 2 none :: ([.classLink RX6 236 "java/lang/IndexOutOfBoundsException", .initialized "java/lang/IndexOutOfBoundsException", .fieldLink RX6 19 "Cardhouse" "prints" "LCardhouse$Prints;", .fieldLink RX6 87 "Cardhouse$Prints" "count" "I"] ++ wsX60 ++ wsX40 ++ (vx_atS RX6 240 "java/lang/IndexOutOfBoundsException" ["java/lang/RuntimeException", "java/lang/Exception"]).filter goodWord)
def wsX6_add_r1 : List Cond := [Cond.classLink RX6 122 "java/lang/IllegalArgumentException", Cond.initialized "java/lang/IllegalArgumentException", Cond.classLink RX6 90 "java/lang/IllegalStateException", Cond.initialized "java/lang/IllegalStateException", Cond.fieldLink RX6 19 "Cardhouse" "prints" "LCardhouse$Prints;", Cond.fieldLink RX6 116 "Cardhouse$Prints" "collector" "[I", Cond.fieldLink RX6 26 "Cardhouse" "decks" "LCardhouse$Decks;", Cond.fieldLink RX6 119 "Cardhouse$Decks" "owner" "[I", Cond.fieldLink RX6 133 "Cardhouse$Decks" "size" "[I", Cond.methodLink RX6 110 yX6_needDeck, Cond.instanceMethod yX6_needDeck, Cond.selects RX6 yX6_needDeck yX6_needDeck, Cond.initialized RX6, Cond.code yX6_needDeck cX6_needDeck 2 none, Cond.classLink RX6 236 "java/lang/IndexOutOfBoundsException", Cond.initialized "java/lang/IndexOutOfBoundsException", Cond.fieldLink RX6 104 "Cardhouse$Decks" "count" "I", Cond.methodLink RX6 113 yX6_needCard, Cond.instanceMethod yX6_needCard, Cond.selects RX6 yX6_needCard yX6_needCard, Cond.code yX6_needCard cX6_needCard 2 none, Cond.fieldLink RX6 87 "Cardhouse$Prints" "count" "I", Cond.methodLink RX6 127 yX0_holds, Cond.instanceMethod yX0_holds]
def wsX6_add_r2 : List Cond := [Cond.selects RX0 yX0_holds yX0_holds, Cond.initialized RX0, Cond.code yX0_holds cX0_holds 4 (some .boolean), Cond.fieldLink RX0 15 "Cardhouse$Decks" "size" "[I", Cond.fieldLink RX0 20 "Cardhouse$Decks" "cards" "[[I", Cond.methodLink RX6 138 yX0_putBehind, Cond.instanceMethod yX0_putBehind, Cond.selects RX0 yX0_putBehind yX0_putBehind, Cond.code yX0_putBehind cX0_putBehind 3 (some .int)]
def wsX6_add : List Cond := .code yX6_add cX6_add 3 (some .int) :: ((wsX6_add_r1 ++ wsX6_add_r2) ++ wsX60 ++ wsX40 ++ wsX00 ++ (vx_atS RX6 126 "java/lang/IllegalArgumentException" ["java/lang/RuntimeException", "java/lang/Exception"]).filter goodWord ++ (vx_atS RX6 94 "java/lang/IllegalStateException" ["java/lang/RuntimeException", "java/lang/Exception"]).filter goodWord ++ (vx_atS RX6 240 "java/lang/IndexOutOfBoundsException" ["java/lang/RuntimeException", "java/lang/Exception"]).filter goodWord)
def wsX6_needPlace : List Cond := .code yX6_needPlace cX6_needPlace 3 none :: ([.classLink RX6 236 "java/lang/IndexOutOfBoundsException", .initialized "java/lang/IndexOutOfBoundsException", .fieldLink RX6 26 "Cardhouse" "decks" "LCardhouse$Decks;", .fieldLink RX6 133 "Cardhouse$Decks" "size" "[I"] ++ wsX60 ++ wsX00 ++ (vx_atS RX6 240 "java/lang/IndexOutOfBoundsException" ["java/lang/RuntimeException", "java/lang/Exception"]).filter goodWord)
def wsX6_cut : List Cond := .code yX6_cut cX6_cut 3 (some .int) :: ([.fieldLink RX6 26 "Cardhouse" "decks" "LCardhouse$Decks;", .methodLink RX6 110 yX6_needDeck, .instanceMethod yX6_needDeck, .selects RX6 yX6_needDeck yX6_needDeck, .initialized RX6, .code yX6_needDeck cX6_needDeck 2 none, .classLink RX6 236 "java/lang/IndexOutOfBoundsException", .initialized "java/lang/IndexOutOfBoundsException", .fieldLink RX6 104 "Cardhouse$Decks" "count" "I", .methodLink RX6 142 yX6_needPlace, .instanceMethod yX6_needPlace, .selects RX6 yX6_needPlace yX6_needPlace, .code yX6_needPlace cX6_needPlace 3 none, .fieldLink RX6 133 "Cardhouse$Decks" "size" "[I", .methodLink RX6 146 yX0_takeOut, .instanceMethod yX0_takeOut, .selects RX0 yX0_takeOut yX0_takeOut, .initialized RX0, .code yX0_takeOut cX0_takeOut 5 (some .int), .fieldLink RX0 20 "Cardhouse$Decks" "cards" "[[I", .fieldLink RX0 15 "Cardhouse$Decks" "size" "[I"] ++ wsX60 ++ wsX00 ++ (vx_atS RX6 240 "java/lang/IndexOutOfBoundsException" ["java/lang/RuntimeException", "java/lang/Exception"]).filter goodWord)
def wsX6_needSeed : List Cond := .code yX6_needSeed cX6_needSeed 1 none :: ([.classLink RX6 122 "java/lang/IllegalArgumentException", .initialized "java/lang/IllegalArgumentException"] ++ (vx_atS RX6 126 "java/lang/IllegalArgumentException" ["java/lang/RuntimeException", "java/lang/Exception"]).filter goodWord)
def wsX6_needAllowed_r1 : List Cond := [Cond.classLink RX6 90 "java/lang/IllegalStateException", Cond.initialized "java/lang/IllegalStateException", Cond.fieldLink RX6 26 "Cardhouse" "decks" "LCardhouse$Decks;", Cond.fieldLink RX6 10 "Cardhouse" "kinds" "LCardhouse$Kinds;", Cond.fieldLink RX6 19 "Cardhouse" "prints" "LCardhouse$Prints;", Cond.methodLink RX6 215 yX0_fitsFormat, Cond.instanceMethod yX0_fitsFormat, Cond.selects RX0 yX0_fitsFormat yX0_fitsFormat, Cond.initialized RX0, Cond.code yX0_fitsFormat cX0_fitsFormat 7 (some .boolean), Cond.fieldLink RX0 15 "Cardhouse$Decks" "size" "[I", Cond.fieldLink RX0 23 "Cardhouse$Decks" "formatSize" "I", Cond.fieldLink RX0 20 "Cardhouse$Decks" "cards" "[[I", Cond.fieldLink RX0 33 "Cardhouse$Prints" "kind" "[I", Cond.fieldLink RX0 48 "Cardhouse$Prints" "collector" "[I", Cond.fieldLink RX0 9 "Cardhouse$Decks" "owner" "[I", Cond.fieldLink RX0 51 "Cardhouse$Kinds" "isBanned" "[Z", Cond.fieldLink RX0 27 "Cardhouse$Decks" "formatMost" "I", Cond.methodLink RX0 57 yX0_countOf, Cond.instanceMethod yX0_countOf, Cond.selects RX0 yX0_countOf yX0_countOf, Cond.code yX0_countOf cX0_countOf 4 (some .int), Cond.methodLink RX0 38 yX0_placesOf, Cond.instanceMethod yX0_placesOf]
def wsX6_needAllowed_r2 : List Cond := [Cond.selects RX0 yX0_placesOf yX0_placesOf, Cond.code yX0_placesOf cX0_placesOf 6 (some .int), Cond.methodLink RX0 42 yJ6_bitCount_0f7a4, Cond.static yJ6_bitCount_0f7a4, Cond.initialized RJ6, Cond.code yJ6_bitCount_0f7a4 cJ6_bitCount_0f7a4 1 (some .int), Cond.constant RJ6 265 (1431655765), Cond.constant RJ6 266 (858993459), Cond.constant RJ6 267 (252645135)]
def wsX6_needAllowed : List Cond := .code yX6_needAllowed cX6_needAllowed 2 none :: ((wsX6_needAllowed_r1 ++ wsX6_needAllowed_r2) ++ wsX60 ++ wsX00 ++ wsX40 ++ wsX10 ++ (vx_atS RX6 94 "java/lang/IllegalStateException" ["java/lang/RuntimeException", "java/lang/Exception"]).filter goodWord)
def wsX6_playRound : List Cond := .code yX6_playRound cX6_playRound 8 none :: ([.fieldLink RX6 19 "Cardhouse" "prints" "LCardhouse$Prints;", .fieldLink RX6 170 "Cardhouse$Prints" "kind" "[I", .fieldLink RX6 47 "Cardhouse" "firstSide" "LCardhouse$Side;", .fieldLink RX6 259 "Cardhouse$Side" "pile" "LCardhouse$Pile;", .fieldLink RX6 222 "Cardhouse$Pile" "cards" "[I", .fieldLink RX6 51 "Cardhouse" "secondSide" "LCardhouse$Side;", .fieldLink RX6 10 "Cardhouse" "kinds" "LCardhouse$Kinds;", .fieldLink RX6 62 "Cardhouse$Kinds" "power" "[I", .fieldLink RX6 260 "Cardhouse$Side" "ahead" "I", .fieldLink RX6 66 "Cardhouse$Kinds" "trigger" "[I", .methodLink RX6 263 yX5_endRound, .instanceMethod yX5_endRound, .selects RX5 yX5_endRound yX5_endRound, .initialized RX5, .code yX5_endRound cX5_endRound 4 none, .fieldLink RX5 26 "Cardhouse$Side" "ahead" "I", .fieldLink RX5 22 "Cardhouse$Side" "points" "I"] ++ wsX60 ++ wsX40 ++ wsX50 ++ wsX30 ++ wsX10)
def wsX6_giveWins : List Cond := .code yX6_giveWins cX6_giveWins 3 none :: ([.fieldLink RX6 26 "Cardhouse" "decks" "LCardhouse$Decks;", .fieldLink RX6 19 "Cardhouse" "prints" "LCardhouse$Prints;", .fieldLink RX6 10 "Cardhouse" "kinds" "LCardhouse$Kinds;", .fieldLink RX6 212 "Cardhouse$Kinds" "wins" "[I", .methodLink RX6 225 yX0_countOf, .instanceMethod yX0_countOf, .selects RX0 yX0_countOf yX0_countOf, .initialized RX0, .code yX0_countOf cX0_countOf 4 (some .int), .methodLink RX0 38 yX0_placesOf, .instanceMethod yX0_placesOf, .selects RX0 yX0_placesOf yX0_placesOf, .code yX0_placesOf cX0_placesOf 6 (some .int), .fieldLink RX0 15 "Cardhouse$Decks" "size" "[I", .fieldLink RX0 33 "Cardhouse$Prints" "kind" "[I", .fieldLink RX0 20 "Cardhouse$Decks" "cards" "[[I", .methodLink RX0 42 yJ6_bitCount_0f7a4, .static yJ6_bitCount_0f7a4, .initialized RJ6, .code yJ6_bitCount_0f7a4 cJ6_bitCount_0f7a4 1 (some .int), .constant RJ6 265 (1431655765), .constant RJ6 266 (858993459), .constant RJ6 267 (252645135)] ++ wsX60 ++ wsX10 ++ wsX00 ++ wsX40)
def wsX6_play_r1 : List Cond := [Cond.classLink RX6 122 "java/lang/IllegalArgumentException", Cond.initialized "java/lang/IllegalArgumentException", Cond.fieldLink RX6 26 "Cardhouse" "decks" "LCardhouse$Decks;", Cond.fieldLink RX6 119 "Cardhouse$Decks" "owner" "[I", Cond.fieldLink RX6 47 "Cardhouse" "firstSide" "LCardhouse$Side;", Cond.fieldLink RX6 51 "Cardhouse" "secondSide" "LCardhouse$Side;", Cond.fieldLink RX6 69 "Cardhouse$Decks" "formatSize" "I", Cond.fieldLink RX6 164 "Cardhouse$Side" "points" "I", Cond.methodLink RX6 110 yX6_needDeck, Cond.instanceMethod yX6_needDeck, Cond.selects RX6 yX6_needDeck yX6_needDeck, Cond.initialized RX6, Cond.code yX6_needDeck cX6_needDeck 2 none, Cond.classLink RX6 236 "java/lang/IndexOutOfBoundsException", Cond.initialized "java/lang/IndexOutOfBoundsException", Cond.fieldLink RX6 104 "Cardhouse$Decks" "count" "I", Cond.methodLink RX6 149 yX6_needSeed, Cond.static yX6_needSeed, Cond.code yX6_needSeed cX6_needSeed 1 none, Cond.methodLink RX6 154 yX6_needAllowed, Cond.instanceMethod yX6_needAllowed, Cond.selects RX6 yX6_needAllowed yX6_needAllowed, Cond.code yX6_needAllowed cX6_needAllowed 2 none, Cond.classLink RX6 90 "java/lang/IllegalStateException"]
def wsX6_play_r2 : List Cond := [Cond.initialized "java/lang/IllegalStateException", Cond.fieldLink RX6 10 "Cardhouse" "kinds" "LCardhouse$Kinds;", Cond.fieldLink RX6 19 "Cardhouse" "prints" "LCardhouse$Prints;", Cond.methodLink RX6 215 yX0_fitsFormat, Cond.instanceMethod yX0_fitsFormat, Cond.selects RX0 yX0_fitsFormat yX0_fitsFormat, Cond.initialized RX0, Cond.code yX0_fitsFormat cX0_fitsFormat 7 (some .boolean), Cond.fieldLink RX0 15 "Cardhouse$Decks" "size" "[I", Cond.fieldLink RX0 23 "Cardhouse$Decks" "formatSize" "I", Cond.fieldLink RX0 20 "Cardhouse$Decks" "cards" "[[I", Cond.fieldLink RX0 33 "Cardhouse$Prints" "kind" "[I", Cond.fieldLink RX0 48 "Cardhouse$Prints" "collector" "[I", Cond.fieldLink RX0 9 "Cardhouse$Decks" "owner" "[I", Cond.fieldLink RX0 51 "Cardhouse$Kinds" "isBanned" "[Z", Cond.fieldLink RX0 27 "Cardhouse$Decks" "formatMost" "I", Cond.methodLink RX0 57 yX0_countOf, Cond.instanceMethod yX0_countOf, Cond.selects RX0 yX0_countOf yX0_countOf, Cond.code yX0_countOf cX0_countOf 4 (some .int), Cond.methodLink RX0 38 yX0_placesOf, Cond.instanceMethod yX0_placesOf, Cond.selects RX0 yX0_placesOf yX0_placesOf, Cond.code yX0_placesOf cX0_placesOf 6 (some .int)]
def wsX6_play_r3 : List Cond := [Cond.methodLink RX0 42 yJ6_bitCount_0f7a4, Cond.static yJ6_bitCount_0f7a4, Cond.initialized RJ6, Cond.code yJ6_bitCount_0f7a4 cJ6_bitCount_0f7a4 1 (some .int), Cond.constant RJ6 265 (1431655765), Cond.constant RJ6 266 (858993459), Cond.constant RJ6 267 (252645135), Cond.methodLink RX6 157 yX5_start, Cond.instanceMethod yX5_start, Cond.selects RX5 yX5_start yX5_start, Cond.initialized RX5, Cond.code yX5_start cX5_start 4 none, Cond.fieldLink RX5 12 "Cardhouse$Side" "pile" "LCardhouse$Pile;", Cond.fieldLink RX5 22 "Cardhouse$Side" "points" "I", Cond.fieldLink RX5 26 "Cardhouse$Side" "ahead" "I", Cond.methodLink RX5 18 yX3_shuffle, Cond.instanceMethod yX3_shuffle, Cond.selects RX3 yX3_shuffle yX3_shuffle, Cond.initialized RX3, Cond.code yX3_shuffle cX3_shuffle 10 none, Cond.fieldLink RX3 15 "Cardhouse$Decks" "size" "[I", Cond.fieldLink RX3 9 "Cardhouse$Pile" "cards" "[I", Cond.fieldLink RX3 20 "Cardhouse$Decks" "cards" "[[I", Cond.constantLong RX3 23 (1103515245)]
def wsX6_play_r4 : List Cond := [Cond.constantLong RX3 25 (12345), Cond.constantLong RX3 27 (2147483648), Cond.constantLong RX3 29 (65536), Cond.methodLink RX6 161 yX6_playRound, Cond.instanceMethod yX6_playRound, Cond.selects RX6 yX6_playRound yX6_playRound, Cond.code yX6_playRound cX6_playRound 8 none, Cond.fieldLink RX6 170 "Cardhouse$Prints" "kind" "[I", Cond.fieldLink RX6 259 "Cardhouse$Side" "pile" "LCardhouse$Pile;", Cond.fieldLink RX6 222 "Cardhouse$Pile" "cards" "[I", Cond.fieldLink RX6 62 "Cardhouse$Kinds" "power" "[I", Cond.fieldLink RX6 260 "Cardhouse$Side" "ahead" "I", Cond.fieldLink RX6 66 "Cardhouse$Kinds" "trigger" "[I", Cond.methodLink RX6 263 yX5_endRound, Cond.instanceMethod yX5_endRound, Cond.selects RX5 yX5_endRound yX5_endRound, Cond.code yX5_endRound cX5_endRound 4 none, Cond.methodLink RX6 167 yX6_giveWins, Cond.instanceMethod yX6_giveWins, Cond.selects RX6 yX6_giveWins yX6_giveWins, Cond.code yX6_giveWins cX6_giveWins 3 none, Cond.fieldLink RX6 212 "Cardhouse$Kinds" "wins" "[I", Cond.methodLink RX6 225 yX0_countOf]
def wsX6_play : List Cond := .code yX6_play cX6_play 6 (some .int) :: ((wsX6_play_r1 ++ (wsX6_play_r2 ++ (wsX6_play_r3 ++ wsX6_play_r4))) ++ wsX60 ++ wsX00 ++ wsX50 ++ wsX40 ++ wsX10 ++ wsX30 ++ (vx_atS RX6 126 "java/lang/IllegalArgumentException" ["java/lang/RuntimeException", "java/lang/Exception"]).filter goodWord ++ (vx_atS RX6 240 "java/lang/IndexOutOfBoundsException" ["java/lang/RuntimeException", "java/lang/Exception"]).filter goodWord ++ (vx_atS RX6 94 "java/lang/IllegalStateException" ["java/lang/RuntimeException", "java/lang/Exception"]).filter goodWord)
def wsX6_offer_r1 : List Cond := [Cond.classLink RX6 122 "java/lang/IllegalArgumentException", Cond.initialized "java/lang/IllegalArgumentException", Cond.classLink RX6 90 "java/lang/IllegalStateException", Cond.initialized "java/lang/IllegalStateException", Cond.fieldLink RX6 19 "Cardhouse" "prints" "LCardhouse$Prints;", Cond.fieldLink RX6 170 "Cardhouse$Prints" "kind" "[I", Cond.fieldLink RX6 33 "Cardhouse" "offers" "LCardhouse$Offers;", Cond.fieldLink RX6 181 "Cardhouse$Offers" "count" "I", Cond.methodLink RX6 113 yX6_needCard, Cond.instanceMethod yX6_needCard, Cond.selects RX6 yX6_needCard yX6_needCard, Cond.initialized RX6, Cond.code yX6_needCard cX6_needCard 2 none, Cond.classLink RX6 236 "java/lang/IndexOutOfBoundsException", Cond.initialized "java/lang/IndexOutOfBoundsException", Cond.fieldLink RX6 87 "Cardhouse$Prints" "count" "I", Cond.methodLink RX6 54 yX6_needKind, Cond.static yX6_needKind, Cond.code yX6_needKind cX6_needKind 1 none, Cond.methodLink RX6 175 yX2_hasLive, Cond.instanceMethod yX2_hasLive, Cond.selects RX2 yX2_hasLive yX2_hasLive, Cond.initialized RX2, Cond.code yX2_hasLive cX2_hasLive 3 (some .boolean)]
def wsX6_offer_r2 : List Cond := [Cond.fieldLink RX2 31 "Cardhouse$Offers" "count" "I", Cond.fieldLink RX2 24 "Cardhouse$Offers" "isLive" "[Z", Cond.fieldLink RX2 9 "Cardhouse$Offers" "card" "[I", Cond.methodLink RX6 184 yX2_append, Cond.instanceMethod yX2_append, Cond.selects RX2 yX2_append yX2_append, Cond.code yX2_append cX2_append 5 (some .int), Cond.fieldLink RX2 15 "Cardhouse$Offers" "given" "[I", Cond.fieldLink RX2 35 "Cardhouse$Prints" "kind" "[I", Cond.fieldLink RX2 18 "Cardhouse$Offers" "wanted" "[I", Cond.fieldLink RX2 21 "Cardhouse$Offers" "collector" "[I", Cond.fieldLink RX2 40 "Cardhouse$Prints" "collector" "[I"]
def wsX6_offer : List Cond := .code yX6_offer cX6_offer 3 (some .int) :: ((wsX6_offer_r1 ++ wsX6_offer_r2) ++ wsX60 ++ wsX40 ++ wsX20 ++ (vx_atS RX6 126 "java/lang/IllegalArgumentException" ["java/lang/RuntimeException", "java/lang/Exception"]).filter goodWord ++ (vx_atS RX6 94 "java/lang/IllegalStateException" ["java/lang/RuntimeException", "java/lang/Exception"]).filter goodWord ++ (vx_atS RX6 240 "java/lang/IndexOutOfBoundsException" ["java/lang/RuntimeException", "java/lang/Exception"]).filter goodWord)
def wsX6_needOffer : List Cond := .code yX6_needOffer cX6_needOffer 2 none :: ([.classLink RX6 236 "java/lang/IndexOutOfBoundsException", .initialized "java/lang/IndexOutOfBoundsException", .fieldLink RX6 33 "Cardhouse" "offers" "LCardhouse$Offers;", .fieldLink RX6 181 "Cardhouse$Offers" "count" "I"] ++ wsX60 ++ wsX20 ++ (vx_atS RX6 240 "java/lang/IndexOutOfBoundsException" ["java/lang/RuntimeException", "java/lang/Exception"]).filter goodWord)
def wsX6_takeBack : List Cond := .code yX6_takeBack cX6_takeBack 2 (some .int) :: ([.classLink RX6 90 "java/lang/IllegalStateException", .initialized "java/lang/IllegalStateException", .fieldLink RX6 33 "Cardhouse" "offers" "LCardhouse$Offers;", .fieldLink RX6 190 "Cardhouse$Offers" "isLive" "[Z", .fieldLink RX6 195 "Cardhouse$Offers" "card" "[I", .methodLink RX6 187 yX6_needOffer, .instanceMethod yX6_needOffer, .selects RX6 yX6_needOffer yX6_needOffer, .initialized RX6, .code yX6_needOffer cX6_needOffer 2 none, .classLink RX6 236 "java/lang/IndexOutOfBoundsException", .initialized "java/lang/IndexOutOfBoundsException", .fieldLink RX6 181 "Cardhouse$Offers" "count" "I"] ++ wsX60 ++ wsX20 ++ (vx_atS RX6 94 "java/lang/IllegalStateException" ["java/lang/RuntimeException", "java/lang/Exception"]).filter goodWord ++ (vx_atS RX6 240 "java/lang/IndexOutOfBoundsException" ["java/lang/RuntimeException", "java/lang/Exception"]).filter goodWord)
def wsX6_trade_r1 : List Cond := [Cond.fieldLink RX6 33 "Cardhouse" "offers" "LCardhouse$Offers;", Cond.fieldLink RX6 202 "Cardhouse$Offers" "ring" "[I", Cond.fieldLink RX6 19 "Cardhouse" "prints" "LCardhouse$Prints;", Cond.fieldLink RX6 116 "Cardhouse$Prints" "collector" "[I", Cond.fieldLink RX6 195 "Cardhouse$Offers" "card" "[I", Cond.fieldLink RX6 205 "Cardhouse$Offers" "collector" "[I", Cond.fieldLink RX6 190 "Cardhouse$Offers" "isLive" "[Z", Cond.methodLink RX6 198 yX2_findRing, Cond.instanceMethod yX2_findRing, Cond.selects RX2 yX2_findRing yX2_findRing, Cond.initialized RX2, Cond.code yX2_findRing cX2_findRing 3 (some .int), Cond.fieldLink RX2 31 "Cardhouse$Offers" "count" "I", Cond.fieldLink RX2 28 "Cardhouse$Offers" "ring" "[I", Cond.fieldLink RX2 24 "Cardhouse$Offers" "isLive" "[Z", Cond.methodLink RX2 41 yX2_closes, Cond.static yX2_closes, Cond.code yX2_closes cX2_closes 4 (some .boolean), Cond.methodLink RX2 45 yX2_canGive, Cond.instanceMethod yX2_canGive, Cond.selects RX2 yX2_canGive yX2_canGive, Cond.code yX2_canGive cX2_canGive 3 (some .boolean), Cond.fieldLink RX2 15 "Cardhouse$Offers" "given" "[I", Cond.fieldLink RX2 18 "Cardhouse$Offers" "wanted" "[I"]
def wsX6_trade_r2 : List Cond := [Cond.methodLink RX2 49 yX2_canFollow, Cond.instanceMethod yX2_canFollow, Cond.selects RX2 yX2_canFollow yX2_canFollow, Cond.code yX2_canFollow cX2_canFollow 4 (some .boolean), Cond.fieldLink RX2 21 "Cardhouse$Offers" "collector" "[I"]
def wsX6_trade : List Cond := .code yX6_trade cX6_trade 5 (some .int) :: ((wsX6_trade_r1 ++ wsX6_trade_r2) ++ wsX60 ++ wsX20 ++ wsX40)
def wsX6_cards : List Cond := .code yX6_cards cX6_cards 1 (some .int) :: ([.fieldLink RX6 19 "Cardhouse" "prints" "LCardhouse$Prints;", .fieldLink RX6 87 "Cardhouse$Prints" "count" "I"] ++ wsX60 ++ wsX40)
def wsX6_printOf : List Cond := .code yX6_printOf cX6_printOf 2 (some .int) :: ([.fieldLink RX6 19 "Cardhouse" "prints" "LCardhouse$Prints;", .fieldLink RX6 170 "Cardhouse$Prints" "kind" "[I", .fieldLink RX6 206 "Cardhouse$Prints" "number" "[I", .methodLink RX6 113 yX6_needCard, .instanceMethod yX6_needCard, .selects RX6 yX6_needCard yX6_needCard, .initialized RX6, .code yX6_needCard cX6_needCard 2 none, .classLink RX6 236 "java/lang/IndexOutOfBoundsException", .initialized "java/lang/IndexOutOfBoundsException", .fieldLink RX6 87 "Cardhouse$Prints" "count" "I"] ++ wsX60 ++ wsX40 ++ (vx_atS RX6 240 "java/lang/IndexOutOfBoundsException" ["java/lang/RuntimeException", "java/lang/Exception"]).filter goodWord)
def wsX6_collectorOf : List Cond := .code yX6_collectorOf cX6_collectorOf 2 (some .int) :: ([.fieldLink RX6 19 "Cardhouse" "prints" "LCardhouse$Prints;", .fieldLink RX6 116 "Cardhouse$Prints" "collector" "[I", .methodLink RX6 113 yX6_needCard, .instanceMethod yX6_needCard, .selects RX6 yX6_needCard yX6_needCard, .initialized RX6, .code yX6_needCard cX6_needCard 2 none, .classLink RX6 236 "java/lang/IndexOutOfBoundsException", .initialized "java/lang/IndexOutOfBoundsException", .fieldLink RX6 87 "Cardhouse$Prints" "count" "I"] ++ wsX60 ++ wsX40 ++ (vx_atS RX6 240 "java/lang/IndexOutOfBoundsException" ["java/lang/RuntimeException", "java/lang/Exception"]).filter goodWord)
def wsX6_has : List Cond := .code yX6_has cX6_has 3 (some .int) :: ([.fieldLink RX6 19 "Cardhouse" "prints" "LCardhouse$Prints;", .methodLink RX6 84 yX6_needCollector, .static yX6_needCollector, .initialized RX6, .code yX6_needCollector cX6_needCollector 1 none, .classLink RX6 236 "java/lang/IndexOutOfBoundsException", .initialized "java/lang/IndexOutOfBoundsException", .methodLink RX6 54 yX6_needKind, .static yX6_needKind, .code yX6_needKind cX6_needKind 1 none, .methodLink RX6 209 yX4_countOf, .instanceMethod yX4_countOf, .selects RX4 yX4_countOf yX4_countOf, .initialized RX4, .code yX4_countOf cX4_countOf 5 (some .int), .fieldLink RX4 21 "Cardhouse$Prints" "count" "I", .fieldLink RX4 18 "Cardhouse$Prints" "collector" "[I", .fieldLink RX4 9 "Cardhouse$Prints" "kind" "[I"] ++ wsX60 ++ wsX40 ++ (vx_atS RX6 240 "java/lang/IndexOutOfBoundsException" ["java/lang/RuntimeException", "java/lang/Exception"]).filter goodWord)
def wsX6_wins : List Cond := .code yX6_wins cX6_wins 2 (some .int) :: ([.fieldLink RX6 10 "Cardhouse" "kinds" "LCardhouse$Kinds;", .fieldLink RX6 212 "Cardhouse$Kinds" "wins" "[I", .methodLink RX6 54 yX6_needKind, .static yX6_needKind, .initialized RX6, .code yX6_needKind cX6_needKind 1 none, .classLink RX6 236 "java/lang/IndexOutOfBoundsException", .initialized "java/lang/IndexOutOfBoundsException"] ++ wsX60 ++ wsX10 ++ (vx_atS RX6 240 "java/lang/IndexOutOfBoundsException" ["java/lang/RuntimeException", "java/lang/Exception"]).filter goodWord)
def wsX6_price : List Cond := .code yX6_price cX6_price 3 (some .int) :: ([.fieldLink RX6 10 "Cardhouse" "kinds" "LCardhouse$Kinds;", .fieldLink RX6 97 "Cardhouse$Kinds" "copies" "[I", .fieldLink RX6 212 "Cardhouse$Kinds" "wins" "[I", .methodLink RX6 54 yX6_needKind, .static yX6_needKind, .initialized RX6, .code yX6_needKind cX6_needKind 1 none, .classLink RX6 236 "java/lang/IndexOutOfBoundsException", .initialized "java/lang/IndexOutOfBoundsException"] ++ wsX60 ++ wsX10 ++ (vx_atS RX6 240 "java/lang/IndexOutOfBoundsException" ["java/lang/RuntimeException", "java/lang/Exception"]).filter goodWord)
def wsX6_isAllowed_r1 : List Cond := [Cond.fieldLink RX6 26 "Cardhouse" "decks" "LCardhouse$Decks;", Cond.fieldLink RX6 10 "Cardhouse" "kinds" "LCardhouse$Kinds;", Cond.fieldLink RX6 19 "Cardhouse" "prints" "LCardhouse$Prints;", Cond.methodLink RX6 110 yX6_needDeck, Cond.instanceMethod yX6_needDeck, Cond.selects RX6 yX6_needDeck yX6_needDeck, Cond.initialized RX6, Cond.code yX6_needDeck cX6_needDeck 2 none, Cond.classLink RX6 236 "java/lang/IndexOutOfBoundsException", Cond.initialized "java/lang/IndexOutOfBoundsException", Cond.fieldLink RX6 104 "Cardhouse$Decks" "count" "I", Cond.methodLink RX6 215 yX0_fitsFormat, Cond.instanceMethod yX0_fitsFormat, Cond.selects RX0 yX0_fitsFormat yX0_fitsFormat, Cond.initialized RX0, Cond.code yX0_fitsFormat cX0_fitsFormat 7 (some .boolean), Cond.fieldLink RX0 15 "Cardhouse$Decks" "size" "[I", Cond.fieldLink RX0 23 "Cardhouse$Decks" "formatSize" "I", Cond.fieldLink RX0 20 "Cardhouse$Decks" "cards" "[[I", Cond.fieldLink RX0 33 "Cardhouse$Prints" "kind" "[I", Cond.fieldLink RX0 48 "Cardhouse$Prints" "collector" "[I", Cond.fieldLink RX0 9 "Cardhouse$Decks" "owner" "[I", Cond.fieldLink RX0 51 "Cardhouse$Kinds" "isBanned" "[Z", Cond.fieldLink RX0 27 "Cardhouse$Decks" "formatMost" "I"]
def wsX6_isAllowed_r2 : List Cond := [Cond.methodLink RX0 57 yX0_countOf, Cond.instanceMethod yX0_countOf, Cond.selects RX0 yX0_countOf yX0_countOf, Cond.code yX0_countOf cX0_countOf 4 (some .int), Cond.methodLink RX0 38 yX0_placesOf, Cond.instanceMethod yX0_placesOf, Cond.selects RX0 yX0_placesOf yX0_placesOf, Cond.code yX0_placesOf cX0_placesOf 6 (some .int), Cond.methodLink RX0 42 yJ6_bitCount_0f7a4, Cond.static yJ6_bitCount_0f7a4, Cond.initialized RJ6, Cond.code yJ6_bitCount_0f7a4 cJ6_bitCount_0f7a4 1 (some .int), Cond.constant RJ6 265 (1431655765), Cond.constant RJ6 266 (858993459), Cond.constant RJ6 267 (252645135)]
def wsX6_isAllowed : List Cond := .code yX6_isAllowed cX6_isAllowed 2 (some .boolean) :: ((wsX6_isAllowed_r1 ++ wsX6_isAllowed_r2) ++ wsX60 ++ wsX00 ++ wsX40 ++ wsX10 ++ (vx_atS RX6 240 "java/lang/IndexOutOfBoundsException" ["java/lang/RuntimeException", "java/lang/Exception"]).filter goodWord)
def wsX6_shuffled_r1 : List Cond := [Cond.fieldLink RX6 40 "Cardhouse" "pile" "LCardhouse$Pile;", Cond.fieldLink RX6 26 "Cardhouse" "decks" "LCardhouse$Decks;", Cond.fieldLink RX6 222 "Cardhouse$Pile" "cards" "[I", Cond.methodLink RX6 110 yX6_needDeck, Cond.instanceMethod yX6_needDeck, Cond.selects RX6 yX6_needDeck yX6_needDeck, Cond.initialized RX6, Cond.code yX6_needDeck cX6_needDeck 2 none, Cond.classLink RX6 236 "java/lang/IndexOutOfBoundsException", Cond.initialized "java/lang/IndexOutOfBoundsException", Cond.fieldLink RX6 104 "Cardhouse$Decks" "count" "I", Cond.methodLink RX6 142 yX6_needPlace, Cond.instanceMethod yX6_needPlace, Cond.selects RX6 yX6_needPlace yX6_needPlace, Cond.code yX6_needPlace cX6_needPlace 3 none, Cond.fieldLink RX6 133 "Cardhouse$Decks" "size" "[I", Cond.methodLink RX6 149 yX6_needSeed, Cond.static yX6_needSeed, Cond.code yX6_needSeed cX6_needSeed 1 none, Cond.classLink RX6 122 "java/lang/IllegalArgumentException", Cond.initialized "java/lang/IllegalArgumentException", Cond.methodLink RX6 219 yX3_shuffle, Cond.instanceMethod yX3_shuffle, Cond.selects RX3 yX3_shuffle yX3_shuffle]
def wsX6_shuffled_r2 : List Cond := [Cond.initialized RX3, Cond.code yX3_shuffle cX3_shuffle 10 none, Cond.fieldLink RX3 15 "Cardhouse$Decks" "size" "[I", Cond.fieldLink RX3 9 "Cardhouse$Pile" "cards" "[I", Cond.fieldLink RX3 20 "Cardhouse$Decks" "cards" "[[I", Cond.constantLong RX3 23 (1103515245), Cond.constantLong RX3 25 (12345), Cond.constantLong RX3 27 (2147483648), Cond.constantLong RX3 29 (65536)]
def wsX6_shuffled : List Cond := .code yX6_shuffled cX6_shuffled 4 (some .int) :: ((wsX6_shuffled_r1 ++ wsX6_shuffled_r2) ++ wsX60 ++ wsX30 ++ wsX00 ++ (vx_atS RX6 240 "java/lang/IndexOutOfBoundsException" ["java/lang/RuntimeException", "java/lang/Exception"]).filter goodWord ++ (vx_atS RX6 126 "java/lang/IllegalArgumentException" ["java/lang/RuntimeException", "java/lang/Exception"]).filter goodWord)
def wsX6_orders_r1 : List Cond := [Cond.fieldLink RX6 26 "Cardhouse" "decks" "LCardhouse$Decks;", Cond.fieldLink RX6 133 "Cardhouse$Decks" "size" "[I", Cond.fieldLink RX6 19 "Cardhouse" "prints" "LCardhouse$Prints;", Cond.methodLink RX6 110 yX6_needDeck, Cond.instanceMethod yX6_needDeck, Cond.selects RX6 yX6_needDeck yX6_needDeck, Cond.initialized RX6, Cond.code yX6_needDeck cX6_needDeck 2 none, Cond.classLink RX6 236 "java/lang/IndexOutOfBoundsException", Cond.initialized "java/lang/IndexOutOfBoundsException", Cond.fieldLink RX6 104 "Cardhouse$Decks" "count" "I", Cond.methodLink RX6 54 yX6_needKind, Cond.static yX6_needKind, Cond.code yX6_needKind cX6_needKind 1 none, Cond.methodLink RX6 58 yX6_needRange, Cond.static yX6_needRange, Cond.code yX6_needRange cX6_needRange 3 none, Cond.classLink RX6 122 "java/lang/IllegalArgumentException", Cond.initialized "java/lang/IllegalArgumentException", Cond.methodLink RX6 225 yX0_countOf, Cond.instanceMethod yX0_countOf, Cond.selects RX0 yX0_countOf yX0_countOf, Cond.initialized RX0, Cond.code yX0_countOf cX0_countOf 4 (some .int)]
def wsX6_orders_r2 : List Cond := [Cond.methodLink RX0 38 yX0_placesOf, Cond.instanceMethod yX0_placesOf, Cond.selects RX0 yX0_placesOf yX0_placesOf, Cond.code yX0_placesOf cX0_placesOf 6 (some .int), Cond.fieldLink RX0 15 "Cardhouse$Decks" "size" "[I", Cond.fieldLink RX0 33 "Cardhouse$Prints" "kind" "[I", Cond.fieldLink RX0 20 "Cardhouse$Decks" "cards" "[[I", Cond.methodLink RX0 42 yJ6_bitCount_0f7a4, Cond.static yJ6_bitCount_0f7a4, Cond.initialized RJ6, Cond.code yJ6_bitCount_0f7a4 cJ6_bitCount_0f7a4 1 (some .int), Cond.constant RJ6 265 (1431655765), Cond.constant RJ6 266 (858993459), Cond.constant RJ6 267 (252645135)]
def wsX6_orders : List Cond := .code yX6_orders cX6_orders 9 (some .int) :: ((wsX6_orders_r1 ++ wsX6_orders_r2) ++ wsX60 ++ wsX00 ++ wsX40 ++ (vx_atS RX6 240 "java/lang/IndexOutOfBoundsException" ["java/lang/RuntimeException", "java/lang/Exception"]).filter goodWord ++ (vx_atS RX6 126 "java/lang/IllegalArgumentException" ["java/lang/RuntimeException", "java/lang/Exception"]).filter goodWord)
def wsX6_countOrders : List Cond := .code yX6_countOrders cX6_countOrders 10 (some .int) :: ([.methodLink RX6 232 yX6_countOrders, .static yX6_countOrders, .initialized RX6])
def wsX6_ordersByAll_r1 : List Cond := [Cond.classLink RX6 90 "java/lang/IllegalStateException", Cond.initialized "java/lang/IllegalStateException", Cond.fieldLink RX6 26 "Cardhouse" "decks" "LCardhouse$Decks;", Cond.fieldLink RX6 133 "Cardhouse$Decks" "size" "[I", Cond.fieldLink RX6 19 "Cardhouse" "prints" "LCardhouse$Prints;", Cond.methodLink RX6 110 yX6_needDeck, Cond.instanceMethod yX6_needDeck, Cond.selects RX6 yX6_needDeck yX6_needDeck, Cond.initialized RX6, Cond.code yX6_needDeck cX6_needDeck 2 none, Cond.classLink RX6 236 "java/lang/IndexOutOfBoundsException", Cond.initialized "java/lang/IndexOutOfBoundsException", Cond.fieldLink RX6 104 "Cardhouse$Decks" "count" "I", Cond.methodLink RX6 54 yX6_needKind, Cond.static yX6_needKind, Cond.code yX6_needKind cX6_needKind 1 none, Cond.methodLink RX6 58 yX6_needRange, Cond.static yX6_needRange, Cond.code yX6_needRange cX6_needRange 3 none, Cond.classLink RX6 122 "java/lang/IllegalArgumentException", Cond.initialized "java/lang/IllegalArgumentException", Cond.methodLink RX6 229 yX0_placesOf, Cond.instanceMethod yX0_placesOf, Cond.selects RX0 yX0_placesOf yX0_placesOf]
def wsX6_ordersByAll_r2 : List Cond := [Cond.initialized RX0, Cond.code yX0_placesOf cX0_placesOf 6 (some .int), Cond.fieldLink RX0 15 "Cardhouse$Decks" "size" "[I", Cond.fieldLink RX0 33 "Cardhouse$Prints" "kind" "[I", Cond.fieldLink RX0 20 "Cardhouse$Decks" "cards" "[[I", Cond.methodLink RX6 232 yX6_countOrders, Cond.static yX6_countOrders, Cond.code yX6_countOrders cX6_countOrders 10 (some .int)]
def wsX6_ordersByAll : List Cond := .code yX6_ordersByAll cX6_ordersByAll 6 (some .int) :: ((wsX6_ordersByAll_r1 ++ wsX6_ordersByAll_r2) ++ wsX60 ++ wsX00 ++ wsX40 ++ (vx_atS RX6 94 "java/lang/IllegalStateException" ["java/lang/RuntimeException", "java/lang/Exception"]).filter goodWord ++ (vx_atS RX6 240 "java/lang/IndexOutOfBoundsException" ["java/lang/RuntimeException", "java/lang/Exception"]).filter goodWord ++ (vx_atS RX6 126 "java/lang/IllegalArgumentException" ["java/lang/RuntimeException", "java/lang/Exception"]).filter goodWord)
def wsX6_isOpen : List Cond := .code yX6_isOpen cX6_isOpen 2 (some .boolean) :: ([.fieldLink RX6 33 "Cardhouse" "offers" "LCardhouse$Offers;", .fieldLink RX6 190 "Cardhouse$Offers" "isLive" "[Z", .methodLink RX6 187 yX6_needOffer, .instanceMethod yX6_needOffer, .selects RX6 yX6_needOffer yX6_needOffer, .initialized RX6, .code yX6_needOffer cX6_needOffer 2 none, .classLink RX6 236 "java/lang/IndexOutOfBoundsException", .initialized "java/lang/IndexOutOfBoundsException", .fieldLink RX6 181 "Cardhouse$Offers" "count" "I"] ++ wsX60 ++ wsX20 ++ (vx_atS RX6 240 "java/lang/IndexOutOfBoundsException" ["java/lang/RuntimeException", "java/lang/Exception"]).filter goodWord)
def wsX6_ring_r1 : List Cond := [Cond.classLink RX6 236 "java/lang/IndexOutOfBoundsException", Cond.initialized "java/lang/IndexOutOfBoundsException", Cond.fieldLink RX6 33 "Cardhouse" "offers" "LCardhouse$Offers;", Cond.fieldLink RX6 202 "Cardhouse$Offers" "ring" "[I", Cond.methodLink RX6 198 yX2_findRing, Cond.instanceMethod yX2_findRing, Cond.selects RX2 yX2_findRing yX2_findRing, Cond.initialized RX2, Cond.code yX2_findRing cX2_findRing 3 (some .int), Cond.fieldLink RX2 31 "Cardhouse$Offers" "count" "I", Cond.fieldLink RX2 28 "Cardhouse$Offers" "ring" "[I", Cond.fieldLink RX2 24 "Cardhouse$Offers" "isLive" "[Z", Cond.methodLink RX2 41 yX2_closes, Cond.static yX2_closes, Cond.code yX2_closes cX2_closes 4 (some .boolean), Cond.methodLink RX2 45 yX2_canGive, Cond.instanceMethod yX2_canGive, Cond.selects RX2 yX2_canGive yX2_canGive, Cond.code yX2_canGive cX2_canGive 3 (some .boolean), Cond.fieldLink RX2 15 "Cardhouse$Offers" "given" "[I", Cond.fieldLink RX2 18 "Cardhouse$Offers" "wanted" "[I", Cond.methodLink RX2 49 yX2_canFollow, Cond.instanceMethod yX2_canFollow, Cond.selects RX2 yX2_canFollow yX2_canFollow]
def wsX6_ring_r2 : List Cond := [Cond.code yX2_canFollow cX2_canFollow 4 (some .boolean), Cond.fieldLink RX2 21 "Cardhouse$Offers" "collector" "[I"]
def wsX6_ring : List Cond := .code yX6_ring cX6_ring 2 (some .int) :: ((wsX6_ring_r1 ++ wsX6_ring_r2) ++ wsX60 ++ wsX20 ++ (vx_atS RX6 240 "java/lang/IndexOutOfBoundsException" ["java/lang/RuntimeException", "java/lang/Exception"]).filter goodWord)
def wsX7_init : List Cond := .code yX7_init cX7_init 1 none :: ([.methodLink RX7 1 objectInit, .instanceMethod objectInit, .code objectInit ⟨#[0xb1]⟩ 1 none, .arrayClass .int, .fieldLink RX7 7 "CardhouseModel" "power" "[I", .fieldLink RX7 13 "CardhouseModel" "trigger" "[I", .arrayClass .boolean, .fieldLink RX7 16 "CardhouseModel" "banned" "[Z", .fieldLink RX7 20 "CardhouseModel" "printed" "[I", .fieldLink RX7 23 "CardhouseModel" "wins" "[I", .fieldLink RX7 26 "CardhouseModel" "size" "I", .fieldLink RX7 30 "CardhouseModel" "most" "I", .fieldLink RX7 33 "CardhouseModel" "kind" "[I", .fieldLink RX7 36 "CardhouseModel" "number" "[I", .fieldLink RX7 39 "CardhouseModel" "collector" "[I", .fieldLink RX7 42 "CardhouseModel" "owner" "[I", .fieldLink RX7 45 "CardhouseModel" "many" "[I", .fieldLink RX7 48 "CardhouseModel" "card" "[I", .fieldLink RX7 51 "CardhouseModel" "row" "[I", .fieldLink RX7 54 "CardhouseModel" "offered" "[I", .fieldLink RX7 57 "CardhouseModel" "by" "[I", .fieldLink RX7 60 "CardhouseModel" "wanted" "[I", .fieldLink RX7 63 "CardhouseModel" "closed" "[Z", .fieldLink RX7 66 "CardhouseModel" "ring" "[I"] ++ wsX70)
def wsX7_thrown : List Cond := .code yX7_thrown cX7_thrown 1 (some .int) :: ([.fieldLink RX7 69 "CardhouseModel" "thrown" "I"] ++ wsX70)
def wsX7_in : List Cond := .code yX7_in cX7_in 3 (some .boolean) :: ([])
def wsX7_goes : List Cond := .code yX7_goes cX7_goes 4 (some .boolean) :: ([.fieldLink RX7 69 "CardhouseModel" "thrown" "I"] ++ wsX70)
def wsX7_told : List Cond := .code yX7_told cX7_told 2 (some .int) :: ([.fieldLink RX7 69 "CardhouseModel" "thrown" "I"] ++ wsX70)
def wsX7_isKind : List Cond := .code yX7_isKind cX7_isKind 1 (some .boolean) :: ([.methodLink RX7 72 yX7_in, .static yX7_in, .initialized RX7, .code yX7_in cX7_in 3 (some .boolean)])
def wsX7_isCollector : List Cond := .code yX7_isCollector cX7_isCollector 1 (some .boolean) :: ([.methodLink RX7 72 yX7_in, .static yX7_in, .initialized RX7, .code yX7_in cX7_in 3 (some .boolean)])
def wsX7_isCard : List Cond := .code yX7_isCard cX7_isCard 2 (some .boolean) :: ([.fieldLink RX7 76 "CardhouseModel" "cards" "I", .methodLink RX7 72 yX7_in, .static yX7_in, .initialized RX7, .code yX7_in cX7_in 3 (some .boolean)] ++ wsX70)
def wsX7_isDeck : List Cond := .code yX7_isDeck cX7_isDeck 2 (some .boolean) :: ([.fieldLink RX7 79 "CardhouseModel" "decks" "I", .methodLink RX7 72 yX7_in, .static yX7_in, .initialized RX7, .code yX7_in cX7_in 3 (some .boolean)] ++ wsX70)
def wsX7_isOffer : List Cond := .code yX7_isOffer cX7_isOffer 2 (some .boolean) :: ([.fieldLink RX7 82 "CardhouseModel" "offers" "I", .methodLink RX7 72 yX7_in, .static yX7_in, .initialized RX7, .code yX7_in cX7_in 3 (some .boolean)] ++ wsX70)
def wsX7_setKind : List Cond := .code yX7_setKind cX7_setKind 5 (some .int) :: ([.fieldLink RX7 7 "CardhouseModel" "power" "[I", .fieldLink RX7 13 "CardhouseModel" "trigger" "[I", .methodLink RX7 85 yX7_isKind, .static yX7_isKind, .initialized RX7, .code yX7_isKind cX7_isKind 1 (some .boolean), .methodLink RX7 72 yX7_in, .static yX7_in, .code yX7_in cX7_in 3 (some .boolean), .methodLink RX7 89 yX7_goes, .instanceMethod yX7_goes, .selects RX7 yX7_goes yX7_goes, .code yX7_goes cX7_goes 4 (some .boolean), .fieldLink RX7 69 "CardhouseModel" "thrown" "I"] ++ wsX70)
def wsX7_kindAt : List Cond := .code yX7_kindAt cX7_kindAt 3 (some .int) :: ([.fieldLink RX7 33 "CardhouseModel" "kind" "[I", .fieldLink RX7 48 "CardhouseModel" "card" "[I"] ++ wsX70)
def wsX7_manyOf : List Cond := .code yX7_manyOf cX7_manyOf 5 (some .int) :: ([.fieldLink RX7 45 "CardhouseModel" "many" "[I", .methodLink RX7 93 yX7_kindAt, .instanceMethod yX7_kindAt, .selects RX7 yX7_kindAt yX7_kindAt, .initialized RX7, .code yX7_kindAt cX7_kindAt 3 (some .int), .fieldLink RX7 33 "CardhouseModel" "kind" "[I", .fieldLink RX7 48 "CardhouseModel" "card" "[I"] ++ wsX70)
def wsX7_allows : List Cond := .code yX7_allows cX7_allows 5 (some .boolean) :: ([.fieldLink RX7 45 "CardhouseModel" "many" "[I", .fieldLink RX7 26 "CardhouseModel" "size" "I", .fieldLink RX7 39 "CardhouseModel" "collector" "[I", .fieldLink RX7 48 "CardhouseModel" "card" "[I", .fieldLink RX7 42 "CardhouseModel" "owner" "[I", .fieldLink RX7 16 "CardhouseModel" "banned" "[Z", .fieldLink RX7 30 "CardhouseModel" "most" "I", .methodLink RX7 93 yX7_kindAt, .instanceMethod yX7_kindAt, .selects RX7 yX7_kindAt yX7_kindAt, .initialized RX7, .code yX7_kindAt cX7_kindAt 3 (some .int), .fieldLink RX7 33 "CardhouseModel" "kind" "[I", .methodLink RX7 97 yX7_manyOf, .instanceMethod yX7_manyOf, .selects RX7 yX7_manyOf yX7_manyOf, .code yX7_manyOf cX7_manyOf 5 (some .int)] ++ wsX70)
def wsX7_manyAllowed : List Cond := .code yX7_manyAllowed cX7_manyAllowed 3 (some .int) :: ([.fieldLink RX7 79 "CardhouseModel" "decks" "I", .methodLink RX7 100 yX7_allows, .instanceMethod yX7_allows, .selects RX7 yX7_allows yX7_allows, .initialized RX7, .code yX7_allows cX7_allows 5 (some .boolean), .fieldLink RX7 45 "CardhouseModel" "many" "[I", .fieldLink RX7 26 "CardhouseModel" "size" "I", .fieldLink RX7 39 "CardhouseModel" "collector" "[I", .fieldLink RX7 48 "CardhouseModel" "card" "[I", .fieldLink RX7 42 "CardhouseModel" "owner" "[I", .fieldLink RX7 16 "CardhouseModel" "banned" "[Z", .fieldLink RX7 30 "CardhouseModel" "most" "I", .methodLink RX7 93 yX7_kindAt, .instanceMethod yX7_kindAt, .selects RX7 yX7_kindAt yX7_kindAt, .code yX7_kindAt cX7_kindAt 3 (some .int), .fieldLink RX7 33 "CardhouseModel" "kind" "[I", .methodLink RX7 97 yX7_manyOf, .instanceMethod yX7_manyOf, .selects RX7 yX7_manyOf yX7_manyOf, .code yX7_manyOf cX7_manyOf 5 (some .int)] ++ wsX70)
def wsX7_setFormat_r1 : List Cond := [Cond.fieldLink RX7 26 "CardhouseModel" "size" "I", Cond.fieldLink RX7 30 "CardhouseModel" "most" "I", Cond.methodLink RX7 72 yX7_in, Cond.static yX7_in, Cond.initialized RX7, Cond.code yX7_in cX7_in 3 (some .boolean), Cond.methodLink RX7 89 yX7_goes, Cond.instanceMethod yX7_goes, Cond.selects RX7 yX7_goes yX7_goes, Cond.code yX7_goes cX7_goes 4 (some .boolean), Cond.fieldLink RX7 69 "CardhouseModel" "thrown" "I", Cond.methodLink RX7 103 yX7_manyAllowed, Cond.instanceMethod yX7_manyAllowed, Cond.selects RX7 yX7_manyAllowed yX7_manyAllowed, Cond.code yX7_manyAllowed cX7_manyAllowed 3 (some .int), Cond.fieldLink RX7 79 "CardhouseModel" "decks" "I", Cond.methodLink RX7 100 yX7_allows, Cond.instanceMethod yX7_allows, Cond.selects RX7 yX7_allows yX7_allows, Cond.code yX7_allows cX7_allows 5 (some .boolean), Cond.fieldLink RX7 45 "CardhouseModel" "many" "[I", Cond.fieldLink RX7 39 "CardhouseModel" "collector" "[I", Cond.fieldLink RX7 48 "CardhouseModel" "card" "[I", Cond.fieldLink RX7 42 "CardhouseModel" "owner" "[I"]
def wsX7_setFormat_r2 : List Cond := [Cond.fieldLink RX7 16 "CardhouseModel" "banned" "[Z", Cond.methodLink RX7 93 yX7_kindAt, Cond.instanceMethod yX7_kindAt, Cond.selects RX7 yX7_kindAt yX7_kindAt, Cond.code yX7_kindAt cX7_kindAt 3 (some .int), Cond.fieldLink RX7 33 "CardhouseModel" "kind" "[I", Cond.methodLink RX7 97 yX7_manyOf, Cond.instanceMethod yX7_manyOf, Cond.selects RX7 yX7_manyOf yX7_manyOf, Cond.code yX7_manyOf cX7_manyOf 5 (some .int)]
def wsX7_setFormat : List Cond := .code yX7_setFormat cX7_setFormat 3 (some .int) :: ((wsX7_setFormat_r1 ++ wsX7_setFormat_r2) ++ wsX70)
def wsX7_ban_r1 : List Cond := [Cond.fieldLink RX7 16 "CardhouseModel" "banned" "[Z", Cond.methodLink RX7 85 yX7_isKind, Cond.static yX7_isKind, Cond.initialized RX7, Cond.code yX7_isKind cX7_isKind 1 (some .boolean), Cond.methodLink RX7 72 yX7_in, Cond.static yX7_in, Cond.code yX7_in cX7_in 3 (some .boolean), Cond.methodLink RX7 89 yX7_goes, Cond.instanceMethod yX7_goes, Cond.selects RX7 yX7_goes yX7_goes, Cond.code yX7_goes cX7_goes 4 (some .boolean), Cond.fieldLink RX7 69 "CardhouseModel" "thrown" "I", Cond.methodLink RX7 103 yX7_manyAllowed, Cond.instanceMethod yX7_manyAllowed, Cond.selects RX7 yX7_manyAllowed yX7_manyAllowed, Cond.code yX7_manyAllowed cX7_manyAllowed 3 (some .int), Cond.fieldLink RX7 79 "CardhouseModel" "decks" "I", Cond.methodLink RX7 100 yX7_allows, Cond.instanceMethod yX7_allows, Cond.selects RX7 yX7_allows yX7_allows, Cond.code yX7_allows cX7_allows 5 (some .boolean), Cond.fieldLink RX7 45 "CardhouseModel" "many" "[I", Cond.fieldLink RX7 26 "CardhouseModel" "size" "I"]
def wsX7_ban_r2 : List Cond := [Cond.fieldLink RX7 39 "CardhouseModel" "collector" "[I", Cond.fieldLink RX7 48 "CardhouseModel" "card" "[I", Cond.fieldLink RX7 42 "CardhouseModel" "owner" "[I", Cond.fieldLink RX7 30 "CardhouseModel" "most" "I", Cond.methodLink RX7 93 yX7_kindAt, Cond.instanceMethod yX7_kindAt, Cond.selects RX7 yX7_kindAt yX7_kindAt, Cond.code yX7_kindAt cX7_kindAt 3 (some .int), Cond.fieldLink RX7 33 "CardhouseModel" "kind" "[I", Cond.methodLink RX7 97 yX7_manyOf, Cond.instanceMethod yX7_manyOf, Cond.selects RX7 yX7_manyOf yX7_manyOf, Cond.code yX7_manyOf cX7_manyOf 5 (some .int)]
def wsX7_ban : List Cond := .code yX7_ban cX7_ban 3 (some .int) :: ((wsX7_ban_r1 ++ wsX7_ban_r2) ++ wsX70)
def wsX7_print : List Cond := .code yX7_print cX7_print 3 (some .int) :: ([.fieldLink RX7 76 "CardhouseModel" "cards" "I", .fieldLink RX7 20 "CardhouseModel" "printed" "[I", .fieldLink RX7 33 "CardhouseModel" "kind" "[I", .fieldLink RX7 36 "CardhouseModel" "number" "[I", .fieldLink RX7 39 "CardhouseModel" "collector" "[I", .methodLink RX7 85 yX7_isKind, .static yX7_isKind, .initialized RX7, .code yX7_isKind cX7_isKind 1 (some .boolean), .methodLink RX7 72 yX7_in, .static yX7_in, .code yX7_in cX7_in 3 (some .boolean), .methodLink RX7 107 yX7_isCollector, .static yX7_isCollector, .code yX7_isCollector cX7_isCollector 1 (some .boolean), .methodLink RX7 89 yX7_goes, .instanceMethod yX7_goes, .selects RX7 yX7_goes yX7_goes, .code yX7_goes cX7_goes 4 (some .boolean), .fieldLink RX7 69 "CardhouseModel" "thrown" "I"] ++ wsX70)
def wsX7_deck : List Cond := .code yX7_deck cX7_deck 2 (some .int) :: ([.fieldLink RX7 79 "CardhouseModel" "decks" "I", .fieldLink RX7 42 "CardhouseModel" "owner" "[I", .methodLink RX7 107 yX7_isCollector, .static yX7_isCollector, .initialized RX7, .code yX7_isCollector cX7_isCollector 1 (some .boolean), .methodLink RX7 72 yX7_in, .static yX7_in, .code yX7_in cX7_in 3 (some .boolean), .methodLink RX7 89 yX7_goes, .instanceMethod yX7_goes, .selects RX7 yX7_goes yX7_goes, .code yX7_goes cX7_goes 4 (some .boolean), .fieldLink RX7 69 "CardhouseModel" "thrown" "I"] ++ wsX70)
def wsX7_isIn : List Cond := .code yX7_isIn cX7_isIn 5 (some .boolean) :: ([.fieldLink RX7 45 "CardhouseModel" "many" "[I", .fieldLink RX7 48 "CardhouseModel" "card" "[I"] ++ wsX70)
def wsX7_add_r1 : List Cond := [Cond.fieldLink RX7 39 "CardhouseModel" "collector" "[I", Cond.fieldLink RX7 42 "CardhouseModel" "owner" "[I", Cond.fieldLink RX7 45 "CardhouseModel" "many" "[I", Cond.fieldLink RX7 48 "CardhouseModel" "card" "[I", Cond.methodLink RX7 110 yX7_isDeck, Cond.instanceMethod yX7_isDeck, Cond.selects RX7 yX7_isDeck yX7_isDeck, Cond.initialized RX7, Cond.code yX7_isDeck cX7_isDeck 2 (some .boolean), Cond.fieldLink RX7 79 "CardhouseModel" "decks" "I", Cond.methodLink RX7 72 yX7_in, Cond.static yX7_in, Cond.code yX7_in cX7_in 3 (some .boolean), Cond.methodLink RX7 113 yX7_isCard, Cond.instanceMethod yX7_isCard, Cond.selects RX7 yX7_isCard yX7_isCard, Cond.code yX7_isCard cX7_isCard 2 (some .boolean), Cond.fieldLink RX7 76 "CardhouseModel" "cards" "I", Cond.methodLink RX7 116 yX7_isIn, Cond.instanceMethod yX7_isIn, Cond.selects RX7 yX7_isIn yX7_isIn, Cond.code yX7_isIn cX7_isIn 5 (some .boolean), Cond.methodLink RX7 89 yX7_goes, Cond.instanceMethod yX7_goes]
def wsX7_add_r2 : List Cond := [Cond.selects RX7 yX7_goes yX7_goes, Cond.code yX7_goes cX7_goes 4 (some .boolean), Cond.fieldLink RX7 69 "CardhouseModel" "thrown" "I"]
def wsX7_add : List Cond := .code yX7_add cX7_add 5 (some .int) :: ((wsX7_add_r1 ++ wsX7_add_r2) ++ wsX70)
def wsX7_cut : List Cond := .code yX7_cut cX7_cut 6 (some .int) :: ([.fieldLink RX7 45 "CardhouseModel" "many" "[I", .fieldLink RX7 48 "CardhouseModel" "card" "[I", .methodLink RX7 110 yX7_isDeck, .instanceMethod yX7_isDeck, .selects RX7 yX7_isDeck yX7_isDeck, .initialized RX7, .code yX7_isDeck cX7_isDeck 2 (some .boolean), .fieldLink RX7 79 "CardhouseModel" "decks" "I", .methodLink RX7 72 yX7_in, .static yX7_in, .code yX7_in cX7_in 3 (some .boolean), .methodLink RX7 89 yX7_goes, .instanceMethod yX7_goes, .selects RX7 yX7_goes yX7_goes, .code yX7_goes cX7_goes 4 (some .boolean), .fieldLink RX7 69 "CardhouseModel" "thrown" "I"] ++ wsX70)
def wsX7_shuffles : List Cond := .code yX7_shuffles cX7_shuffles 9 none :: ([.fieldLink RX7 45 "CardhouseModel" "many" "[I", .fieldLink RX7 51 "CardhouseModel" "row" "[I", .fieldLink RX7 48 "CardhouseModel" "card" "[I", .constantLong RX7 120 (1103515245), .constantLong RX7 122 (12345), .constantLong RX7 124 (2147483648), .constantLong RX7 126 (65536)] ++ wsX70)
def wsX7_effect : List Cond := .code yX7_effect cX7_effect 5 (some .int) :: ([.fieldLink RX7 13 "CardhouseModel" "trigger" "[I"] ++ wsX70)
def wsX7_wonBy : List Cond := .code yX7_wonBy cX7_wonBy 3 none :: ([.fieldLink RX7 23 "CardhouseModel" "wins" "[I", .methodLink RX7 97 yX7_manyOf, .instanceMethod yX7_manyOf, .selects RX7 yX7_manyOf yX7_manyOf, .initialized RX7, .code yX7_manyOf cX7_manyOf 5 (some .int), .fieldLink RX7 45 "CardhouseModel" "many" "[I", .methodLink RX7 93 yX7_kindAt, .instanceMethod yX7_kindAt, .selects RX7 yX7_kindAt yX7_kindAt, .code yX7_kindAt cX7_kindAt 3 (some .int), .fieldLink RX7 33 "CardhouseModel" "kind" "[I", .fieldLink RX7 48 "CardhouseModel" "card" "[I"] ++ wsX70)
def wsX7_play_r1 : List Cond := [Cond.fieldLink RX7 42 "CardhouseModel" "owner" "[I", Cond.fieldLink RX7 26 "CardhouseModel" "size" "I", Cond.fieldLink RX7 33 "CardhouseModel" "kind" "[I", Cond.fieldLink RX7 51 "CardhouseModel" "row" "[I", Cond.fieldLink RX7 7 "CardhouseModel" "power" "[I", Cond.methodLink RX7 110 yX7_isDeck, Cond.instanceMethod yX7_isDeck, Cond.selects RX7 yX7_isDeck yX7_isDeck, Cond.initialized RX7, Cond.code yX7_isDeck cX7_isDeck 2 (some .boolean), Cond.fieldLink RX7 79 "CardhouseModel" "decks" "I", Cond.methodLink RX7 72 yX7_in, Cond.static yX7_in, Cond.code yX7_in cX7_in 3 (some .boolean), Cond.methodLink RX7 100 yX7_allows, Cond.instanceMethod yX7_allows, Cond.selects RX7 yX7_allows yX7_allows, Cond.code yX7_allows cX7_allows 5 (some .boolean), Cond.fieldLink RX7 45 "CardhouseModel" "many" "[I", Cond.fieldLink RX7 39 "CardhouseModel" "collector" "[I", Cond.fieldLink RX7 48 "CardhouseModel" "card" "[I", Cond.fieldLink RX7 16 "CardhouseModel" "banned" "[Z", Cond.fieldLink RX7 30 "CardhouseModel" "most" "I", Cond.methodLink RX7 93 yX7_kindAt]
def wsX7_play_r2 : List Cond := [Cond.instanceMethod yX7_kindAt, Cond.selects RX7 yX7_kindAt yX7_kindAt, Cond.code yX7_kindAt cX7_kindAt 3 (some .int), Cond.methodLink RX7 97 yX7_manyOf, Cond.instanceMethod yX7_manyOf, Cond.selects RX7 yX7_manyOf yX7_manyOf, Cond.code yX7_manyOf cX7_manyOf 5 (some .int), Cond.methodLink RX7 89 yX7_goes, Cond.instanceMethod yX7_goes, Cond.selects RX7 yX7_goes yX7_goes, Cond.code yX7_goes cX7_goes 4 (some .boolean), Cond.fieldLink RX7 69 "CardhouseModel" "thrown" "I", Cond.methodLink RX7 128 yX7_shuffles, Cond.instanceMethod yX7_shuffles, Cond.selects RX7 yX7_shuffles yX7_shuffles, Cond.code yX7_shuffles cX7_shuffles 9 none, Cond.constantLong RX7 120 (1103515245), Cond.constantLong RX7 122 (12345), Cond.constantLong RX7 124 (2147483648), Cond.constantLong RX7 126 (65536), Cond.methodLink RX7 132 yX7_effect, Cond.instanceMethod yX7_effect, Cond.selects RX7 yX7_effect yX7_effect, Cond.code yX7_effect cX7_effect 5 (some .int)]
def wsX7_play_r3 : List Cond := [Cond.fieldLink RX7 13 "CardhouseModel" "trigger" "[I", Cond.methodLink RX7 136 yX7_wonBy, Cond.instanceMethod yX7_wonBy, Cond.selects RX7 yX7_wonBy yX7_wonBy, Cond.code yX7_wonBy cX7_wonBy 3 none, Cond.fieldLink RX7 23 "CardhouseModel" "wins" "[I"]
def wsX7_play : List Cond := .code yX7_play cX7_play 16 (some .int) :: ((wsX7_play_r1 ++ (wsX7_play_r2 ++ wsX7_play_r3)) ++ wsX70)
def wsX7_opens : List Cond := .code yX7_opens cX7_opens 2 (some .boolean) :: ([.fieldLink RX7 63 "CardhouseModel" "closed" "[Z", .fieldLink RX7 39 "CardhouseModel" "collector" "[I", .fieldLink RX7 54 "CardhouseModel" "offered" "[I", .fieldLink RX7 57 "CardhouseModel" "by" "[I"] ++ wsX70)
def wsX7_offer_r1 : List Cond := [Cond.fieldLink RX7 82 "CardhouseModel" "offers" "I", Cond.fieldLink RX7 54 "CardhouseModel" "offered" "[I", Cond.fieldLink RX7 33 "CardhouseModel" "kind" "[I", Cond.fieldLink RX7 57 "CardhouseModel" "by" "[I", Cond.fieldLink RX7 39 "CardhouseModel" "collector" "[I", Cond.fieldLink RX7 60 "CardhouseModel" "wanted" "[I", Cond.methodLink RX7 113 yX7_isCard, Cond.instanceMethod yX7_isCard, Cond.selects RX7 yX7_isCard yX7_isCard, Cond.initialized RX7, Cond.code yX7_isCard cX7_isCard 2 (some .boolean), Cond.fieldLink RX7 76 "CardhouseModel" "cards" "I", Cond.methodLink RX7 72 yX7_in, Cond.static yX7_in, Cond.code yX7_in cX7_in 3 (some .boolean), Cond.methodLink RX7 85 yX7_isKind, Cond.static yX7_isKind, Cond.code yX7_isKind cX7_isKind 1 (some .boolean), Cond.methodLink RX7 140 yX7_opens, Cond.instanceMethod yX7_opens, Cond.selects RX7 yX7_opens yX7_opens, Cond.code yX7_opens cX7_opens 2 (some .boolean), Cond.fieldLink RX7 63 "CardhouseModel" "closed" "[Z", Cond.methodLink RX7 89 yX7_goes]
def wsX7_offer_r2 : List Cond := [Cond.instanceMethod yX7_goes, Cond.selects RX7 yX7_goes yX7_goes, Cond.code yX7_goes cX7_goes 4 (some .boolean), Cond.fieldLink RX7 69 "CardhouseModel" "thrown" "I"]
def wsX7_offer : List Cond := .code yX7_offer cX7_offer 6 (some .int) :: ((wsX7_offer_r1 ++ wsX7_offer_r2) ++ wsX70)
def wsX7_takeBack : List Cond := .code yX7_takeBack cX7_takeBack 3 (some .int) :: ([.fieldLink RX7 63 "CardhouseModel" "closed" "[Z", .fieldLink RX7 54 "CardhouseModel" "offered" "[I", .methodLink RX7 143 yX7_isOffer, .instanceMethod yX7_isOffer, .selects RX7 yX7_isOffer yX7_isOffer, .initialized RX7, .code yX7_isOffer cX7_isOffer 2 (some .boolean), .fieldLink RX7 82 "CardhouseModel" "offers" "I", .methodLink RX7 72 yX7_in, .static yX7_in, .code yX7_in cX7_in 3 (some .boolean), .methodLink RX7 140 yX7_opens, .instanceMethod yX7_opens, .selects RX7 yX7_opens yX7_opens, .code yX7_opens cX7_opens 2 (some .boolean), .fieldLink RX7 39 "CardhouseModel" "collector" "[I", .fieldLink RX7 57 "CardhouseModel" "by" "[I", .methodLink RX7 89 yX7_goes, .instanceMethod yX7_goes, .selects RX7 yX7_goes yX7_goes, .code yX7_goes cX7_goes 4 (some .boolean), .fieldLink RX7 69 "CardhouseModel" "thrown" "I"] ++ wsX70)
def wsX7_gives : List Cond := .code yX7_gives cX7_gives 3 (some .boolean) :: ([.fieldLink RX7 57 "CardhouseModel" "by" "[I", .fieldLink RX7 33 "CardhouseModel" "kind" "[I", .fieldLink RX7 54 "CardhouseModel" "offered" "[I", .fieldLink RX7 60 "CardhouseModel" "wanted" "[I"] ++ wsX70)
def wsX7_fits : List Cond := .code yX7_fits cX7_fits 6 (some .boolean) :: ([.fieldLink RX7 66 "CardhouseModel" "ring" "[I", .fieldLink RX7 57 "CardhouseModel" "by" "[I", .methodLink RX7 140 yX7_opens, .instanceMethod yX7_opens, .selects RX7 yX7_opens yX7_opens, .initialized RX7, .code yX7_opens cX7_opens 2 (some .boolean), .fieldLink RX7 63 "CardhouseModel" "closed" "[Z", .fieldLink RX7 39 "CardhouseModel" "collector" "[I", .fieldLink RX7 54 "CardhouseModel" "offered" "[I", .methodLink RX7 146 yX7_gives, .instanceMethod yX7_gives, .selects RX7 yX7_gives yX7_gives, .code yX7_gives cX7_gives 3 (some .boolean), .fieldLink RX7 33 "CardhouseModel" "kind" "[I", .fieldLink RX7 60 "CardhouseModel" "wanted" "[I"] ++ wsX70)
def wsX7_hasRing : List Cond := .code yX7_hasRing cX7_hasRing 3 (some .boolean) :: ([.fieldLink RX7 66 "CardhouseModel" "ring" "[I", .fieldLink RX7 82 "CardhouseModel" "offers" "I", .methodLink RX7 149 yX7_fits, .instanceMethod yX7_fits, .selects RX7 yX7_fits yX7_fits, .initialized RX7, .code yX7_fits cX7_fits 6 (some .boolean), .fieldLink RX7 57 "CardhouseModel" "by" "[I", .methodLink RX7 140 yX7_opens, .instanceMethod yX7_opens, .selects RX7 yX7_opens yX7_opens, .code yX7_opens cX7_opens 2 (some .boolean), .fieldLink RX7 63 "CardhouseModel" "closed" "[Z", .fieldLink RX7 39 "CardhouseModel" "collector" "[I", .fieldLink RX7 54 "CardhouseModel" "offered" "[I", .methodLink RX7 146 yX7_gives, .instanceMethod yX7_gives, .selects RX7 yX7_gives yX7_gives, .code yX7_gives cX7_gives 3 (some .boolean), .fieldLink RX7 33 "CardhouseModel" "kind" "[I", .fieldLink RX7 60 "CardhouseModel" "wanted" "[I"] ++ wsX70)
def wsX7_first_r1 : List Cond := [Cond.methodLink RX7 152 yX7_hasRing, Cond.instanceMethod yX7_hasRing, Cond.selects RX7 yX7_hasRing yX7_hasRing, Cond.initialized RX7, Cond.code yX7_hasRing cX7_hasRing 3 (some .boolean), Cond.fieldLink RX7 66 "CardhouseModel" "ring" "[I", Cond.fieldLink RX7 82 "CardhouseModel" "offers" "I", Cond.methodLink RX7 149 yX7_fits, Cond.instanceMethod yX7_fits, Cond.selects RX7 yX7_fits yX7_fits, Cond.code yX7_fits cX7_fits 6 (some .boolean), Cond.fieldLink RX7 57 "CardhouseModel" "by" "[I", Cond.methodLink RX7 140 yX7_opens, Cond.instanceMethod yX7_opens, Cond.selects RX7 yX7_opens yX7_opens, Cond.code yX7_opens cX7_opens 2 (some .boolean), Cond.fieldLink RX7 63 "CardhouseModel" "closed" "[Z", Cond.fieldLink RX7 39 "CardhouseModel" "collector" "[I", Cond.fieldLink RX7 54 "CardhouseModel" "offered" "[I", Cond.methodLink RX7 146 yX7_gives, Cond.instanceMethod yX7_gives, Cond.selects RX7 yX7_gives yX7_gives, Cond.code yX7_gives cX7_gives 3 (some .boolean), Cond.fieldLink RX7 33 "CardhouseModel" "kind" "[I"]
def wsX7_first_r2 : List Cond := [Cond.fieldLink RX7 60 "CardhouseModel" "wanted" "[I"]
def wsX7_first : List Cond := .code yX7_first cX7_first 1 (some .int) :: ((wsX7_first_r1 ++ wsX7_first_r2) ++ wsX70)
def wsX7_trade_r1 : List Cond := [Cond.fieldLink RX7 69 "CardhouseModel" "thrown" "I", Cond.fieldLink RX7 66 "CardhouseModel" "ring" "[I", Cond.fieldLink RX7 39 "CardhouseModel" "collector" "[I", Cond.fieldLink RX7 54 "CardhouseModel" "offered" "[I", Cond.fieldLink RX7 57 "CardhouseModel" "by" "[I", Cond.fieldLink RX7 63 "CardhouseModel" "closed" "[Z", Cond.methodLink RX7 155 yX7_first, Cond.instanceMethod yX7_first, Cond.selects RX7 yX7_first yX7_first, Cond.initialized RX7, Cond.code yX7_first cX7_first 1 (some .int), Cond.methodLink RX7 152 yX7_hasRing, Cond.instanceMethod yX7_hasRing, Cond.selects RX7 yX7_hasRing yX7_hasRing, Cond.code yX7_hasRing cX7_hasRing 3 (some .boolean), Cond.fieldLink RX7 82 "CardhouseModel" "offers" "I", Cond.methodLink RX7 149 yX7_fits, Cond.instanceMethod yX7_fits, Cond.selects RX7 yX7_fits yX7_fits, Cond.code yX7_fits cX7_fits 6 (some .boolean), Cond.methodLink RX7 140 yX7_opens, Cond.instanceMethod yX7_opens, Cond.selects RX7 yX7_opens yX7_opens, Cond.code yX7_opens cX7_opens 2 (some .boolean)]
def wsX7_trade_r2 : List Cond := [Cond.methodLink RX7 146 yX7_gives, Cond.instanceMethod yX7_gives, Cond.selects RX7 yX7_gives yX7_gives, Cond.code yX7_gives cX7_gives 3 (some .boolean), Cond.fieldLink RX7 33 "CardhouseModel" "kind" "[I", Cond.fieldLink RX7 60 "CardhouseModel" "wanted" "[I"]
def wsX7_trade : List Cond := .code yX7_trade cX7_trade 4 (some .int) :: ((wsX7_trade_r1 ++ wsX7_trade_r2) ++ wsX70)
def wsX7_cards : List Cond := .code yX7_cards cX7_cards 1 (some .int) :: ([.fieldLink RX7 76 "CardhouseModel" "cards" "I", .methodLink RX7 158 yX7_told, .instanceMethod yX7_told, .selects RX7 yX7_told yX7_told, .initialized RX7, .code yX7_told cX7_told 2 (some .int), .fieldLink RX7 69 "CardhouseModel" "thrown" "I"] ++ wsX70)
def wsX7_printOf : List Cond := .code yX7_printOf cX7_printOf 2 (some .int) :: ([.fieldLink RX7 33 "CardhouseModel" "kind" "[I", .fieldLink RX7 36 "CardhouseModel" "number" "[I", .methodLink RX7 113 yX7_isCard, .instanceMethod yX7_isCard, .selects RX7 yX7_isCard yX7_isCard, .initialized RX7, .code yX7_isCard cX7_isCard 2 (some .boolean), .fieldLink RX7 76 "CardhouseModel" "cards" "I", .methodLink RX7 72 yX7_in, .static yX7_in, .code yX7_in cX7_in 3 (some .boolean), .methodLink RX7 89 yX7_goes, .instanceMethod yX7_goes, .selects RX7 yX7_goes yX7_goes, .code yX7_goes cX7_goes 4 (some .boolean), .fieldLink RX7 69 "CardhouseModel" "thrown" "I"] ++ wsX70)
def wsX7_collectorOf : List Cond := .code yX7_collectorOf cX7_collectorOf 2 (some .int) :: ([.fieldLink RX7 39 "CardhouseModel" "collector" "[I", .methodLink RX7 113 yX7_isCard, .instanceMethod yX7_isCard, .selects RX7 yX7_isCard yX7_isCard, .initialized RX7, .code yX7_isCard cX7_isCard 2 (some .boolean), .fieldLink RX7 76 "CardhouseModel" "cards" "I", .methodLink RX7 72 yX7_in, .static yX7_in, .code yX7_in cX7_in 3 (some .boolean), .methodLink RX7 89 yX7_goes, .instanceMethod yX7_goes, .selects RX7 yX7_goes yX7_goes, .code yX7_goes cX7_goes 4 (some .boolean), .fieldLink RX7 69 "CardhouseModel" "thrown" "I"] ++ wsX70)
def wsX7_has : List Cond := .code yX7_has cX7_has 6 (some .int) :: ([.fieldLink RX7 76 "CardhouseModel" "cards" "I", .fieldLink RX7 39 "CardhouseModel" "collector" "[I", .fieldLink RX7 33 "CardhouseModel" "kind" "[I", .methodLink RX7 107 yX7_isCollector, .static yX7_isCollector, .initialized RX7, .code yX7_isCollector cX7_isCollector 1 (some .boolean), .methodLink RX7 72 yX7_in, .static yX7_in, .code yX7_in cX7_in 3 (some .boolean), .methodLink RX7 85 yX7_isKind, .static yX7_isKind, .code yX7_isKind cX7_isKind 1 (some .boolean), .methodLink RX7 89 yX7_goes, .instanceMethod yX7_goes, .selects RX7 yX7_goes yX7_goes, .code yX7_goes cX7_goes 4 (some .boolean), .fieldLink RX7 69 "CardhouseModel" "thrown" "I"] ++ wsX70)
def wsX7_wins : List Cond := .code yX7_wins cX7_wins 2 (some .int) :: ([.fieldLink RX7 23 "CardhouseModel" "wins" "[I", .methodLink RX7 85 yX7_isKind, .static yX7_isKind, .initialized RX7, .code yX7_isKind cX7_isKind 1 (some .boolean), .methodLink RX7 72 yX7_in, .static yX7_in, .code yX7_in cX7_in 3 (some .boolean), .methodLink RX7 89 yX7_goes, .instanceMethod yX7_goes, .selects RX7 yX7_goes yX7_goes, .code yX7_goes cX7_goes 4 (some .boolean), .fieldLink RX7 69 "CardhouseModel" "thrown" "I"] ++ wsX70)
def wsX7_price : List Cond := .code yX7_price cX7_price 2 (some .int) :: ([.fieldLink RX7 20 "CardhouseModel" "printed" "[I", .fieldLink RX7 23 "CardhouseModel" "wins" "[I", .methodLink RX7 85 yX7_isKind, .static yX7_isKind, .initialized RX7, .code yX7_isKind cX7_isKind 1 (some .boolean), .methodLink RX7 72 yX7_in, .static yX7_in, .code yX7_in cX7_in 3 (some .boolean), .methodLink RX7 89 yX7_goes, .instanceMethod yX7_goes, .selects RX7 yX7_goes yX7_goes, .code yX7_goes cX7_goes 4 (some .boolean), .fieldLink RX7 69 "CardhouseModel" "thrown" "I"] ++ wsX70)
def wsX7_isAllowed_r1 : List Cond := [Cond.methodLink RX7 110 yX7_isDeck, Cond.instanceMethod yX7_isDeck, Cond.selects RX7 yX7_isDeck yX7_isDeck, Cond.initialized RX7, Cond.code yX7_isDeck cX7_isDeck 2 (some .boolean), Cond.fieldLink RX7 79 "CardhouseModel" "decks" "I", Cond.methodLink RX7 72 yX7_in, Cond.static yX7_in, Cond.code yX7_in cX7_in 3 (some .boolean), Cond.methodLink RX7 89 yX7_goes, Cond.instanceMethod yX7_goes, Cond.selects RX7 yX7_goes yX7_goes, Cond.code yX7_goes cX7_goes 4 (some .boolean), Cond.fieldLink RX7 69 "CardhouseModel" "thrown" "I", Cond.methodLink RX7 100 yX7_allows, Cond.instanceMethod yX7_allows, Cond.selects RX7 yX7_allows yX7_allows, Cond.code yX7_allows cX7_allows 5 (some .boolean), Cond.fieldLink RX7 45 "CardhouseModel" "many" "[I", Cond.fieldLink RX7 26 "CardhouseModel" "size" "I", Cond.fieldLink RX7 39 "CardhouseModel" "collector" "[I", Cond.fieldLink RX7 48 "CardhouseModel" "card" "[I", Cond.fieldLink RX7 42 "CardhouseModel" "owner" "[I", Cond.fieldLink RX7 16 "CardhouseModel" "banned" "[Z"]
def wsX7_isAllowed_r2 : List Cond := [Cond.fieldLink RX7 30 "CardhouseModel" "most" "I", Cond.methodLink RX7 93 yX7_kindAt, Cond.instanceMethod yX7_kindAt, Cond.selects RX7 yX7_kindAt yX7_kindAt, Cond.code yX7_kindAt cX7_kindAt 3 (some .int), Cond.fieldLink RX7 33 "CardhouseModel" "kind" "[I", Cond.methodLink RX7 97 yX7_manyOf, Cond.instanceMethod yX7_manyOf, Cond.selects RX7 yX7_manyOf yX7_manyOf, Cond.code yX7_manyOf cX7_manyOf 5 (some .int)]
def wsX7_isAllowed : List Cond := .code yX7_isAllowed cX7_isAllowed 2 (some .boolean) :: ((wsX7_isAllowed_r1 ++ wsX7_isAllowed_r2) ++ wsX70)
def wsX7_shuffled_r1 : List Cond := [Cond.fieldLink RX7 45 "CardhouseModel" "many" "[I", Cond.fieldLink RX7 51 "CardhouseModel" "row" "[I", Cond.methodLink RX7 110 yX7_isDeck, Cond.instanceMethod yX7_isDeck, Cond.selects RX7 yX7_isDeck yX7_isDeck, Cond.initialized RX7, Cond.code yX7_isDeck cX7_isDeck 2 (some .boolean), Cond.fieldLink RX7 79 "CardhouseModel" "decks" "I", Cond.methodLink RX7 72 yX7_in, Cond.static yX7_in, Cond.code yX7_in cX7_in 3 (some .boolean), Cond.methodLink RX7 89 yX7_goes, Cond.instanceMethod yX7_goes, Cond.selects RX7 yX7_goes yX7_goes, Cond.code yX7_goes cX7_goes 4 (some .boolean), Cond.fieldLink RX7 69 "CardhouseModel" "thrown" "I", Cond.methodLink RX7 128 yX7_shuffles, Cond.instanceMethod yX7_shuffles, Cond.selects RX7 yX7_shuffles yX7_shuffles, Cond.code yX7_shuffles cX7_shuffles 9 none, Cond.fieldLink RX7 48 "CardhouseModel" "card" "[I", Cond.constantLong RX7 120 (1103515245), Cond.constantLong RX7 122 (12345), Cond.constantLong RX7 124 (2147483648)]
def wsX7_shuffled_r2 : List Cond := [Cond.constantLong RX7 126 (65536)]
def wsX7_shuffled : List Cond := .code yX7_shuffled cX7_shuffled 5 (some .int) :: ((wsX7_shuffled_r1 ++ wsX7_shuffled_r2) ++ wsX70)
def wsX7_ordersOf : List Cond := .code yX7_ordersOf cX7_ordersOf 9 (some .int) :: ([.fieldLink RX7 45 "CardhouseModel" "many" "[I", .methodLink RX7 97 yX7_manyOf, .instanceMethod yX7_manyOf, .selects RX7 yX7_manyOf yX7_manyOf, .initialized RX7, .code yX7_manyOf cX7_manyOf 5 (some .int), .methodLink RX7 93 yX7_kindAt, .instanceMethod yX7_kindAt, .selects RX7 yX7_kindAt yX7_kindAt, .code yX7_kindAt cX7_kindAt 3 (some .int), .fieldLink RX7 33 "CardhouseModel" "kind" "[I", .fieldLink RX7 48 "CardhouseModel" "card" "[I"] ++ wsX70)
def wsX7_orders_r1 : List Cond := [Cond.methodLink RX7 110 yX7_isDeck, Cond.instanceMethod yX7_isDeck, Cond.selects RX7 yX7_isDeck yX7_isDeck, Cond.initialized RX7, Cond.code yX7_isDeck cX7_isDeck 2 (some .boolean), Cond.fieldLink RX7 79 "CardhouseModel" "decks" "I", Cond.methodLink RX7 72 yX7_in, Cond.static yX7_in, Cond.code yX7_in cX7_in 3 (some .boolean), Cond.methodLink RX7 85 yX7_isKind, Cond.static yX7_isKind, Cond.code yX7_isKind cX7_isKind 1 (some .boolean), Cond.methodLink RX7 89 yX7_goes, Cond.instanceMethod yX7_goes, Cond.selects RX7 yX7_goes yX7_goes, Cond.code yX7_goes cX7_goes 4 (some .boolean), Cond.fieldLink RX7 69 "CardhouseModel" "thrown" "I", Cond.methodLink RX7 162 yX7_ordersOf, Cond.instanceMethod yX7_ordersOf, Cond.selects RX7 yX7_ordersOf yX7_ordersOf, Cond.code yX7_ordersOf cX7_ordersOf 9 (some .int), Cond.fieldLink RX7 45 "CardhouseModel" "many" "[I", Cond.methodLink RX7 97 yX7_manyOf, Cond.instanceMethod yX7_manyOf]
def wsX7_orders_r2 : List Cond := [Cond.selects RX7 yX7_manyOf yX7_manyOf, Cond.code yX7_manyOf cX7_manyOf 5 (some .int), Cond.methodLink RX7 93 yX7_kindAt, Cond.instanceMethod yX7_kindAt, Cond.selects RX7 yX7_kindAt yX7_kindAt, Cond.code yX7_kindAt cX7_kindAt 3 (some .int), Cond.fieldLink RX7 33 "CardhouseModel" "kind" "[I", Cond.fieldLink RX7 48 "CardhouseModel" "card" "[I"]
def wsX7_orders : List Cond := .code yX7_orders cX7_orders 4 (some .int) :: ((wsX7_orders_r1 ++ wsX7_orders_r2) ++ wsX70)
def wsX7_ordersByAll_r1 : List Cond := [Cond.fieldLink RX7 45 "CardhouseModel" "many" "[I", Cond.methodLink RX7 110 yX7_isDeck, Cond.instanceMethod yX7_isDeck, Cond.selects RX7 yX7_isDeck yX7_isDeck, Cond.initialized RX7, Cond.code yX7_isDeck cX7_isDeck 2 (some .boolean), Cond.fieldLink RX7 79 "CardhouseModel" "decks" "I", Cond.methodLink RX7 72 yX7_in, Cond.static yX7_in, Cond.code yX7_in cX7_in 3 (some .boolean), Cond.methodLink RX7 85 yX7_isKind, Cond.static yX7_isKind, Cond.code yX7_isKind cX7_isKind 1 (some .boolean), Cond.methodLink RX7 89 yX7_goes, Cond.instanceMethod yX7_goes, Cond.selects RX7 yX7_goes yX7_goes, Cond.code yX7_goes cX7_goes 4 (some .boolean), Cond.fieldLink RX7 69 "CardhouseModel" "thrown" "I", Cond.methodLink RX7 162 yX7_ordersOf, Cond.instanceMethod yX7_ordersOf, Cond.selects RX7 yX7_ordersOf yX7_ordersOf, Cond.code yX7_ordersOf cX7_ordersOf 9 (some .int), Cond.methodLink RX7 97 yX7_manyOf, Cond.instanceMethod yX7_manyOf]
def wsX7_ordersByAll_r2 : List Cond := [Cond.selects RX7 yX7_manyOf yX7_manyOf, Cond.code yX7_manyOf cX7_manyOf 5 (some .int), Cond.methodLink RX7 93 yX7_kindAt, Cond.instanceMethod yX7_kindAt, Cond.selects RX7 yX7_kindAt yX7_kindAt, Cond.code yX7_kindAt cX7_kindAt 3 (some .int), Cond.fieldLink RX7 33 "CardhouseModel" "kind" "[I", Cond.fieldLink RX7 48 "CardhouseModel" "card" "[I"]
def wsX7_ordersByAll : List Cond := .code yX7_ordersByAll cX7_ordersByAll 5 (some .int) :: ((wsX7_ordersByAll_r1 ++ wsX7_ordersByAll_r2) ++ wsX70)
def wsX7_isOpen : List Cond := .code yX7_isOpen cX7_isOpen 2 (some .boolean) :: ([.methodLink RX7 143 yX7_isOffer, .instanceMethod yX7_isOffer, .selects RX7 yX7_isOffer yX7_isOffer, .initialized RX7, .code yX7_isOffer cX7_isOffer 2 (some .boolean), .fieldLink RX7 82 "CardhouseModel" "offers" "I", .methodLink RX7 72 yX7_in, .static yX7_in, .code yX7_in cX7_in 3 (some .boolean), .methodLink RX7 89 yX7_goes, .instanceMethod yX7_goes, .selects RX7 yX7_goes yX7_goes, .code yX7_goes cX7_goes 4 (some .boolean), .fieldLink RX7 69 "CardhouseModel" "thrown" "I", .methodLink RX7 140 yX7_opens, .instanceMethod yX7_opens, .selects RX7 yX7_opens yX7_opens, .code yX7_opens cX7_opens 2 (some .boolean), .fieldLink RX7 63 "CardhouseModel" "closed" "[Z", .fieldLink RX7 39 "CardhouseModel" "collector" "[I", .fieldLink RX7 54 "CardhouseModel" "offered" "[I", .fieldLink RX7 57 "CardhouseModel" "by" "[I"] ++ wsX70)
def wsX7_ring_r1 : List Cond := [Cond.fieldLink RX7 66 "CardhouseModel" "ring" "[I", Cond.methodLink RX7 89 yX7_goes, Cond.instanceMethod yX7_goes, Cond.selects RX7 yX7_goes yX7_goes, Cond.initialized RX7, Cond.code yX7_goes cX7_goes 4 (some .boolean), Cond.fieldLink RX7 69 "CardhouseModel" "thrown" "I", Cond.methodLink RX7 155 yX7_first, Cond.instanceMethod yX7_first, Cond.selects RX7 yX7_first yX7_first, Cond.code yX7_first cX7_first 1 (some .int), Cond.methodLink RX7 152 yX7_hasRing, Cond.instanceMethod yX7_hasRing, Cond.selects RX7 yX7_hasRing yX7_hasRing, Cond.code yX7_hasRing cX7_hasRing 3 (some .boolean), Cond.fieldLink RX7 82 "CardhouseModel" "offers" "I", Cond.methodLink RX7 149 yX7_fits, Cond.instanceMethod yX7_fits, Cond.selects RX7 yX7_fits yX7_fits, Cond.code yX7_fits cX7_fits 6 (some .boolean), Cond.fieldLink RX7 57 "CardhouseModel" "by" "[I", Cond.methodLink RX7 140 yX7_opens, Cond.instanceMethod yX7_opens, Cond.selects RX7 yX7_opens yX7_opens]
def wsX7_ring_r2 : List Cond := [Cond.code yX7_opens cX7_opens 2 (some .boolean), Cond.fieldLink RX7 63 "CardhouseModel" "closed" "[Z", Cond.fieldLink RX7 39 "CardhouseModel" "collector" "[I", Cond.fieldLink RX7 54 "CardhouseModel" "offered" "[I", Cond.methodLink RX7 146 yX7_gives, Cond.instanceMethod yX7_gives, Cond.selects RX7 yX7_gives yX7_gives, Cond.code yX7_gives cX7_gives 3 (some .boolean), Cond.fieldLink RX7 33 "CardhouseModel" "kind" "[I", Cond.fieldLink RX7 60 "CardhouseModel" "wanted" "[I"]
def wsX7_ring : List Cond := .code yX7_ring cX7_ring 2 (some .int) :: ((wsX7_ring_r1 ++ wsX7_ring_r2) ++ wsX70)
def wsL_setKind : List Cond := .codeWith yL_setKind cL_setKind 6 (some .int) [(0, 12, 15, 13), (0, 12, 19, 15)] :: ([.classLink RL 13 "java/lang/IndexOutOfBoundsException", .classLink RL 15 "java/lang/IllegalArgumentException", .methodLink RL 7 yX6_setKind, .instanceMethod yX6_setKind, .selects RX6 yX6_setKind yX6_setKind, .initialized RX6, .code yX6_setKind cX6_setKind 5 (some .int), .fieldLink RX6 10 "Cardhouse" "kinds" "LCardhouse$Kinds;", .fieldLink RX6 62 "Cardhouse$Kinds" "power" "[I", .fieldLink RX6 66 "Cardhouse$Kinds" "trigger" "[I", .methodLink RX6 54 yX6_needKind, .static yX6_needKind, .code yX6_needKind cX6_needKind 1 none, .classLink RX6 236 "java/lang/IndexOutOfBoundsException", .initialized "java/lang/IndexOutOfBoundsException", .methodLink RX6 58 yX6_needRange, .static yX6_needRange, .code yX6_needRange cX6_needRange 3 none, .classLink RX6 122 "java/lang/IllegalArgumentException", .initialized "java/lang/IllegalArgumentException"] ++ wsX60 ++ wsX10 ++ (vx_atS RX6 240 "java/lang/IndexOutOfBoundsException" ["java/lang/RuntimeException", "java/lang/Exception"]).filter goodWord ++ (vx_atS RX6 126 "java/lang/IllegalArgumentException" ["java/lang/RuntimeException", "java/lang/Exception"]).filter goodWord)
def wsL_setFormat_r1 : List Cond := [Cond.classLink RL 15 "java/lang/IllegalArgumentException", Cond.methodLink RL 17 yX6_setFormat, Cond.instanceMethod yX6_setFormat, Cond.selects RX6 yX6_setFormat yX6_setFormat, Cond.initialized RX6, Cond.code yX6_setFormat cX6_setFormat 3 (some .int), Cond.fieldLink RX6 26 "Cardhouse" "decks" "LCardhouse$Decks;", Cond.fieldLink RX6 69 "Cardhouse$Decks" "formatSize" "I", Cond.fieldLink RX6 73 "Cardhouse$Decks" "formatMost" "I", Cond.fieldLink RX6 10 "Cardhouse" "kinds" "LCardhouse$Kinds;", Cond.fieldLink RX6 19 "Cardhouse" "prints" "LCardhouse$Prints;", Cond.methodLink RX6 58 yX6_needRange, Cond.static yX6_needRange, Cond.code yX6_needRange cX6_needRange 3 none, Cond.classLink RX6 122 "java/lang/IllegalArgumentException", Cond.initialized "java/lang/IllegalArgumentException", Cond.methodLink RX6 76 yX0_countFitting, Cond.instanceMethod yX0_countFitting, Cond.selects RX0 yX0_countFitting yX0_countFitting, Cond.initialized RX0, Cond.code yX0_countFitting cX0_countFitting 5 (some .int), Cond.fieldLink RX0 30 "Cardhouse$Decks" "count" "I", Cond.methodLink RX0 60 yX0_fitsFormat, Cond.instanceMethod yX0_fitsFormat]
def wsL_setFormat_r2 : List Cond := [Cond.selects RX0 yX0_fitsFormat yX0_fitsFormat, Cond.code yX0_fitsFormat cX0_fitsFormat 7 (some .boolean), Cond.fieldLink RX0 15 "Cardhouse$Decks" "size" "[I", Cond.fieldLink RX0 23 "Cardhouse$Decks" "formatSize" "I", Cond.fieldLink RX0 20 "Cardhouse$Decks" "cards" "[[I", Cond.fieldLink RX0 33 "Cardhouse$Prints" "kind" "[I", Cond.fieldLink RX0 48 "Cardhouse$Prints" "collector" "[I", Cond.fieldLink RX0 9 "Cardhouse$Decks" "owner" "[I", Cond.fieldLink RX0 51 "Cardhouse$Kinds" "isBanned" "[Z", Cond.fieldLink RX0 27 "Cardhouse$Decks" "formatMost" "I", Cond.methodLink RX0 57 yX0_countOf, Cond.instanceMethod yX0_countOf, Cond.selects RX0 yX0_countOf yX0_countOf, Cond.code yX0_countOf cX0_countOf 4 (some .int), Cond.methodLink RX0 38 yX0_placesOf, Cond.instanceMethod yX0_placesOf, Cond.selects RX0 yX0_placesOf yX0_placesOf, Cond.code yX0_placesOf cX0_placesOf 6 (some .int), Cond.methodLink RX0 42 yJ6_bitCount_0f7a4, Cond.static yJ6_bitCount_0f7a4, Cond.initialized RJ6, Cond.code yJ6_bitCount_0f7a4 cJ6_bitCount_0f7a4 1 (some .int), Cond.constant RJ6 265 (1431655765), Cond.constant RJ6 266 (858993459)]
def wsL_setFormat_r3 : List Cond := [Cond.constant RJ6 267 (252645135)]
def wsL_setFormat : List Cond := .codeWith yL_setFormat cL_setFormat 5 (some .int) [(0, 10, 13, 15)] :: ((wsL_setFormat_r1 ++ (wsL_setFormat_r2 ++ wsL_setFormat_r3)) ++ wsX60 ++ wsX00 ++ wsX40 ++ wsX10 ++ (vx_atS RX6 126 "java/lang/IllegalArgumentException" ["java/lang/RuntimeException", "java/lang/Exception"]).filter goodWord)
def wsL_ban_r1 : List Cond := [Cond.classLink RL 13 "java/lang/IndexOutOfBoundsException", Cond.methodLink RL 21 yX6_ban, Cond.instanceMethod yX6_ban, Cond.selects RX6 yX6_ban yX6_ban, Cond.initialized RX6, Cond.code yX6_ban cX6_ban 3 (some .int), Cond.fieldLink RX6 10 "Cardhouse" "kinds" "LCardhouse$Kinds;", Cond.fieldLink RX6 80 "Cardhouse$Kinds" "isBanned" "[Z", Cond.fieldLink RX6 26 "Cardhouse" "decks" "LCardhouse$Decks;", Cond.fieldLink RX6 19 "Cardhouse" "prints" "LCardhouse$Prints;", Cond.methodLink RX6 54 yX6_needKind, Cond.static yX6_needKind, Cond.code yX6_needKind cX6_needKind 1 none, Cond.classLink RX6 236 "java/lang/IndexOutOfBoundsException", Cond.initialized "java/lang/IndexOutOfBoundsException", Cond.methodLink RX6 76 yX0_countFitting, Cond.instanceMethod yX0_countFitting, Cond.selects RX0 yX0_countFitting yX0_countFitting, Cond.initialized RX0, Cond.code yX0_countFitting cX0_countFitting 5 (some .int), Cond.fieldLink RX0 30 "Cardhouse$Decks" "count" "I", Cond.methodLink RX0 60 yX0_fitsFormat, Cond.instanceMethod yX0_fitsFormat, Cond.selects RX0 yX0_fitsFormat yX0_fitsFormat]
def wsL_ban_r2 : List Cond := [Cond.code yX0_fitsFormat cX0_fitsFormat 7 (some .boolean), Cond.fieldLink RX0 15 "Cardhouse$Decks" "size" "[I", Cond.fieldLink RX0 23 "Cardhouse$Decks" "formatSize" "I", Cond.fieldLink RX0 20 "Cardhouse$Decks" "cards" "[[I", Cond.fieldLink RX0 33 "Cardhouse$Prints" "kind" "[I", Cond.fieldLink RX0 48 "Cardhouse$Prints" "collector" "[I", Cond.fieldLink RX0 9 "Cardhouse$Decks" "owner" "[I", Cond.fieldLink RX0 51 "Cardhouse$Kinds" "isBanned" "[Z", Cond.fieldLink RX0 27 "Cardhouse$Decks" "formatMost" "I", Cond.methodLink RX0 57 yX0_countOf, Cond.instanceMethod yX0_countOf, Cond.selects RX0 yX0_countOf yX0_countOf, Cond.code yX0_countOf cX0_countOf 4 (some .int), Cond.methodLink RX0 38 yX0_placesOf, Cond.instanceMethod yX0_placesOf, Cond.selects RX0 yX0_placesOf yX0_placesOf, Cond.code yX0_placesOf cX0_placesOf 6 (some .int), Cond.methodLink RX0 42 yJ6_bitCount_0f7a4, Cond.static yJ6_bitCount_0f7a4, Cond.initialized RJ6, Cond.code yJ6_bitCount_0f7a4 cJ6_bitCount_0f7a4 1 (some .int), Cond.constant RJ6 265 (1431655765), Cond.constant RJ6 266 (858993459), Cond.constant RJ6 267 (252645135)]
def wsL_ban : List Cond := .codeWith yL_ban cL_ban 5 (some .int) [(0, 10, 13, 13)] :: ((wsL_ban_r1 ++ wsL_ban_r2) ++ wsX60 ++ wsX10 ++ wsX00 ++ wsX40 ++ (vx_atS RX6 240 "java/lang/IndexOutOfBoundsException" ["java/lang/RuntimeException", "java/lang/Exception"]).filter goodWord)
def wsL_print_r1 : List Cond := [Cond.classLink RL 13 "java/lang/IndexOutOfBoundsException", Cond.classLink RL 28 "java/lang/IllegalStateException", Cond.methodLink RL 25 yX6_print, Cond.instanceMethod yX6_print, Cond.selects RX6 yX6_print yX6_print, Cond.initialized RX6, Cond.code yX6_print cX6_print 3 (some .int), Cond.classLink RX6 90 "java/lang/IllegalStateException", Cond.initialized "java/lang/IllegalStateException", Cond.fieldLink RX6 19 "Cardhouse" "prints" "LCardhouse$Prints;", Cond.fieldLink RX6 87 "Cardhouse$Prints" "count" "I", Cond.fieldLink RX6 10 "Cardhouse" "kinds" "LCardhouse$Kinds;", Cond.fieldLink RX6 97 "Cardhouse$Kinds" "copies" "[I", Cond.methodLink RX6 54 yX6_needKind, Cond.static yX6_needKind, Cond.code yX6_needKind cX6_needKind 1 none, Cond.classLink RX6 236 "java/lang/IndexOutOfBoundsException", Cond.initialized "java/lang/IndexOutOfBoundsException", Cond.methodLink RX6 84 yX6_needCollector, Cond.static yX6_needCollector, Cond.code yX6_needCollector cX6_needCollector 1 none, Cond.methodLink RX6 100 yX4_append, Cond.instanceMethod yX4_append, Cond.selects RX4 yX4_append yX4_append]
def wsL_print_r2 : List Cond := [Cond.initialized RX4, Cond.code yX4_append cX4_append 5 (some .int), Cond.fieldLink RX4 21 "Cardhouse$Prints" "count" "I", Cond.fieldLink RX4 9 "Cardhouse$Prints" "kind" "[I", Cond.fieldLink RX4 15 "Cardhouse$Prints" "number" "[I", Cond.fieldLink RX4 18 "Cardhouse$Prints" "collector" "[I"]
def wsL_print : List Cond := .codeWith yL_print cL_print 5 (some .int) [(0, 10, 13, 13), (0, 10, 17, 28)] :: ((wsL_print_r1 ++ wsL_print_r2) ++ wsX60 ++ wsX40 ++ wsX10 ++ (vx_atS RX6 94 "java/lang/IllegalStateException" ["java/lang/RuntimeException", "java/lang/Exception"]).filter goodWord ++ (vx_atS RX6 240 "java/lang/IndexOutOfBoundsException" ["java/lang/RuntimeException", "java/lang/Exception"]).filter goodWord)
def wsL_deck : List Cond := .codeWith yL_deck cL_deck 4 (some .int) [(0, 9, 12, 13), (0, 9, 15, 28)] :: ([.classLink RL 13 "java/lang/IndexOutOfBoundsException", .classLink RL 28 "java/lang/IllegalStateException", .methodLink RL 30 yX6_deck, .instanceMethod yX6_deck, .selects RX6 yX6_deck yX6_deck, .initialized RX6, .code yX6_deck cX6_deck 2 (some .int), .classLink RX6 90 "java/lang/IllegalStateException", .initialized "java/lang/IllegalStateException", .fieldLink RX6 26 "Cardhouse" "decks" "LCardhouse$Decks;", .fieldLink RX6 104 "Cardhouse$Decks" "count" "I", .methodLink RX6 84 yX6_needCollector, .static yX6_needCollector, .code yX6_needCollector cX6_needCollector 1 none, .classLink RX6 236 "java/lang/IndexOutOfBoundsException", .initialized "java/lang/IndexOutOfBoundsException", .methodLink RX6 107 yX0_append, .instanceMethod yX0_append, .selects RX0 yX0_append yX0_append, .initialized RX0, .code yX0_append cX0_append 3 (some .int), .fieldLink RX0 30 "Cardhouse$Decks" "count" "I", .fieldLink RX0 9 "Cardhouse$Decks" "owner" "[I"] ++ wsX60 ++ wsX00 ++ (vx_atS RX6 94 "java/lang/IllegalStateException" ["java/lang/RuntimeException", "java/lang/Exception"]).filter goodWord ++ (vx_atS RX6 240 "java/lang/IndexOutOfBoundsException" ["java/lang/RuntimeException", "java/lang/Exception"]).filter goodWord)
def wsL_add_r1 : List Cond := [Cond.classLink RL 13 "java/lang/IndexOutOfBoundsException", Cond.classLink RL 15 "java/lang/IllegalArgumentException", Cond.classLink RL 28 "java/lang/IllegalStateException", Cond.methodLink RL 34 yX6_add, Cond.instanceMethod yX6_add, Cond.selects RX6 yX6_add yX6_add, Cond.initialized RX6, Cond.code yX6_add cX6_add 3 (some .int), Cond.classLink RX6 122 "java/lang/IllegalArgumentException", Cond.initialized "java/lang/IllegalArgumentException", Cond.classLink RX6 90 "java/lang/IllegalStateException", Cond.initialized "java/lang/IllegalStateException", Cond.fieldLink RX6 19 "Cardhouse" "prints" "LCardhouse$Prints;", Cond.fieldLink RX6 116 "Cardhouse$Prints" "collector" "[I", Cond.fieldLink RX6 26 "Cardhouse" "decks" "LCardhouse$Decks;", Cond.fieldLink RX6 119 "Cardhouse$Decks" "owner" "[I", Cond.fieldLink RX6 133 "Cardhouse$Decks" "size" "[I", Cond.methodLink RX6 110 yX6_needDeck, Cond.instanceMethod yX6_needDeck, Cond.selects RX6 yX6_needDeck yX6_needDeck, Cond.code yX6_needDeck cX6_needDeck 2 none, Cond.classLink RX6 236 "java/lang/IndexOutOfBoundsException", Cond.initialized "java/lang/IndexOutOfBoundsException", Cond.fieldLink RX6 104 "Cardhouse$Decks" "count" "I"]
def wsL_add_r2 : List Cond := [Cond.methodLink RX6 113 yX6_needCard, Cond.instanceMethod yX6_needCard, Cond.selects RX6 yX6_needCard yX6_needCard, Cond.code yX6_needCard cX6_needCard 2 none, Cond.fieldLink RX6 87 "Cardhouse$Prints" "count" "I", Cond.methodLink RX6 127 yX0_holds, Cond.instanceMethod yX0_holds, Cond.selects RX0 yX0_holds yX0_holds, Cond.initialized RX0, Cond.code yX0_holds cX0_holds 4 (some .boolean), Cond.fieldLink RX0 15 "Cardhouse$Decks" "size" "[I", Cond.fieldLink RX0 20 "Cardhouse$Decks" "cards" "[[I", Cond.methodLink RX6 138 yX0_putBehind, Cond.instanceMethod yX0_putBehind, Cond.selects RX0 yX0_putBehind yX0_putBehind, Cond.code yX0_putBehind cX0_putBehind 3 (some .int)]
def wsL_add : List Cond := .codeWith yL_add cL_add 5 (some .int) [(0, 10, 13, 13), (0, 10, 17, 15), (0, 10, 21, 28)] :: ((wsL_add_r1 ++ wsL_add_r2) ++ wsX60 ++ wsX40 ++ wsX00 ++ (vx_atS RX6 126 "java/lang/IllegalArgumentException" ["java/lang/RuntimeException", "java/lang/Exception"]).filter goodWord ++ (vx_atS RX6 94 "java/lang/IllegalStateException" ["java/lang/RuntimeException", "java/lang/Exception"]).filter goodWord ++ (vx_atS RX6 240 "java/lang/IndexOutOfBoundsException" ["java/lang/RuntimeException", "java/lang/Exception"]).filter goodWord)
def wsL_cut_r1 : List Cond := [Cond.classLink RL 13 "java/lang/IndexOutOfBoundsException", Cond.methodLink RL 37 yX6_cut, Cond.instanceMethod yX6_cut, Cond.selects RX6 yX6_cut yX6_cut, Cond.initialized RX6, Cond.code yX6_cut cX6_cut 3 (some .int), Cond.fieldLink RX6 26 "Cardhouse" "decks" "LCardhouse$Decks;", Cond.methodLink RX6 110 yX6_needDeck, Cond.instanceMethod yX6_needDeck, Cond.selects RX6 yX6_needDeck yX6_needDeck, Cond.code yX6_needDeck cX6_needDeck 2 none, Cond.classLink RX6 236 "java/lang/IndexOutOfBoundsException", Cond.initialized "java/lang/IndexOutOfBoundsException", Cond.fieldLink RX6 104 "Cardhouse$Decks" "count" "I", Cond.methodLink RX6 142 yX6_needPlace, Cond.instanceMethod yX6_needPlace, Cond.selects RX6 yX6_needPlace yX6_needPlace, Cond.code yX6_needPlace cX6_needPlace 3 none, Cond.fieldLink RX6 133 "Cardhouse$Decks" "size" "[I", Cond.methodLink RX6 146 yX0_takeOut, Cond.instanceMethod yX0_takeOut, Cond.selects RX0 yX0_takeOut yX0_takeOut, Cond.initialized RX0, Cond.code yX0_takeOut cX0_takeOut 5 (some .int)]
def wsL_cut_r2 : List Cond := [Cond.fieldLink RX0 20 "Cardhouse$Decks" "cards" "[[I", Cond.fieldLink RX0 15 "Cardhouse$Decks" "size" "[I"]
def wsL_cut : List Cond := .codeWith yL_cut cL_cut 5 (some .int) [(0, 10, 13, 13)] :: ((wsL_cut_r1 ++ wsL_cut_r2) ++ wsX60 ++ wsX00 ++ (vx_atS RX6 240 "java/lang/IndexOutOfBoundsException" ["java/lang/RuntimeException", "java/lang/Exception"]).filter goodWord)
def wsL_play_r1 : List Cond := [Cond.classLink RL 13 "java/lang/IndexOutOfBoundsException", Cond.classLink RL 15 "java/lang/IllegalArgumentException", Cond.classLink RL 28 "java/lang/IllegalStateException", Cond.methodLink RL 40 yX6_play, Cond.instanceMethod yX6_play, Cond.selects RX6 yX6_play yX6_play, Cond.initialized RX6, Cond.code yX6_play cX6_play 6 (some .int), Cond.classLink RX6 122 "java/lang/IllegalArgumentException", Cond.initialized "java/lang/IllegalArgumentException", Cond.fieldLink RX6 26 "Cardhouse" "decks" "LCardhouse$Decks;", Cond.fieldLink RX6 119 "Cardhouse$Decks" "owner" "[I", Cond.fieldLink RX6 47 "Cardhouse" "firstSide" "LCardhouse$Side;", Cond.fieldLink RX6 51 "Cardhouse" "secondSide" "LCardhouse$Side;", Cond.fieldLink RX6 69 "Cardhouse$Decks" "formatSize" "I", Cond.fieldLink RX6 164 "Cardhouse$Side" "points" "I", Cond.methodLink RX6 110 yX6_needDeck, Cond.instanceMethod yX6_needDeck, Cond.selects RX6 yX6_needDeck yX6_needDeck, Cond.code yX6_needDeck cX6_needDeck 2 none, Cond.classLink RX6 236 "java/lang/IndexOutOfBoundsException", Cond.initialized "java/lang/IndexOutOfBoundsException", Cond.fieldLink RX6 104 "Cardhouse$Decks" "count" "I", Cond.methodLink RX6 149 yX6_needSeed]
def wsL_play_r2 : List Cond := [Cond.static yX6_needSeed, Cond.code yX6_needSeed cX6_needSeed 1 none, Cond.methodLink RX6 154 yX6_needAllowed, Cond.instanceMethod yX6_needAllowed, Cond.selects RX6 yX6_needAllowed yX6_needAllowed, Cond.code yX6_needAllowed cX6_needAllowed 2 none, Cond.classLink RX6 90 "java/lang/IllegalStateException", Cond.initialized "java/lang/IllegalStateException", Cond.fieldLink RX6 10 "Cardhouse" "kinds" "LCardhouse$Kinds;", Cond.fieldLink RX6 19 "Cardhouse" "prints" "LCardhouse$Prints;", Cond.methodLink RX6 215 yX0_fitsFormat, Cond.instanceMethod yX0_fitsFormat, Cond.selects RX0 yX0_fitsFormat yX0_fitsFormat, Cond.initialized RX0, Cond.code yX0_fitsFormat cX0_fitsFormat 7 (some .boolean), Cond.fieldLink RX0 15 "Cardhouse$Decks" "size" "[I", Cond.fieldLink RX0 23 "Cardhouse$Decks" "formatSize" "I", Cond.fieldLink RX0 20 "Cardhouse$Decks" "cards" "[[I", Cond.fieldLink RX0 33 "Cardhouse$Prints" "kind" "[I", Cond.fieldLink RX0 48 "Cardhouse$Prints" "collector" "[I", Cond.fieldLink RX0 9 "Cardhouse$Decks" "owner" "[I", Cond.fieldLink RX0 51 "Cardhouse$Kinds" "isBanned" "[Z", Cond.fieldLink RX0 27 "Cardhouse$Decks" "formatMost" "I", Cond.methodLink RX0 57 yX0_countOf]
def wsL_play_r3 : List Cond := [Cond.instanceMethod yX0_countOf, Cond.selects RX0 yX0_countOf yX0_countOf, Cond.code yX0_countOf cX0_countOf 4 (some .int), Cond.methodLink RX0 38 yX0_placesOf, Cond.instanceMethod yX0_placesOf, Cond.selects RX0 yX0_placesOf yX0_placesOf, Cond.code yX0_placesOf cX0_placesOf 6 (some .int), Cond.methodLink RX0 42 yJ6_bitCount_0f7a4, Cond.static yJ6_bitCount_0f7a4, Cond.initialized RJ6, Cond.code yJ6_bitCount_0f7a4 cJ6_bitCount_0f7a4 1 (some .int), Cond.constant RJ6 265 (1431655765), Cond.constant RJ6 266 (858993459), Cond.constant RJ6 267 (252645135), Cond.methodLink RX6 157 yX5_start, Cond.instanceMethod yX5_start, Cond.selects RX5 yX5_start yX5_start, Cond.initialized RX5, Cond.code yX5_start cX5_start 4 none, Cond.fieldLink RX5 12 "Cardhouse$Side" "pile" "LCardhouse$Pile;", Cond.fieldLink RX5 22 "Cardhouse$Side" "points" "I", Cond.fieldLink RX5 26 "Cardhouse$Side" "ahead" "I", Cond.methodLink RX5 18 yX3_shuffle, Cond.instanceMethod yX3_shuffle]
def wsL_play_r4 : List Cond := [Cond.selects RX3 yX3_shuffle yX3_shuffle, Cond.initialized RX3, Cond.code yX3_shuffle cX3_shuffle 10 none, Cond.fieldLink RX3 15 "Cardhouse$Decks" "size" "[I", Cond.fieldLink RX3 9 "Cardhouse$Pile" "cards" "[I", Cond.fieldLink RX3 20 "Cardhouse$Decks" "cards" "[[I", Cond.constantLong RX3 23 (1103515245), Cond.constantLong RX3 25 (12345), Cond.constantLong RX3 27 (2147483648), Cond.constantLong RX3 29 (65536), Cond.methodLink RX6 161 yX6_playRound, Cond.instanceMethod yX6_playRound, Cond.selects RX6 yX6_playRound yX6_playRound, Cond.code yX6_playRound cX6_playRound 8 none, Cond.fieldLink RX6 170 "Cardhouse$Prints" "kind" "[I", Cond.fieldLink RX6 259 "Cardhouse$Side" "pile" "LCardhouse$Pile;", Cond.fieldLink RX6 222 "Cardhouse$Pile" "cards" "[I", Cond.fieldLink RX6 62 "Cardhouse$Kinds" "power" "[I", Cond.fieldLink RX6 260 "Cardhouse$Side" "ahead" "I", Cond.fieldLink RX6 66 "Cardhouse$Kinds" "trigger" "[I", Cond.methodLink RX6 263 yX5_endRound, Cond.instanceMethod yX5_endRound, Cond.selects RX5 yX5_endRound yX5_endRound, Cond.code yX5_endRound cX5_endRound 4 none]
def wsL_play_r5 : List Cond := [Cond.methodLink RX6 167 yX6_giveWins, Cond.instanceMethod yX6_giveWins, Cond.selects RX6 yX6_giveWins yX6_giveWins, Cond.code yX6_giveWins cX6_giveWins 3 none, Cond.fieldLink RX6 212 "Cardhouse$Kinds" "wins" "[I", Cond.methodLink RX6 225 yX0_countOf]
def wsL_play : List Cond := .codeWith yL_play cL_play 7 (some .int) [(0, 14, 17, 13), (0, 14, 21, 15), (0, 14, 25, 28)] :: ((wsL_play_r1 ++ (wsL_play_r2 ++ (wsL_play_r3 ++ (wsL_play_r4 ++ wsL_play_r5)))) ++ wsX60 ++ wsX00 ++ wsX50 ++ wsX40 ++ wsX10 ++ wsX30 ++ (vx_atS RX6 126 "java/lang/IllegalArgumentException" ["java/lang/RuntimeException", "java/lang/Exception"]).filter goodWord ++ (vx_atS RX6 240 "java/lang/IndexOutOfBoundsException" ["java/lang/RuntimeException", "java/lang/Exception"]).filter goodWord ++ (vx_atS RX6 94 "java/lang/IllegalStateException" ["java/lang/RuntimeException", "java/lang/Exception"]).filter goodWord)
def wsL_offer_r1 : List Cond := [Cond.classLink RL 13 "java/lang/IndexOutOfBoundsException", Cond.classLink RL 15 "java/lang/IllegalArgumentException", Cond.classLink RL 28 "java/lang/IllegalStateException", Cond.methodLink RL 44 yX6_offer, Cond.instanceMethod yX6_offer, Cond.selects RX6 yX6_offer yX6_offer, Cond.initialized RX6, Cond.code yX6_offer cX6_offer 3 (some .int), Cond.classLink RX6 122 "java/lang/IllegalArgumentException", Cond.initialized "java/lang/IllegalArgumentException", Cond.classLink RX6 90 "java/lang/IllegalStateException", Cond.initialized "java/lang/IllegalStateException", Cond.fieldLink RX6 19 "Cardhouse" "prints" "LCardhouse$Prints;", Cond.fieldLink RX6 170 "Cardhouse$Prints" "kind" "[I", Cond.fieldLink RX6 33 "Cardhouse" "offers" "LCardhouse$Offers;", Cond.fieldLink RX6 181 "Cardhouse$Offers" "count" "I", Cond.methodLink RX6 113 yX6_needCard, Cond.instanceMethod yX6_needCard, Cond.selects RX6 yX6_needCard yX6_needCard, Cond.code yX6_needCard cX6_needCard 2 none, Cond.classLink RX6 236 "java/lang/IndexOutOfBoundsException", Cond.initialized "java/lang/IndexOutOfBoundsException", Cond.fieldLink RX6 87 "Cardhouse$Prints" "count" "I", Cond.methodLink RX6 54 yX6_needKind]
def wsL_offer_r2 : List Cond := [Cond.static yX6_needKind, Cond.code yX6_needKind cX6_needKind 1 none, Cond.methodLink RX6 175 yX2_hasLive, Cond.instanceMethod yX2_hasLive, Cond.selects RX2 yX2_hasLive yX2_hasLive, Cond.initialized RX2, Cond.code yX2_hasLive cX2_hasLive 3 (some .boolean), Cond.fieldLink RX2 31 "Cardhouse$Offers" "count" "I", Cond.fieldLink RX2 24 "Cardhouse$Offers" "isLive" "[Z", Cond.fieldLink RX2 9 "Cardhouse$Offers" "card" "[I", Cond.methodLink RX6 184 yX2_append, Cond.instanceMethod yX2_append, Cond.selects RX2 yX2_append yX2_append, Cond.code yX2_append cX2_append 5 (some .int), Cond.fieldLink RX2 15 "Cardhouse$Offers" "given" "[I", Cond.fieldLink RX2 35 "Cardhouse$Prints" "kind" "[I", Cond.fieldLink RX2 18 "Cardhouse$Offers" "wanted" "[I", Cond.fieldLink RX2 21 "Cardhouse$Offers" "collector" "[I", Cond.fieldLink RX2 40 "Cardhouse$Prints" "collector" "[I"]
def wsL_offer : List Cond := .codeWith yL_offer cL_offer 5 (some .int) [(0, 10, 13, 13), (0, 10, 17, 15), (0, 10, 21, 28)] :: ((wsL_offer_r1 ++ wsL_offer_r2) ++ wsX60 ++ wsX40 ++ wsX20 ++ (vx_atS RX6 126 "java/lang/IllegalArgumentException" ["java/lang/RuntimeException", "java/lang/Exception"]).filter goodWord ++ (vx_atS RX6 94 "java/lang/IllegalStateException" ["java/lang/RuntimeException", "java/lang/Exception"]).filter goodWord ++ (vx_atS RX6 240 "java/lang/IndexOutOfBoundsException" ["java/lang/RuntimeException", "java/lang/Exception"]).filter goodWord)
def wsL_takeBack : List Cond := .codeWith yL_takeBack cL_takeBack 4 (some .int) [(0, 9, 12, 13), (0, 9, 15, 28)] :: ([.classLink RL 13 "java/lang/IndexOutOfBoundsException", .classLink RL 28 "java/lang/IllegalStateException", .methodLink RL 47 yX6_takeBack, .instanceMethod yX6_takeBack, .selects RX6 yX6_takeBack yX6_takeBack, .initialized RX6, .code yX6_takeBack cX6_takeBack 2 (some .int), .classLink RX6 90 "java/lang/IllegalStateException", .initialized "java/lang/IllegalStateException", .fieldLink RX6 33 "Cardhouse" "offers" "LCardhouse$Offers;", .fieldLink RX6 190 "Cardhouse$Offers" "isLive" "[Z", .fieldLink RX6 195 "Cardhouse$Offers" "card" "[I", .methodLink RX6 187 yX6_needOffer, .instanceMethod yX6_needOffer, .selects RX6 yX6_needOffer yX6_needOffer, .code yX6_needOffer cX6_needOffer 2 none, .classLink RX6 236 "java/lang/IndexOutOfBoundsException", .initialized "java/lang/IndexOutOfBoundsException", .fieldLink RX6 181 "Cardhouse$Offers" "count" "I"] ++ wsX60 ++ wsX20 ++ (vx_atS RX6 94 "java/lang/IllegalStateException" ["java/lang/RuntimeException", "java/lang/Exception"]).filter goodWord ++ (vx_atS RX6 240 "java/lang/IndexOutOfBoundsException" ["java/lang/RuntimeException", "java/lang/Exception"]).filter goodWord)
def wsL_printOf : List Cond := .codeWith yL_printOf cL_printOf 4 (some .int) [(0, 9, 12, 13)] :: ([.classLink RL 13 "java/lang/IndexOutOfBoundsException", .methodLink RL 50 yX6_printOf, .instanceMethod yX6_printOf, .selects RX6 yX6_printOf yX6_printOf, .initialized RX6, .code yX6_printOf cX6_printOf 2 (some .int), .fieldLink RX6 19 "Cardhouse" "prints" "LCardhouse$Prints;", .fieldLink RX6 170 "Cardhouse$Prints" "kind" "[I", .fieldLink RX6 206 "Cardhouse$Prints" "number" "[I", .methodLink RX6 113 yX6_needCard, .instanceMethod yX6_needCard, .selects RX6 yX6_needCard yX6_needCard, .code yX6_needCard cX6_needCard 2 none, .classLink RX6 236 "java/lang/IndexOutOfBoundsException", .initialized "java/lang/IndexOutOfBoundsException", .fieldLink RX6 87 "Cardhouse$Prints" "count" "I"] ++ wsX60 ++ wsX40 ++ (vx_atS RX6 240 "java/lang/IndexOutOfBoundsException" ["java/lang/RuntimeException", "java/lang/Exception"]).filter goodWord)
def wsL_collectorOf : List Cond := .codeWith yL_collectorOf cL_collectorOf 4 (some .int) [(0, 9, 12, 13)] :: ([.classLink RL 13 "java/lang/IndexOutOfBoundsException", .methodLink RL 53 yX6_collectorOf, .instanceMethod yX6_collectorOf, .selects RX6 yX6_collectorOf yX6_collectorOf, .initialized RX6, .code yX6_collectorOf cX6_collectorOf 2 (some .int), .fieldLink RX6 19 "Cardhouse" "prints" "LCardhouse$Prints;", .fieldLink RX6 116 "Cardhouse$Prints" "collector" "[I", .methodLink RX6 113 yX6_needCard, .instanceMethod yX6_needCard, .selects RX6 yX6_needCard yX6_needCard, .code yX6_needCard cX6_needCard 2 none, .classLink RX6 236 "java/lang/IndexOutOfBoundsException", .initialized "java/lang/IndexOutOfBoundsException", .fieldLink RX6 87 "Cardhouse$Prints" "count" "I"] ++ wsX60 ++ wsX40 ++ (vx_atS RX6 240 "java/lang/IndexOutOfBoundsException" ["java/lang/RuntimeException", "java/lang/Exception"]).filter goodWord)
def wsL_has : List Cond := .codeWith yL_has cL_has 5 (some .int) [(0, 10, 13, 13)] :: ([.classLink RL 13 "java/lang/IndexOutOfBoundsException", .methodLink RL 56 yX6_has, .instanceMethod yX6_has, .selects RX6 yX6_has yX6_has, .initialized RX6, .code yX6_has cX6_has 3 (some .int), .fieldLink RX6 19 "Cardhouse" "prints" "LCardhouse$Prints;", .methodLink RX6 84 yX6_needCollector, .static yX6_needCollector, .code yX6_needCollector cX6_needCollector 1 none, .classLink RX6 236 "java/lang/IndexOutOfBoundsException", .initialized "java/lang/IndexOutOfBoundsException", .methodLink RX6 54 yX6_needKind, .static yX6_needKind, .code yX6_needKind cX6_needKind 1 none, .methodLink RX6 209 yX4_countOf, .instanceMethod yX4_countOf, .selects RX4 yX4_countOf yX4_countOf, .initialized RX4, .code yX4_countOf cX4_countOf 5 (some .int), .fieldLink RX4 21 "Cardhouse$Prints" "count" "I", .fieldLink RX4 18 "Cardhouse$Prints" "collector" "[I", .fieldLink RX4 9 "Cardhouse$Prints" "kind" "[I"] ++ wsX60 ++ wsX40 ++ (vx_atS RX6 240 "java/lang/IndexOutOfBoundsException" ["java/lang/RuntimeException", "java/lang/Exception"]).filter goodWord)
def wsL_wins : List Cond := .codeWith yL_wins cL_wins 4 (some .int) [(0, 9, 12, 13)] :: ([.classLink RL 13 "java/lang/IndexOutOfBoundsException", .methodLink RL 59 yX6_wins, .instanceMethod yX6_wins, .selects RX6 yX6_wins yX6_wins, .initialized RX6, .code yX6_wins cX6_wins 2 (some .int), .fieldLink RX6 10 "Cardhouse" "kinds" "LCardhouse$Kinds;", .fieldLink RX6 212 "Cardhouse$Kinds" "wins" "[I", .methodLink RX6 54 yX6_needKind, .static yX6_needKind, .code yX6_needKind cX6_needKind 1 none, .classLink RX6 236 "java/lang/IndexOutOfBoundsException", .initialized "java/lang/IndexOutOfBoundsException"] ++ wsX60 ++ wsX10 ++ (vx_atS RX6 240 "java/lang/IndexOutOfBoundsException" ["java/lang/RuntimeException", "java/lang/Exception"]).filter goodWord)
def wsL_price : List Cond := .codeWith yL_price cL_price 4 (some .int) [(0, 9, 12, 13)] :: ([.classLink RL 13 "java/lang/IndexOutOfBoundsException", .methodLink RL 62 yX6_price, .instanceMethod yX6_price, .selects RX6 yX6_price yX6_price, .initialized RX6, .code yX6_price cX6_price 3 (some .int), .fieldLink RX6 10 "Cardhouse" "kinds" "LCardhouse$Kinds;", .fieldLink RX6 97 "Cardhouse$Kinds" "copies" "[I", .fieldLink RX6 212 "Cardhouse$Kinds" "wins" "[I", .methodLink RX6 54 yX6_needKind, .static yX6_needKind, .code yX6_needKind cX6_needKind 1 none, .classLink RX6 236 "java/lang/IndexOutOfBoundsException", .initialized "java/lang/IndexOutOfBoundsException"] ++ wsX60 ++ wsX10 ++ (vx_atS RX6 240 "java/lang/IndexOutOfBoundsException" ["java/lang/RuntimeException", "java/lang/Exception"]).filter goodWord)
def wsL_isAllowed_r1 : List Cond := [Cond.classLink RL 13 "java/lang/IndexOutOfBoundsException", Cond.methodLink RL 65 yX6_isAllowed, Cond.instanceMethod yX6_isAllowed, Cond.selects RX6 yX6_isAllowed yX6_isAllowed, Cond.initialized RX6, Cond.code yX6_isAllowed cX6_isAllowed 2 (some .boolean), Cond.fieldLink RX6 26 "Cardhouse" "decks" "LCardhouse$Decks;", Cond.fieldLink RX6 10 "Cardhouse" "kinds" "LCardhouse$Kinds;", Cond.fieldLink RX6 19 "Cardhouse" "prints" "LCardhouse$Prints;", Cond.methodLink RX6 110 yX6_needDeck, Cond.instanceMethod yX6_needDeck, Cond.selects RX6 yX6_needDeck yX6_needDeck, Cond.code yX6_needDeck cX6_needDeck 2 none, Cond.classLink RX6 236 "java/lang/IndexOutOfBoundsException", Cond.initialized "java/lang/IndexOutOfBoundsException", Cond.fieldLink RX6 104 "Cardhouse$Decks" "count" "I", Cond.methodLink RX6 215 yX0_fitsFormat, Cond.instanceMethod yX0_fitsFormat, Cond.selects RX0 yX0_fitsFormat yX0_fitsFormat, Cond.initialized RX0, Cond.code yX0_fitsFormat cX0_fitsFormat 7 (some .boolean), Cond.fieldLink RX0 15 "Cardhouse$Decks" "size" "[I", Cond.fieldLink RX0 23 "Cardhouse$Decks" "formatSize" "I", Cond.fieldLink RX0 20 "Cardhouse$Decks" "cards" "[[I"]
def wsL_isAllowed_r2 : List Cond := [Cond.fieldLink RX0 33 "Cardhouse$Prints" "kind" "[I", Cond.fieldLink RX0 48 "Cardhouse$Prints" "collector" "[I", Cond.fieldLink RX0 9 "Cardhouse$Decks" "owner" "[I", Cond.fieldLink RX0 51 "Cardhouse$Kinds" "isBanned" "[Z", Cond.fieldLink RX0 27 "Cardhouse$Decks" "formatMost" "I", Cond.methodLink RX0 57 yX0_countOf, Cond.instanceMethod yX0_countOf, Cond.selects RX0 yX0_countOf yX0_countOf, Cond.code yX0_countOf cX0_countOf 4 (some .int), Cond.methodLink RX0 38 yX0_placesOf, Cond.instanceMethod yX0_placesOf, Cond.selects RX0 yX0_placesOf yX0_placesOf, Cond.code yX0_placesOf cX0_placesOf 6 (some .int), Cond.methodLink RX0 42 yJ6_bitCount_0f7a4, Cond.static yJ6_bitCount_0f7a4, Cond.initialized RJ6, Cond.code yJ6_bitCount_0f7a4 cJ6_bitCount_0f7a4 1 (some .int), Cond.constant RJ6 265 (1431655765), Cond.constant RJ6 266 (858993459), Cond.constant RJ6 267 (252645135)]
def wsL_isAllowed : List Cond := .codeWith yL_isAllowed cL_isAllowed 4 (some .int) [(0, 16, 19, 13)] :: ((wsL_isAllowed_r1 ++ wsL_isAllowed_r2) ++ wsX60 ++ wsX00 ++ wsX40 ++ wsX10 ++ (vx_atS RX6 240 "java/lang/IndexOutOfBoundsException" ["java/lang/RuntimeException", "java/lang/Exception"]).filter goodWord)
def wsL_shuffled_r1 : List Cond := [Cond.classLink RL 13 "java/lang/IndexOutOfBoundsException", Cond.classLink RL 15 "java/lang/IllegalArgumentException", Cond.methodLink RL 69 yX6_shuffled, Cond.instanceMethod yX6_shuffled, Cond.selects RX6 yX6_shuffled yX6_shuffled, Cond.initialized RX6, Cond.code yX6_shuffled cX6_shuffled 4 (some .int), Cond.fieldLink RX6 40 "Cardhouse" "pile" "LCardhouse$Pile;", Cond.fieldLink RX6 26 "Cardhouse" "decks" "LCardhouse$Decks;", Cond.fieldLink RX6 222 "Cardhouse$Pile" "cards" "[I", Cond.methodLink RX6 110 yX6_needDeck, Cond.instanceMethod yX6_needDeck, Cond.selects RX6 yX6_needDeck yX6_needDeck, Cond.code yX6_needDeck cX6_needDeck 2 none, Cond.classLink RX6 236 "java/lang/IndexOutOfBoundsException", Cond.initialized "java/lang/IndexOutOfBoundsException", Cond.fieldLink RX6 104 "Cardhouse$Decks" "count" "I", Cond.methodLink RX6 142 yX6_needPlace, Cond.instanceMethod yX6_needPlace, Cond.selects RX6 yX6_needPlace yX6_needPlace, Cond.code yX6_needPlace cX6_needPlace 3 none, Cond.fieldLink RX6 133 "Cardhouse$Decks" "size" "[I", Cond.methodLink RX6 149 yX6_needSeed, Cond.static yX6_needSeed]
def wsL_shuffled_r2 : List Cond := [Cond.code yX6_needSeed cX6_needSeed 1 none, Cond.classLink RX6 122 "java/lang/IllegalArgumentException", Cond.initialized "java/lang/IllegalArgumentException", Cond.methodLink RX6 219 yX3_shuffle, Cond.instanceMethod yX3_shuffle, Cond.selects RX3 yX3_shuffle yX3_shuffle, Cond.initialized RX3, Cond.code yX3_shuffle cX3_shuffle 10 none, Cond.fieldLink RX3 15 "Cardhouse$Decks" "size" "[I", Cond.fieldLink RX3 9 "Cardhouse$Pile" "cards" "[I", Cond.fieldLink RX3 20 "Cardhouse$Decks" "cards" "[[I", Cond.constantLong RX3 23 (1103515245), Cond.constantLong RX3 25 (12345), Cond.constantLong RX3 27 (2147483648), Cond.constantLong RX3 29 (65536)]
def wsL_shuffled : List Cond := .codeWith yL_shuffled cL_shuffled 6 (some .int) [(0, 12, 15, 13), (0, 12, 19, 15)] :: ((wsL_shuffled_r1 ++ wsL_shuffled_r2) ++ wsX60 ++ wsX30 ++ wsX00 ++ (vx_atS RX6 240 "java/lang/IndexOutOfBoundsException" ["java/lang/RuntimeException", "java/lang/Exception"]).filter goodWord ++ (vx_atS RX6 126 "java/lang/IllegalArgumentException" ["java/lang/RuntimeException", "java/lang/Exception"]).filter goodWord)
def wsL_orders_r1 : List Cond := [Cond.classLink RL 13 "java/lang/IndexOutOfBoundsException", Cond.classLink RL 15 "java/lang/IllegalArgumentException", Cond.methodLink RL 72 yX6_orders, Cond.instanceMethod yX6_orders, Cond.selects RX6 yX6_orders yX6_orders, Cond.initialized RX6, Cond.code yX6_orders cX6_orders 9 (some .int), Cond.fieldLink RX6 26 "Cardhouse" "decks" "LCardhouse$Decks;", Cond.fieldLink RX6 133 "Cardhouse$Decks" "size" "[I", Cond.fieldLink RX6 19 "Cardhouse" "prints" "LCardhouse$Prints;", Cond.methodLink RX6 110 yX6_needDeck, Cond.instanceMethod yX6_needDeck, Cond.selects RX6 yX6_needDeck yX6_needDeck, Cond.code yX6_needDeck cX6_needDeck 2 none, Cond.classLink RX6 236 "java/lang/IndexOutOfBoundsException", Cond.initialized "java/lang/IndexOutOfBoundsException", Cond.fieldLink RX6 104 "Cardhouse$Decks" "count" "I", Cond.methodLink RX6 54 yX6_needKind, Cond.static yX6_needKind, Cond.code yX6_needKind cX6_needKind 1 none, Cond.methodLink RX6 58 yX6_needRange, Cond.static yX6_needRange, Cond.code yX6_needRange cX6_needRange 3 none, Cond.classLink RX6 122 "java/lang/IllegalArgumentException"]
def wsL_orders_r2 : List Cond := [Cond.initialized "java/lang/IllegalArgumentException", Cond.methodLink RX6 225 yX0_countOf, Cond.instanceMethod yX0_countOf, Cond.selects RX0 yX0_countOf yX0_countOf, Cond.initialized RX0, Cond.code yX0_countOf cX0_countOf 4 (some .int), Cond.methodLink RX0 38 yX0_placesOf, Cond.instanceMethod yX0_placesOf, Cond.selects RX0 yX0_placesOf yX0_placesOf, Cond.code yX0_placesOf cX0_placesOf 6 (some .int), Cond.fieldLink RX0 15 "Cardhouse$Decks" "size" "[I", Cond.fieldLink RX0 33 "Cardhouse$Prints" "kind" "[I", Cond.fieldLink RX0 20 "Cardhouse$Decks" "cards" "[[I", Cond.methodLink RX0 42 yJ6_bitCount_0f7a4, Cond.static yJ6_bitCount_0f7a4, Cond.initialized RJ6, Cond.code yJ6_bitCount_0f7a4 cJ6_bitCount_0f7a4 1 (some .int), Cond.constant RJ6 265 (1431655765), Cond.constant RJ6 266 (858993459), Cond.constant RJ6 267 (252645135)]
def wsL_orders : List Cond := .codeWith yL_orders cL_orders 6 (some .int) [(0, 12, 15, 13), (0, 12, 19, 15)] :: ((wsL_orders_r1 ++ wsL_orders_r2) ++ wsX60 ++ wsX00 ++ wsX40 ++ (vx_atS RX6 240 "java/lang/IndexOutOfBoundsException" ["java/lang/RuntimeException", "java/lang/Exception"]).filter goodWord ++ (vx_atS RX6 126 "java/lang/IllegalArgumentException" ["java/lang/RuntimeException", "java/lang/Exception"]).filter goodWord)
def wsL_ordersByAll_r1 : List Cond := [Cond.classLink RL 13 "java/lang/IndexOutOfBoundsException", Cond.classLink RL 15 "java/lang/IllegalArgumentException", Cond.classLink RL 28 "java/lang/IllegalStateException", Cond.methodLink RL 75 yX6_ordersByAll, Cond.instanceMethod yX6_ordersByAll, Cond.selects RX6 yX6_ordersByAll yX6_ordersByAll, Cond.initialized RX6, Cond.code yX6_ordersByAll cX6_ordersByAll 6 (some .int), Cond.classLink RX6 90 "java/lang/IllegalStateException", Cond.initialized "java/lang/IllegalStateException", Cond.fieldLink RX6 26 "Cardhouse" "decks" "LCardhouse$Decks;", Cond.fieldLink RX6 133 "Cardhouse$Decks" "size" "[I", Cond.fieldLink RX6 19 "Cardhouse" "prints" "LCardhouse$Prints;", Cond.methodLink RX6 110 yX6_needDeck, Cond.instanceMethod yX6_needDeck, Cond.selects RX6 yX6_needDeck yX6_needDeck, Cond.code yX6_needDeck cX6_needDeck 2 none, Cond.classLink RX6 236 "java/lang/IndexOutOfBoundsException", Cond.initialized "java/lang/IndexOutOfBoundsException", Cond.fieldLink RX6 104 "Cardhouse$Decks" "count" "I", Cond.methodLink RX6 54 yX6_needKind, Cond.static yX6_needKind, Cond.code yX6_needKind cX6_needKind 1 none, Cond.methodLink RX6 58 yX6_needRange]
def wsL_ordersByAll_r2 : List Cond := [Cond.static yX6_needRange, Cond.code yX6_needRange cX6_needRange 3 none, Cond.classLink RX6 122 "java/lang/IllegalArgumentException", Cond.initialized "java/lang/IllegalArgumentException", Cond.methodLink RX6 229 yX0_placesOf, Cond.instanceMethod yX0_placesOf, Cond.selects RX0 yX0_placesOf yX0_placesOf, Cond.initialized RX0, Cond.code yX0_placesOf cX0_placesOf 6 (some .int), Cond.fieldLink RX0 15 "Cardhouse$Decks" "size" "[I", Cond.fieldLink RX0 33 "Cardhouse$Prints" "kind" "[I", Cond.fieldLink RX0 20 "Cardhouse$Decks" "cards" "[[I", Cond.methodLink RX6 232 yX6_countOrders, Cond.static yX6_countOrders, Cond.code yX6_countOrders cX6_countOrders 10 (some .int)]
def wsL_ordersByAll : List Cond := .codeWith yL_ordersByAll cL_ordersByAll 6 (some .int) [(0, 12, 15, 13), (0, 12, 19, 15), (0, 12, 23, 28)] :: ((wsL_ordersByAll_r1 ++ wsL_ordersByAll_r2) ++ wsX60 ++ wsX00 ++ wsX40 ++ (vx_atS RX6 94 "java/lang/IllegalStateException" ["java/lang/RuntimeException", "java/lang/Exception"]).filter goodWord ++ (vx_atS RX6 240 "java/lang/IndexOutOfBoundsException" ["java/lang/RuntimeException", "java/lang/Exception"]).filter goodWord ++ (vx_atS RX6 126 "java/lang/IllegalArgumentException" ["java/lang/RuntimeException", "java/lang/Exception"]).filter goodWord)
def wsL_isOpen : List Cond := .codeWith yL_isOpen cL_isOpen 4 (some .int) [(0, 16, 19, 13)] :: ([.classLink RL 13 "java/lang/IndexOutOfBoundsException", .methodLink RL 78 yX6_isOpen, .instanceMethod yX6_isOpen, .selects RX6 yX6_isOpen yX6_isOpen, .initialized RX6, .code yX6_isOpen cX6_isOpen 2 (some .boolean), .fieldLink RX6 33 "Cardhouse" "offers" "LCardhouse$Offers;", .fieldLink RX6 190 "Cardhouse$Offers" "isLive" "[Z", .methodLink RX6 187 yX6_needOffer, .instanceMethod yX6_needOffer, .selects RX6 yX6_needOffer yX6_needOffer, .code yX6_needOffer cX6_needOffer 2 none, .classLink RX6 236 "java/lang/IndexOutOfBoundsException", .initialized "java/lang/IndexOutOfBoundsException", .fieldLink RX6 181 "Cardhouse$Offers" "count" "I"] ++ wsX60 ++ wsX20 ++ (vx_atS RX6 240 "java/lang/IndexOutOfBoundsException" ["java/lang/RuntimeException", "java/lang/Exception"]).filter goodWord)
def wsL_ring_r1 : List Cond := [Cond.classLink RL 13 "java/lang/IndexOutOfBoundsException", Cond.methodLink RL 81 yX6_ring, Cond.instanceMethod yX6_ring, Cond.selects RX6 yX6_ring yX6_ring, Cond.initialized RX6, Cond.code yX6_ring cX6_ring 2 (some .int), Cond.classLink RX6 236 "java/lang/IndexOutOfBoundsException", Cond.initialized "java/lang/IndexOutOfBoundsException", Cond.fieldLink RX6 33 "Cardhouse" "offers" "LCardhouse$Offers;", Cond.fieldLink RX6 202 "Cardhouse$Offers" "ring" "[I", Cond.methodLink RX6 198 yX2_findRing, Cond.instanceMethod yX2_findRing, Cond.selects RX2 yX2_findRing yX2_findRing, Cond.initialized RX2, Cond.code yX2_findRing cX2_findRing 3 (some .int), Cond.fieldLink RX2 31 "Cardhouse$Offers" "count" "I", Cond.fieldLink RX2 28 "Cardhouse$Offers" "ring" "[I", Cond.fieldLink RX2 24 "Cardhouse$Offers" "isLive" "[Z", Cond.methodLink RX2 41 yX2_closes, Cond.static yX2_closes, Cond.code yX2_closes cX2_closes 4 (some .boolean), Cond.methodLink RX2 45 yX2_canGive, Cond.instanceMethod yX2_canGive, Cond.selects RX2 yX2_canGive yX2_canGive]
def wsL_ring_r2 : List Cond := [Cond.code yX2_canGive cX2_canGive 3 (some .boolean), Cond.fieldLink RX2 15 "Cardhouse$Offers" "given" "[I", Cond.fieldLink RX2 18 "Cardhouse$Offers" "wanted" "[I", Cond.methodLink RX2 49 yX2_canFollow, Cond.instanceMethod yX2_canFollow, Cond.selects RX2 yX2_canFollow yX2_canFollow, Cond.code yX2_canFollow cX2_canFollow 4 (some .boolean), Cond.fieldLink RX2 21 "Cardhouse$Offers" "collector" "[I"]
def wsL_ring : List Cond := .codeWith yL_ring cL_ring 4 (some .int) [(0, 9, 12, 13)] :: ((wsL_ring_r1 ++ wsL_ring_r2) ++ wsX60 ++ wsX20 ++ (vx_atS RX6 240 "java/lang/IndexOutOfBoundsException" ["java/lang/RuntimeException", "java/lang/Exception"]).filter goodWord)
def wsL_law0_r1 : List Cond := [Cond.classLink RL 8 RX6, Cond.instantiable RX6 7, Cond.initialized RX6, Cond.classLink RL 85 RX7, Cond.instantiable RX7 23, Cond.initialized RX7, Cond.arrayClass .long, Cond.methodLink RL 84 yX6_init, Cond.instanceMethod yX6_init, Cond.code yX6_init cX6_init 1 none, Cond.methodLink RX6 1 objectInit, Cond.instanceMethod objectInit, Cond.code objectInit ⟨#[0xb1]⟩ 1 none, Cond.classLink RX6 7 RX1, Cond.instantiable RX1 5, Cond.initialized RX1, Cond.fieldLink RX6 10 "Cardhouse" "kinds" "LCardhouse$Kinds;", Cond.classLink RX6 16 RX4, Cond.instantiable RX4 4, Cond.initialized RX4, Cond.fieldLink RX6 19 "Cardhouse" "prints" "LCardhouse$Prints;", Cond.classLink RX6 23 RX0, Cond.instantiable RX0 6, Cond.initialized RX0]
def wsL_law0_r2 : List Cond := [Cond.fieldLink RX6 26 "Cardhouse" "decks" "LCardhouse$Decks;", Cond.classLink RX6 30 RX2, Cond.instantiable RX2 7, Cond.initialized RX2, Cond.fieldLink RX6 33 "Cardhouse" "offers" "LCardhouse$Offers;", Cond.classLink RX6 37 RX3, Cond.instantiable RX3 1, Cond.initialized RX3, Cond.fieldLink RX6 40 "Cardhouse" "pile" "LCardhouse$Pile;", Cond.classLink RX6 44 RX5, Cond.instantiable RX5 3, Cond.initialized RX5, Cond.fieldLink RX6 47 "Cardhouse" "firstSide" "LCardhouse$Side;", Cond.fieldLink RX6 51 "Cardhouse" "secondSide" "LCardhouse$Side;", Cond.instanceMethod yX1_init, Cond.code yX1_init cX1_init 1 none, Cond.methodLink RX1 3 objectInit, Cond.arrayClass .int, Cond.fieldLink RX1 9 "Cardhouse$Kinds" "power" "[I", Cond.fieldLink RX1 15 "Cardhouse$Kinds" "trigger" "[I", Cond.arrayClass .boolean, Cond.fieldLink RX1 18 "Cardhouse$Kinds" "isBanned" "[Z", Cond.fieldLink RX1 22 "Cardhouse$Kinds" "copies" "[I", Cond.fieldLink RX1 25 "Cardhouse$Kinds" "wins" "[I"]
def wsL_law0_r3 : List Cond := [Cond.instanceMethod yX4_init, Cond.code yX4_init cX4_init 1 none, Cond.methodLink RX4 3 objectInit, Cond.fieldLink RX4 9 "Cardhouse$Prints" "kind" "[I", Cond.fieldLink RX4 15 "Cardhouse$Prints" "number" "[I", Cond.fieldLink RX4 18 "Cardhouse$Prints" "collector" "[I", Cond.instanceMethod yX0_init, Cond.code yX0_init cX0_init 1 none, Cond.methodLink RX0 3 objectInit, Cond.fieldLink RX0 9 "Cardhouse$Decks" "owner" "[I", Cond.fieldLink RX0 15 "Cardhouse$Decks" "size" "[I", Cond.classLink RX0 18 "[[I", Cond.fieldLink RX0 20 "Cardhouse$Decks" "cards" "[[I", Cond.fieldLink RX0 23 "Cardhouse$Decks" "formatSize" "I", Cond.fieldLink RX0 27 "Cardhouse$Decks" "formatMost" "I", Cond.instanceMethod yX2_init, Cond.code yX2_init cX2_init 1 none, Cond.methodLink RX2 3 objectInit, Cond.fieldLink RX2 9 "Cardhouse$Offers" "card" "[I", Cond.fieldLink RX2 15 "Cardhouse$Offers" "given" "[I", Cond.fieldLink RX2 18 "Cardhouse$Offers" "wanted" "[I", Cond.fieldLink RX2 21 "Cardhouse$Offers" "collector" "[I", Cond.fieldLink RX2 24 "Cardhouse$Offers" "isLive" "[Z", Cond.fieldLink RX2 28 "Cardhouse$Offers" "ring" "[I"]
def wsL_law0_r4 : List Cond := [Cond.instanceMethod yX3_init, Cond.code yX3_init cX3_init 1 none, Cond.methodLink RX3 3 objectInit, Cond.fieldLink RX3 9 "Cardhouse$Pile" "cards" "[I", Cond.instanceMethod yX5_init, Cond.code yX5_init cX5_init 1 none, Cond.methodLink RX5 3 objectInit, Cond.classLink RX5 9 RX3, Cond.fieldLink RX5 12 "Cardhouse$Side" "pile" "LCardhouse$Pile;", Cond.methodLink RL 87 yX7_init, Cond.instanceMethod yX7_init, Cond.code yX7_init cX7_init 1 none, Cond.methodLink RX7 1 objectInit, Cond.fieldLink RX7 7 "CardhouseModel" "power" "[I", Cond.fieldLink RX7 13 "CardhouseModel" "trigger" "[I", Cond.fieldLink RX7 16 "CardhouseModel" "banned" "[Z", Cond.fieldLink RX7 20 "CardhouseModel" "printed" "[I", Cond.fieldLink RX7 23 "CardhouseModel" "wins" "[I", Cond.fieldLink RX7 26 "CardhouseModel" "size" "I", Cond.fieldLink RX7 30 "CardhouseModel" "most" "I", Cond.fieldLink RX7 33 "CardhouseModel" "kind" "[I", Cond.fieldLink RX7 36 "CardhouseModel" "number" "[I", Cond.fieldLink RX7 39 "CardhouseModel" "collector" "[I", Cond.fieldLink RX7 42 "CardhouseModel" "owner" "[I"]
def wsL_law0_r5 : List Cond := [Cond.fieldLink RX7 45 "CardhouseModel" "many" "[I", Cond.fieldLink RX7 48 "CardhouseModel" "card" "[I", Cond.fieldLink RX7 51 "CardhouseModel" "row" "[I", Cond.fieldLink RX7 54 "CardhouseModel" "offered" "[I", Cond.fieldLink RX7 57 "CardhouseModel" "by" "[I", Cond.fieldLink RX7 60 "CardhouseModel" "wanted" "[I", Cond.fieldLink RX7 63 "CardhouseModel" "closed" "[Z", Cond.fieldLink RX7 66 "CardhouseModel" "ring" "[I", Cond.methodLink RL 88 yL_setKind, Cond.static yL_setKind, Cond.initialized RL, Cond.codeWith yL_setKind cL_setKind 6 (some .int) [(0, 12, 15, 13), (0, 12, 19, 15)], Cond.classLink RL 13 "java/lang/IndexOutOfBoundsException", Cond.classLink RL 15 "java/lang/IllegalArgumentException", Cond.methodLink RL 7 yX6_setKind, Cond.instanceMethod yX6_setKind, Cond.selects RX6 yX6_setKind yX6_setKind, Cond.code yX6_setKind cX6_setKind 5 (some .int), Cond.fieldLink RX6 62 "Cardhouse$Kinds" "power" "[I", Cond.fieldLink RX6 66 "Cardhouse$Kinds" "trigger" "[I", Cond.methodLink RX6 54 yX6_needKind, Cond.static yX6_needKind, Cond.code yX6_needKind cX6_needKind 1 none, Cond.classLink RX6 236 "java/lang/IndexOutOfBoundsException"]
def wsL_law0_r6 : List Cond := [Cond.initialized "java/lang/IndexOutOfBoundsException", Cond.methodLink RX6 58 yX6_needRange, Cond.static yX6_needRange, Cond.code yX6_needRange cX6_needRange 3 none, Cond.classLink RX6 122 "java/lang/IllegalArgumentException", Cond.initialized "java/lang/IllegalArgumentException", Cond.methodLink RL 93 yX7_setKind, Cond.instanceMethod yX7_setKind, Cond.selects RX7 yX7_setKind yX7_setKind, Cond.code yX7_setKind cX7_setKind 5 (some .int), Cond.methodLink RX7 85 yX7_isKind, Cond.static yX7_isKind, Cond.code yX7_isKind cX7_isKind 1 (some .boolean), Cond.methodLink RX7 72 yX7_in, Cond.static yX7_in, Cond.code yX7_in cX7_in 3 (some .boolean), Cond.methodLink RX7 89 yX7_goes, Cond.instanceMethod yX7_goes, Cond.selects RX7 yX7_goes yX7_goes, Cond.code yX7_goes cX7_goes 4 (some .boolean), Cond.fieldLink RX7 69 "CardhouseModel" "thrown" "I", Cond.methodLink RL 94 yX7_thrown, Cond.instanceMethod yX7_thrown, Cond.selects RX7 yX7_thrown yX7_thrown]
def wsL_law0_r7 : List Cond := [Cond.code yX7_thrown cX7_thrown 1 (some .int), Cond.methodLink RL 98 yL_setFormat, Cond.static yL_setFormat, Cond.codeWith yL_setFormat cL_setFormat 5 (some .int) [(0, 10, 13, 15)], Cond.methodLink RL 17 yX6_setFormat, Cond.instanceMethod yX6_setFormat, Cond.selects RX6 yX6_setFormat yX6_setFormat, Cond.code yX6_setFormat cX6_setFormat 3 (some .int), Cond.fieldLink RX6 69 "Cardhouse$Decks" "formatSize" "I", Cond.fieldLink RX6 73 "Cardhouse$Decks" "formatMost" "I", Cond.methodLink RX6 76 yX0_countFitting, Cond.instanceMethod yX0_countFitting, Cond.selects RX0 yX0_countFitting yX0_countFitting, Cond.code yX0_countFitting cX0_countFitting 5 (some .int), Cond.fieldLink RX0 30 "Cardhouse$Decks" "count" "I", Cond.methodLink RX0 60 yX0_fitsFormat, Cond.instanceMethod yX0_fitsFormat, Cond.selects RX0 yX0_fitsFormat yX0_fitsFormat, Cond.code yX0_fitsFormat cX0_fitsFormat 7 (some .boolean), Cond.fieldLink RX0 33 "Cardhouse$Prints" "kind" "[I", Cond.fieldLink RX0 48 "Cardhouse$Prints" "collector" "[I", Cond.fieldLink RX0 51 "Cardhouse$Kinds" "isBanned" "[Z", Cond.methodLink RX0 57 yX0_countOf, Cond.instanceMethod yX0_countOf]
def wsL_law0_r8 : List Cond := [Cond.selects RX0 yX0_countOf yX0_countOf, Cond.code yX0_countOf cX0_countOf 4 (some .int), Cond.methodLink RX0 38 yX0_placesOf, Cond.instanceMethod yX0_placesOf, Cond.selects RX0 yX0_placesOf yX0_placesOf, Cond.code yX0_placesOf cX0_placesOf 6 (some .int), Cond.methodLink RX0 42 yJ6_bitCount_0f7a4, Cond.static yJ6_bitCount_0f7a4, Cond.initialized RJ6, Cond.code yJ6_bitCount_0f7a4 cJ6_bitCount_0f7a4 1 (some .int), Cond.constant RJ6 265 (1431655765), Cond.constant RJ6 266 (858993459), Cond.constant RJ6 267 (252645135), Cond.methodLink RL 101 yX7_setFormat, Cond.instanceMethod yX7_setFormat, Cond.selects RX7 yX7_setFormat yX7_setFormat, Cond.code yX7_setFormat cX7_setFormat 3 (some .int), Cond.methodLink RX7 103 yX7_manyAllowed, Cond.instanceMethod yX7_manyAllowed, Cond.selects RX7 yX7_manyAllowed yX7_manyAllowed, Cond.code yX7_manyAllowed cX7_manyAllowed 3 (some .int), Cond.fieldLink RX7 79 "CardhouseModel" "decks" "I", Cond.methodLink RX7 100 yX7_allows, Cond.instanceMethod yX7_allows]
def wsL_law0_r9 : List Cond := [Cond.selects RX7 yX7_allows yX7_allows, Cond.code yX7_allows cX7_allows 5 (some .boolean), Cond.methodLink RX7 93 yX7_kindAt, Cond.instanceMethod yX7_kindAt, Cond.selects RX7 yX7_kindAt yX7_kindAt, Cond.code yX7_kindAt cX7_kindAt 3 (some .int), Cond.methodLink RX7 97 yX7_manyOf, Cond.instanceMethod yX7_manyOf, Cond.selects RX7 yX7_manyOf yX7_manyOf, Cond.code yX7_manyOf cX7_manyOf 5 (some .int), Cond.methodLink RL 102 yL_ban, Cond.static yL_ban, Cond.codeWith yL_ban cL_ban 5 (some .int) [(0, 10, 13, 13)], Cond.methodLink RL 21 yX6_ban, Cond.instanceMethod yX6_ban, Cond.selects RX6 yX6_ban yX6_ban, Cond.code yX6_ban cX6_ban 3 (some .int), Cond.fieldLink RX6 80 "Cardhouse$Kinds" "isBanned" "[Z", Cond.methodLink RL 105 yX7_ban, Cond.instanceMethod yX7_ban, Cond.selects RX7 yX7_ban yX7_ban, Cond.code yX7_ban cX7_ban 3 (some .int), Cond.methodLink RL 106 yL_print, Cond.static yL_print]
def wsL_law0_r10 : List Cond := [Cond.codeWith yL_print cL_print 5 (some .int) [(0, 10, 13, 13), (0, 10, 17, 28)], Cond.classLink RL 28 "java/lang/IllegalStateException", Cond.methodLink RL 25 yX6_print, Cond.instanceMethod yX6_print, Cond.selects RX6 yX6_print yX6_print, Cond.code yX6_print cX6_print 3 (some .int), Cond.classLink RX6 90 "java/lang/IllegalStateException", Cond.initialized "java/lang/IllegalStateException", Cond.fieldLink RX6 87 "Cardhouse$Prints" "count" "I", Cond.fieldLink RX6 97 "Cardhouse$Kinds" "copies" "[I", Cond.methodLink RX6 84 yX6_needCollector, Cond.static yX6_needCollector, Cond.code yX6_needCollector cX6_needCollector 1 none, Cond.methodLink RX6 100 yX4_append, Cond.instanceMethod yX4_append, Cond.selects RX4 yX4_append yX4_append, Cond.code yX4_append cX4_append 5 (some .int), Cond.fieldLink RX4 21 "Cardhouse$Prints" "count" "I", Cond.methodLink RL 108 yX7_print, Cond.instanceMethod yX7_print, Cond.selects RX7 yX7_print yX7_print, Cond.code yX7_print cX7_print 3 (some .int), Cond.fieldLink RX7 76 "CardhouseModel" "cards" "I", Cond.methodLink RX7 107 yX7_isCollector]
def wsL_law0_r11 : List Cond := [Cond.static yX7_isCollector, Cond.code yX7_isCollector cX7_isCollector 1 (some .boolean), Cond.methodLink RL 109 yL_deck, Cond.static yL_deck, Cond.codeWith yL_deck cL_deck 4 (some .int) [(0, 9, 12, 13), (0, 9, 15, 28)], Cond.methodLink RL 30 yX6_deck, Cond.instanceMethod yX6_deck, Cond.selects RX6 yX6_deck yX6_deck, Cond.code yX6_deck cX6_deck 2 (some .int), Cond.fieldLink RX6 104 "Cardhouse$Decks" "count" "I", Cond.methodLink RX6 107 yX0_append, Cond.instanceMethod yX0_append, Cond.selects RX0 yX0_append yX0_append, Cond.code yX0_append cX0_append 3 (some .int), Cond.methodLink RL 112 yX7_deck, Cond.instanceMethod yX7_deck, Cond.selects RX7 yX7_deck yX7_deck, Cond.code yX7_deck cX7_deck 2 (some .int), Cond.methodLink RL 113 yL_add, Cond.static yL_add, Cond.codeWith yL_add cL_add 5 (some .int) [(0, 10, 13, 13), (0, 10, 17, 15), (0, 10, 21, 28)], Cond.methodLink RL 34 yX6_add, Cond.instanceMethod yX6_add, Cond.selects RX6 yX6_add yX6_add]
def wsL_law0_r12 : List Cond := [Cond.code yX6_add cX6_add 3 (some .int), Cond.fieldLink RX6 116 "Cardhouse$Prints" "collector" "[I", Cond.fieldLink RX6 119 "Cardhouse$Decks" "owner" "[I", Cond.fieldLink RX6 133 "Cardhouse$Decks" "size" "[I", Cond.methodLink RX6 110 yX6_needDeck, Cond.instanceMethod yX6_needDeck, Cond.selects RX6 yX6_needDeck yX6_needDeck, Cond.code yX6_needDeck cX6_needDeck 2 none, Cond.methodLink RX6 113 yX6_needCard, Cond.instanceMethod yX6_needCard, Cond.selects RX6 yX6_needCard yX6_needCard, Cond.code yX6_needCard cX6_needCard 2 none, Cond.methodLink RX6 127 yX0_holds, Cond.instanceMethod yX0_holds, Cond.selects RX0 yX0_holds yX0_holds, Cond.code yX0_holds cX0_holds 4 (some .boolean), Cond.methodLink RX6 138 yX0_putBehind, Cond.instanceMethod yX0_putBehind, Cond.selects RX0 yX0_putBehind yX0_putBehind, Cond.code yX0_putBehind cX0_putBehind 3 (some .int), Cond.methodLink RL 115 yX7_add, Cond.instanceMethod yX7_add, Cond.selects RX7 yX7_add yX7_add, Cond.code yX7_add cX7_add 5 (some .int)]
def wsL_law0_r13 : List Cond := [Cond.methodLink RX7 110 yX7_isDeck, Cond.instanceMethod yX7_isDeck, Cond.selects RX7 yX7_isDeck yX7_isDeck, Cond.code yX7_isDeck cX7_isDeck 2 (some .boolean), Cond.methodLink RX7 113 yX7_isCard, Cond.instanceMethod yX7_isCard, Cond.selects RX7 yX7_isCard yX7_isCard, Cond.code yX7_isCard cX7_isCard 2 (some .boolean), Cond.methodLink RX7 116 yX7_isIn, Cond.instanceMethod yX7_isIn, Cond.selects RX7 yX7_isIn yX7_isIn, Cond.code yX7_isIn cX7_isIn 5 (some .boolean), Cond.methodLink RL 116 yL_cut, Cond.static yL_cut, Cond.codeWith yL_cut cL_cut 5 (some .int) [(0, 10, 13, 13)], Cond.methodLink RL 37 yX6_cut, Cond.instanceMethod yX6_cut, Cond.selects RX6 yX6_cut yX6_cut, Cond.code yX6_cut cX6_cut 3 (some .int), Cond.methodLink RX6 142 yX6_needPlace, Cond.instanceMethod yX6_needPlace, Cond.selects RX6 yX6_needPlace yX6_needPlace, Cond.code yX6_needPlace cX6_needPlace 3 none, Cond.methodLink RX6 146 yX0_takeOut]
def wsL_law0_r14 : List Cond := [Cond.instanceMethod yX0_takeOut, Cond.selects RX0 yX0_takeOut yX0_takeOut, Cond.code yX0_takeOut cX0_takeOut 5 (some .int), Cond.methodLink RL 118 yX7_cut, Cond.instanceMethod yX7_cut, Cond.selects RX7 yX7_cut yX7_cut, Cond.code yX7_cut cX7_cut 6 (some .int), Cond.methodLink RL 119 yL_play, Cond.static yL_play, Cond.codeWith yL_play cL_play 7 (some .int) [(0, 14, 17, 13), (0, 14, 21, 15), (0, 14, 25, 28)], Cond.methodLink RL 40 yX6_play, Cond.instanceMethod yX6_play, Cond.selects RX6 yX6_play yX6_play, Cond.code yX6_play cX6_play 6 (some .int), Cond.fieldLink RX6 164 "Cardhouse$Side" "points" "I", Cond.methodLink RX6 149 yX6_needSeed, Cond.static yX6_needSeed, Cond.code yX6_needSeed cX6_needSeed 1 none, Cond.methodLink RX6 154 yX6_needAllowed, Cond.instanceMethod yX6_needAllowed, Cond.selects RX6 yX6_needAllowed yX6_needAllowed, Cond.code yX6_needAllowed cX6_needAllowed 2 none, Cond.methodLink RX6 215 yX0_fitsFormat, Cond.methodLink RX6 157 yX5_start]
def wsL_law0_r15 : List Cond := [Cond.instanceMethod yX5_start, Cond.selects RX5 yX5_start yX5_start, Cond.code yX5_start cX5_start 4 none, Cond.fieldLink RX5 22 "Cardhouse$Side" "points" "I", Cond.fieldLink RX5 26 "Cardhouse$Side" "ahead" "I", Cond.methodLink RX5 18 yX3_shuffle, Cond.instanceMethod yX3_shuffle, Cond.selects RX3 yX3_shuffle yX3_shuffle, Cond.code yX3_shuffle cX3_shuffle 10 none, Cond.fieldLink RX3 15 "Cardhouse$Decks" "size" "[I", Cond.fieldLink RX3 20 "Cardhouse$Decks" "cards" "[[I", Cond.constantLong RX3 23 (1103515245), Cond.constantLong RX3 25 (12345), Cond.constantLong RX3 27 (2147483648), Cond.constantLong RX3 29 (65536), Cond.methodLink RX6 161 yX6_playRound, Cond.instanceMethod yX6_playRound, Cond.selects RX6 yX6_playRound yX6_playRound, Cond.code yX6_playRound cX6_playRound 8 none, Cond.fieldLink RX6 170 "Cardhouse$Prints" "kind" "[I", Cond.fieldLink RX6 259 "Cardhouse$Side" "pile" "LCardhouse$Pile;", Cond.fieldLink RX6 222 "Cardhouse$Pile" "cards" "[I", Cond.fieldLink RX6 260 "Cardhouse$Side" "ahead" "I", Cond.methodLink RX6 263 yX5_endRound]
def wsL_law0_r16 : List Cond := [Cond.instanceMethod yX5_endRound, Cond.selects RX5 yX5_endRound yX5_endRound, Cond.code yX5_endRound cX5_endRound 4 none, Cond.methodLink RX6 167 yX6_giveWins, Cond.instanceMethod yX6_giveWins, Cond.selects RX6 yX6_giveWins yX6_giveWins, Cond.code yX6_giveWins cX6_giveWins 3 none, Cond.fieldLink RX6 212 "Cardhouse$Kinds" "wins" "[I", Cond.methodLink RX6 225 yX0_countOf, Cond.methodLink RL 122 yX7_play, Cond.instanceMethod yX7_play, Cond.selects RX7 yX7_play yX7_play, Cond.code yX7_play cX7_play 16 (some .int), Cond.methodLink RX7 128 yX7_shuffles, Cond.instanceMethod yX7_shuffles, Cond.selects RX7 yX7_shuffles yX7_shuffles, Cond.code yX7_shuffles cX7_shuffles 9 none, Cond.constantLong RX7 120 (1103515245), Cond.constantLong RX7 122 (12345), Cond.constantLong RX7 124 (2147483648), Cond.constantLong RX7 126 (65536), Cond.methodLink RX7 132 yX7_effect, Cond.instanceMethod yX7_effect, Cond.selects RX7 yX7_effect yX7_effect]
def wsL_law0_r17 : List Cond := [Cond.code yX7_effect cX7_effect 5 (some .int), Cond.methodLink RX7 136 yX7_wonBy, Cond.instanceMethod yX7_wonBy, Cond.selects RX7 yX7_wonBy yX7_wonBy, Cond.code yX7_wonBy cX7_wonBy 3 none, Cond.methodLink RL 123 yL_offer, Cond.static yL_offer, Cond.codeWith yL_offer cL_offer 5 (some .int) [(0, 10, 13, 13), (0, 10, 17, 15), (0, 10, 21, 28)], Cond.methodLink RL 44 yX6_offer, Cond.instanceMethod yX6_offer, Cond.selects RX6 yX6_offer yX6_offer, Cond.code yX6_offer cX6_offer 3 (some .int), Cond.fieldLink RX6 181 "Cardhouse$Offers" "count" "I", Cond.methodLink RX6 175 yX2_hasLive, Cond.instanceMethod yX2_hasLive, Cond.selects RX2 yX2_hasLive yX2_hasLive, Cond.code yX2_hasLive cX2_hasLive 3 (some .boolean), Cond.fieldLink RX2 31 "Cardhouse$Offers" "count" "I", Cond.methodLink RX6 184 yX2_append, Cond.instanceMethod yX2_append, Cond.selects RX2 yX2_append yX2_append, Cond.code yX2_append cX2_append 5 (some .int), Cond.fieldLink RX2 35 "Cardhouse$Prints" "kind" "[I", Cond.fieldLink RX2 40 "Cardhouse$Prints" "collector" "[I"]
def wsL_law0_r18 : List Cond := [Cond.methodLink RL 125 yX7_offer, Cond.instanceMethod yX7_offer, Cond.selects RX7 yX7_offer yX7_offer, Cond.code yX7_offer cX7_offer 6 (some .int), Cond.fieldLink RX7 82 "CardhouseModel" "offers" "I", Cond.methodLink RX7 140 yX7_opens, Cond.instanceMethod yX7_opens, Cond.selects RX7 yX7_opens yX7_opens, Cond.code yX7_opens cX7_opens 2 (some .boolean), Cond.methodLink RL 126 yL_takeBack, Cond.static yL_takeBack, Cond.codeWith yL_takeBack cL_takeBack 4 (some .int) [(0, 9, 12, 13), (0, 9, 15, 28)], Cond.methodLink RL 47 yX6_takeBack, Cond.instanceMethod yX6_takeBack, Cond.selects RX6 yX6_takeBack yX6_takeBack, Cond.code yX6_takeBack cX6_takeBack 2 (some .int), Cond.fieldLink RX6 190 "Cardhouse$Offers" "isLive" "[Z", Cond.fieldLink RX6 195 "Cardhouse$Offers" "card" "[I", Cond.methodLink RX6 187 yX6_needOffer, Cond.instanceMethod yX6_needOffer, Cond.selects RX6 yX6_needOffer yX6_needOffer, Cond.code yX6_needOffer cX6_needOffer 2 none, Cond.methodLink RL 128 yX7_takeBack, Cond.instanceMethod yX7_takeBack]
def wsL_law0_r19 : List Cond := [Cond.selects RX7 yX7_takeBack yX7_takeBack, Cond.code yX7_takeBack cX7_takeBack 3 (some .int), Cond.methodLink RX7 143 yX7_isOffer, Cond.instanceMethod yX7_isOffer, Cond.selects RX7 yX7_isOffer yX7_isOffer, Cond.code yX7_isOffer cX7_isOffer 2 (some .boolean), Cond.methodLink RL 129 yX6_trade, Cond.instanceMethod yX6_trade, Cond.selects RX6 yX6_trade yX6_trade, Cond.code yX6_trade cX6_trade 5 (some .int), Cond.fieldLink RX6 202 "Cardhouse$Offers" "ring" "[I", Cond.fieldLink RX6 205 "Cardhouse$Offers" "collector" "[I", Cond.methodLink RX6 198 yX2_findRing, Cond.instanceMethod yX2_findRing, Cond.selects RX2 yX2_findRing yX2_findRing, Cond.code yX2_findRing cX2_findRing 3 (some .int), Cond.methodLink RX2 41 yX2_closes, Cond.static yX2_closes, Cond.code yX2_closes cX2_closes 4 (some .boolean), Cond.methodLink RX2 45 yX2_canGive, Cond.instanceMethod yX2_canGive, Cond.selects RX2 yX2_canGive yX2_canGive, Cond.code yX2_canGive cX2_canGive 3 (some .boolean), Cond.methodLink RX2 49 yX2_canFollow]
def wsL_law0_r20 : List Cond := [Cond.instanceMethod yX2_canFollow, Cond.selects RX2 yX2_canFollow yX2_canFollow, Cond.code yX2_canFollow cX2_canFollow 4 (some .boolean), Cond.methodLink RL 132 yX7_trade, Cond.instanceMethod yX7_trade, Cond.selects RX7 yX7_trade yX7_trade, Cond.code yX7_trade cX7_trade 4 (some .int), Cond.methodLink RX7 155 yX7_first, Cond.instanceMethod yX7_first, Cond.selects RX7 yX7_first yX7_first, Cond.code yX7_first cX7_first 1 (some .int), Cond.methodLink RX7 152 yX7_hasRing, Cond.instanceMethod yX7_hasRing, Cond.selects RX7 yX7_hasRing yX7_hasRing, Cond.code yX7_hasRing cX7_hasRing 3 (some .boolean), Cond.methodLink RX7 149 yX7_fits, Cond.instanceMethod yX7_fits, Cond.selects RX7 yX7_fits yX7_fits, Cond.code yX7_fits cX7_fits 6 (some .boolean), Cond.methodLink RX7 146 yX7_gives, Cond.instanceMethod yX7_gives, Cond.selects RX7 yX7_gives yX7_gives, Cond.code yX7_gives cX7_gives 3 (some .boolean), Cond.methodLink RL 133 yX6_cards]
def wsL_law0_r21 : List Cond := [Cond.instanceMethod yX6_cards, Cond.selects RX6 yX6_cards yX6_cards, Cond.code yX6_cards cX6_cards 1 (some .int), Cond.methodLink RL 136 yX7_cards, Cond.instanceMethod yX7_cards, Cond.selects RX7 yX7_cards yX7_cards, Cond.code yX7_cards cX7_cards 1 (some .int), Cond.methodLink RX7 158 yX7_told, Cond.instanceMethod yX7_told, Cond.selects RX7 yX7_told yX7_told, Cond.code yX7_told cX7_told 2 (some .int), Cond.methodLink RL 137 yL_printOf, Cond.static yL_printOf, Cond.codeWith yL_printOf cL_printOf 4 (some .int) [(0, 9, 12, 13)], Cond.methodLink RL 50 yX6_printOf, Cond.instanceMethod yX6_printOf, Cond.selects RX6 yX6_printOf yX6_printOf, Cond.code yX6_printOf cX6_printOf 2 (some .int), Cond.fieldLink RX6 206 "Cardhouse$Prints" "number" "[I", Cond.methodLink RL 139 yX7_printOf, Cond.instanceMethod yX7_printOf, Cond.selects RX7 yX7_printOf yX7_printOf, Cond.code yX7_printOf cX7_printOf 2 (some .int), Cond.methodLink RL 140 yL_collectorOf]
def wsL_law0_r22 : List Cond := [Cond.static yL_collectorOf, Cond.codeWith yL_collectorOf cL_collectorOf 4 (some .int) [(0, 9, 12, 13)], Cond.methodLink RL 53 yX6_collectorOf, Cond.instanceMethod yX6_collectorOf, Cond.selects RX6 yX6_collectorOf yX6_collectorOf, Cond.code yX6_collectorOf cX6_collectorOf 2 (some .int), Cond.methodLink RL 142 yX7_collectorOf, Cond.instanceMethod yX7_collectorOf, Cond.selects RX7 yX7_collectorOf yX7_collectorOf, Cond.code yX7_collectorOf cX7_collectorOf 2 (some .int), Cond.methodLink RL 143 yL_has, Cond.static yL_has, Cond.codeWith yL_has cL_has 5 (some .int) [(0, 10, 13, 13)], Cond.methodLink RL 56 yX6_has, Cond.instanceMethod yX6_has, Cond.selects RX6 yX6_has yX6_has, Cond.code yX6_has cX6_has 3 (some .int), Cond.methodLink RX6 209 yX4_countOf, Cond.instanceMethod yX4_countOf, Cond.selects RX4 yX4_countOf yX4_countOf, Cond.code yX4_countOf cX4_countOf 5 (some .int), Cond.methodLink RL 145 yX7_has, Cond.instanceMethod yX7_has, Cond.selects RX7 yX7_has yX7_has]
def wsL_law0_r23 : List Cond := [Cond.code yX7_has cX7_has 6 (some .int), Cond.methodLink RL 146 yL_wins, Cond.static yL_wins, Cond.codeWith yL_wins cL_wins 4 (some .int) [(0, 9, 12, 13)], Cond.methodLink RL 59 yX6_wins, Cond.instanceMethod yX6_wins, Cond.selects RX6 yX6_wins yX6_wins, Cond.code yX6_wins cX6_wins 2 (some .int), Cond.methodLink RL 148 yX7_wins, Cond.instanceMethod yX7_wins, Cond.selects RX7 yX7_wins yX7_wins, Cond.code yX7_wins cX7_wins 2 (some .int), Cond.methodLink RL 149 yL_price, Cond.static yL_price, Cond.codeWith yL_price cL_price 4 (some .int) [(0, 9, 12, 13)], Cond.methodLink RL 62 yX6_price, Cond.instanceMethod yX6_price, Cond.selects RX6 yX6_price yX6_price, Cond.code yX6_price cX6_price 3 (some .int), Cond.methodLink RL 151 yX7_price, Cond.instanceMethod yX7_price, Cond.selects RX7 yX7_price yX7_price, Cond.code yX7_price cX7_price 2 (some .int), Cond.methodLink RL 152 yL_isAllowed]
def wsL_law0_r24 : List Cond := [Cond.static yL_isAllowed, Cond.codeWith yL_isAllowed cL_isAllowed 4 (some .int) [(0, 16, 19, 13)], Cond.methodLink RL 65 yX6_isAllowed, Cond.instanceMethod yX6_isAllowed, Cond.selects RX6 yX6_isAllowed yX6_isAllowed, Cond.code yX6_isAllowed cX6_isAllowed 2 (some .boolean), Cond.methodLink RL 154 yX7_isAllowed, Cond.instanceMethod yX7_isAllowed, Cond.selects RX7 yX7_isAllowed yX7_isAllowed, Cond.code yX7_isAllowed cX7_isAllowed 2 (some .boolean), Cond.methodLink RL 155 yL_shuffled, Cond.static yL_shuffled, Cond.codeWith yL_shuffled cL_shuffled 6 (some .int) [(0, 12, 15, 13), (0, 12, 19, 15)], Cond.methodLink RL 69 yX6_shuffled, Cond.instanceMethod yX6_shuffled, Cond.selects RX6 yX6_shuffled yX6_shuffled, Cond.code yX6_shuffled cX6_shuffled 4 (some .int), Cond.methodLink RX6 219 yX3_shuffle, Cond.methodLink RL 157 yX7_shuffled, Cond.instanceMethod yX7_shuffled, Cond.selects RX7 yX7_shuffled yX7_shuffled, Cond.code yX7_shuffled cX7_shuffled 5 (some .int), Cond.methodLink RL 158 yL_orders, Cond.static yL_orders]
def wsL_law0_r25 : List Cond := [Cond.codeWith yL_orders cL_orders 6 (some .int) [(0, 12, 15, 13), (0, 12, 19, 15)], Cond.methodLink RL 72 yX6_orders, Cond.instanceMethod yX6_orders, Cond.selects RX6 yX6_orders yX6_orders, Cond.code yX6_orders cX6_orders 9 (some .int), Cond.methodLink RL 160 yX7_orders, Cond.instanceMethod yX7_orders, Cond.selects RX7 yX7_orders yX7_orders, Cond.code yX7_orders cX7_orders 4 (some .int), Cond.methodLink RX7 162 yX7_ordersOf, Cond.instanceMethod yX7_ordersOf, Cond.selects RX7 yX7_ordersOf yX7_ordersOf, Cond.code yX7_ordersOf cX7_ordersOf 9 (some .int), Cond.methodLink RL 161 yL_ordersByAll, Cond.static yL_ordersByAll, Cond.codeWith yL_ordersByAll cL_ordersByAll 6 (some .int) [(0, 12, 15, 13), (0, 12, 19, 15), (0, 12, 23, 28)], Cond.methodLink RL 75 yX6_ordersByAll, Cond.instanceMethod yX6_ordersByAll, Cond.selects RX6 yX6_ordersByAll yX6_ordersByAll, Cond.code yX6_ordersByAll cX6_ordersByAll 6 (some .int), Cond.methodLink RX6 229 yX0_placesOf, Cond.methodLink RX6 232 yX6_countOrders, Cond.static yX6_countOrders, Cond.code yX6_countOrders cX6_countOrders 10 (some .int)]
def wsL_law0_r26 : List Cond := [Cond.methodLink RL 163 yX7_ordersByAll, Cond.instanceMethod yX7_ordersByAll, Cond.selects RX7 yX7_ordersByAll yX7_ordersByAll, Cond.code yX7_ordersByAll cX7_ordersByAll 5 (some .int), Cond.methodLink RL 164 yL_isOpen, Cond.static yL_isOpen, Cond.codeWith yL_isOpen cL_isOpen 4 (some .int) [(0, 16, 19, 13)], Cond.methodLink RL 78 yX6_isOpen, Cond.instanceMethod yX6_isOpen, Cond.selects RX6 yX6_isOpen yX6_isOpen, Cond.code yX6_isOpen cX6_isOpen 2 (some .boolean), Cond.methodLink RL 166 yX7_isOpen, Cond.instanceMethod yX7_isOpen, Cond.selects RX7 yX7_isOpen yX7_isOpen, Cond.code yX7_isOpen cX7_isOpen 2 (some .boolean), Cond.methodLink RL 167 yL_ring, Cond.static yL_ring, Cond.codeWith yL_ring cL_ring 4 (some .int) [(0, 9, 12, 13)], Cond.methodLink RL 81 yX6_ring, Cond.instanceMethod yX6_ring, Cond.selects RX6 yX6_ring yX6_ring, Cond.code yX6_ring cX6_ring 2 (some .int), Cond.methodLink RL 169 yX7_ring, Cond.instanceMethod yX7_ring]
def wsL_law0_r27 : List Cond := [Cond.selects RX7 yX7_ring yX7_ring, Cond.code yX7_ring cX7_ring 2 (some .int)]
def wsL_law0 : List Cond := (wsL_law0_r1 ++ (wsL_law0_r2 ++ (wsL_law0_r3 ++ (wsL_law0_r4 ++ (wsL_law0_r5 ++ (wsL_law0_r6 ++ (wsL_law0_r7 ++ (wsL_law0_r8 ++ (wsL_law0_r9 ++ (wsL_law0_r10 ++ (wsL_law0_r11 ++ (wsL_law0_r12 ++ (wsL_law0_r13 ++ (wsL_law0_r14 ++ (wsL_law0_r15 ++ (wsL_law0_r16 ++ (wsL_law0_r17 ++ (wsL_law0_r18 ++ (wsL_law0_r19 ++ (wsL_law0_r20 ++ (wsL_law0_r21 ++ (wsL_law0_r22 ++ (wsL_law0_r23 ++ (wsL_law0_r24 ++ (wsL_law0_r25 ++ (wsL_law0_r26 ++ wsL_law0_r27)))))))))))))))))))))))))) ++ wsX60 ++ wsX70 ++ wsX10 ++ wsX40 ++ wsX00 ++ wsX20 ++ wsX30 ++ wsX50 ++ ([] : List Cond)
def wsL_law : List Cond := wsL_law0 ++ (vx_atS RX6 240 "java/lang/IndexOutOfBoundsException" ["java/lang/RuntimeException", "java/lang/Exception"]).filter goodWord ++ (vx_atS RX6 126 "java/lang/IllegalArgumentException" ["java/lang/RuntimeException", "java/lang/Exception"]).filter goodWord ++ (vx_atS RX6 94 "java/lang/IllegalStateException" ["java/lang/RuntimeException", "java/lang/Exception"]).filter goodWord
abbrev vwCl : List vw_C := [(RX0, TX0, 6), (RX1, TX1, 5), (RX2, TX2, 7), (RX3, TX3, 1), (RX4, TX4, 4), (RX5, TX5, 3), (RX6, TX6, 7), (RX7, TX7, 23)]
end
section
set_option maxRecDepth 20000 in
theorem wsL_law0_r1_in : ∀ w ∈ wsL_law0_r1, w ∈ lw_tbl := fun w h => (goodIn_p wsL_law0_r1 [49, 52, 57, 87, 114, 148, 181, 192, 643, 262, 265, 336, 722, 725, 728, 732, 718, 359, 363, 367, 371, 375, 378, 736] (by decide +kernel) (by decide +kernel) w h).1
set_option maxRecDepth 20000 in
theorem wsL_law0_r2_in : ∀ w ∈ wsL_law0_r2, w ∈ lw_tbl := fun w h => (goodIn_p wsL_law0_r2 [740, 744, 748, 752, 388, 756, 396, 399, 420, 760, 763, 427, 432, 767, 439, 443, 448, 454, 460, 771, 775, 779, 783, 467] (by decide +kernel) (by decide +kernel) w h).1
set_option maxRecDepth 20000 in
theorem wsL_law0_r3_in : ∀ w ∈ wsL_law0_r3, w ∈ lw_tbl := fun w h => (goodIn_p wsL_law0_r3 [471, 476, 787, 483, 486, 492, 498, 502, 510, 514, 518, 791, 795, 803, 807, 526, 531, 537, 811, 815, 544, 548, 819, 823] (by decide +kernel) (by decide +kernel) w h).1
set_option maxRecDepth 20000 in
theorem wsL_law0_r4_in : ∀ w ∈ wsL_law0_r4, w ∈ lw_tbl := fun w h => (goodIn_p wsL_law0_r4 [234, 238, 241, 245, 249, 827, 831, 835, 839, 843, 253, 847, 851, 557, 855, 564, 859, 571, 575, 863, 582, 867, 589, 871] (by decide +kernel) (by decide +kernel) w h).1
set_option maxRecDepth 20000 in
theorem wsL_law0_r5_in : ∀ w ∈ wsL_law0_r5, w ∈ lw_tbl := fun w h => (goodIn_p wsL_law0_r5 [596, 875, 603, 879, 611, 883, 887, 618, 623, 891, 630, 895, 637, 899] (by decide +kernel) (by decide +kernel) w h).1
set_option maxRecDepth 20000 in
theorem wsL_law0_r6_in : ∀ w ∈ wsL_law0_r6, w ∈ lw_tbl := fun w h => (goodIn_p wsL_law0_r6 [] (by decide +kernel) (by decide +kernel) w h).1
set_option maxRecDepth 20000 in
theorem wsL_law0_r7_in : ∀ w ∈ wsL_law0_r7, w ∈ lw_tbl := fun w h => (goodIn_p wsL_law0_r7 [] (by decide +kernel) (by decide +kernel) w h).1
set_option maxRecDepth 20000 in
theorem wsL_law0_r8_in : ∀ w ∈ wsL_law0_r8, w ∈ lw_tbl := fun w h => (goodIn_p wsL_law0_r8 [] (by decide +kernel) (by decide +kernel) w h).1
set_option maxRecDepth 20000 in
theorem wsL_law0_r9_in : ∀ w ∈ wsL_law0_r9, w ∈ lw_tbl := fun w h => (goodIn_p wsL_law0_r9 [] (by decide +kernel) (by decide +kernel) w h).1
set_option maxRecDepth 20000 in
theorem wsL_law0_r10_in : ∀ w ∈ wsL_law0_r10, w ∈ lw_tbl := fun w h => (goodIn_p wsL_law0_r10 [] (by decide +kernel) (by decide +kernel) w h).1
set_option maxRecDepth 20000 in
theorem wsL_law0_r11_in : ∀ w ∈ wsL_law0_r11, w ∈ lw_tbl := fun w h => (goodIn_p wsL_law0_r11 [] (by decide +kernel) (by decide +kernel) w h).1
set_option maxRecDepth 20000 in
theorem wsL_law0_r12_in : ∀ w ∈ wsL_law0_r12, w ∈ lw_tbl := fun w h => (goodIn_p wsL_law0_r12 [] (by decide +kernel) (by decide +kernel) w h).1
set_option maxRecDepth 20000 in
theorem wsL_law0_r13_in : ∀ w ∈ wsL_law0_r13, w ∈ lw_tbl := fun w h => (goodIn_p wsL_law0_r13 [] (by decide +kernel) (by decide +kernel) w h).1
set_option maxRecDepth 20000 in
theorem wsL_law0_r14_in : ∀ w ∈ wsL_law0_r14, w ∈ lw_tbl := fun w h => (goodIn_p wsL_law0_r14 [] (by decide +kernel) (by decide +kernel) w h).1
set_option maxRecDepth 20000 in
theorem wsL_law0_r15_in : ∀ w ∈ wsL_law0_r15, w ∈ lw_tbl := fun w h => (goodIn_p wsL_law0_r15 [] (by decide +kernel) (by decide +kernel) w h).1
set_option maxRecDepth 20000 in
theorem wsL_law0_r16_in : ∀ w ∈ wsL_law0_r16, w ∈ lw_tbl := fun w h => (goodIn_p wsL_law0_r16 [] (by decide +kernel) (by decide +kernel) w h).1
set_option maxRecDepth 20000 in
theorem wsL_law0_r17_in : ∀ w ∈ wsL_law0_r17, w ∈ lw_tbl := fun w h => (goodIn_p wsL_law0_r17 [] (by decide +kernel) (by decide +kernel) w h).1
set_option maxRecDepth 20000 in
theorem wsL_law0_r18_in : ∀ w ∈ wsL_law0_r18, w ∈ lw_tbl := fun w h => (goodIn_p wsL_law0_r18 [] (by decide +kernel) (by decide +kernel) w h).1
set_option maxRecDepth 20000 in
theorem wsL_law0_r19_in : ∀ w ∈ wsL_law0_r19, w ∈ lw_tbl := fun w h => (goodIn_p wsL_law0_r19 [] (by decide +kernel) (by decide +kernel) w h).1
set_option maxRecDepth 20000 in
theorem wsL_law0_r20_in : ∀ w ∈ wsL_law0_r20, w ∈ lw_tbl := fun w h => (goodIn_p wsL_law0_r20 [] (by decide +kernel) (by decide +kernel) w h).1
set_option maxRecDepth 20000 in
theorem wsL_law0_r21_in : ∀ w ∈ wsL_law0_r21, w ∈ lw_tbl := fun w h => (goodIn_p wsL_law0_r21 [] (by decide +kernel) (by decide +kernel) w h).1
set_option maxRecDepth 20000 in
theorem wsL_law0_r22_in : ∀ w ∈ wsL_law0_r22, w ∈ lw_tbl := fun w h => (goodIn_p wsL_law0_r22 [] (by decide +kernel) (by decide +kernel) w h).1
set_option maxRecDepth 20000 in
theorem wsL_law0_r23_in : ∀ w ∈ wsL_law0_r23, w ∈ lw_tbl := fun w h => (goodIn_p wsL_law0_r23 [] (by decide +kernel) (by decide +kernel) w h).1
set_option maxRecDepth 20000 in
theorem wsL_law0_r24_in : ∀ w ∈ wsL_law0_r24, w ∈ lw_tbl := fun w h => (goodIn_p wsL_law0_r24 [] (by decide +kernel) (by decide +kernel) w h).1
set_option maxRecDepth 20000 in
theorem wsL_law0_r25_in : ∀ w ∈ wsL_law0_r25, w ∈ lw_tbl := fun w h => (goodIn_p wsL_law0_r25 [] (by decide +kernel) (by decide +kernel) w h).1
set_option maxRecDepth 20000 in
theorem wsL_law0_r26_in : ∀ w ∈ wsL_law0_r26, w ∈ lw_tbl := fun w h => (goodIn_p wsL_law0_r26 [] (by decide +kernel) (by decide +kernel) w h).1
set_option maxRecDepth 20000 in
theorem wsL_law0_r27_in : ∀ w ∈ wsL_law0_r27, w ∈ lw_tbl := fun w h => (goodIn_p wsL_law0_r27 [] (by decide +kernel) (by decide +kernel) w h).1
theorem wsL_law0_r26_up : ∀ w ∈ (wsL_law0_r26 ++ wsL_law0_r27), w ∈ lw_tbl := fun w h => (List.mem_append.mp h).elim (fun h => wsL_law0_r26_in w h) (fun h => wsL_law0_r27_in w h)
theorem wsL_law0_r25_up : ∀ w ∈ (wsL_law0_r25 ++ (wsL_law0_r26 ++ wsL_law0_r27)), w ∈ lw_tbl := fun w h => (List.mem_append.mp h).elim (fun h => wsL_law0_r25_in w h) (fun h => wsL_law0_r26_up w h)
theorem wsL_law0_r24_up : ∀ w ∈ (wsL_law0_r24 ++ (wsL_law0_r25 ++ (wsL_law0_r26 ++ wsL_law0_r27))), w ∈ lw_tbl := fun w h => (List.mem_append.mp h).elim (fun h => wsL_law0_r24_in w h) (fun h => wsL_law0_r25_up w h)
theorem wsL_law0_r23_up : ∀ w ∈ (wsL_law0_r23 ++ (wsL_law0_r24 ++ (wsL_law0_r25 ++ (wsL_law0_r26 ++ wsL_law0_r27)))), w ∈ lw_tbl := fun w h => (List.mem_append.mp h).elim (fun h => wsL_law0_r23_in w h) (fun h => wsL_law0_r24_up w h)
theorem wsL_law0_r22_up : ∀ w ∈ (wsL_law0_r22 ++ (wsL_law0_r23 ++ (wsL_law0_r24 ++ (wsL_law0_r25 ++ (wsL_law0_r26 ++ wsL_law0_r27))))), w ∈ lw_tbl := fun w h => (List.mem_append.mp h).elim (fun h => wsL_law0_r22_in w h) (fun h => wsL_law0_r23_up w h)
theorem wsL_law0_r21_up : ∀ w ∈ (wsL_law0_r21 ++ (wsL_law0_r22 ++ (wsL_law0_r23 ++ (wsL_law0_r24 ++ (wsL_law0_r25 ++ (wsL_law0_r26 ++ wsL_law0_r27)))))), w ∈ lw_tbl := fun w h => (List.mem_append.mp h).elim (fun h => wsL_law0_r21_in w h) (fun h => wsL_law0_r22_up w h)
theorem wsL_law0_r20_up : ∀ w ∈ (wsL_law0_r20 ++ (wsL_law0_r21 ++ (wsL_law0_r22 ++ (wsL_law0_r23 ++ (wsL_law0_r24 ++ (wsL_law0_r25 ++ (wsL_law0_r26 ++ wsL_law0_r27))))))), w ∈ lw_tbl := fun w h => (List.mem_append.mp h).elim (fun h => wsL_law0_r20_in w h) (fun h => wsL_law0_r21_up w h)
theorem wsL_law0_r19_up : ∀ w ∈ (wsL_law0_r19 ++ (wsL_law0_r20 ++ (wsL_law0_r21 ++ (wsL_law0_r22 ++ (wsL_law0_r23 ++ (wsL_law0_r24 ++ (wsL_law0_r25 ++ (wsL_law0_r26 ++ wsL_law0_r27)))))))), w ∈ lw_tbl := fun w h => (List.mem_append.mp h).elim (fun h => wsL_law0_r19_in w h) (fun h => wsL_law0_r20_up w h)
theorem wsL_law0_r18_up : ∀ w ∈ (wsL_law0_r18 ++ (wsL_law0_r19 ++ (wsL_law0_r20 ++ (wsL_law0_r21 ++ (wsL_law0_r22 ++ (wsL_law0_r23 ++ (wsL_law0_r24 ++ (wsL_law0_r25 ++ (wsL_law0_r26 ++ wsL_law0_r27))))))))), w ∈ lw_tbl := fun w h => (List.mem_append.mp h).elim (fun h => wsL_law0_r18_in w h) (fun h => wsL_law0_r19_up w h)
theorem wsL_law0_r17_up : ∀ w ∈ (wsL_law0_r17 ++ (wsL_law0_r18 ++ (wsL_law0_r19 ++ (wsL_law0_r20 ++ (wsL_law0_r21 ++ (wsL_law0_r22 ++ (wsL_law0_r23 ++ (wsL_law0_r24 ++ (wsL_law0_r25 ++ (wsL_law0_r26 ++ wsL_law0_r27)))))))))), w ∈ lw_tbl := fun w h => (List.mem_append.mp h).elim (fun h => wsL_law0_r17_in w h) (fun h => wsL_law0_r18_up w h)
theorem wsL_law0_r16_up : ∀ w ∈ (wsL_law0_r16 ++ (wsL_law0_r17 ++ (wsL_law0_r18 ++ (wsL_law0_r19 ++ (wsL_law0_r20 ++ (wsL_law0_r21 ++ (wsL_law0_r22 ++ (wsL_law0_r23 ++ (wsL_law0_r24 ++ (wsL_law0_r25 ++ (wsL_law0_r26 ++ wsL_law0_r27))))))))))), w ∈ lw_tbl := fun w h => (List.mem_append.mp h).elim (fun h => wsL_law0_r16_in w h) (fun h => wsL_law0_r17_up w h)
theorem wsL_law0_r15_up : ∀ w ∈ (wsL_law0_r15 ++ (wsL_law0_r16 ++ (wsL_law0_r17 ++ (wsL_law0_r18 ++ (wsL_law0_r19 ++ (wsL_law0_r20 ++ (wsL_law0_r21 ++ (wsL_law0_r22 ++ (wsL_law0_r23 ++ (wsL_law0_r24 ++ (wsL_law0_r25 ++ (wsL_law0_r26 ++ wsL_law0_r27)))))))))))), w ∈ lw_tbl := fun w h => (List.mem_append.mp h).elim (fun h => wsL_law0_r15_in w h) (fun h => wsL_law0_r16_up w h)
theorem wsL_law0_r14_up : ∀ w ∈ (wsL_law0_r14 ++ (wsL_law0_r15 ++ (wsL_law0_r16 ++ (wsL_law0_r17 ++ (wsL_law0_r18 ++ (wsL_law0_r19 ++ (wsL_law0_r20 ++ (wsL_law0_r21 ++ (wsL_law0_r22 ++ (wsL_law0_r23 ++ (wsL_law0_r24 ++ (wsL_law0_r25 ++ (wsL_law0_r26 ++ wsL_law0_r27))))))))))))), w ∈ lw_tbl := fun w h => (List.mem_append.mp h).elim (fun h => wsL_law0_r14_in w h) (fun h => wsL_law0_r15_up w h)
theorem wsL_law0_r13_up : ∀ w ∈ (wsL_law0_r13 ++ (wsL_law0_r14 ++ (wsL_law0_r15 ++ (wsL_law0_r16 ++ (wsL_law0_r17 ++ (wsL_law0_r18 ++ (wsL_law0_r19 ++ (wsL_law0_r20 ++ (wsL_law0_r21 ++ (wsL_law0_r22 ++ (wsL_law0_r23 ++ (wsL_law0_r24 ++ (wsL_law0_r25 ++ (wsL_law0_r26 ++ wsL_law0_r27)))))))))))))), w ∈ lw_tbl := fun w h => (List.mem_append.mp h).elim (fun h => wsL_law0_r13_in w h) (fun h => wsL_law0_r14_up w h)
theorem wsL_law0_r12_up : ∀ w ∈ (wsL_law0_r12 ++ (wsL_law0_r13 ++ (wsL_law0_r14 ++ (wsL_law0_r15 ++ (wsL_law0_r16 ++ (wsL_law0_r17 ++ (wsL_law0_r18 ++ (wsL_law0_r19 ++ (wsL_law0_r20 ++ (wsL_law0_r21 ++ (wsL_law0_r22 ++ (wsL_law0_r23 ++ (wsL_law0_r24 ++ (wsL_law0_r25 ++ (wsL_law0_r26 ++ wsL_law0_r27))))))))))))))), w ∈ lw_tbl := fun w h => (List.mem_append.mp h).elim (fun h => wsL_law0_r12_in w h) (fun h => wsL_law0_r13_up w h)
theorem wsL_law0_r11_up : ∀ w ∈ (wsL_law0_r11 ++ (wsL_law0_r12 ++ (wsL_law0_r13 ++ (wsL_law0_r14 ++ (wsL_law0_r15 ++ (wsL_law0_r16 ++ (wsL_law0_r17 ++ (wsL_law0_r18 ++ (wsL_law0_r19 ++ (wsL_law0_r20 ++ (wsL_law0_r21 ++ (wsL_law0_r22 ++ (wsL_law0_r23 ++ (wsL_law0_r24 ++ (wsL_law0_r25 ++ (wsL_law0_r26 ++ wsL_law0_r27)))))))))))))))), w ∈ lw_tbl := fun w h => (List.mem_append.mp h).elim (fun h => wsL_law0_r11_in w h) (fun h => wsL_law0_r12_up w h)
theorem wsL_law0_r10_up : ∀ w ∈ (wsL_law0_r10 ++ (wsL_law0_r11 ++ (wsL_law0_r12 ++ (wsL_law0_r13 ++ (wsL_law0_r14 ++ (wsL_law0_r15 ++ (wsL_law0_r16 ++ (wsL_law0_r17 ++ (wsL_law0_r18 ++ (wsL_law0_r19 ++ (wsL_law0_r20 ++ (wsL_law0_r21 ++ (wsL_law0_r22 ++ (wsL_law0_r23 ++ (wsL_law0_r24 ++ (wsL_law0_r25 ++ (wsL_law0_r26 ++ wsL_law0_r27))))))))))))))))), w ∈ lw_tbl := fun w h => (List.mem_append.mp h).elim (fun h => wsL_law0_r10_in w h) (fun h => wsL_law0_r11_up w h)
theorem wsL_law0_r9_up : ∀ w ∈ (wsL_law0_r9 ++ (wsL_law0_r10 ++ (wsL_law0_r11 ++ (wsL_law0_r12 ++ (wsL_law0_r13 ++ (wsL_law0_r14 ++ (wsL_law0_r15 ++ (wsL_law0_r16 ++ (wsL_law0_r17 ++ (wsL_law0_r18 ++ (wsL_law0_r19 ++ (wsL_law0_r20 ++ (wsL_law0_r21 ++ (wsL_law0_r22 ++ (wsL_law0_r23 ++ (wsL_law0_r24 ++ (wsL_law0_r25 ++ (wsL_law0_r26 ++ wsL_law0_r27)))))))))))))))))), w ∈ lw_tbl := fun w h => (List.mem_append.mp h).elim (fun h => wsL_law0_r9_in w h) (fun h => wsL_law0_r10_up w h)
theorem wsL_law0_r8_up : ∀ w ∈ (wsL_law0_r8 ++ (wsL_law0_r9 ++ (wsL_law0_r10 ++ (wsL_law0_r11 ++ (wsL_law0_r12 ++ (wsL_law0_r13 ++ (wsL_law0_r14 ++ (wsL_law0_r15 ++ (wsL_law0_r16 ++ (wsL_law0_r17 ++ (wsL_law0_r18 ++ (wsL_law0_r19 ++ (wsL_law0_r20 ++ (wsL_law0_r21 ++ (wsL_law0_r22 ++ (wsL_law0_r23 ++ (wsL_law0_r24 ++ (wsL_law0_r25 ++ (wsL_law0_r26 ++ wsL_law0_r27))))))))))))))))))), w ∈ lw_tbl := fun w h => (List.mem_append.mp h).elim (fun h => wsL_law0_r8_in w h) (fun h => wsL_law0_r9_up w h)
theorem wsL_law0_r7_up : ∀ w ∈ (wsL_law0_r7 ++ (wsL_law0_r8 ++ (wsL_law0_r9 ++ (wsL_law0_r10 ++ (wsL_law0_r11 ++ (wsL_law0_r12 ++ (wsL_law0_r13 ++ (wsL_law0_r14 ++ (wsL_law0_r15 ++ (wsL_law0_r16 ++ (wsL_law0_r17 ++ (wsL_law0_r18 ++ (wsL_law0_r19 ++ (wsL_law0_r20 ++ (wsL_law0_r21 ++ (wsL_law0_r22 ++ (wsL_law0_r23 ++ (wsL_law0_r24 ++ (wsL_law0_r25 ++ (wsL_law0_r26 ++ wsL_law0_r27)))))))))))))))))))), w ∈ lw_tbl := fun w h => (List.mem_append.mp h).elim (fun h => wsL_law0_r7_in w h) (fun h => wsL_law0_r8_up w h)
theorem wsL_law0_r6_up : ∀ w ∈ (wsL_law0_r6 ++ (wsL_law0_r7 ++ (wsL_law0_r8 ++ (wsL_law0_r9 ++ (wsL_law0_r10 ++ (wsL_law0_r11 ++ (wsL_law0_r12 ++ (wsL_law0_r13 ++ (wsL_law0_r14 ++ (wsL_law0_r15 ++ (wsL_law0_r16 ++ (wsL_law0_r17 ++ (wsL_law0_r18 ++ (wsL_law0_r19 ++ (wsL_law0_r20 ++ (wsL_law0_r21 ++ (wsL_law0_r22 ++ (wsL_law0_r23 ++ (wsL_law0_r24 ++ (wsL_law0_r25 ++ (wsL_law0_r26 ++ wsL_law0_r27))))))))))))))))))))), w ∈ lw_tbl := fun w h => (List.mem_append.mp h).elim (fun h => wsL_law0_r6_in w h) (fun h => wsL_law0_r7_up w h)
theorem wsL_law0_r5_up : ∀ w ∈ (wsL_law0_r5 ++ (wsL_law0_r6 ++ (wsL_law0_r7 ++ (wsL_law0_r8 ++ (wsL_law0_r9 ++ (wsL_law0_r10 ++ (wsL_law0_r11 ++ (wsL_law0_r12 ++ (wsL_law0_r13 ++ (wsL_law0_r14 ++ (wsL_law0_r15 ++ (wsL_law0_r16 ++ (wsL_law0_r17 ++ (wsL_law0_r18 ++ (wsL_law0_r19 ++ (wsL_law0_r20 ++ (wsL_law0_r21 ++ (wsL_law0_r22 ++ (wsL_law0_r23 ++ (wsL_law0_r24 ++ (wsL_law0_r25 ++ (wsL_law0_r26 ++ wsL_law0_r27)))))))))))))))))))))), w ∈ lw_tbl := fun w h => (List.mem_append.mp h).elim (fun h => wsL_law0_r5_in w h) (fun h => wsL_law0_r6_up w h)
theorem wsL_law0_r4_up : ∀ w ∈ (wsL_law0_r4 ++ (wsL_law0_r5 ++ (wsL_law0_r6 ++ (wsL_law0_r7 ++ (wsL_law0_r8 ++ (wsL_law0_r9 ++ (wsL_law0_r10 ++ (wsL_law0_r11 ++ (wsL_law0_r12 ++ (wsL_law0_r13 ++ (wsL_law0_r14 ++ (wsL_law0_r15 ++ (wsL_law0_r16 ++ (wsL_law0_r17 ++ (wsL_law0_r18 ++ (wsL_law0_r19 ++ (wsL_law0_r20 ++ (wsL_law0_r21 ++ (wsL_law0_r22 ++ (wsL_law0_r23 ++ (wsL_law0_r24 ++ (wsL_law0_r25 ++ (wsL_law0_r26 ++ wsL_law0_r27))))))))))))))))))))))), w ∈ lw_tbl := fun w h => (List.mem_append.mp h).elim (fun h => wsL_law0_r4_in w h) (fun h => wsL_law0_r5_up w h)
theorem wsL_law0_r3_up : ∀ w ∈ (wsL_law0_r3 ++ (wsL_law0_r4 ++ (wsL_law0_r5 ++ (wsL_law0_r6 ++ (wsL_law0_r7 ++ (wsL_law0_r8 ++ (wsL_law0_r9 ++ (wsL_law0_r10 ++ (wsL_law0_r11 ++ (wsL_law0_r12 ++ (wsL_law0_r13 ++ (wsL_law0_r14 ++ (wsL_law0_r15 ++ (wsL_law0_r16 ++ (wsL_law0_r17 ++ (wsL_law0_r18 ++ (wsL_law0_r19 ++ (wsL_law0_r20 ++ (wsL_law0_r21 ++ (wsL_law0_r22 ++ (wsL_law0_r23 ++ (wsL_law0_r24 ++ (wsL_law0_r25 ++ (wsL_law0_r26 ++ wsL_law0_r27)))))))))))))))))))))))), w ∈ lw_tbl := fun w h => (List.mem_append.mp h).elim (fun h => wsL_law0_r3_in w h) (fun h => wsL_law0_r4_up w h)
theorem wsL_law0_r2_up : ∀ w ∈ (wsL_law0_r2 ++ (wsL_law0_r3 ++ (wsL_law0_r4 ++ (wsL_law0_r5 ++ (wsL_law0_r6 ++ (wsL_law0_r7 ++ (wsL_law0_r8 ++ (wsL_law0_r9 ++ (wsL_law0_r10 ++ (wsL_law0_r11 ++ (wsL_law0_r12 ++ (wsL_law0_r13 ++ (wsL_law0_r14 ++ (wsL_law0_r15 ++ (wsL_law0_r16 ++ (wsL_law0_r17 ++ (wsL_law0_r18 ++ (wsL_law0_r19 ++ (wsL_law0_r20 ++ (wsL_law0_r21 ++ (wsL_law0_r22 ++ (wsL_law0_r23 ++ (wsL_law0_r24 ++ (wsL_law0_r25 ++ (wsL_law0_r26 ++ wsL_law0_r27))))))))))))))))))))))))), w ∈ lw_tbl := fun w h => (List.mem_append.mp h).elim (fun h => wsL_law0_r2_in w h) (fun h => wsL_law0_r3_up w h)
theorem wsL_law0_r1_up : ∀ w ∈ (wsL_law0_r1 ++ (wsL_law0_r2 ++ (wsL_law0_r3 ++ (wsL_law0_r4 ++ (wsL_law0_r5 ++ (wsL_law0_r6 ++ (wsL_law0_r7 ++ (wsL_law0_r8 ++ (wsL_law0_r9 ++ (wsL_law0_r10 ++ (wsL_law0_r11 ++ (wsL_law0_r12 ++ (wsL_law0_r13 ++ (wsL_law0_r14 ++ (wsL_law0_r15 ++ (wsL_law0_r16 ++ (wsL_law0_r17 ++ (wsL_law0_r18 ++ (wsL_law0_r19 ++ (wsL_law0_r20 ++ (wsL_law0_r21 ++ (wsL_law0_r22 ++ (wsL_law0_r23 ++ (wsL_law0_r24 ++ (wsL_law0_r25 ++ (wsL_law0_r26 ++ wsL_law0_r27)))))))))))))))))))))))))), w ∈ lw_tbl := fun w h => (List.mem_append.mp h).elim (fun h => wsL_law0_r1_in w h) (fun h => wsL_law0_r2_up w h)
theorem wsL_law_in0 : ∀ w ∈ wsL_law0, w ∈ lw_tbl := fun w h => wsL_law0_r1_up w h
theorem wsL_law_x0 : ∀ w ∈ (vx_atS RX6 240 "java/lang/IndexOutOfBoundsException" ["java/lang/RuntimeException", "java/lang/Exception"]).filter goodWord, w ∈ lw_tbl := by decide +kernel
theorem wsL_law_x1 : ∀ w ∈ (vx_atS RX6 126 "java/lang/IllegalArgumentException" ["java/lang/RuntimeException", "java/lang/Exception"]).filter goodWord, w ∈ lw_tbl := by decide +kernel
theorem wsL_law_x2 : ∀ w ∈ (vx_atS RX6 94 "java/lang/IllegalStateException" ["java/lang/RuntimeException", "java/lang/Exception"]).filter goodWord, w ∈ lw_tbl := by decide +kernel
theorem wsL_law_in : ∀ w ∈ wsL_law, w ∈ lw_tbl := fun w h => (List.mem_append.mp h).elim (fun h => (List.mem_append.mp h).elim (fun h => (List.mem_append.mp h).elim (fun h => wsL_law_in0 w h) (fun h => wsL_law_x0 w h)) (fun h => wsL_law_x1 w h)) (fun h => wsL_law_x2 w h)
theorem inlX0 : ∀ w ∈ wsX00, w ∈ wsL_law := fun _ h => List.mem_append_left _ (List.mem_append_left _ (List.mem_append_left _ (List.mem_append_left _ (List.mem_append_left _ (List.mem_append_left _ (List.mem_append_left _ (List.mem_append_right _ h)))))))
theorem inX0 : ∀ w ∈ wsX00, w ∈ lw_tbl := fun w h => wsL_law_in w (inlX0 w h)
theorem inlX1 : ∀ w ∈ wsX10, w ∈ wsL_law := fun _ h => List.mem_append_left _ (List.mem_append_left _ (List.mem_append_left _ (List.mem_append_left _ (List.mem_append_left _ (List.mem_append_left _ (List.mem_append_left _ (List.mem_append_left _ (List.mem_append_left _ (List.mem_append_right _ h)))))))))
theorem inX1 : ∀ w ∈ wsX10, w ∈ lw_tbl := fun w h => wsL_law_in w (inlX1 w h)
theorem inlX2 : ∀ w ∈ wsX20, w ∈ wsL_law := fun _ h => List.mem_append_left _ (List.mem_append_left _ (List.mem_append_left _ (List.mem_append_left _ (List.mem_append_left _ (List.mem_append_left _ (List.mem_append_right _ h))))))
theorem inX2 : ∀ w ∈ wsX20, w ∈ lw_tbl := fun w h => wsL_law_in w (inlX2 w h)
theorem inlX3 : ∀ w ∈ wsX30, w ∈ wsL_law := fun _ h => List.mem_append_left _ (List.mem_append_left _ (List.mem_append_left _ (List.mem_append_left _ (List.mem_append_left _ (List.mem_append_right _ h)))))
theorem inX3 : ∀ w ∈ wsX30, w ∈ lw_tbl := fun w h => wsL_law_in w (inlX3 w h)
theorem inlX4 : ∀ w ∈ wsX40, w ∈ wsL_law := fun _ h => List.mem_append_left _ (List.mem_append_left _ (List.mem_append_left _ (List.mem_append_left _ (List.mem_append_left _ (List.mem_append_left _ (List.mem_append_left _ (List.mem_append_left _ (List.mem_append_right _ h))))))))
theorem inX4 : ∀ w ∈ wsX40, w ∈ lw_tbl := fun w h => wsL_law_in w (inlX4 w h)
theorem inlX5 : ∀ w ∈ wsX50, w ∈ wsL_law := fun _ h => List.mem_append_left _ (List.mem_append_left _ (List.mem_append_left _ (List.mem_append_left _ (List.mem_append_right _ h))))
theorem inX5 : ∀ w ∈ wsX50, w ∈ lw_tbl := fun w h => wsL_law_in w (inlX5 w h)
theorem inlX6 : ∀ w ∈ wsX60, w ∈ wsL_law := fun _ h => List.mem_append_left _ (List.mem_append_left _ (List.mem_append_left _ (List.mem_append_left _ (List.mem_append_left _ (List.mem_append_left _ (List.mem_append_left _ (List.mem_append_left _ (List.mem_append_left _ (List.mem_append_left _ (List.mem_append_left _ (List.mem_append_right _ h)))))))))))
theorem inX6 : ∀ w ∈ wsX60, w ∈ lw_tbl := fun w h => wsL_law_in w (inlX6 w h)
theorem inlX7 : ∀ w ∈ wsX70, w ∈ wsL_law := fun _ h => List.mem_append_left _ (List.mem_append_left _ (List.mem_append_left _ (List.mem_append_left _ (List.mem_append_left _ (List.mem_append_left _ (List.mem_append_left _ (List.mem_append_left _ (List.mem_append_left _ (List.mem_append_left _ (List.mem_append_right _ h))))))))))
theorem inX7 : ∀ w ∈ wsX70, w ∈ lw_tbl := fun w h => wsL_law_in w (inlX7 w h)
theorem inJ6 : ∀ w ∈ wsJ60, w ∈ lw_tbl := by decide +kernel
theorem inJ0 : ∀ w ∈ wsJ00, w ∈ lw_tbl := by decide +kernel
end
section
theorem zz_last : True := trivial
end
