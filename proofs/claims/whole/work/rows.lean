section
-- ===== PART A: goes FIRST, ahead of the names: the tables' words, and 'selects' of the private methods out of them =====
/-- a private method of a class that the tables say can be made, by its rows of tables_1 -/
def lw_okq (q : MethodName × Nat) : Prop := (q.1.cls ≠ "java/lang/invoke/MethodHandle" ∧ q.1.cls ≠ "java/lang/invoke/VarHandle") ∧ Cond.instantiable q.1.cls q.2 ∈ tables_1 ∧ Cond.privateMethod q.1 ∈ tables_1 ∧ Cond.instanceMethod q.1 ∈ tables_1
theorem lw_p0 : lw_okq (⟨"SignTiles", "isOutdated", "(LSignTiles$Tile;)Z"⟩, 6) := ⟨⟨by decide +kernel, by decide +kernel⟩, List.mem_of_getElem? (i := 23) (by decide +kernel), List.mem_of_getElem? (i := 98) (by decide +kernel), List.mem_of_getElem? (i := 99) (by decide +kernel)⟩
theorem lw_p1 : lw_okq (⟨"SignTiles", "keepPicture", "(LSignTiles$Tile;)V"⟩, 6) := ⟨⟨by decide +kernel, by decide +kernel⟩, List.mem_of_getElem? (i := 23) (by decide +kernel), List.mem_of_getElem? (i := 129) (by decide +kernel), List.mem_of_getElem? (i := 130) (by decide +kernel)⟩
theorem lw_p2 : lw_okq (⟨"SignTiles", "pictureAt", "(LSignTiles$Tile;I)I"⟩, 6) := ⟨⟨by decide +kernel, by decide +kernel⟩, List.mem_of_getElem? (i := 23) (by decide +kernel), List.mem_of_getElem? (i := 133) (by decide +kernel), List.mem_of_getElem? (i := 134) (by decide +kernel)⟩
theorem lw_p3 : lw_okq (⟨"java/lang/Throwable", "fillInStackTrace", "(I)Ljava/lang/Throwable;"⟩, 6) := ⟨⟨by decide +kernel, by decide +kernel⟩, List.mem_of_getElem? (i := 195) (by decide +kernel), List.mem_of_getElem? (i := 193) (by decide +kernel), List.mem_of_getElem? (i := 194) (by decide +kernel)⟩
theorem lw_p4 : lw_okq (⟨"SignTiles", "isFull", "()Z"⟩, 6) := ⟨⟨by decide +kernel, by decide +kernel⟩, List.mem_of_getElem? (i := 23) (by decide +kernel), List.mem_of_getElem? (i := 248) (by decide +kernel), List.mem_of_getElem? (i := 249) (by decide +kernel)⟩
theorem lw_p5 : lw_okq (⟨"SignTiles", "newVersion", "(LSignTiles$Change;LSignTiles$Version;)LSignTiles$Version;"⟩, 6) := ⟨⟨by decide +kernel, by decide +kernel⟩, List.mem_of_getElem? (i := 23) (by decide +kernel), List.mem_of_getElem? (i := 291) (by decide +kernel), List.mem_of_getElem? (i := 292) (by decide +kernel)⟩
theorem lw_p6 : lw_okq (⟨"java/util/ArrayList", "add", "(Ljava/lang/Object;[Ljava/lang/Object;I)V"⟩, 3) := ⟨⟨by decide +kernel, by decide +kernel⟩, List.mem_of_getElem? (i := 31) (by decide +kernel), List.mem_of_getElem? (i := 364) (by decide +kernel), List.mem_of_getElem? (i := 365) (by decide +kernel)⟩
theorem lw_p7 : lw_okq (⟨"java/util/ArrayList", "grow", "()[Ljava/lang/Object;"⟩, 3) := ⟨⟨by decide +kernel, by decide +kernel⟩, List.mem_of_getElem? (i := 31) (by decide +kernel), List.mem_of_getElem? (i := 368) (by decide +kernel), List.mem_of_getElem? (i := 369) (by decide +kernel)⟩
theorem lw_p8 : lw_okq (⟨"java/util/ArrayList", "grow", "(I)[Ljava/lang/Object;"⟩, 3) := ⟨⟨by decide +kernel, by decide +kernel⟩, List.mem_of_getElem? (i := 31) (by decide +kernel), List.mem_of_getElem? (i := 372) (by decide +kernel), List.mem_of_getElem? (i := 373) (by decide +kernel)⟩
theorem lw_p9 : lw_okq (⟨"SignTiles", "wayAt", "(I)LSignTiles$Way;"⟩, 6) := ⟨⟨by decide +kernel, by decide +kernel⟩, List.mem_of_getElem? (i := 23) (by decide +kernel), List.mem_of_getElem? (i := 424) (by decide +kernel), List.mem_of_getElem? (i := 425) (by decide +kernel)⟩
theorem lw_p10 : lw_okq (⟨"SignTiles", "addVersion", "(LSignTiles$Way;LSignTiles$Change;)V"⟩, 6) := ⟨⟨by decide +kernel, by decide +kernel⟩, List.mem_of_getElem? (i := 23) (by decide +kernel), List.mem_of_getElem? (i := 442) (by decide +kernel), List.mem_of_getElem? (i := 443) (by decide +kernel)⟩
theorem lw_p11 : lw_okq (⟨"SignTiles", "addTrust", "(II)I"⟩, 6) := ⟨⟨by decide +kernel, by decide +kernel⟩, List.mem_of_getElem? (i := 23) (by decide +kernel), List.mem_of_getElem? (i := 454) (by decide +kernel), List.mem_of_getElem? (i := 455) (by decide +kernel)⟩
theorem lw_p12 : lw_okq (⟨"SignTiles", "countWaysIn", "(LSignTiles$Tile;)I"⟩, 6) := ⟨⟨by decide +kernel, by decide +kernel⟩, List.mem_of_getElem? (i := 23) (by decide +kernel), List.mem_of_getElem? (i := 578) (by decide +kernel), List.mem_of_getElem? (i := 579) (by decide +kernel)⟩
theorem lw_p13 : lw_okq (⟨"SignTiles", "drawnTile", "(III)LSignTiles$Tile;"⟩, 6) := ⟨⟨by decide +kernel, by decide +kernel⟩, List.mem_of_getElem? (i := 23) (by decide +kernel), List.mem_of_getElem? (i := 589) (by decide +kernel), List.mem_of_getElem? (i := 590) (by decide +kernel)⟩
theorem lw_p14 : lw_okq (⟨"SignTiles", "targetFrom", "(II)I"⟩, 6) := ⟨⟨by decide +kernel, by decide +kernel⟩, List.mem_of_getElem? (i := 23) (by decide +kernel), List.mem_of_getElem? (i := 705) (by decide +kernel), List.mem_of_getElem? (i := 706) (by decide +kernel)⟩
theorem lw_p15 : lw_okq (⟨"SignTilesModel", "asks", "(Z)Z"⟩, 20) := ⟨⟨by decide +kernel, by decide +kernel⟩, List.mem_of_getElem? (i := 726) (by decide +kernel), List.mem_of_getElem? (i := 810) (by decide +kernel), List.mem_of_getElem? (i := 811) (by decide +kernel)⟩
def lw_privs_1 : List (MethodName × Nat) := [(⟨"SignTiles", "isOutdated", "(LSignTiles$Tile;)Z"⟩, 6), (⟨"SignTiles", "keepPicture", "(LSignTiles$Tile;)V"⟩, 6), (⟨"SignTiles", "pictureAt", "(LSignTiles$Tile;I)I"⟩, 6), (⟨"java/lang/Throwable", "fillInStackTrace", "(I)Ljava/lang/Throwable;"⟩, 6), (⟨"SignTiles", "isFull", "()Z"⟩, 6), (⟨"SignTiles", "newVersion", "(LSignTiles$Change;LSignTiles$Version;)LSignTiles$Version;"⟩, 6), (⟨"java/util/ArrayList", "add", "(Ljava/lang/Object;[Ljava/lang/Object;I)V"⟩, 3), (⟨"java/util/ArrayList", "grow", "()[Ljava/lang/Object;"⟩, 3), (⟨"java/util/ArrayList", "grow", "(I)[Ljava/lang/Object;"⟩, 3), (⟨"SignTiles", "wayAt", "(I)LSignTiles$Way;"⟩, 6), (⟨"SignTiles", "addVersion", "(LSignTiles$Way;LSignTiles$Change;)V"⟩, 6), (⟨"SignTiles", "addTrust", "(II)I"⟩, 6), (⟨"SignTiles", "countWaysIn", "(LSignTiles$Tile;)I"⟩, 6), (⟨"SignTiles", "drawnTile", "(III)LSignTiles$Tile;"⟩, 6), (⟨"SignTiles", "targetFrom", "(II)I"⟩, 6), (⟨"SignTilesModel", "asks", "(Z)Z"⟩, 20)]
theorem lw_r1 : ∀ q ∈ lw_privs_1, lw_okq q := List.forall_mem_cons.mpr ⟨lw_p0, List.forall_mem_cons.mpr ⟨lw_p1, List.forall_mem_cons.mpr ⟨lw_p2, List.forall_mem_cons.mpr ⟨lw_p3, List.forall_mem_cons.mpr ⟨lw_p4, List.forall_mem_cons.mpr ⟨lw_p5, List.forall_mem_cons.mpr ⟨lw_p6, List.forall_mem_cons.mpr ⟨lw_p7, List.forall_mem_cons.mpr ⟨lw_p8, List.forall_mem_cons.mpr ⟨lw_p9, List.forall_mem_cons.mpr ⟨lw_p10, List.forall_mem_cons.mpr ⟨lw_p11, List.forall_mem_cons.mpr ⟨lw_p12, List.forall_mem_cons.mpr ⟨lw_p13, List.forall_mem_cons.mpr ⟨lw_p14, List.forall_mem_cons.mpr ⟨lw_p15, fun _ h => absurd h List.not_mem_nil⟩⟩⟩⟩⟩⟩⟩⟩⟩⟩⟩⟩⟩⟩⟩⟩
theorem lw_p16 : lw_okq (⟨"SignTilesModel", "fails", "(I)I"⟩, 20) := ⟨⟨by decide +kernel, by decide +kernel⟩, List.mem_of_getElem? (i := 726) (by decide +kernel), List.mem_of_getElem? (i := 814) (by decide +kernel), List.mem_of_getElem? (i := 815) (by decide +kernel)⟩
theorem lw_p17 : lw_okq (⟨"SignTilesModel", "makes", "(IIII)V"⟩, 20) := ⟨⟨by decide +kernel, by decide +kernel⟩, List.mem_of_getElem? (i := 726) (by decide +kernel), List.mem_of_getElem? (i := 818) (by decide +kernel), List.mem_of_getElem? (i := 819) (by decide +kernel)⟩
theorem lw_p18 : lw_okq (⟨"SignTilesModel", "isWay", "(I)Z"⟩, 20) := ⟨⟨by decide +kernel, by decide +kernel⟩, List.mem_of_getElem? (i := 726) (by decide +kernel), List.mem_of_getElem? (i := 826) (by decide +kernel), List.mem_of_getElem? (i := 827) (by decide +kernel)⟩
theorem lw_p19 : lw_okq (⟨"SignTilesModel", "kindNow", "(I)I"⟩, 20) := ⟨⟨by decide +kernel, by decide +kernel⟩, List.mem_of_getElem? (i := 726) (by decide +kernel), List.mem_of_getElem? (i := 830) (by decide +kernel), List.mem_of_getElem? (i := 831) (by decide +kernel)⟩
theorem lw_p20 : lw_okq (⟨"SignTilesModel", "directionNow", "(I)I"⟩, 20) := ⟨⟨by decide +kernel, by decide +kernel⟩, List.mem_of_getElem? (i := 726) (by decide +kernel), List.mem_of_getElem? (i := 834) (by decide +kernel), List.mem_of_getElem? (i := 835) (by decide +kernel)⟩
theorem lw_p21 : lw_okq (⟨"SignTilesModel", "trusts", "(II)V"⟩, 20) := ⟨⟨by decide +kernel, by decide +kernel⟩, List.mem_of_getElem? (i := 726) (by decide +kernel), List.mem_of_getElem? (i := 842) (by decide +kernel), List.mem_of_getElem? (i := 843) (by decide +kernel)⟩
theorem lw_p22 : lw_okq (⟨"SignTilesModel", "placeOf", "(II)I"⟩, 20) := ⟨⟨by decide +kernel, by decide +kernel⟩, List.mem_of_getElem? (i := 726) (by decide +kernel), List.mem_of_getElem? (i := 870) (by decide +kernel), List.mem_of_getElem? (i := 871) (by decide +kernel)⟩
theorem lw_p23 : lw_okq (⟨"SignTilesModel", "tileAt", "(III)I"⟩, 20) := ⟨⟨by decide +kernel, by decide +kernel⟩, List.mem_of_getElem? (i := 726) (by decide +kernel), List.mem_of_getElem? (i := 890) (by decide +kernel), List.mem_of_getElem? (i := 891) (by decide +kernel)⟩
theorem lw_p24 : lw_okq (⟨"SignTilesModel", "draws", "(IIII)V"⟩, 20) := ⟨⟨by decide +kernel, by decide +kernel⟩, List.mem_of_getElem? (i := 726) (by decide +kernel), List.mem_of_getElem? (i := 894) (by decide +kernel), List.mem_of_getElem? (i := 895) (by decide +kernel)⟩
theorem lw_p25 : lw_okq (⟨"SignTilesModel", "drawn", "(IIII)I"⟩, 20) := ⟨⟨by decide +kernel, by decide +kernel⟩, List.mem_of_getElem? (i := 726) (by decide +kernel), List.mem_of_getElem? (i := 898) (by decide +kernel), List.mem_of_getElem? (i := 899) (by decide +kernel)⟩
theorem lw_p26 : lw_okq (⟨"SignTilesModel", "isIn", "(IIII)Z"⟩, 20) := ⟨⟨by decide +kernel, by decide +kernel⟩, List.mem_of_getElem? (i := 726) (by decide +kernel), List.mem_of_getElem? (i := 905) (by decide +kernel), List.mem_of_getElem? (i := 906) (by decide +kernel)⟩
theorem lw_p27 : lw_okq (⟨"SignTilesModel", "isOld", "(IIII)Z"⟩, 20) := ⟨⟨by decide +kernel, by decide +kernel⟩, List.mem_of_getElem? (i := 726) (by decide +kernel), List.mem_of_getElem? (i := 925) (by decide +kernel), List.mem_of_getElem? (i := 926) (by decide +kernel)⟩
theorem lw_p28 : lw_okq (⟨"SignTilesModel", "stales", "(IZ)I"⟩, 20) := ⟨⟨by decide +kernel, by decide +kernel⟩, List.mem_of_getElem? (i := 726) (by decide +kernel), List.mem_of_getElem? (i := 933) (by decide +kernel), List.mem_of_getElem? (i := 934) (by decide +kernel)⟩
theorem lw_p29 : lw_okq (⟨"SignTilesModel", "goes", "(III)I"⟩, 20) := ⟨⟨by decide +kernel, by decide +kernel⟩, List.mem_of_getElem? (i := 726) (by decide +kernel), List.mem_of_getElem? (i := 948) (by decide +kernel), List.mem_of_getElem? (i := 949) (by decide +kernel)⟩
theorem lw_p30 : lw_okq (⟨"SignTilesModel", "far", "(III)I"⟩, 20) := ⟨⟨by decide +kernel, by decide +kernel⟩, List.mem_of_getElem? (i := 726) (by decide +kernel), List.mem_of_getElem? (i := 952) (by decide +kernel), List.mem_of_getElem? (i := 953) (by decide +kernel)⟩
theorem lw_p31 : lw_okq (⟨"SignTilesModel", "clears", "(IIII)V"⟩, 20) := ⟨⟨by decide +kernel, by decide +kernel⟩, List.mem_of_getElem? (i := 726) (by decide +kernel), List.mem_of_getElem? (i := 960) (by decide +kernel), List.mem_of_getElem? (i := 961) (by decide +kernel)⟩
def lw_privs_2 : List (MethodName × Nat) := [(⟨"SignTilesModel", "fails", "(I)I"⟩, 20), (⟨"SignTilesModel", "makes", "(IIII)V"⟩, 20), (⟨"SignTilesModel", "isWay", "(I)Z"⟩, 20), (⟨"SignTilesModel", "kindNow", "(I)I"⟩, 20), (⟨"SignTilesModel", "directionNow", "(I)I"⟩, 20), (⟨"SignTilesModel", "trusts", "(II)V"⟩, 20), (⟨"SignTilesModel", "placeOf", "(II)I"⟩, 20), (⟨"SignTilesModel", "tileAt", "(III)I"⟩, 20), (⟨"SignTilesModel", "draws", "(IIII)V"⟩, 20), (⟨"SignTilesModel", "drawn", "(IIII)I"⟩, 20), (⟨"SignTilesModel", "isIn", "(IIII)Z"⟩, 20), (⟨"SignTilesModel", "isOld", "(IIII)Z"⟩, 20), (⟨"SignTilesModel", "stales", "(IZ)I"⟩, 20), (⟨"SignTilesModel", "goes", "(III)I"⟩, 20), (⟨"SignTilesModel", "far", "(III)I"⟩, 20), (⟨"SignTilesModel", "clears", "(IIII)V"⟩, 20)]
theorem lw_r2 : ∀ q ∈ lw_privs_2, lw_okq q := List.forall_mem_cons.mpr ⟨lw_p16, List.forall_mem_cons.mpr ⟨lw_p17, List.forall_mem_cons.mpr ⟨lw_p18, List.forall_mem_cons.mpr ⟨lw_p19, List.forall_mem_cons.mpr ⟨lw_p20, List.forall_mem_cons.mpr ⟨lw_p21, List.forall_mem_cons.mpr ⟨lw_p22, List.forall_mem_cons.mpr ⟨lw_p23, List.forall_mem_cons.mpr ⟨lw_p24, List.forall_mem_cons.mpr ⟨lw_p25, List.forall_mem_cons.mpr ⟨lw_p26, List.forall_mem_cons.mpr ⟨lw_p27, List.forall_mem_cons.mpr ⟨lw_p28, List.forall_mem_cons.mpr ⟨lw_p29, List.forall_mem_cons.mpr ⟨lw_p30, List.forall_mem_cons.mpr ⟨lw_p31, fun _ h => absurd h List.not_mem_nil⟩⟩⟩⟩⟩⟩⟩⟩⟩⟩⟩⟩⟩⟩⟩⟩
theorem lw_p32 : lw_okq (⟨"SignTilesModel", "agree", "(II)Z"⟩, 20) := ⟨⟨by decide +kernel, by decide +kernel⟩, List.mem_of_getElem? (i := 726) (by decide +kernel), List.mem_of_getElem? (i := 964) (by decide +kernel), List.mem_of_getElem? (i := 965) (by decide +kernel)⟩
theorem lw_p33 : lw_okq (⟨"SignTilesModel", "dearBy", "(I)I"⟩, 20) := ⟨⟨by decide +kernel, by decide +kernel⟩, List.mem_of_getElem? (i := 726) (by decide +kernel), List.mem_of_getElem? (i := 976) (by decide +kernel), List.mem_of_getElem? (i := 977) (by decide +kernel)⟩
theorem lw_p34 : lw_okq (⟨"SignTilesModel", "targetOf", "(I)I"⟩, 20) := ⟨⟨by decide +kernel, by decide +kernel⟩, List.mem_of_getElem? (i := 726) (by decide +kernel), List.mem_of_getElem? (i := 984) (by decide +kernel), List.mem_of_getElem? (i := 985) (by decide +kernel)⟩
theorem lw_p35 : lw_okq (⟨"SignTilesModel", "nearest", "(II)I"⟩, 20) := ⟨⟨by decide +kernel, by decide +kernel⟩, List.mem_of_getElem? (i := 726) (by decide +kernel), List.mem_of_getElem? (i := 988) (by decide +kernel), List.mem_of_getElem? (i := 989) (by decide +kernel)⟩
def lw_privs_3 : List (MethodName × Nat) := [(⟨"SignTilesModel", "agree", "(II)Z"⟩, 20), (⟨"SignTilesModel", "dearBy", "(I)I"⟩, 20), (⟨"SignTilesModel", "targetOf", "(I)I"⟩, 20), (⟨"SignTilesModel", "nearest", "(II)I"⟩, 20)]
theorem lw_r3 : ∀ q ∈ lw_privs_3, lw_okq q := List.forall_mem_cons.mpr ⟨lw_p32, List.forall_mem_cons.mpr ⟨lw_p33, List.forall_mem_cons.mpr ⟨lw_p34, List.forall_mem_cons.mpr ⟨lw_p35, fun _ h => absurd h List.not_mem_nil⟩⟩⟩⟩
def lw_privs : List (MethodName × Nat) := lw_privs_1 ++ (lw_privs_2 ++ (lw_privs_3))
def lw_tbl : List Cond := k2_sels lw_privs ++ tables_1
theorem lw_privs_ok : ∀ q ∈ lw_privs, lw_okq q := by
  show ∀ q ∈ lw_privs_1 ++ (lw_privs_2 ++ (lw_privs_3)), lw_okq q
  exact List.forall_mem_append.mpr ⟨lw_r1, List.forall_mem_append.mpr ⟨lw_r2, lw_r3⟩⟩
end
section
/-! ===== BEGIN words of one list among another's, by their places ===== -/
theorem goodIn_r {big : List Cond} (ws : List Cond) (ps : List Nat) (hp : ws = ps.filterMap (fun i => big[i]?)) (h : ws.all goodWord = true) : GoodIn big ws := by
  intro w hw
  have h1 := List.all_eq_true.mp h w hw
  rw [hp] at hw
  obtain ⟨i, -, hi⟩ := List.mem_filterMap.mp hw
  have hm : w ∈ big := by first | exact List.mem_of_getElem? hi | exact List.getElem?_mem hi
  exact ⟨hm, good_of_word h1⟩
theorem goodIn_app {big a b : List Cond} (ha : GoodIn big a) (hb : GoodIn big b) : GoodIn big (a ++ b) := fun w h => (List.mem_append.mp h).elim (ha w) (hb w)
theorem goodIn_ca {big a b : List Cond} {c : Cond} (ha : GoodIn big (c :: a)) (hb : GoodIn big b) : GoodIn big (c :: (a ++ b)) := fun w h => (List.mem_cons.mp h).elim (fun e => ha w (List.mem_cons.mpr (Or.inl e))) (fun h => (List.mem_append.mp h).elim (fun h => ha w (List.mem_cons.mpr (Or.inr h))) (hb w))
theorem goodIn_sub {big ws : List Cond} (hm : ∀ w ∈ ws, w ∈ big) (h : ws.all goodWord = true) : GoodIn big ws := fun w hw => ⟨hm w hw, good_of_word (List.all_eq_true.mp h w hw)⟩
/-! ===== END ===== -/

/-! ===== BEGIN exceptions that leave a method, and their catching by the caller (launches without stack traces) ===== -/
section VXA
/-! The laws vx_back, vx_callV, vx_callS, vx_callSW, vx_throw0, vx_throwS follow proofs of the library, with one case more: JvmDerived/Free/Laws.lean (Back.of_free), Shelf42/LK1.lean (callV, callS), Shelf/KitTraced.lean (throwNew0V, throwNewS). -/
/-- where a method has thrown q: the class by its name, the cell, what was written, the world -/
def vx_T (XC : String → State → State → Prop) (st : State) (q : Addr) (t : State) (mc ms : Nat) (free : Addr → Prop) : Prop :=
  ∃ (E : String) (ce : Cell) (L : List Loc), XC E st t ∧ t.heap[q]? = some ce ∧ ce.vm = .none ∧ st.vm.findClass E = some ce.cls ∧ st.WarmedH t.vm ∧ st.sameButNew ({ t with vm := st.vm } : State) L mc ms ∧ ∀ z ∈ L, free z.base
def vx_Q (Qc : Array Value → State → Outcome → State → Prop) (XC : String → State → State → Prop) (mc ms : Nat) (free : Addr → Prop) : Array Value → State → Outcome → State → Prop := fun a st o t =>
  (Qc a st o t ∧ ∃ L, FrameEnd st o t L mc ms ∧ ∀ q ∈ L, free q.base) ∨ ∃ q, o = .threw q ∧ vx_T XC st q t mc ms free
/-- a callee that returns or throws -/
def vx_Met (l : Launch) (y : MethodName) (ws : List Cond) (rm : Room) (Pc : Array Value → State → Prop) (Qc : Array Value → State → Outcome → State → Prop) (XC : String → State → State → Prop) (mc ms : Nat) (free : Addr → Prop) : Prop :=
  MetFree l y (headSpec ws rm) Pc (fun _ _ _ _ _ => True) (vx_Q Qc XC mc ms free)
def vx_Post (XC : String → State → State → Prop) (mc ms : Nat) (free : Addr → Prop) : Pt → Array Value → Addr → Pt → Prop := fun A a q B =>
  ∃ (g : JFrame) (mk : MethodId) (t : State) (L : List Loc) (E : String) (ce : Cell), B.U.heap = t.heap ∧ B.U.vm = t.vm ∧ XC E (A.U.calling g mk a) t ∧ t.heap[q]? = some ce ∧ ce.vm = .none ∧ A.U.vm.findClass E = some ce.cls ∧ B.locs = A.locs ++ L ∧ (∀ z ∈ L, free z.base) ∧ B.cells = A.cells + mc ∧ B.slots = A.slots + ms
def vx_Back (l : Launch) (R : Room) (p : Program) (e : Env) (below : List Frame) (s : State) (sargs : Array Value) (y : MethodName) (len W9 : Nat)
    (Pre : Pt → Array Value → Prop) (Post : Pt → Array Value → Option Value → Pt → Prop) (PostX : Pt → Array Value → Addr → Pt → Prop) : Prop :=
  ∀ (m : MethodId) (meth : Method) (c : Code) (A : Pt) (g : JFrame) (ig : Instr) (mk : MethodId) (a : Array Value),
    Stand p l e R s m sargs below meth c A.U A.locs A.cells A.slots → g.method = m → g.locals.size = c.maxLocals → decode c.code g.pc = .ok (ig, len) →
    2 * g.monitorRoom + (g.stack.map fun v => v.category).sum ≤ W9 → A.U.methodNamed? y = some mk → Pre A a →
    (∃ (v : Option Value) (B : Pt), Stand p l e R s m sargs below meth c B.U B.locs B.cells B.slots ∧ Post A a v B ∧
      Steps p.tables e below (doInvoke e (A.U.setTop g) [] mk a).1 (B.U.setTop { g with pc := g.pc + len, stack := v.toList ++ g.stack })) ∨
    (∃ (q : Addr) (B : Pt), Stand p l e R s m sargs below meth c B.U B.locs B.cells B.slots ∧ PostX A a q B ∧
      Steps p.tables e below (doInvoke e (A.U.setTop g) [] mk a).1 ((B.U.setTop g).pushFrame (.throwing q)))
section Payer
variable {l : Launch} {R : Room} {p : Program} {e : Env} {below : List Frame} {s : State} {sargs : Array Value} {y : MethodName} {len W9 : Nat}
theorem vx_back {ws : List Cond} {rm : Room} {Pc : Array Value → State → Prop} {Qc : Array Value → State → Outcome → State → Prop} {XC : String → State → State → Prop} {mc ms : Nat} {free : Addr → Prop} {bytes : ByteArray} {maxL : Nat} {ret : Option FieldType}
    (hM : vx_Met l y ws rm Pc Qc XC mc ms free) (hblind : FrameBlind Pc) (hrc : rm.cells = mc) (hrs : rm.slots = ms)
    (hframes : rm.frames + 1 ≤ R.frames) (hlocals : W9 + (maxL + 11) + rm.locals ≤ R.locals)
    (hws : ∀ w ∈ ws, ∀ a' U, s.WarmedH U.vm → w.before a' U = true) (hcode : Cond.code y bytes maxL ret ∈ ws) (hinit : ∀ a' U, s.WarmedH U.vm → (Cond.initialized y.cls).before a' U = true) :
    vx_Back l R p e below s sargs y len W9 (PreOf R mc ms Pc) (PostOf Qc mc ms free) (vx_Post XC mc ms free) := by
  intro m meth c A g ig mk a X hg hsize hdg hW hn hp
  have h1 : (headSpec ws rm).pre.before a A.U = true := atoms_intro fun w hw => hws w hw _ _ X.warmed
  have h2 : (Cond.code y bytes maxL ret).before a A.U = true := hws _ hcode _ _ X.warmed
  have h3 : (Cond.initialized y.cls).before a A.U = true := hinit _ _ X.warmed
  have h4 : A.cells + (headSpec ws rm).room.cells ≤ R.cells := by rw [show (headSpec ws rm).room.cells = mc from hrc]; exact hp.1
  have h5 : A.slots + (headSpec ws rm).room.slots ≤ R.slots := by rw [show (headSpec ws rm).room.slots = ms from hrs]; exact hp.2.1
  have hPc : Pc a (A.U.calling g mk a) := hblind _ _ _ _ hp.2.2
  obtain ⟨U, Ls, c0, s0⟩ := A
  dsimp only [Pt.U, Pt.locs, Pt.cells, Pt.slots] at h1 h2 h3 h4 h5 X hn hPc ⊢
  obtain ⟨methY, cY, hmY, hcY, -, hlY, -, -, -, -⟩ := Cond.code_spec hn h2
  obtain ⟨kY, hkY, -⟩ := className_of_methodNamed hn
  have hinitY : kY.init = .initialized := Cond.initialized_spec (findClass_of_methodNamed hn) hkY h3
  have h : At U g.method c below := by rw [hg]; exact X.here
  have hlocals9 : W9 + (maxL + 11) + (headSpec ws rm).room.locals ≤ R.locals := hlocals
  have happ : (headSpec ws rm).appliesLoose y e.platform (U.calling g mk a) = true :=
    Spec.appliesLoose_calling (g := g) h hdg hn hkY hinitY
      (X.room_calling (g := g) (R' := (headSpec ws rm).room) hsize hmY hcY hframes (by rw [hlY]; omega) h4 h5) h1
  obtain ⟨mid, hmid⟩ := h.above
  have hfr : (U.setTop g).frames = (.java g :: mid) ++ below := by rw [State.frames_setTop' g h.top, hmid]; rfl
  obtain ⟨o, s₂, hsteps, -, hend, hq⟩ := Steps.callFree hM p X.admits X.cas X.clock (acts := []) hfr happ hPc trivial
  have hq' : vx_Q Qc XC mc ms free a (U.calling g mk a) o s₂ := hq
  rw [State.frames_setTop' g h.top] at hend
  obtain ⟨g₀, hg0⟩ := Option.isSome_iff_exists.mp h.top
  obtain ⟨r, hr⟩ := State.topJava?_eq_some.mp hg0
  have hr' : (({ U with heap := s₂.heap, slotsUsed := s₂.slotsUsed } : State).setVm s₂.vm).frames = .java g₀ :: r := hr
  rcases hq' with ⟨hqc, L, hfe, hL⟩ | ⟨q, rfl, E, ce, L, hx, hce, hcv, hcl, hW₂, hsm, hL⟩
  · obtain ⟨⟨v, rfl⟩, hW₂, e2, q2, q3, q4, q5, q6⟩ := id hfe
    have e3 : s₂ = ({ (U.calling g mk a).setFrames s₂.frames with heap := s₂.heap, slotsUsed := s₂.slotsUsed } : State).setVm s₂.vm := by
      have : s₂ = ({ s₂ with vm := (U.calling g mk a).vm } : State).setVm s₂.vm := rfl
      rw [e2] at this
      exact this
    obtain ⟨c₂, i₂, len₂, hc₂, hd₂, hf₂⟩ := hend
    have hW' : U.WarmedH s₂.vm := hW₂
    have hcc : c₂ = c := by
      have h1 : s₂.code? g.method = U.code? g.method := by
        rw [State.code?_eq, State.code?_eq, hW'.alike.method?]
      exact Option.some.inj (hc₂.symm.trans (h1.trans h.code))
    subst hcc
    have hlen : len₂ = len := by rw [hdg] at hd₂; cases hd₂; rfl
    subst hlen
    have hs₂ : s₂ = (({ U with heap := s₂.heap, slotsUsed := s₂.slotsUsed } : State).setVm s₂.vm).setTop { g with pc := g.pc + len₂, stack := v.toList ++ g.stack } := by
      refine e3.trans ?_
      rw [hf₂, State.calling_eq h.top, State.setFrames_setFrames, State.setTop_of_frames _ hr', hr]
      rfl
    have hsame : U.sameButNew ({ U with heap := s₂.heap, slotsUsed := s₂.slotsUsed } : State) L mc ms := by
      refine ⟨?_, q2, q3, q4, q5, q6⟩
      obtain ⟨t, ht, -⟩ := State.frames_cons hr
      show ({ U with heap := s₂.heap, slotsUsed := s₂.slotsUsed } : State) = { U.setFrames U.frames with heap := s₂.heap, slotsUsed := s₂.slotsUsed }
      rw [State.setFrames_self ht]
    subst hg
    refine Or.inl ⟨v, ⟨(({ U with heap := s₂.heap, slotsUsed := s₂.slotsUsed } : State).setVm s₂.vm), Ls ++ L, c0 + mc, s0 + ms⟩,
      ⟨X.admits, X.cas, X.clock, X.frames, X.room, X.hears, X.method, X.code, (X.here.setHeapUsed s₂.heap s₂.slotsUsed).setVm hW'.alike, X.tail, State.WarmedH.trans X.warmed hW', X.limits, X.bytes, X.same.trans (hsame.setVm s.vm)⟩,
      ⟨g, mk, s₂, L, rfl, rfl, hqc, rfl, hL, rfl, rfl⟩, ?_⟩
    show Steps p.tables e below _ ((({ U with heap := s₂.heap, slotsUsed := s₂.slotsUsed } : State).setVm s₂.vm).setTop { g with pc := g.pc + len₂, stack := v.toList ++ g.stack })
    rw [← hs₂]
    exact hsteps
  · obtain ⟨e2, q2, q3, q4, q5, q6⟩ := id hsm
    have e3 : s₂ = ({ (U.calling g mk a).setFrames s₂.frames with heap := s₂.heap, slotsUsed := s₂.slotsUsed } : State).setVm s₂.vm := by
      have : s₂ = ({ s₂ with vm := (U.calling g mk a).vm } : State).setVm s₂.vm := rfl
      rw [e2] at this
      exact this
    have hf₂ : s₂.frames = .throwing q :: .java g :: U.frames.tail := hend
    have hW' : U.WarmedH s₂.vm := hW₂
    have hs₂ : s₂ = ((({ U with heap := s₂.heap, slotsUsed := s₂.slotsUsed } : State).setVm s₂.vm).setTop g).pushFrame (.throwing q) := by
      refine e3.trans ?_
      rw [hf₂, State.calling_eq h.top, State.setFrames_setFrames, State.pushFrame, State.frames_setTop _ hr', State.setTop_of_frames _ hr', State.setFrames_setFrames, hr]
      rfl
    have hsame : U.sameButNew ({ U with heap := s₂.heap, slotsUsed := s₂.slotsUsed } : State) L mc ms := by
      refine ⟨?_, q2, q3, q4, q5, q6⟩
      obtain ⟨t, ht, -⟩ := State.frames_cons hr
      show ({ U with heap := s₂.heap, slotsUsed := s₂.slotsUsed } : State) = { U.setFrames U.frames with heap := s₂.heap, slotsUsed := s₂.slotsUsed }
      rw [State.setFrames_self ht]
    subst hg
    refine Or.inr ⟨q, ⟨(({ U with heap := s₂.heap, slotsUsed := s₂.slotsUsed } : State).setVm s₂.vm), Ls ++ L, c0 + mc, s0 + ms⟩,
      ⟨X.admits, X.cas, X.clock, X.frames, X.room, X.hears, X.method, X.code, (X.here.setHeapUsed s₂.heap s₂.slotsUsed).setVm hW'.alike, X.tail, State.WarmedH.trans X.warmed hW', X.limits, X.bytes, X.same.trans (hsame.setVm s.vm)⟩,
      ⟨g, mk, s₂, L, E, ce, rfl, rfl, hx, hce, hcv, hcl, rfl, hL, rfl, rfl⟩, ?_⟩
    show Steps p.tables e below _ (((({ U with heap := s₂.heap, slotsUsed := s₂.slotsUsed } : State).setVm s₂.vm).setTop g).pushFrame (.throwing q))
    rw [← hs₂]
    exact hsteps
end Payer
section Calls
variable {p : Program} {l : Launch} {e : Env} {R : Room} {s : State} {m : MethodId} {args : Array Value} {below : List Frame} {meth : Method} {c : Code} {T : State} {locs : List Loc} {cells slots : Nat}
theorem vx_callV (X : Stand p l e R s m args below meth c T locs cells slots) (hexec : p.tables.exec = Jvm.exec) {own C : String} {index : Nat} {y : MethodName} {bytes : ByteArray} {maxL : Nat} {ret : Option FieldType}
    (hown : s.vm.findClass own = some m.cls) (hlink : (Cond.methodLink own index y).before args s = true) (hinst : (Cond.instanceMethod y).before args s = true) (hsel : (Cond.selects C y y).before args s = true)
    (hcode : (Cond.code y bytes maxL ret).before args s = true) (hy : y.cls ≠ "java/lang/invoke/MethodHandle" ∧ y.cls ≠ "java/lang/invoke/VarHandle")
    {W9 : Nat} {Pre : Pt → Array Value → Prop} {Post : Pt → Array Value → Option Value → Pt → Prop} {PostX : Pt → Array Value → Addr → Pt → Prop} (hK : vx_Back l R p e below s args y 3 W9 Pre Post PostX)
    {b : Addr} {cellB : Cell} (hcell : T.heap[b]? = some cellB) (hobj : cellB.vm.isStatics = false) (hcls : s.vm.findClass C = some cellB.cls)
    {g : JFrame} (hg : g.method = m) (hsize : g.locals.size = c.maxLocals) {argsL rest : List Value} (hlen : ∀ sig, parseMethodDescriptor y.desc = some sig → argsL.length = sig.parameters.length)
    (hstack : g.stack = argsL.reverse ++ .ref b :: rest) (hW : 2 * g.monitorRoom + (rest.map fun v => v.category).sum ≤ W9) (hdg : decode c.code g.pc = .ok (.invokevirtual index, 3))
    (hpre : ∀ vm₁, s.WarmedH vm₁ → Pre ⟨T.setVm vm₁, locs, cells, slots⟩ (Value.ref b :: argsL).toArray) :
    (∃ (v : Option Value) (vm₁ : Vm) (B : Pt), s.WarmedH vm₁ ∧ Stand p l e R s m args below meth c B.U B.locs B.cells B.slots ∧ Post ⟨T.setVm vm₁, locs, cells, slots⟩ (Value.ref b :: argsL).toArray v B ∧
      ∀ target, Steps p.tables e below (B.U.setTop { g with pc := g.pc + 3, stack := v.toList ++ rest }) target → Steps p.tables e below (T.setTop g) target) ∨
    (∃ (q : Addr) (vm₁ : Vm) (B : Pt), s.WarmedH vm₁ ∧ Stand p l e R s m args below meth c B.U B.locs B.cells B.slots ∧ PostX ⟨T.setVm vm₁, locs, cells, slots⟩ (Value.ref b :: argsL).toArray q B ∧
      Steps p.tables e below (T.setTop g) ((B.U.setTop { g with stack := rest }).pushFrame (.throwing q))) := by
  obtain ⟨mk, methM, hnamed, hmethM, hstM, habM⟩ := Cond.instanceMethod_spec hinst
  obtain ⟨methM', cM, hmethM', -, -, -, -, -, -, hsigM⟩ := Cond.code_spec hnamed hcode
  cases hmethM.symm.trans hmethM'
  obtain ⟨c2, r2, m2, q1, q2, q3, q4, kP, hkP, hkPi⟩ := Cond.selects_spec hsel
  cases hcls.symm.trans q1
  cases (State.methodFound?_of_named hnamed hy).symm.trans q2
  cases hnamed.symm.trans q3
  have hselP : selectMethod e.platform s.vm cellB.cls mk = .method mk := by rw [Launch.admits_selectMethod X.admits]; exact q4
  obtain ⟨vm₁, X₁, hstep₁⟩ := X.invokevirtual hexec hown hlink hnamed hmethM hstM hkP hkPi hy (a := b) (cell := cellB) hcell
    (fun z h => by rw [h] at hobj; cases hobj) hselP hmethM habM hkP hkPi (g := g) hg (argsL := argsL) (rest := rest) (hlen _ hsigM) hstack hdg
  rcases hK m meth c ⟨T.setVm vm₁, locs, cells, slots⟩ { g with stack := rest } (.invokevirtual index) mk (Value.ref b :: argsL).toArray X₁ hg hsize hdg hW (X₁.named hnamed) (hpre vm₁ X₁.warmed) with ⟨v, B, X', hpost, hsteps⟩ | ⟨q, B, X', hpost, hsteps⟩
  · exact Or.inl ⟨v, vm₁, B, X₁.warmed, X', hpost, fun target h => hstep₁ _ fun acts => by rw [doInvoke_state]; exact hsteps.trans h⟩
  · exact Or.inr ⟨q, vm₁, B, X₁.warmed, X', hpost, hstep₁ _ fun acts => by rw [doInvoke_state]; exact hsteps⟩
theorem vx_callS (X : Stand p l e R s m args below meth c T locs cells slots) (hexec : p.tables.exec = Jvm.exec) {own : String} {index : Nat} {y : MethodName} {bytes : ByteArray} {maxL : Nat} {ret : Option FieldType}
    (hown : s.vm.findClass own = some m.cls) (hlink : (Cond.methodLink own index y).before args s = true) (hstat : (Cond.static y).before args s = true) (hinit : (Cond.initialized y.cls).before args s = true)
    (hcode : (Cond.code y bytes maxL ret).before args s = true) (hy : y.cls ≠ "java/lang/invoke/MethodHandle" ∧ y.cls ≠ "java/lang/invoke/VarHandle")
    {W9 : Nat} {Pre : Pt → Array Value → Prop} {Post : Pt → Array Value → Option Value → Pt → Prop} {PostX : Pt → Array Value → Addr → Pt → Prop} (hK : vx_Back l R p e below s args y 3 W9 Pre Post PostX)
    {g : JFrame} (hg : g.method = m) (hsize : g.locals.size = c.maxLocals) {argsL rest : List Value} (hlen : ∀ sig, parseMethodDescriptor y.desc = some sig → argsL.length = sig.parameters.length)
    (hstack : g.stack = argsL.reverse ++ rest) (hW : 2 * g.monitorRoom + (rest.map fun v => v.category).sum ≤ W9) (hdg : decode c.code g.pc = .ok (.invokestatic index, 3))
    (hpre : ∀ vm₁, s.WarmedH vm₁ → Pre ⟨T.setVm vm₁, locs, cells, slots⟩ argsL.toArray) :
    (∃ (v : Option Value) (vm₁ : Vm) (B : Pt), s.WarmedH vm₁ ∧ Stand p l e R s m args below meth c B.U B.locs B.cells B.slots ∧ Post ⟨T.setVm vm₁, locs, cells, slots⟩ argsL.toArray v B ∧
      ∀ target, Steps p.tables e below (B.U.setTop { g with pc := g.pc + 3, stack := v.toList ++ rest }) target → Steps p.tables e below (T.setTop g) target) ∨
    (∃ (q : Addr) (vm₁ : Vm) (B : Pt), s.WarmedH vm₁ ∧ Stand p l e R s m args below meth c B.U B.locs B.cells B.slots ∧ PostX ⟨T.setVm vm₁, locs, cells, slots⟩ argsL.toArray q B ∧
      Steps p.tables e below (T.setTop g) ((B.U.setTop { g with stack := rest }).pushFrame (.throwing q))) := by
  obtain ⟨mk, hnamed⟩ := Cond.code_named hcode
  obtain ⟨methM, cM, hmethM, -, -, -, -, -, -, hsigM⟩ := Cond.code_spec hnamed hcode
  have hstatic : methM.isStatic = true := Cond.static_spec hnamed hmethM hstat
  obtain ⟨kP, hkP, -⟩ := className_of_methodNamed hnamed
  have hinitP : kP.init = .initialized := Cond.initialized_spec (findClass_of_methodNamed hnamed) hkP hinit
  obtain ⟨vm₁, X₁, hstep₁⟩ := X.invokestatic hexec hown hlink hnamed hmethM hstatic hkP hinitP hy (g := g) hg (argsL := argsL) (rest := rest) (hlen _ hsigM) hstack hdg
  rcases hK m meth c ⟨T.setVm vm₁, locs, cells, slots⟩ { g with stack := rest } (.invokestatic index) mk argsL.toArray X₁ hg hsize hdg hW (X₁.named hnamed) (hpre vm₁ X₁.warmed) with ⟨v, B, X', hpost, hsteps⟩ | ⟨q, B, X', hpost, hsteps⟩
  · exact Or.inl ⟨v, vm₁, B, X₁.warmed, X', hpost, fun target h => hstep₁ _ fun acts => by rw [doInvoke_state]; exact hsteps.trans h⟩
  · exact Or.inr ⟨q, vm₁, B, X₁.warmed, X', hpost, hstep₁ _ fun acts => by rw [doInvoke_state]; exact hsteps⟩
end Calls
theorem vx_cls {s : State} {T : State} {vm₁ : Vm} {E : String} {k : ClassId} (hW : s.WarmedH vm₁) (h : (T.setVm vm₁).vm.findClass E = some k) : s.vm.findClass E = some k := by
  have h1 : vm₁.findClass E = some k := h
  rw [hW.alike.findClass] at h1
  exact h1
/-- the method's frame g, with q thrown over it -/
def vx_W (p : Program) (l : Launch) (e : Env) (R : Room) (s : State) (m : MethodId) (args : Array Value) (below : List Frame) (meth : Method) (c : Code) (H : Heap) (locs : List Loc) (cells slots : Nat) (Q : State → Prop) (g : JFrame) (q : Addr) : Prop :=
  ∀ T : State, T.heap = H → Stand p l e R s m args below meth c T locs cells slots → ∃ t, Steps p.tables e below ((T.setTop g).pushFrame (.throwing q)) t ∧ Q t
def vx_Run (p : Program) (l : Launch) (e : Env) (R : Room) (s : State) (m : MethodId) (args : Array Value) (below : List Frame) (meth : Method) (c : Code) (H : Heap) (locs : List Loc) (cells slots mc ms : Nat) (g : JFrame) (rest : List Value) (Qa : State → Outcome → State → Prop) (XC : String → State → State → Prop) (free : Addr → Prop) : Prop :=
  ∀ T : State, T.heap = H → Stand p l e R s m args below meth c T locs cells slots →
    (∃ (v : Option Value) (st₀ t T' : State) (L : List Loc), st₀.heap = H ∧ Stand p l e R s m args below meth c T' (locs ++ L) (cells + mc) (slots + ms) ∧ (∀ q ∈ L, free q.base) ∧ T'.heap = t.heap ∧ T'.vm = t.vm ∧ Qa st₀ (.returned v) t ∧
      Goes p e below T g T' { g with pc := g.pc + 3, stack := v.toList ++ rest }) ∨
    (∃ (q : Addr) (st₀ t T' : State) (L : List Loc) (E : String) (ce : Cell), st₀.heap = H ∧ Stand p l e R s m args below meth c T' (locs ++ L) (cells + mc) (slots + ms) ∧ (∀ z ∈ L, free z.base) ∧ T'.heap = t.heap ∧ T'.vm = t.vm ∧ XC E st₀ t ∧ t.heap[q]? = some ce ∧ ce.vm = .none ∧ s.vm.findClass E = some ce.cls ∧
      Steps p.tables e below (T.setTop g) ((T'.setTop { g with stack := rest }).pushFrame (.throwing q)))
def vx_X {S : Type} (px : S → Prop) (B : String → S → State → Prop) (A : Nat → Prop) : String → State → State → Prop := fun E st t => ∃ u : S, px u ∧ B E u t ∧ va_F A st t
section Runs
variable {p : Program} {l : Launch} {e : Env} {R : Room} {s : State} {m : MethodId} {args : Array Value} {below : List Frame} {meth : Method} {c : Code} {H : Heap} {locs : List Loc} {cells slots : Nat}
variable {y : MethodName} {bytes cc : ByteArray} {maxL nL mc ms n index : Nat} {ret : Option FieldType} {ws : List Cond} {rm : Room} {Pc : Array Value → State → Prop} {Qc : Array Value → State → Outcome → State → Prop} {XC : String → State → State → Prop} {free : Addr → Prop} {Ts : List Cond} {own C : String} {b : Addr} {As rest : List Value} {g : JFrame}
theorem vx_callBack (cb : CallB R s args own index y bytes maxL ret ws rm mc ms n) (hM : vx_Met l y ws rm Pc Qc XC mc ms free) (hbl : FrameBlind Pc) : vx_Back l R p e below s args y 3 8 (PreOf R mc ms Pc) (PostOf Qc mc ms free) (vx_Post XC mc ms free) := by
  obtain ⟨hrc, hrs, hfr, hlo, hws, hcw, -, hini, -⟩ := cb
  exact vx_back (bytes := bytes) (maxL := maxL) (ret := ret) hM hbl hrc hrs hfr hlo hws hcw (fun a' U hW => word_at hW (Or.inl (by first | rfl | simp [Cond.onTables, Cond.keeps, Cond.steady])) hini)
theorem vx_runV (S : CallFix p m c cc nL s args Ts own) (hM : vx_Met l y ws rm Pc Qc XC mc ms free) (cw : CallW R s args own C index y bytes maxL ret ws rm mc ms n) (hp : PreV s H C b Pc As)
    (hg : g.method = m) (hn : As.length = n) (hsize : g.locals.size = nL) (hstack : g.stack = As.reverse ++ .ref b :: rest) (hW : 2 * g.monitorRoom + (rest.map fun v => v.category).sum ≤ 8) (hdg : decode cc g.pc = .ok (.invokevirtual index, 3)) (hf : cells + mc ≤ R.cells ∧ slots + ms ≤ R.slots) :
    vx_Run p l e R s m args below meth c H locs cells slots mc ms g rest (Qc (Value.ref b :: As).toArray) XC free := by
  have hK : vx_Back l R p e below s args y 3 8 (PreOf R mc ms Pc) (PostOf Qc mc ms free) (vx_Post XC mc ms free) := vx_callBack cw.1 hM hp.1
  obtain ⟨⟨-, -, -, -, -, -, hcode, -, hy, hlen, hl⟩, hin, hse⟩ := cw
  obtain ⟨hx, hb, hml, ho, -⟩ := S
  obtain ⟨-, ⟨cellB, hcB, hoB, hclB⟩, hPc⟩ := hp
  intro T hT X
  rcases vx_callV X hx (C := C) (bytes := bytes) (maxL := maxL) (ret := ret) ho hl hin hse hcode hy hK (by rw [hT]; exact hcB) hoB hclB hg (hsize.trans hml.symm) (argsL := As) (rest := rest) (fun sig h => hn.trans (hlen sig h)) hstack hW (by rw [hb]; exact hdg)
    (fun vm₁ hW₁ => ⟨hf.1, hf.2, hPc (T.setVm vm₁) hT hW₁⟩) with ⟨v, vm₁, ⟨U', l2, c2, s2⟩, hW₁, X', ⟨g', mk, t, L, e1, e2, hq, h1, hL, h2, h3⟩, st⟩ | ⟨q, vm₁, ⟨U', l2, c2, s2⟩, hW₁, X', ⟨g', mk, t, L, E, ce, e1, e2, hq, hce, hcv, hcl, h1, hL, h2, h3⟩, st⟩
  · dsimp only [Pt.U, Pt.locs, Pt.cells, Pt.slots] at X' e1 e2 h1 h2 h3 st
    subst h1; subst h2; subst h3
    exact Or.inl ⟨v, (T.setVm vm₁).calling g' mk (Value.ref b :: As).toArray, t, U', L, hT, X', hL, e1, e2, hq, st⟩
  · dsimp only [Pt.U, Pt.locs, Pt.cells, Pt.slots] at X' e1 e2 h1 h2 h3 st hcl
    subst h1; subst h2; subst h3
    exact Or.inr ⟨q, (T.setVm vm₁).calling g' mk (Value.ref b :: As).toArray, t, U', L, E, ce, hT, X', hL, e1, e2, hq, hce, hcv, vx_cls hW₁ hcl, st⟩
theorem vx_runS (S : CallFix p m c cc nL s args Ts own) (hM : vx_Met l y ws rm Pc Qc XC mc ms free) (cw : CallB R s args own index y bytes maxL ret ws rm mc ms n ∧ (Cond.static y).before args s = true) (hp : PreS s H Pc As)
    (hg : g.method = m) (hn : As.length = n) (hsize : g.locals.size = nL) (hstack : g.stack = As.reverse ++ rest) (hW : 2 * g.monitorRoom + (rest.map fun v => v.category).sum ≤ 8) (hdg : decode cc g.pc = .ok (.invokestatic index, 3)) (hf : cells + mc ≤ R.cells ∧ slots + ms ≤ R.slots) :
    vx_Run p l e R s m args below meth c H locs cells slots mc ms g rest (Qc As.toArray) XC free := by
  have hK : vx_Back l R p e below s args y 3 8 (PreOf R mc ms Pc) (PostOf Qc mc ms free) (vx_Post XC mc ms free) := vx_callBack cw.1 hM hp.1
  obtain ⟨⟨-, -, -, -, -, -, hcode, hini, hy, hlen, hl⟩, hstt⟩ := cw
  obtain ⟨hx, hb, hml, ho, -⟩ := S
  intro T hT X
  rcases vx_callS X hx (bytes := bytes) (maxL := maxL) (ret := ret) ho hl hstt hini hcode hy hK hg (hsize.trans hml.symm) (argsL := As) (rest := rest) (fun sig h => hn.trans (hlen sig h)) hstack hW (by rw [hb]; exact hdg)
    (fun vm₁ hW₁ => ⟨hf.1, hf.2, hp.2 (T.setVm vm₁) hT hW₁⟩) with ⟨v, vm₁, ⟨U', l2, c2, s2⟩, hW₁, X', ⟨g', mk, t, L, e1, e2, hq, h1, hL, h2, h3⟩, st⟩ | ⟨q, vm₁, ⟨U', l2, c2, s2⟩, hW₁, X', ⟨g', mk, t, L, E, ce, e1, e2, hq, hce, hcv, hcl, h1, hL, h2, h3⟩, st⟩
  · dsimp only [Pt.U, Pt.locs, Pt.cells, Pt.slots] at X' e1 e2 h1 h2 h3 st
    subst h1; subst h2; subst h3
    exact Or.inl ⟨v, (T.setVm vm₁).calling g' mk As.toArray, t, U', L, hT, X', hL, e1, e2, hq, st⟩
  · dsimp only [Pt.U, Pt.locs, Pt.cells, Pt.slots] at X' e1 e2 h1 h2 h3 st hcl
    subst h1; subst h2; subst h3
    exact Or.inr ⟨q, (T.setVm vm₁).calling g' mk As.toArray, t, U', L, E, ce, hT, X', hL, e1, e2, hq, hce, hcv, vx_cls hW₁ hcl, st⟩
end Runs
section Rows
variable {p : Program} {l : Launch} {e : Env} {R : Room} {s : State} {m : MethodId} {args : Array Value} {below : List Frame} {meth : Method} {c : Code} {H : Heap} {locs : List Loc} {cells slots : Nat} {Q : State → Prop}
variable {mc ms : Nat} {free : Addr → Prop} {A0 A1 : Nat → Prop} {H0 : Heap} {a : Array Value} {pc : Nat} {ls : Array Slot} {st0 rest : List Value}
theorem vx_keep {st₀ t T' : State} {L : List Loc} (h0 : st₀.heap = H) (e1 : T'.heap = t.heap) (hS : va_S A0 H0 H locs) (hA : ∀ q, q < H.size → A1 q → A0 q) (hf : ∀ q, free q → A0 q) (hL : ∀ q ∈ L, free q.base) (hF : va_F A1 st₀ t) :
    H.size ≤ T'.heap.size ∧ (∀ q : Nat, q < H.size → ¬ A1 q → T'.heap[q]? = H[q]?) ∧ va_S A0 H0 T'.heap (locs ++ L) := by
  obtain ⟨hz, hk⟩ := hF
  rw [h0] at hz hk
  exact ⟨by rw [e1]; exact hz, fun q h1 h2 => by rw [e1]; exact hk q h1 h2,
    ⟨Nat.le_trans hS.1 (by rw [e1]; exact hz), fun q h1 h2 => by rw [e1, hk q (Nat.lt_of_lt_of_le h1 hS.1) (fun z => h2 (hA q (Nat.lt_of_lt_of_le h1 hS.1) z))]; exact hS.2.1 q h1 h2, fun q hq => by
      rcases List.mem_append.mp hq with h | h
      · exact hS.2.2 q h
      · exact hf _ (hL q h)⟩⟩
theorem vx_calli {S SX : Type} {post : Int32 → S → Prop} {px : SX → Prop} {B : S → State → Prop} {BX : String → SX → State → Prop} {AX : Nat → Prop} (hr : vx_Run p l e R s m args below meth c H locs cells slots mc ms (F0 m pc ls st0) rest (va_Qi post B A1 a) (vx_X px BX AX) free) (hS : va_S A0 H0 H locs) (hA : ∀ q, q < H.size → A1 q → A0 q) (hf : ∀ q, free q → A0 q) (hAX : ∀ q, q < H.size → AX q → A0 q)
    (kx : ∀ (E : String) (ce : Cell) (q9 : Addr) (u : SX) (t : State) (H1 : Heap) (locs1 : List Loc), t.heap = H1 → s.vm.Alike t.vm → px u → BX E u t → H.size ≤ H1.size → (∀ q : Nat, q < H.size → ¬ AX q → H1[q]? = H[q]?) → va_S A0 H0 H1 locs1 → H1[q9]? = some ce → ce.vm = .none → s.vm.findClass E = some ce.cls → vx_W p l e R s m args below meth c H1 locs1 (cells + mc) (slots + ms) Q (F0 m pc ls rest) q9)
    (kk : ∀ (r : Int32) (u : S) (t : State) (H1 : Heap) (locs1 : List Loc), t.heap = H1 → s.vm.Alike t.vm → post r u → B u t → H.size ≤ H1.size → (∀ q : Nat, q < H.size → ¬ A1 q → H1[q]? = H[q]?) → va_S A0 H0 H1 locs1 → W p l e R s m args below meth c H1 locs1 (cells + mc) (slots + ms) Q (F0 m (pc + 3) ls (.int r :: rest))) : W p l e R s m args below meth c H locs cells slots Q (F0 m pc ls st0) := by
  intro T hT X
  rcases hr T hT X with ⟨v, st₀, t, T', L, h0, X', hL, e1, e2, ⟨⟨r, u, hv, hp, hb⟩, hF⟩, st⟩ | ⟨q, st₀, t, T', L, E, ce, h0, X', hL, e1, e2, ⟨u, hp, hb, hF⟩, hce, hcv, hcl, st⟩
  · cases hv
    obtain ⟨k1, k2, k3⟩ := vx_keep h0 e1 hS hA hf hL hF
    obtain ⟨t2, a1, b1⟩ := kk r u t T'.heap (locs ++ L) e1.symm (by rw [← e2]; exact X'.warmed.alike) hp hb k1 k2 k3 T' rfl X'
    exact ⟨t2, st t2 a1, b1⟩
  · obtain ⟨k1, k2, k3⟩ := vx_keep h0 e1 hS hAX hf hL hF
    obtain ⟨t2, a1, b1⟩ := kx E ce q u t T'.heap (locs ++ L) e1.symm (by rw [← e2]; exact X'.warmed.alike) hp hb k1 k2 k3 (by rw [e1]; exact hce) hcv hcl T' rfl X'
    exact ⟨t2, st.trans a1, b1⟩
theorem vx_calll {S SX : Type} {post : Int64 → S → Prop} {px : SX → Prop} {B : S → State → Prop} {BX : String → SX → State → Prop} {AX : Nat → Prop} (hr : vx_Run p l e R s m args below meth c H locs cells slots mc ms (F0 m pc ls st0) rest (va_Ql post B A1 a) (vx_X px BX AX) free) (hS : va_S A0 H0 H locs) (hA : ∀ q, q < H.size → A1 q → A0 q) (hf : ∀ q, free q → A0 q) (hAX : ∀ q, q < H.size → AX q → A0 q)
    (kx : ∀ (E : String) (ce : Cell) (q9 : Addr) (u : SX) (t : State) (H1 : Heap) (locs1 : List Loc), t.heap = H1 → s.vm.Alike t.vm → px u → BX E u t → H.size ≤ H1.size → (∀ q : Nat, q < H.size → ¬ AX q → H1[q]? = H[q]?) → va_S A0 H0 H1 locs1 → H1[q9]? = some ce → ce.vm = .none → s.vm.findClass E = some ce.cls → vx_W p l e R s m args below meth c H1 locs1 (cells + mc) (slots + ms) Q (F0 m pc ls rest) q9)
    (kk : ∀ (r : Int64) (u : S) (t : State) (H1 : Heap) (locs1 : List Loc), t.heap = H1 → s.vm.Alike t.vm → post r u → B u t → H.size ≤ H1.size → (∀ q : Nat, q < H.size → ¬ A1 q → H1[q]? = H[q]?) → va_S A0 H0 H1 locs1 → W p l e R s m args below meth c H1 locs1 (cells + mc) (slots + ms) Q (F0 m (pc + 3) ls (.long r :: rest))) : W p l e R s m args below meth c H locs cells slots Q (F0 m pc ls st0) := by
  intro T hT X
  rcases hr T hT X with ⟨v, st₀, t, T', L, h0, X', hL, e1, e2, ⟨⟨r, u, hv, hp, hb⟩, hF⟩, st⟩ | ⟨q, st₀, t, T', L, E, ce, h0, X', hL, e1, e2, ⟨u, hp, hb, hF⟩, hce, hcv, hcl, st⟩
  · cases hv
    obtain ⟨k1, k2, k3⟩ := vx_keep h0 e1 hS hA hf hL hF
    obtain ⟨t2, a1, b1⟩ := kk r u t T'.heap (locs ++ L) e1.symm (by rw [← e2]; exact X'.warmed.alike) hp hb k1 k2 k3 T' rfl X'
    exact ⟨t2, st t2 a1, b1⟩
  · obtain ⟨k1, k2, k3⟩ := vx_keep h0 e1 hS hAX hf hL hF
    obtain ⟨t2, a1, b1⟩ := kx E ce q u t T'.heap (locs ++ L) e1.symm (by rw [← e2]; exact X'.warmed.alike) hp hb k1 k2 k3 (by rw [e1]; exact hce) hcv hcl T' rfl X'
    exact ⟨t2, st.trans a1, b1⟩
theorem vx_callf {S SX : Type} {post : UInt32 → S → Prop} {px : SX → Prop} {B : S → State → Prop} {BX : String → SX → State → Prop} {AX : Nat → Prop} (hr : vx_Run p l e R s m args below meth c H locs cells slots mc ms (F0 m pc ls st0) rest (va_Qf post B A1 a) (vx_X px BX AX) free) (hS : va_S A0 H0 H locs) (hA : ∀ q, q < H.size → A1 q → A0 q) (hf : ∀ q, free q → A0 q) (hAX : ∀ q, q < H.size → AX q → A0 q)
    (kx : ∀ (E : String) (ce : Cell) (q9 : Addr) (u : SX) (t : State) (H1 : Heap) (locs1 : List Loc), t.heap = H1 → s.vm.Alike t.vm → px u → BX E u t → H.size ≤ H1.size → (∀ q : Nat, q < H.size → ¬ AX q → H1[q]? = H[q]?) → va_S A0 H0 H1 locs1 → H1[q9]? = some ce → ce.vm = .none → s.vm.findClass E = some ce.cls → vx_W p l e R s m args below meth c H1 locs1 (cells + mc) (slots + ms) Q (F0 m pc ls rest) q9)
    (kk : ∀ (r : UInt32) (u : S) (t : State) (H1 : Heap) (locs1 : List Loc), t.heap = H1 → s.vm.Alike t.vm → post r u → B u t → H.size ≤ H1.size → (∀ q : Nat, q < H.size → ¬ A1 q → H1[q]? = H[q]?) → va_S A0 H0 H1 locs1 → W p l e R s m args below meth c H1 locs1 (cells + mc) (slots + ms) Q (F0 m (pc + 3) ls (.float r :: rest))) : W p l e R s m args below meth c H locs cells slots Q (F0 m pc ls st0) := by
  intro T hT X
  rcases hr T hT X with ⟨v, st₀, t, T', L, h0, X', hL, e1, e2, ⟨⟨r, u, hv, hp, hb⟩, hF⟩, st⟩ | ⟨q, st₀, t, T', L, E, ce, h0, X', hL, e1, e2, ⟨u, hp, hb, hF⟩, hce, hcv, hcl, st⟩
  · cases hv
    obtain ⟨k1, k2, k3⟩ := vx_keep h0 e1 hS hA hf hL hF
    obtain ⟨t2, a1, b1⟩ := kk r u t T'.heap (locs ++ L) e1.symm (by rw [← e2]; exact X'.warmed.alike) hp hb k1 k2 k3 T' rfl X'
    exact ⟨t2, st t2 a1, b1⟩
  · obtain ⟨k1, k2, k3⟩ := vx_keep h0 e1 hS hAX hf hL hF
    obtain ⟨t2, a1, b1⟩ := kx E ce q u t T'.heap (locs ++ L) e1.symm (by rw [← e2]; exact X'.warmed.alike) hp hb k1 k2 k3 (by rw [e1]; exact hce) hcv hcl T' rfl X'
    exact ⟨t2, st.trans a1, b1⟩
theorem vx_calld {S SX : Type} {post : UInt64 → S → Prop} {px : SX → Prop} {B : S → State → Prop} {BX : String → SX → State → Prop} {AX : Nat → Prop} (hr : vx_Run p l e R s m args below meth c H locs cells slots mc ms (F0 m pc ls st0) rest (va_Qd post B A1 a) (vx_X px BX AX) free) (hS : va_S A0 H0 H locs) (hA : ∀ q, q < H.size → A1 q → A0 q) (hf : ∀ q, free q → A0 q) (hAX : ∀ q, q < H.size → AX q → A0 q)
    (kx : ∀ (E : String) (ce : Cell) (q9 : Addr) (u : SX) (t : State) (H1 : Heap) (locs1 : List Loc), t.heap = H1 → s.vm.Alike t.vm → px u → BX E u t → H.size ≤ H1.size → (∀ q : Nat, q < H.size → ¬ AX q → H1[q]? = H[q]?) → va_S A0 H0 H1 locs1 → H1[q9]? = some ce → ce.vm = .none → s.vm.findClass E = some ce.cls → vx_W p l e R s m args below meth c H1 locs1 (cells + mc) (slots + ms) Q (F0 m pc ls rest) q9)
    (kk : ∀ (r : UInt64) (u : S) (t : State) (H1 : Heap) (locs1 : List Loc), t.heap = H1 → s.vm.Alike t.vm → post r u → B u t → H.size ≤ H1.size → (∀ q : Nat, q < H.size → ¬ A1 q → H1[q]? = H[q]?) → va_S A0 H0 H1 locs1 → W p l e R s m args below meth c H1 locs1 (cells + mc) (slots + ms) Q (F0 m (pc + 3) ls (.double r :: rest))) : W p l e R s m args below meth c H locs cells slots Q (F0 m pc ls st0) := by
  intro T hT X
  rcases hr T hT X with ⟨v, st₀, t, T', L, h0, X', hL, e1, e2, ⟨⟨r, u, hv, hp, hb⟩, hF⟩, st⟩ | ⟨q, st₀, t, T', L, E, ce, h0, X', hL, e1, e2, ⟨u, hp, hb, hF⟩, hce, hcv, hcl, st⟩
  · cases hv
    obtain ⟨k1, k2, k3⟩ := vx_keep h0 e1 hS hA hf hL hF
    obtain ⟨t2, a1, b1⟩ := kk r u t T'.heap (locs ++ L) e1.symm (by rw [← e2]; exact X'.warmed.alike) hp hb k1 k2 k3 T' rfl X'
    exact ⟨t2, st t2 a1, b1⟩
  · obtain ⟨k1, k2, k3⟩ := vx_keep h0 e1 hS hAX hf hL hF
    obtain ⟨t2, a1, b1⟩ := kx E ce q u t T'.heap (locs ++ L) e1.symm (by rw [← e2]; exact X'.warmed.alike) hp hb k1 k2 k3 (by rw [e1]; exact hce) hcv hcl T' rfl X'
    exact ⟨t2, st.trans a1, b1⟩
theorem vx_callv {S SX : Type} {post : S → Prop} {px : SX → Prop} {B : S → State → Prop} {BX : String → SX → State → Prop} {AX : Nat → Prop} (hr : vx_Run p l e R s m args below meth c H locs cells slots mc ms (F0 m pc ls st0) rest (va_Qv post B A1 a) (vx_X px BX AX) free) (hS : va_S A0 H0 H locs) (hA : ∀ q, q < H.size → A1 q → A0 q) (hf : ∀ q, free q → A0 q) (hAX : ∀ q, q < H.size → AX q → A0 q)
    (kx : ∀ (E : String) (ce : Cell) (q9 : Addr) (u : SX) (t : State) (H1 : Heap) (locs1 : List Loc), t.heap = H1 → s.vm.Alike t.vm → px u → BX E u t → H.size ≤ H1.size → (∀ q : Nat, q < H.size → ¬ AX q → H1[q]? = H[q]?) → va_S A0 H0 H1 locs1 → H1[q9]? = some ce → ce.vm = .none → s.vm.findClass E = some ce.cls → vx_W p l e R s m args below meth c H1 locs1 (cells + mc) (slots + ms) Q (F0 m pc ls rest) q9)
    (kk : ∀ (u : S) (t : State) (H1 : Heap) (locs1 : List Loc), t.heap = H1 → s.vm.Alike t.vm → post u → B u t → H.size ≤ H1.size → (∀ q : Nat, q < H.size → ¬ A1 q → H1[q]? = H[q]?) → va_S A0 H0 H1 locs1 → W p l e R s m args below meth c H1 locs1 (cells + mc) (slots + ms) Q (F0 m (pc + 3) ls (rest))) : W p l e R s m args below meth c H locs cells slots Q (F0 m pc ls st0) := by
  intro T hT X
  rcases hr T hT X with ⟨v, st₀, t, T', L, h0, X', hL, e1, e2, ⟨⟨u, hv, hp, hb⟩, hF⟩, st⟩ | ⟨q, st₀, t, T', L, E, ce, h0, X', hL, e1, e2, ⟨u, hp, hb, hF⟩, hce, hcv, hcl, st⟩
  · cases hv
    obtain ⟨k1, k2, k3⟩ := vx_keep h0 e1 hS hA hf hL hF
    obtain ⟨t2, a1, b1⟩ := kk u t T'.heap (locs ++ L) e1.symm (by rw [← e2]; exact X'.warmed.alike) hp hb k1 k2 k3 T' rfl X'
    exact ⟨t2, st t2 a1, b1⟩
  · obtain ⟨k1, k2, k3⟩ := vx_keep h0 e1 hS hAX hf hL hF
    obtain ⟨t2, a1, b1⟩ := kx E ce q u t T'.heap (locs ++ L) e1.symm (by rw [← e2]; exact X'.warmed.alike) hp hb k1 k2 k3 (by rw [e1]; exact hce) hcv hcl T' rfl X'
    exact ⟨t2, st.trans a1, b1⟩
/-- caught by the row x of this method's table; the rows ahead don't take it -/
theorem vx_catch {own name : String} {E : String} {ce : Cell} {q : Addr} (hown : s.vm.findClass own = some m.cls) (pre : List ExceptionTableEntry) (x : ExceptionTableEntry) (suf : List ExceptionTableEntry) (hsplit : c.exceptionTable.toList = pre ++ x :: suf)
    (hpass : ∀ z ∈ pre, covers z pc = false ∨ (z.catchType ≠ 0 ∧ ∃ nm : String, (Cond.classLink own z.catchType nm).before args s = true ∧ va_Nc E nm s)) (hx : covers x pc = true) (h0 : x.catchType ≠ 0)
    (hlink : (Cond.classLink own x.catchType name).before args s = true) (hcast : (Cond.castable E name).before args s = true) (hcell : H[q]? = some ce) (hv : ce.vm = .none) (hcl : s.vm.findClass E = some ce.cls)
    (kk : W p l e R s m args below meth c H locs cells slots Q (F0 m x.handlerPc ls [.ref q])) : vx_W p l e R s m args below meth c H locs cells slots Q (F0 m pc ls rest) q := by
  intro T hT X
  have hpl : e.platform.magicAccessors = ({} : Platform).magicAccessors := by rw [X.admits.platform]
  obtain ⟨c3, c4, hc3, hc4, hasg⟩ := Cond.castable_spec hcast
  cases Option.some.inj (hc3.symm.trans hcl)
  obtain ⟨c5, hc5, hcl5⟩ := Cond.classLink_spec hown hlink e.platform hpl
  cases Option.some.inj (hc4.symm.trans hc5)
  obtain ⟨vm', X', st⟩ := X.thenCaughtThrough q (g := F0 m pc ls rest) rfl (Steps.refl _) (by rw [hT]; exact hcell) (by rw [hv]; rfl) (by obtain ⟨k9, h9, -⟩ := Vm.findClass_spec hcl; exact ⟨k9, h9⟩) pre x suf hsplit
    (fun z hz => by
      rcases hpass z hz with h | ⟨hz0, nm, hl1, hn1⟩
      · exact Or.inl h
      · obtain ⟨c6, hc6, hcl6⟩ := Cond.classLink_spec hown hl1 e.platform hpl
        obtain ⟨a8, b8, h1, h2, h3⟩ := hn1
        cases Option.some.inj (h1.symm.trans hcl)
        cases Option.some.inj (h2.symm.trans hc6)
        exact Or.inr ⟨hz0, _, hcl6, h3⟩) hx (Or.inr ⟨h0, c4, hcl5, hasg⟩)
  obtain ⟨t, a1, b1⟩ := kk (T.setVm vm') hT X'
  exact ⟨t, st.trans a1, b1⟩
end Rows
section Ends
variable {p : Program} {l : Launch} {e : Env} {R : Room} {s : State} {m : MethodId} {args : Array Value} {below : List Frame} {meth : Method} {c : Code} {H : Heap} {locs : List Loc} {cells slots : Nat} {Q : State → Prop}
variable {mc ms : Nat} {free : Addr → Prop} {A0 A1 : Nat → Prop} {H0 : Heap} {a : Array Value} {ls : Array Slot} {st0 rest : List Value}
variable {Qc : Array Value → State → Outcome → State → Prop} {XC : String → State → State → Prop}
/-- what a body that may throw owes at its end -/
def vx_MQ (below : List Frame) (Qc : Array Value → State → Outcome → State → Prop) (XC : String → State → State → Prop) (a : Array Value) (s : State) (mc ms : Nat) (free : Addr → Prop) : State → Prop := fun t =>
  ∃ o, t.status = .running ∧ Ended t below o ∧ vx_Q Qc XC mc ms free a s o t
theorem vx_ret {g : JFrame} {mc ms : Nat} (k : W p l e R s m args below meth c H locs cells slots (MQ below Qc args s mc ms free) g) : W p l e R s m args below meth c H locs cells slots (vx_MQ below Qc XC args s mc ms free) g := by
  intro T hT X
  obtain ⟨t, a1, o, b1, b2, b3, b4⟩ := k T hT X
  exact ⟨t, a1, o, b1, b2, Or.inl ⟨b3, b4⟩⟩
/-- not caught here: it goes on to the caller -/
theorem vx_widen {g : JFrame} {q : Addr} {k n : Nat} (h1 : cells ≤ k) (h2 : slots ≤ n) (kk : vx_W p l e R s m args below meth c H locs k n Q g q) : vx_W p l e R s m args below meth c H locs cells slots Q g q := fun T hT X => kk T hT (stand_widen X h1 h2)
theorem vx_out {pc : Nat} {E : String} {ce : Cell} {q : Addr} {mc ms : Nat} (hout : ∀ x ∈ c.exceptionTable.toList, covers x pc = false) (hlocks : meth.locks = false) (hcell : H[q]? = some ce) (hv : ce.vm = .none) (hcl : s.vm.findClass E = some ce.cls)
    (hx : ∀ t : State, t.heap = H → s.vm.Alike t.vm → XC E s t) (hf : ∀ z ∈ locs, free z.base) (hc : cells ≤ mc) (hs : slots ≤ ms) :
    vx_W p l e R s m args below meth c H locs cells slots (vx_MQ below Qc XC args s mc ms free) (F0 m pc ls rest) q := by
  intro T hT X
  obtain ⟨st1, hrun, hend, hW, hsm⟩ := X.leaveThrown q (g := F0 m pc ls rest) rfl rfl rfl hout hlocks
  have hcell9 : (T.setFrames (.throwing q :: below)).heap[q]? = some ce := by
    show T.heap[q]? = some ce
    rw [hT]; exact hcell
  exact ⟨_, st1, .threw q, hrun, hend, Or.inr ⟨q, rfl, E, ce, locs, hx _ hT hW.alike, hcell9, hv, hcl, hW, hsm.mono hc hs, hf⟩⟩
theorem vx_frame {U : State} {k n : Nat} (h : s.sameButNew ({ U with vm := s.vm } : State) locs k n) : s.heap.size ≤ U.heap.size ∧ ∀ q : Nat, q < s.heap.size → (∀ z ∈ locs, z.base ≠ q) → U.heap[q]? = s.heap[q]? := by
  obtain ⟨-, h2, -, -, -, h6⟩ := h
  refine ⟨h2, fun q hq hz => ?_⟩
  obtain ⟨c9, e1, e2, e3, e4⟩ := h6 q _ (Array.getElem?_eq_getElem hq)
  have hs : c9.slots = (s.heap[q]).slots := Array.ext_getElem? fun i => e4 i fun hm => hz _ hm rfl
  have h9 : c9 = s.heap[q] := by
    rw [hs] at e2
    exact e2
  have e5 : U.heap[q]? = some c9 := e1
  rw [e5, h9, Array.getElem?_eq_getElem hq]
/-- the words of a throw but the four that speak of the heap -/
def vx_no (w : Cond) : Bool := decide (w ≠ .isRef (.static Bundle.tN "UNASSIGNED_STACK" Bundle.steD)) && decide (w ≠ .isRef (.static Bundle.tN "SUPPRESSED_SENTINEL" Bundle.listD)) && decide (w ≠ .laysStatic Bundle.tN "UNASSIGNED_STACK" Bundle.steD) && decide (w ≠ .laysStatic Bundle.tN "SUPPRESSED_SENTINEL" Bundle.listD)
def vx_at0 (own : String) (ic : Nat) (X : String) (names : List String) : List Cond := (Bundle.ownAtoms0 own ic X names).filter vx_no
def vx_atS (own : String) (ic : Nat) (X : String) (names : List String) : List Cond := (Bundle.ownAtoms own ic X names).filter vx_no
/-- a word that the tables alone decide, or a good one -/
def vx_ot (w : Cond) : Bool := w.onTables || goodWord w
theorem vx_ot_at {args a' : Array Value} {s U : State} {w : Cond} (hW : s.WarmedH U.vm) (hvm : s.vm = U.vm) (hg : vx_ot w = true) (h : w.before args s = true) : w.before a' U = true := by
  simp only [vx_ot, Bool.or_eq_true] at hg
  rcases hg with hg | hg
  · exact va_tabs hg hvm h
  · exact word_at hW (good_of_word hg) h
/-- a list's words: the good ones out of the method's own list, the others by premises of their own -/
theorem vx_hat {args : Array Value} {s : State} {L B : List Cond} (h1 : ∀ w ∈ L.filter goodWord, w.before args s = true) (h2 : ∀ w ∈ L.filter (fun w => !goodWord w), w ∈ B) (h3 : ∀ w ∈ B, w.before args s = true) : ∀ w ∈ L, w.before args s = true := by
  intro w hw
  by_cases g : goodWord w = true
  · exact h1 w (List.mem_filter.mpr ⟨hw, g⟩)
  · refine h3 w (h2 w (List.mem_filter.mpr ⟨hw, ?_⟩))
    show (!goodWord w) = true
    cases hgw : goodWord w
    · rfl
    · exact absurd hgw g
theorem vx_c {args : Array Value} {s : State} {w : Cond} {B : List Cond} (h : w.before args s = true) (t : ∀ w ∈ B, w.before args s = true) : ∀ w' ∈ w :: B, w'.before args s = true := fun w' h' => (List.mem_cons.mp h').elim (fun e => by rw [e]; exact h) (t w')
theorem vx_n {args : Array Value} {s : State} : ∀ w ∈ ([] : List Cond), w.before args s = true := fun _ h => nomatch h
theorem vx_own {args : Array Value} {s : State} {L : List Cond} (h1 : ∀ w ∈ L.filter vx_no, w.before args s = true)
    (hU : (Cond.isRef (.static Bundle.tN "UNASSIGNED_STACK" Bundle.steD)).before args s = true) (hN : (Cond.isRef (.static Bundle.tN "SUPPRESSED_SENTINEL" Bundle.listD)).before args s = true)
    (lU : (Cond.laysStatic Bundle.tN "UNASSIGNED_STACK" Bundle.steD).before args s = true) (lN : (Cond.laysStatic Bundle.tN "SUPPRESSED_SENTINEL" Bundle.listD).before args s = true) : ∀ w ∈ L, w.before args s = true := by
  intro w hw
  by_cases e1 : w = .isRef (.static Bundle.tN "UNASSIGNED_STACK" Bundle.steD)
  · rw [e1]; exact hU
  · by_cases e2 : w = .isRef (.static Bundle.tN "SUPPRESSED_SENTINEL" Bundle.listD)
    · rw [e2]; exact hN
    · by_cases e3 : w = .laysStatic Bundle.tN "UNASSIGNED_STACK" Bundle.steD
      · rw [e3]; exact lU
      · by_cases e4 : w = .laysStatic Bundle.tN "SUPPRESSED_SENTINEL" Bundle.listD
        · rw [e4]; exact lN
        · exact h1 w (List.mem_filter.mpr ⟨hw, by unfold vx_no; rw [decide_eq_true e1, decide_eq_true e2, decide_eq_true e3, decide_eq_true e4]; rfl⟩)
/-- where a static field lies, its class's statics cell in H -/
def vx_L (C n d : String) (A : Nat → Prop) (U : State) (H : Heap) : Prop := ∃ (c : ClassId) (k : Class) (i : Nat) (f : Field) (a : Nat) (cell : Cell), U.vm.findClass C = some c ∧ U.fieldFound? C n d = some (c, k, i, f) ∧ f.isStatic = true ∧ k.statics = some a ∧ H[a]? = some cell ∧ cell.vm.isStatics = true ∧ cell.cls = c ∧ f.slot < cell.slots.size ∧ k.staticTypes[f.slot]? = some f.type ∧ ¬ A a
theorem vx_L.moved {C n d : String} {A : Nat → Prop} {u U : State} {H : Heap} (hvm : u.vm.Alike U.vm) (h : vx_L C n d A u H) : vx_L C n d A U H := by
  obtain ⟨c, k, i, f, a, cell, h1, h2, h3, h4, h5, h6, h7, h8, h9, h10⟩ := h
  obtain ⟨k', hi', he⟩ := State.fieldFound?_setVm hvm h2
  exact ⟨c, k', i, f, a, cell, by rw [hvm.findClass]; exact h1, hi', h3, by rw [he]; exact h4, h5, h6, h7, h8, by rw [he]; exact h9, h10⟩
theorem vx_L.kept {C n d : String} {A : Nat → Prop} {U : State} {H H1 : Heap} (h : vx_L C n d A U H) (hq : ∀ a : Nat, a < H.size → ¬ A a → H1[a]? = H[a]?) : vx_L C n d A U H1 := by
  obtain ⟨c, k, i, f, a, cell, h1, h2, h3, h4, h5, h6, h7, h8, h9, h10⟩ := h
  exact ⟨c, k, i, f, a, cell, h1, h2, h3, h4, by rw [hq a (Array.getElem?_eq_some_iff.mp h5).1 h10]; exact h5, h6, h7, h8, h9, h10⟩
theorem vx_L.narrow {C n d : String} {A B : Nat → Prop} {U : State} {H : Heap} (h : vx_L C n d A U H) (hAB : ∀ q, B q → A q) : vx_L C n d B U H := by
  obtain ⟨c, k, i, f, a, cell, h1, h2, h3, h4, h5, h6, h7, h8, h9, h10⟩ := h
  exact ⟨c, k, i, f, a, cell, h1, h2, h3, h4, h5, h6, h7, h8, h9, fun z => h10 (hAB _ z)⟩
theorem vx_L.word {C n d : String} {A : Nat → Prop} {s : State} {args : Array Value} (h : vx_L C n d A s s.heap) : (Cond.laysStatic C n d).before args s = true := by
  obtain ⟨c, k, i, f, a, cell, h1, h2, h3, h4, h5, h6, h7, h8, h9, -⟩ := h
  show (Cond.laysStatic C n d).holds args s none s [] = true
  exact Cond.laysStatic_of h1 h2 h3 h4 h5 h6 h7 h8 h9
/-- .. and what it holds: null or some reference -/
def vx_Zq (C n d : String) (A : Nat → Prop) (U : State) (H : Heap) : Prop := va_Zq C n d A U H ∧ vx_L C n d A U H
theorem vx_Zq.moved {C n d : String} {A : Nat → Prop} {u U : State} {H : Heap} (hvm : u.vm.Alike U.vm) (h : vx_Zq C n d A u H) : vx_Zq C n d A U H := ⟨va_Zq.moved hvm h.1, vx_L.moved hvm h.2⟩
theorem vx_Zq.kept {C n d : String} {A : Nat → Prop} {U : State} {H H1 : Heap} (h : vx_Zq C n d A U H) (hq : ∀ a : Nat, a < H.size → ¬ A a → H1[a]? = H[a]?) : vx_Zq C n d A U H1 := ⟨va_Zq.kept h.1 hq, vx_L.kept h.2 hq⟩
theorem vx_Zq.narrow {C n d : String} {A B : Nat → Prop} {U : State} {H : Heap} (h : vx_Zq C n d A U H) (hAB : ∀ q, B q → A q) : vx_Zq C n d B U H := ⟨va_Zq.narrow h.1 hAB, vx_L.narrow h.2 hAB⟩
theorem vx_Zqof {args : Array Value} {s : State} {C n d : String} {A : Nat → Prop} (hl : (Cond.laysStatic C n d).before args s = true) (hini : (Cond.initialized C).before args s = true) (h : (Cond.isRef (.static C n d)).before args s = true) (hA : ∀ a : Nat, a < s.heap.size → ¬ A a) : vx_Zq C n d A s s.heap := by
  refine ⟨va_Zqof hl hini h hA, ?_⟩
  obtain ⟨c, k, i, f, a, cell, h1, h2, h3, h4, h5, h6, h7, h8, h9⟩ := Cond.laysStatic_spec hl
  exact ⟨c, k, i, f, a, cell, h1, h2, h3, h4, h5, h6, h7, h8, h9, hA a (Array.getElem?_eq_some_iff.mp h5).1⟩
theorem vx_isRef {C n d : String} {v : Value} {A : Nat → Prop} {s : State} {args : Array Value} (h : va_Z C n d v A s s.heap) (hv : v.isRef = true) : (Cond.isRef (.static C n d)).before args s = true := by
  obtain ⟨cf, kf, fi, f, a, cell, h1, h2, h3, h4, h5, h6, h7, -⟩ := h
  have he : (Term.static C n d).eval args s none [] s = some v := by
    simp [Term.eval, State.fieldNamed?, h1, h2, h4, h5, h6, h7]
  simp only [Cond.before, Cond.holds, Cond.value, he]
  cases v <;> simp_all [Value.isRef]
theorem vx_isRefq {C n d : String} {A : Nat → Prop} {s : State} {args : Array Value} (h : va_Zq C n d A s s.heap) : (Cond.isRef (.static C n d)).before args s = true := by
  rcases h with h | ⟨t, h⟩
  · exact vx_isRef h rfl
  · exact vx_isRef h rfl
/-- the same frame, seen from here: as if the method were called anew in this heap -/
theorem vx_rebase {T : State} (X : Stand p l e R s m args below meth c T locs cells slots) {R' : Room} (hf : R'.frames ≤ R.frames) (hl : R'.locals ≤ R.locals) (hc : cells + R'.cells ≤ R.cells) (hs : slots + R'.slots ≤ R.slots) :
    Stand p l e R' ((T.setVm s.vm).setFrames (.invoking m args :: below)) m args below meth c T [] 0 0 := by
  have htop : (T.setVm s.vm).topJava?.isSome := X.here.top
  have hF : ((T.setVm s.vm).setFrames (.invoking m args :: below)).frames = .invoking m args :: below := State.frames_setFrames _ (State.cur_lt_of_top htop)
  obtain ⟨g₀, hg0⟩ := Option.isSome_iff_exists.mp htop
  obtain ⟨r, hr⟩ := State.topJava?_eq_some.mp hg0
  have hl9 : e.platform.stackLimits (T.setVm s.vm).me = e.platform.stackLimits s.me := X.limits
  have hb9 : (T.setVm s.vm).me.stackBytes = s.me.stackBytes := X.bytes
  refine ⟨X.admits, X.cas, X.clock, hF, ?_, X.hears, X.method, X.code, X.here, X.tail, X.warmed, ?_, ?_, ?_⟩
  · have h := X.room
    have hU : ((T.setVm s.vm).setFrames (.invoking m args :: below)).localsInUse = s.localsInUse := by
      rw [State.localsInUse_invoking hF (meth := meth) (c := c) X.method X.code, State.localsInUse_invoking X.frames X.method X.code]
    simp only [State.hasRoom, Bool.and_eq_true, decide_eq_true_eq] at h ⊢
    obtain ⟨⟨⟨⟨h1, h2, h3, h4, h5, h6⟩, h7⟩, h8⟩, h9⟩ := h
    rw [X.frames, List.length_cons] at h2 h3
    have q1 := X.heapSize
    have q2 := X.used
    simp only [hF, hU, List.length_cons, State.stackLimits_setFrames, State.stackBytes_setFrames, hl9, hb9]
    refine ⟨⟨⟨⟨by omega, by omega, by omega, by omega, by omega, h6⟩, ?_⟩, ?_⟩, X.book⟩
    · show T.heap.size + R'.cells ≤ e.platform.maxCells
      omega
    · show T.slotsUsed + R'.slots ≤ e.platform.maxSlots
      omega
  · rw [State.stackLimits_setFrames]; rfl
  · rw [State.stackBytes_setFrames]; rfl
  · refine ⟨?_, Nat.le_refl _, Nat.le_refl _, ?_, ?_, fun a c9 h9 => ⟨c9, h9, rfl, rfl, fun _ _ => rfl⟩⟩
    · obtain ⟨t, ht, -⟩ := State.frames_cons hr
      show T.setVm s.vm = { ((T.setVm s.vm).setFrames (.invoking m args :: below)).setFrames (T.setVm s.vm).frames with heap := T.heap, slotsUsed := T.slotsUsed }
      rw [State.setFrames_setFrames, State.setFrames_self ht]
      rfl
    · show T.slotsUsed = T.slotsUsed + ((T.heap.toList.drop T.heap.size).map (·.slots.size)).sum
      rw [List.drop_eq_nil_of_le (Nat.le_of_eq Array.length_toList)]
      rfl
    · show ((T.heap.toList.drop T.heap.size).map (·.slots.size)).sum ≤ 0
      rw [List.drop_eq_nil_of_le (Nat.le_of_eq Array.length_toList)]
      exact Nat.le_refl _
/-- 'throw new E()': new; dup; invokespecial; athrow -/
theorem vx_throw0 {cc : ByteArray} {pc : Nat} (hexec : p.tables.exec = Jvm.exec) (hb : c.code = cc) (hl : l.stackTraces = false) {own cls : String} {names : List String} {ik ic mc ms : Nat} {A : Nat → Prop}
    (hown : s.vm.findClass own = some m.cls) (hcls : Bundle.fit cls = true) (hnames : ∀ n ∈ names, Bundle.fit n = true)
    (hk : (Cond.classLink own ik cls).before args s = true) (hini : (Cond.initialized cls).before args s = true) (hat : ∀ w ∈ vx_at0 own ic cls names, w.before args s = true)
    (hgood : ∀ w ∈ Cond.classLink own ik cls :: Cond.initialized cls :: vx_at0 own ic cls names, vx_ot w = true)
    (hU : vx_Zq Bundle.tN "UNASSIGNED_STACK" Bundle.steD A s s.heap) (hN : vx_Zq Bundle.tN "SUPPRESSED_SENTINEL" Bundle.listD A s s.heap) (hS : va_S A s.heap H locs) (hsize : ls.size = c.maxLocals)
    (d0 : decode cc pc = .ok (.new ik, 3)) (d3 : decode cc (pc + 3) = .ok (.dup, 1)) (d4 : decode cc (pc + 4) = .ok (.invokespecial ic, 3)) (d7 : decode cc (pc + 7) = .ok (.athrow, 1))
    (hout : ∀ x ∈ c.exceptionTable.toList, covers x (pc + 7) = false)
    (hRframes : names.length + 3 < R.frames) (hRlocals : (rest.map fun v => v.category).sum + (13 * (names.length + 1) + 42) ≤ R.locals) (hRcells : cells + 1 ≤ R.cells) (hRslots : slots + 6 ≤ R.slots) (hlocks : meth.locks = false)
    (hx : ∀ t : State, s.vm.Alike t.vm → H.size ≤ t.heap.size → (∀ q : Nat, q < H.size → t.heap[q]? = H[q]?) → XC cls s t)
    (hf : ∀ z ∈ locs, free z.base) (hc : cells + 1 ≤ mc) (hs : slots + 6 ≤ ms) :
    W p l e R s m args below meth c H locs cells slots (vx_MQ below Qc XC args s mc ms free) (F0 m pc ls rest) := by
  intro T hT X
  have htr : e.platform.stackTraces = false := (show e.platform.stackTraces = l.stackTraces by rw [X.admits.platform]).trans hl
  have Y := vx_rebase X (R' := { frames := R.frames, locals := R.locals, cells := 1, slots := 6 }) (Nat.le_refl _) (Nat.le_refl _) hRcells hRslots
  obtain ⟨s', hA⟩ : ∃ z, z = (T.setVm s.vm).setFrames (.invoking m args :: below) := ⟨_, rfl⟩
  rw [← hA] at Y
  have hvm : s'.vm = s.vm := by rw [hA]; rfl
  have hhp : s'.heap = H := by rw [hA]; exact hT
  have hW0 : s.WarmedH s'.vm := by rw [hvm]; exact State.WarmedH.refl s
  have hat' : ∀ w ∈ vx_at0 own ic cls names, w.before args s' = true := fun w hw => vx_ot_at hW0 hvm.symm (hgood w (List.mem_cons_of_mem _ (List.mem_cons_of_mem _ hw))) (hat w hw)
  have hk' : (Cond.classLink own ik cls).before args s' = true := vx_ot_at hW0 hvm.symm (hgood _ List.mem_cons_self) hk
  have hini' : (Cond.initialized cls).before args s' = true := vx_ot_at hW0 hvm.symm (hgood _ (List.mem_cons_of_mem _ List.mem_cons_self)) hini
  have hU' : vx_Zq Bundle.tN "UNASSIGNED_STACK" Bundle.steD A s' s'.heap := by rw [hhp]; exact vx_Zq.moved hW0.alike (hU.kept hS.2.1)
  have hN' : vx_Zq Bundle.tN "SUPPRESSED_SENTINEL" Bundle.listD A s' s'.heap := by rw [hhp]; exact vx_Zq.moved hW0.alike (hN.kept hS.2.1)
  have h : ∀ w ∈ Bundle.ownAtoms0 own ic cls names, w.before args s' = true := vx_own hat' (vx_isRefq hU'.1) (vx_isRefq hN'.1) hU'.2.word hN'.2.word
  have hown' : s'.vm.findClass own = some m.cls := by rw [hvm]; exact hown
  have hins : (Cond.instantiable cls 6).before args s' = true := h _ (by simp [Bundle.ownAtoms0])
  obtain ⟨vm₁, cX, kX, hfX, hkX, -, -, X₁, st1⟩ := Y.newCold hexec (own := own) (C := cls) (index := ik) (n := 6) hown' hk' hins hini'
    (g := F0 m pc ls rest) rfl (by rw [hb]; exact d0) (Nat.le_refl _) (Nat.le_refl _)
  generalize hT1 : (T.setVm vm₁).pushCell { cls := cX, slots := kX.instanceTypes.map defaultValue, vm := .none } = T1 at X₁ st1
  have hcat : (Value.ref T.heap.size).category = 1 := rfl
  have hcellA : T1.heap[T.heap.size]? = some (freshCell cX kX) := by rw [← hT1]; exact State.heap_pushCell_size _ _
  have d3' : decode c.code (pc + 3) = .ok (.dup, 1) := by rw [hb]; exact d3
  obtain ⟨U, hsteps, hrun, hend, hW, hsame, ce, hce, hO⟩ := X₁.ctorThrow0 hexec htr (own := own) (cls := cls) (names := names) (ic := ic) hown' hcls hnames h (fun x hx => nomatch hx) hfX hkX hcellA (by rw [hhp, hT]; exact Nat.le_refl _)
    (g := { method := m, pc := pc + 4, locals := ls, stack := .ref T.heap.size :: .ref T.heap.size :: rest, locked := none }) rfl hsize rfl rfl (rest := rest) rfl
    (by rw [hb]; exact d4) (by rw [hb]; exact d7) hout hRframes (by simp only [List.map_cons, List.sum_cons, hcat]; omega) hlocks
  obtain ⟨f1, f2⟩ := vx_frame hsame
  rw [hhp] at f1 f2
  have hWs : s.WarmedH U.vm := State.WarmedH.trans hW0 hW
  have hcl : s.vm.findClass cls = some ce.cls := by
    have h9 := hO.cls
    rw [hvm] at h9
    exact h9
  have hall : s.sameButNew ({ U with vm := s.vm } : State) locs mc ms := by
    subst hA
    obtain ⟨e1, e2⟩ := hsame
    rw [State.setFrames_setFrames] at e1
    have h2 : (T.setVm s.vm).sameButNew ({ U with vm := s.vm } : State) [] (0 + 1) (0 + 6) := ⟨e1, e2⟩
    have h3 := X.same.trans h2
    rw [List.append_nil] at h3
    exact h3.mono hc hs
  refine ⟨U, ?_, .threw T.heap.size, hrun, hend, Or.inr ⟨T.heap.size, rfl, cls, ce, locs, hx U hWs.alike f1 (fun q hq => f2 q hq (fun z hz => nomatch hz)), hce, hO.vm, hcl, hWs, hall, hf⟩⟩
  refine st1 _ ?_
  show Steps p.tables e below (T1.setTop { method := m, pc := pc + 3, locals := ls, stack := .ref T.heap.size :: rest, locked := none }) _
  jvm_step X₁.here [X₁.here.top, hexec, d3', Value.category]
  exact hsteps
/-- 'throw new E("text")': new; dup; ldc; invokespecial; athrow -/
theorem vx_throwS {cc : ByteArray} {pc : Nat} (hexec : p.tables.exec = Jvm.exec) (hb : c.code = cc) (hl : l.stackTraces = false) {own cls text : String} {names : List String} {ik is ic mc ms sa : Nat} {A : Nat → Prop}
    (hown : s.vm.findClass own = some m.cls) (hcls : Bundle.fit cls = true) (hnames : ∀ n ∈ names, Bundle.fit n = true)
    (hk : (Cond.classLink own ik cls).before args s = true) (hini : (Cond.initialized cls).before args s = true) (hstr : vk_R own is text sa s) (hat : ∀ w ∈ vx_atS own ic cls names, w.before args s = true)
    (hgood : ∀ w ∈ Cond.classLink own ik cls :: Cond.initialized cls :: vx_atS own ic cls names, vx_ot w = true)
    (hU : vx_Zq Bundle.tN "UNASSIGNED_STACK" Bundle.steD A s s.heap) (hN : vx_Zq Bundle.tN "SUPPRESSED_SENTINEL" Bundle.listD A s s.heap) (hS : va_S A s.heap H locs) (hsize : ls.size = c.maxLocals)
    (d0 : decode cc pc = .ok (.new ik, 3)) (d3 : decode cc (pc + 3) = .ok (.dup, 1)) (d4 : decode cc (pc + 4) = .ok (.ldc is, 2)) (d6 : decode cc (pc + 6) = .ok (.invokespecial ic, 3)) (d9 : decode cc (pc + 9) = .ok (.athrow, 1))
    (hout : ∀ x ∈ c.exceptionTable.toList, covers x (pc + 9) = false)
    (hRframes : names.length + 3 < R.frames) (hRlocals : (rest.map fun v => v.category).sum + (13 * (names.length + 1) + 43) ≤ R.locals) (hRcells : cells + 1 ≤ R.cells) (hRslots : slots + 6 ≤ R.slots) (hlocks : meth.locks = false)
    (hx : ∀ t : State, s.vm.Alike t.vm → H.size ≤ t.heap.size → (∀ q : Nat, q < H.size → t.heap[q]? = H[q]?) → XC cls s t)
    (hf : ∀ z ∈ locs, free z.base) (hc : cells + 1 ≤ mc) (hs : slots + 6 ≤ ms) :
    W p l e R s m args below meth c H locs cells slots (vx_MQ below Qc XC args s mc ms free) (F0 m pc ls rest) := by
  intro T hT X
  have htr : e.platform.stackTraces = false := (show e.platform.stackTraces = l.stackTraces by rw [X.admits.platform]).trans hl
  have Y := vx_rebase X (R' := { frames := R.frames, locals := R.locals, cells := 1, slots := 6 }) (Nat.le_refl _) (Nat.le_refl _) hRcells hRslots
  obtain ⟨s', hA⟩ : ∃ z, z = (T.setVm s.vm).setFrames (.invoking m args :: below) := ⟨_, rfl⟩
  rw [← hA] at Y
  have hvm : s'.vm = s.vm := by rw [hA]; rfl
  have hhp : s'.heap = H := by rw [hA]; exact hT
  have hW0 : s.WarmedH s'.vm := by rw [hvm]; exact State.WarmedH.refl s
  have hat' : ∀ w ∈ vx_atS own ic cls names, w.before args s' = true := fun w hw => vx_ot_at hW0 hvm.symm (hgood w (List.mem_cons_of_mem _ (List.mem_cons_of_mem _ hw))) (hat w hw)
  have hk' : (Cond.classLink own ik cls).before args s' = true := vx_ot_at hW0 hvm.symm (hgood _ List.mem_cons_self) hk
  have hini' : (Cond.initialized cls).before args s' = true := vx_ot_at hW0 hvm.symm (hgood _ (List.mem_cons_of_mem _ List.mem_cons_self)) hini
  have hU' : vx_Zq Bundle.tN "UNASSIGNED_STACK" Bundle.steD A s' s'.heap := by rw [hhp]; exact vx_Zq.moved hW0.alike (hU.kept hS.2.1)
  have hN' : vx_Zq Bundle.tN "SUPPRESSED_SENTINEL" Bundle.listD A s' s'.heap := by rw [hhp]; exact vx_Zq.moved hW0.alike (hN.kept hS.2.1)
  have h : ∀ w ∈ Bundle.ownAtoms own ic cls names, w.before args s' = true := vx_own hat' (vx_isRefq hU'.1) (vx_isRefq hN'.1) hU'.2.word hN'.2.word
  have hown' : s'.vm.findClass own = some m.cls := by rw [hvm]; exact hown
  have hins : (Cond.instantiable cls 6).before args s' = true := h _ (by simp [Bundle.ownAtoms])
  obtain ⟨vm₁, cX, kX, hfX, hkX, -, -, X₁, st1⟩ := Y.newCold hexec (own := own) (C := cls) (index := ik) (n := 6) hown' hk' hins hini'
    (g := F0 m pc ls rest) rfl (by rw [hb]; exact d0) (Nat.le_refl _) (Nat.le_refl _)
  generalize hT1 : (T.setVm vm₁).pushCell { cls := cX, slots := kX.instanceTypes.map defaultValue, vm := .none } = T1 at X₁ st1
  have hcat : (Value.ref T.heap.size).category = 1 := rfl
  have hcellA : T1.heap[T.heap.size]? = some (freshCell cX kX) := by rw [← hT1]; exact State.heap_pushCell_size _ _
  have d3' : decode c.code (pc + 3) = .ok (.dup, 1) := by rw [hb]; exact d3
  have d4' : decode c.code (pc + 4) = .ok (.ldc is, 2) := by rw [hb]; exact d4
  have hstr' : vk_R own is text sa s' := vk_R.warm hW0 hstr
  obtain ⟨U, hsteps, hrun, hend, hW, hsame, ce, hce, hO⟩ := X₁.ctorThrowS hexec htr (own := own) (cls := cls) (names := names) (ic := ic) hown' hcls hnames h (fun x hx => nomatch hx) hfX hkX hcellA (by rw [hhp, hT]; exact Nat.le_refl _) (msg := .ref sa) rfl
    (g := { method := m, pc := pc + 6, locals := ls, stack := .ref sa :: .ref T.heap.size :: .ref T.heap.size :: rest, locked := none }) rfl hsize rfl rfl (rest := rest) rfl
    (by rw [hb]; exact d6) (by rw [hb]; exact d9) hout hRframes (by simp only [List.map_cons, List.sum_cons, hcat]; omega) hlocks
  obtain ⟨f1, f2⟩ := vx_frame hsame
  rw [hhp] at f1 f2
  have hWs : s.WarmedH U.vm := State.WarmedH.trans hW0 hW
  have hcl : s.vm.findClass cls = some ce.cls := by
    have h9 := hO.cls
    rw [hvm] at h9
    exact h9
  have hall : s.sameButNew ({ U with vm := s.vm } : State) locs mc ms := by
    subst hA
    obtain ⟨e1, e2⟩ := hsame
    rw [State.setFrames_setFrames] at e1
    have h2 : (T.setVm s.vm).sameButNew ({ U with vm := s.vm } : State) [] (0 + 1) (0 + 6) := ⟨e1, e2⟩
    have h3 := X.same.trans h2
    rw [List.append_nil] at h3
    exact h3.mono hc hs
  refine ⟨U, ?_, .threw T.heap.size, hrun, hend, Or.inr ⟨T.heap.size, rfl, cls, ce, locs, hx U hWs.alike f1 (fun q hq => f2 q hq (fun z hz => nomatch hz)), hce, hO.vm, hcl, hWs, hall, hf⟩⟩
  refine st1 _ ?_
  show Steps p.tables e below (T1.setTop { method := m, pc := pc + 3, locals := ls, stack := .ref T.heap.size :: rest, locked := none }) _
  jvm_step X₁.here [X₁.here.top, hexec, d3', Value.category]
  exact X₁.ldcString hexec (own := own) (text := text) (index := is) (a := sa) hown' hstr'.1 hstr'.2
    (g := { method := m, pc := pc + 4, locals := ls, stack := .ref T.heap.size :: .ref T.heap.size :: rest, locked := none }) rfl d4' _ hsteps
/-- 'throw new E("text")', the text by a wide index -/
theorem vx_throwSW {cc : ByteArray} {pc : Nat} (hexec : p.tables.exec = Jvm.exec) (hb : c.code = cc) (hl : l.stackTraces = false) {own cls text : String} {names : List String} {ik is ic mc ms sa : Nat} {A : Nat → Prop}
    (hown : s.vm.findClass own = some m.cls) (hcls : Bundle.fit cls = true) (hnames : ∀ n ∈ names, Bundle.fit n = true)
    (hk : (Cond.classLink own ik cls).before args s = true) (hini : (Cond.initialized cls).before args s = true) (hstr : vk_R own is text sa s) (hat : ∀ w ∈ vx_atS own ic cls names, w.before args s = true)
    (hgood : ∀ w ∈ Cond.classLink own ik cls :: Cond.initialized cls :: vx_atS own ic cls names, vx_ot w = true)
    (hU : vx_Zq Bundle.tN "UNASSIGNED_STACK" Bundle.steD A s s.heap) (hN : vx_Zq Bundle.tN "SUPPRESSED_SENTINEL" Bundle.listD A s s.heap) (hS : va_S A s.heap H locs) (hsize : ls.size = c.maxLocals)
    (d0 : decode cc pc = .ok (.new ik, 3)) (d3 : decode cc (pc + 3) = .ok (.dup, 1)) (d4 : decode cc (pc + 4) = .ok (.ldc_w is, 3)) (d7 : decode cc (pc + 7) = .ok (.invokespecial ic, 3)) (d10 : decode cc (pc + 10) = .ok (.athrow, 1))
    (hout : ∀ x ∈ c.exceptionTable.toList, covers x (pc + 10) = false)
    (hRframes : names.length + 3 < R.frames) (hRlocals : (rest.map fun v => v.category).sum + (13 * (names.length + 1) + 43) ≤ R.locals) (hRcells : cells + 1 ≤ R.cells) (hRslots : slots + 6 ≤ R.slots) (hlocks : meth.locks = false)
    (hx : ∀ t : State, s.vm.Alike t.vm → H.size ≤ t.heap.size → (∀ q : Nat, q < H.size → t.heap[q]? = H[q]?) → XC cls s t)
    (hf : ∀ z ∈ locs, free z.base) (hc : cells + 1 ≤ mc) (hs : slots + 6 ≤ ms) :
    W p l e R s m args below meth c H locs cells slots (vx_MQ below Qc XC args s mc ms free) (F0 m pc ls rest) := by
  intro T hT X
  have htr : e.platform.stackTraces = false := (show e.platform.stackTraces = l.stackTraces by rw [X.admits.platform]).trans hl
  have Y := vx_rebase X (R' := { frames := R.frames, locals := R.locals, cells := 1, slots := 6 }) (Nat.le_refl _) (Nat.le_refl _) hRcells hRslots
  obtain ⟨s', hA⟩ : ∃ z, z = (T.setVm s.vm).setFrames (.invoking m args :: below) := ⟨_, rfl⟩
  rw [← hA] at Y
  have hvm : s'.vm = s.vm := by rw [hA]; rfl
  have hhp : s'.heap = H := by rw [hA]; exact hT
  have hW0 : s.WarmedH s'.vm := by rw [hvm]; exact State.WarmedH.refl s
  have hat' : ∀ w ∈ vx_atS own ic cls names, w.before args s' = true := fun w hw => vx_ot_at hW0 hvm.symm (hgood w (List.mem_cons_of_mem _ (List.mem_cons_of_mem _ hw))) (hat w hw)
  have hk' : (Cond.classLink own ik cls).before args s' = true := vx_ot_at hW0 hvm.symm (hgood _ List.mem_cons_self) hk
  have hini' : (Cond.initialized cls).before args s' = true := vx_ot_at hW0 hvm.symm (hgood _ (List.mem_cons_of_mem _ List.mem_cons_self)) hini
  have hU' : vx_Zq Bundle.tN "UNASSIGNED_STACK" Bundle.steD A s' s'.heap := by rw [hhp]; exact vx_Zq.moved hW0.alike (hU.kept hS.2.1)
  have hN' : vx_Zq Bundle.tN "SUPPRESSED_SENTINEL" Bundle.listD A s' s'.heap := by rw [hhp]; exact vx_Zq.moved hW0.alike (hN.kept hS.2.1)
  have h : ∀ w ∈ Bundle.ownAtoms own ic cls names, w.before args s' = true := vx_own hat' (vx_isRefq hU'.1) (vx_isRefq hN'.1) hU'.2.word hN'.2.word
  have hown' : s'.vm.findClass own = some m.cls := by rw [hvm]; exact hown
  have hins : (Cond.instantiable cls 6).before args s' = true := h _ (by simp [Bundle.ownAtoms])
  obtain ⟨vm₁, cX, kX, hfX, hkX, -, -, X₁, st1⟩ := Y.newCold hexec (own := own) (C := cls) (index := ik) (n := 6) hown' hk' hins hini'
    (g := F0 m pc ls rest) rfl (by rw [hb]; exact d0) (Nat.le_refl _) (Nat.le_refl _)
  generalize hT1 : (T.setVm vm₁).pushCell { cls := cX, slots := kX.instanceTypes.map defaultValue, vm := .none } = T1 at X₁ st1
  have hcat : (Value.ref T.heap.size).category = 1 := rfl
  have hcellA : T1.heap[T.heap.size]? = some (freshCell cX kX) := by rw [← hT1]; exact State.heap_pushCell_size _ _
  have d3' : decode c.code (pc + 3) = .ok (.dup, 1) := by rw [hb]; exact d3
  have d4' : decode c.code (pc + 4) = .ok (.ldc_w is, 3) := by rw [hb]; exact d4
  have hstr' : vk_R own is text sa s' := vk_R.warm hW0 hstr
  obtain ⟨U, hsteps, hrun, hend, hW, hsame, ce, hce, hO⟩ := X₁.ctorThrowS hexec htr (own := own) (cls := cls) (names := names) (ic := ic) hown' hcls hnames h (fun x hx => nomatch hx) hfX hkX hcellA (by rw [hhp, hT]; exact Nat.le_refl _) (msg := .ref sa) rfl
    (g := { method := m, pc := pc + 7, locals := ls, stack := .ref sa :: .ref T.heap.size :: .ref T.heap.size :: rest, locked := none }) rfl hsize rfl rfl (rest := rest) rfl
    (by rw [hb]; exact d7) (by rw [hb]; exact d10) hout hRframes (by simp only [List.map_cons, List.sum_cons, hcat]; omega) hlocks
  obtain ⟨f1, f2⟩ := vx_frame hsame
  rw [hhp] at f1 f2
  have hWs : s.WarmedH U.vm := State.WarmedH.trans hW0 hW
  have hcl : s.vm.findClass cls = some ce.cls := by
    have h9 := hO.cls
    rw [hvm] at h9
    exact h9
  have hall : s.sameButNew ({ U with vm := s.vm } : State) locs mc ms := by
    subst hA
    obtain ⟨e1, e2⟩ := hsame
    rw [State.setFrames_setFrames] at e1
    have h2 : (T.setVm s.vm).sameButNew ({ U with vm := s.vm } : State) [] (0 + 1) (0 + 6) := ⟨e1, e2⟩
    have h3 := X.same.trans h2
    rw [List.append_nil] at h3
    exact h3.mono hc hs
  refine ⟨U, ?_, .threw T.heap.size, hrun, hend, Or.inr ⟨T.heap.size, rfl, cls, ce, locs, hx U hWs.alike f1 (fun q hq => f2 q hq (fun z hz => nomatch hz)), hce, hO.vm, hcl, hWs, hall, hf⟩⟩
  refine st1 _ ?_
  show Steps p.tables e below (T1.setTop { method := m, pc := pc + 3, locals := ls, stack := .ref T.heap.size :: rest, locked := none }) _
  jvm_step X₁.here [X₁.here.top, hexec, d3', Value.category]
  exact X₁.ldcStringW hexec (own := own) (text := text) (index := is) (a := sa) hown' hstr'.1 hstr'.2
    (g := { method := m, pc := pc + 4, locals := ls, stack := .ref T.heap.size :: .ref T.heap.size :: rest, locked := none }) rfl d4' _ hsteps
end Ends
section Bodies
variable {l : Launch}
theorem vx_ofW {y : MethodName} {ws ws' : List Cond} {rm : Room} {Pc : Array Value → State → Prop} {Qc : Array Value → State → Outcome → State → Prop} {XC : String → State → State → Prop} {mc ms : Nat} {free : Addr → Prop} {cc : ByteArray} {maxL : Nat} {ret : Option FieldType}
    (hy : plainName y.cls = true) (hw : ws = Cond.code y cc maxL ret :: ws')
    (body : ∀ p e s m args below meth c s₁, BodyLoose p l y (headSpec ws rm) cc maxL ret e s m args below meth c s₁ → c.maxLocals = maxL → (∀ x ∈ c.exceptionTable.toList, False) → Pc args s →
      W p l e (headSpec ws rm).room s m args below meth c s.heap [] 0 0 (vx_MQ below Qc XC args s mc ms free) (entryFrame m args maxL)) : vx_Met l y ws rm Pc Qc XC mc ms free := by
  refine MetFree.of_bodyS (code := cc) (maxLocals := maxL) (ret := ret) hy ?_ ?_
  · intro args s m h hn
    obtain ⟨meth, c, h1, h2, h3, h4, h5, h6, -, -⟩ := Cond.code_spec hn (atoms_spec (ws := ws) h _ (by rw [hw]; exact List.mem_cons_self))
    exact ⟨meth, c, h1, h2, h3, h4, h5, h6⟩
  · intro p e s m args below meth c s₁ B hml hP _
    have hh0 : s₁.heap = s.heap := by rw [B.state]; rfl
    have ht : ∀ x ∈ c.exceptionTable.toList, False := by
      obtain ⟨meth9, c9, h1, h2, -, -, -, -, h7, -⟩ := Cond.code_spec B.named (atoms_spec (ws := ws) B.pre _ (by rw [hw]; exact List.mem_cons_self))
      cases Option.some.inj (h1.symm.trans B.method)
      cases Option.some.inj (h2.symm.trans (Stand.of_body B).code)
      intro x hx
      rw [Array.isEmpty_iff.mp h7] at hx
      cases hx
    obtain ⟨t, a1, o, b1, b2, b3⟩ := body p e s m args below meth c s₁ B hml ht hP s₁ hh0 (Stand.of_body B)
    exact ⟨t, o, a1, b1, b2, b3⟩
/-- the table of a body with handlers -/
theorem vx_table {p : Program} {x y : MethodName} {S : Spec} {cc bytes : ByteArray} {maxL maxL' : Nat} {ret ret' : Option FieldType} {e : Env} {s s₁ : State} {m : MethodId} {args : Array Value} {below : List Frame} {meth : Method} {c : Code} {hh : List (Nat × Nat × Nat × Nat)}
    (B : BodyLoose p l y S cc maxL ret e s m args below meth c s₁) (h : (Cond.codeWith y bytes maxL' ret' hh).before args s = true) : c.exceptionTable.toList = tableOf hh := by
  obtain ⟨m9, meth9, c9, hn9, h1, h2, -, -, h6, -⟩ := Cond.codeWith_spec h
  cases Option.some.inj (hn9.symm.trans B.named)
  cases Option.some.inj (h1.symm.trans B.method)
  cases Option.some.inj (h2.symm.trans (Stand.of_body B).code)
  rw [← h6, table_eq]
end Bodies
end VXA
/-! ===== END ===== -/
/-! ===== BEGIN a static call of a method with an exception table ===== -/
section VXS
variable {p : Program} {l : Launch} {e : Env} {R : Room} {s : State} {m : MethodId} {args : Array Value} {below : List Frame} {meth : Method} {c : Code} {T : State} {H : Heap} {locs : List Loc} {cells slots : Nat}
abbrev vx_CSW (R : Room) (s : State) (args : Array Value) (own : String) (index : Nat) (y : MethodName) (bytes : ByteArray) (maxL : Nat) (ret : Option FieldType) (hh : List (Nat × Nat × Nat × Nat)) (ws : List Cond) (rm : Room) (mc ms n : Nat) : Prop :=
  (rm.cells = mc ∧ rm.slots = ms ∧ rm.frames + 1 ≤ R.frames ∧ 8 + (maxL + 11) + rm.locals ≤ R.locals ∧ (∀ w ∈ ws, ∀ (a' : Array Value) (U : State), s.WarmedH U.vm → w.before a' U = true) ∧ Cond.codeWith y bytes maxL ret hh ∈ ws) ∧
  (Cond.codeWith y bytes maxL ret hh).before args s = true ∧ (Cond.initialized y.cls).before args s = true ∧ (y.cls ≠ "java/lang/invoke/MethodHandle" ∧ y.cls ≠ "java/lang/invoke/VarHandle") ∧
  (∀ sig, parseMethodDescriptor y.desc = some sig → n = sig.parameters.length) ∧ (Cond.methodLink own index y).before args s = true ∧ (Cond.static y).before args s = true
theorem vx_cwSW {own : String} {index maxL mc ms : Nat} {y : MethodName} {bytes : ByteArray} {ret : Option FieldType} {hh : List (Nat × Nat × Nat × Nat)} {Ts ws ws' : List Cond} {rm : Room} (n : Nat) (ht : ∀ w ∈ Ts, w.before args s = true) (hT : GoodIn Ts (va_wsS own index y ws)) (hw : ws = Cond.codeWith y bytes maxL ret hh :: ws') (hrc : rm.cells = mc) (hrs : rm.slots = ms)
    (hd : y.cls ≠ "java/lang/invoke/MethodHandle" ∧ y.cls ≠ "java/lang/invoke/VarHandle" ∧ (parseMethodDescriptor y.desc).map (fun d => d.parameters.length) = some n) (hR : rm.frames + 1 ≤ R.frames ∧ 8 + (maxL + 11) + rm.locals ≤ R.locals) :
    vx_CSW R s args own index y bytes maxL ret hh ws rm mc ms n := by
  have ok : ∀ w ∈ va_wsS own index y ws, w.before args s = true := fun w h => ht w (hT w h).1
  have hG : GoodIn Ts ws := fun w h => hT w (by unfold va_wsS; exact List.mem_append_right _ h)
  have hc : Cond.codeWith y bytes maxL ret hh ∈ ws := by rw [hw]; exact List.mem_cons_self
  refine ⟨⟨hrc, hrs, hR.1, hR.2, pay_in ht hG, hc⟩, ht _ (hG _ hc).1, ok _ (by simp [va_wsS]), ⟨hd.1, hd.2.1⟩, fun sig h => ?_, ok _ (by simp [va_wsS]), ok _ (by simp [va_wsS])⟩
  have h2 := hd.2.2
  rw [h] at h2
  exact (Option.some.inj h2).symm
theorem vx_callSW (X : Stand p l e R s m args below meth c T locs cells slots) (hexec : p.tables.exec = Jvm.exec) {own : String} {index : Nat} {y : MethodName} {bytes : ByteArray} {maxL : Nat} {ret : Option FieldType} {hh : List (Nat × Nat × Nat × Nat)}
    (hown : s.vm.findClass own = some m.cls) (hlink : (Cond.methodLink own index y).before args s = true) (hstat : (Cond.static y).before args s = true) (hinit : (Cond.initialized y.cls).before args s = true)
    (hcode : (Cond.codeWith y bytes maxL ret hh).before args s = true) (hy : y.cls ≠ "java/lang/invoke/MethodHandle" ∧ y.cls ≠ "java/lang/invoke/VarHandle")
    {W9 : Nat} {Pre : Pt → Array Value → Prop} {Post : Pt → Array Value → Option Value → Pt → Prop} (hK : Back l R p e below s args y 3 W9 Pre Post)
    {g : JFrame} (hg : g.method = m) (hsize : g.locals.size = c.maxLocals) {argsL rest : List Value} (hlen : ∀ sig, parseMethodDescriptor y.desc = some sig → argsL.length = sig.parameters.length)
    (hstack : g.stack = argsL.reverse ++ rest) (hW : 2 * g.monitorRoom + (rest.map fun v => v.category).sum ≤ W9) (hdg : decode c.code g.pc = .ok (.invokestatic index, 3))
    (hpre : ∀ vm₁, s.WarmedH vm₁ → Pre ⟨T.setVm vm₁, locs, cells, slots⟩ argsL.toArray) :
    ∃ (v : Option Value) (vm₁ : Vm) (B : Pt), s.WarmedH vm₁ ∧ Stand p l e R s m args below meth c B.U B.locs B.cells B.slots ∧ Post ⟨T.setVm vm₁, locs, cells, slots⟩ argsL.toArray v B ∧
      ∀ target, Steps p.tables e below (B.U.setTop { g with pc := g.pc + 3, stack := v.toList ++ rest }) target → Steps p.tables e below (T.setTop g) target := by
  obtain ⟨mk, methM, cM, hnamed, hmethM, -, -, -, -, -, -, hsigM⟩ := Cond.codeWith_spec hcode
  have hstatic : methM.isStatic = true := Cond.static_spec hnamed hmethM hstat
  obtain ⟨kP, hkP, -⟩ := className_of_methodNamed hnamed
  have hinitP : kP.init = .initialized := Cond.initialized_spec (findClass_of_methodNamed hnamed) hkP hinit
  obtain ⟨vm₁, X₁, hstep₁⟩ := X.invokestatic hexec hown hlink hnamed hmethM hstatic hkP hinitP hy (g := g) hg (argsL := argsL) (rest := rest) (hlen _ hsigM) hstack hdg
  obtain ⟨v, B, X', hpost, hsteps⟩ := hK m meth c ⟨T.setVm vm₁, locs, cells, slots⟩ { g with stack := rest } (.invokestatic index) mk argsL.toArray X₁ hg hsize hdg hW (X₁.named hnamed) (hpre vm₁ X₁.warmed)
  exact ⟨v, vm₁, B, X₁.warmed, X', hpost, fun target h => hstep₁ _ fun acts => by rw [doInvoke_state]; exact hsteps.trans h⟩
theorem vx_runSW {y : MethodName} {bytes cc : ByteArray} {maxL nL mc ms n index : Nat} {ret : Option FieldType} {hh : List (Nat × Nat × Nat × Nat)} {ws : List Cond} {rm : Room} {Pc : Array Value → State → Prop} {Qc : Array Value → State → Outcome → State → Prop} {free : Addr → Prop} {Ts : List Cond} {own : String} {As rest : List Value} {g : JFrame}
    (S : CallFix p m c cc nL s args Ts own) (hM : Met l y ws rm Pc Qc mc ms free) (cw : vx_CSW R s args own index y bytes maxL ret hh ws rm mc ms n) (hp : PreS s H Pc As)
    (hg : g.method = m) (hn : As.length = n) (hsize : g.locals.size = nL) (hstack : g.stack = As.reverse ++ rest) (hW : 2 * g.monitorRoom + (rest.map fun v => v.category).sum ≤ 8) (hdg : decode cc g.pc = .ok (.invokestatic index, 3)) (hf : cells + mc ≤ R.cells ∧ slots + ms ≤ R.slots) :
    va_Run p l e R s m args below meth c H locs cells slots mc ms g rest (Qc As.toArray) (free) := by
  obtain ⟨⟨hrc, hrs, hfr, hlo, hws, hcw⟩, hcode, hini, hy, hlen, hl, hstt⟩ := cw
  have hK : Back l R p e below s args y 3 8 (PreOf R mc ms Pc) (PostOf Qc mc ms free) := va_backW (hh := hh) (bytes := bytes) (maxL := maxL) (ret := ret) hM hp.1 hrc hrs hfr hlo hws hcw (fun a' U hW => word_at hW (Or.inl (by first | rfl | simp [Cond.onTables, Cond.keeps, Cond.steady])) hini)
  obtain ⟨hx, hb, hml, ho, -⟩ := S
  intro T hT X
  obtain ⟨v, vm₁, ⟨U', l2, c2, s2⟩, hW₁, X', ⟨g', mk, t, L, e1, e2, hq, h1, hL, h2, h3⟩, st⟩ := vx_callSW X hx (hh := hh) (bytes := bytes) (maxL := maxL) (ret := ret) ho hl hstt hini hcode hy hK hg (hsize.trans hml.symm) (argsL := As) (rest := rest) (fun sig h => hn.trans (hlen sig h)) hstack hW (by rw [hb]; exact hdg)
    (fun vm₁ hW₁ => ⟨hf.1, hf.2, hp.2 (T.setVm vm₁) hT hW₁⟩)
  dsimp only [Pt.U, Pt.locs, Pt.cells, Pt.slots] at X' e1 e2 h1 h2 h3 st
  subst h1; subst h2; subst h3
  exact ⟨v, (T.setVm vm₁).calling g' mk As.toArray, t, U', L, hT, X', hL, e1, e2, hq, st⟩
/-- not caught here, past rows that name other classes: it goes on to the caller -/
theorem vx_outP {p : Program} {l : Launch} {e : Env} {R : Room} {s : State} {m : MethodId} {args : Array Value} {below : List Frame} {meth : Method} {c : Code} {H : Heap} {locs : List Loc} {cells slots : Nat} {free : Addr → Prop} {ls : Array Slot} {rest : List Value} {Qc : Array Value → State → Outcome → State → Prop} {XC : String → State → State → Prop}
    {pc : Nat} {own E : String} {ce : Cell} {q : Addr} {mc ms : Nat} (hown : s.vm.findClass own = some m.cls) (hlocks : meth.locks = false)
    (hpass : ∀ z ∈ c.exceptionTable.toList, covers z pc = false ∨ (z.catchType ≠ 0 ∧ ∃ nm : String, (Cond.classLink own z.catchType nm).before args s = true ∧ va_Nc E nm s)) (hcell : H[q]? = some ce) (hv : ce.vm = .none) (hcl : s.vm.findClass E = some ce.cls)
    (hx : ∀ t : State, t.heap = H → s.vm.Alike t.vm → XC E s t) (hf : ∀ z ∈ locs, free z.base) (hc : cells ≤ mc) (hs : slots ≤ ms) :
    vx_W p l e R s m args below meth c H locs cells slots (vx_MQ below Qc XC args s mc ms free) (F0 m pc ls rest) q := by
  intro T hT X
  have hpl : e.platform.magicAccessors = ({} : Platform).magicAccessors := by rw [X.admits.platform]
  obtain ⟨vm', hW', X', st⟩ := X.outThrough hlocks q (g := F0 m pc ls rest) rfl rfl rfl (cell := ce) (by rw [hT]; exact hcell) (by rw [hv]; rfl)
    (by obtain ⟨k9, h9, -⟩ := Vm.findClass_spec hcl; exact ⟨k9, h9⟩) (fun z hz => by
      rcases hpass z hz with h | ⟨hz0, nm, hl1, hn1⟩
      · exact Or.inl h
      · obtain ⟨c6, hc6, hcl6⟩ := Cond.classLink_spec hown hl1 e.platform hpl
        obtain ⟨a8, b8, h1, h2, h3⟩ := hn1
        cases Option.some.inj (h1.symm.trans hcl)
        cases Option.some.inj (h2.symm.trans hc6)
        exact Or.inr ⟨hz0, _, hcl6, h3⟩)
  obtain ⟨g₀, hfr⟩ := X'.frames_eq
  have hcell9 : ((T.setVm vm').setFrames (.throwing q :: below)).heap[q]? = some ce := by
    show T.heap[q]? = some ce
    rw [hT]; exact hcell
  have hend : Ended ((T.setVm vm').setFrames (.throwing q :: below)) below (.threw q) := State.frames_setFrames _ (State.cur_lt_of_frames hfr)
  refine ⟨(T.setVm vm').setFrames (.throwing q :: below), ?_, .threw q, X'.here.running, hend, Or.inr ⟨q, rfl, E, ce, locs, hx _ hT (X'.ends _).1.alike, hcell9, hv, hcl, (X'.ends _).1, (X'.ends _).2.mono hc hs, hf⟩⟩
  rw [X.pushThrowing_eq]
  exact st
/-- a thing of a world lies in the heap -/
theorem vx_lt {D : va_G} {cl : List vw_C} {ws : va_W} {H1 : Heap} (h : va_P D cl ws H1) {k : Nat} {q : Nat × va_E} (hk : ws[k]? = some q) : q.1 < H1.size := (h k q hk).lt
end VXS
/-! ===== END ===== -/
/-! ===== BEGIN methods with a table of their own: called by a name, returning or throwing ===== -/
section VXH
/-! vx_backW, vx_callVX, vx_callSX, vx_callVW, vx_runVW, vx_runVX, vx_runSX, vx_ofWH follow the same proofs as their sisters above (Free/Laws.lean, Shelf42/LK1.lean); vx_outP calls Shelf42/NT130.lean (outThrough). -/
section
variable {l : Launch} {R : Room} {p : Program} {e : Env} {below : List Frame} {s : State} {sargs : Array Value} {y : MethodName} {len W9 : Nat}
theorem vx_backW {ws : List Cond} {rm : Room} {Pc : Array Value → State → Prop} {Qc : Array Value → State → Outcome → State → Prop} {XC : String → State → State → Prop} {mc ms : Nat} {free : Addr → Prop} {bytes : ByteArray} {maxL : Nat} {ret : Option FieldType} {hh : List (Nat × Nat × Nat × Nat)}
    (hM : vx_Met l y ws rm Pc Qc XC mc ms free) (hblind : FrameBlind Pc) (hrc : rm.cells = mc) (hrs : rm.slots = ms)
    (hframes : rm.frames + 1 ≤ R.frames) (hlocals : W9 + (maxL + 11) + rm.locals ≤ R.locals)
    (hws : ∀ w ∈ ws, ∀ a' U, s.WarmedH U.vm → w.before a' U = true) (hcode : Cond.codeWith y bytes maxL ret hh ∈ ws) (hinit : ∀ a' U, s.WarmedH U.vm → (Cond.initialized y.cls).before a' U = true) :
    vx_Back l R p e below s sargs y len W9 (PreOf R mc ms Pc) (PostOf Qc mc ms free) (vx_Post XC mc ms free) := by
  intro m meth c A g ig mk a X hg hsize hdg hW hn hp
  have h1 : (headSpec ws rm).pre.before a A.U = true := atoms_intro fun w hw => hws w hw _ _ X.warmed
  have h2 : (Cond.codeWith y bytes maxL ret hh).before a A.U = true := hws _ hcode _ _ X.warmed
  have h3 : (Cond.initialized y.cls).before a A.U = true := hinit _ _ X.warmed
  have h4 : A.cells + (headSpec ws rm).room.cells ≤ R.cells := by rw [show (headSpec ws rm).room.cells = mc from hrc]; exact hp.1
  have h5 : A.slots + (headSpec ws rm).room.slots ≤ R.slots := by rw [show (headSpec ws rm).room.slots = ms from hrs]; exact hp.2.1
  have hPc : Pc a (A.U.calling g mk a) := hblind _ _ _ _ hp.2.2
  obtain ⟨U, Ls, c0, s0⟩ := A
  dsimp only [Pt.U, Pt.locs, Pt.cells, Pt.slots] at h1 h2 h3 h4 h5 X hn hPc ⊢
  obtain ⟨m9, methY, cY, hn9, hmY, hcY, -, hlY, -⟩ := Cond.codeWith_spec h2
  cases Option.some.inj (hn9.symm.trans hn)
  obtain ⟨kY, hkY, -⟩ := className_of_methodNamed hn
  have hinitY : kY.init = .initialized := Cond.initialized_spec (findClass_of_methodNamed hn) hkY h3
  have h : At U g.method c below := by rw [hg]; exact X.here
  have hlocals9 : W9 + (maxL + 11) + (headSpec ws rm).room.locals ≤ R.locals := hlocals
  have happ : (headSpec ws rm).appliesLoose y e.platform (U.calling g mk a) = true :=
    Spec.appliesLoose_calling (g := g) h hdg hn hkY hinitY
      (X.room_calling (g := g) (R' := (headSpec ws rm).room) hsize hmY hcY hframes (by rw [hlY]; omega) h4 h5) h1
  obtain ⟨mid, hmid⟩ := h.above
  have hfr : (U.setTop g).frames = (.java g :: mid) ++ below := by rw [State.frames_setTop' g h.top, hmid]; rfl
  obtain ⟨o, s₂, hsteps, -, hend, hq⟩ := Steps.callFree hM p X.admits X.cas X.clock (acts := []) hfr happ hPc trivial
  have hq' : vx_Q Qc XC mc ms free a (U.calling g mk a) o s₂ := hq
  rw [State.frames_setTop' g h.top] at hend
  obtain ⟨g₀, hg0⟩ := Option.isSome_iff_exists.mp h.top
  obtain ⟨r, hr⟩ := State.topJava?_eq_some.mp hg0
  have hr' : (({ U with heap := s₂.heap, slotsUsed := s₂.slotsUsed } : State).setVm s₂.vm).frames = .java g₀ :: r := hr
  rcases hq' with ⟨hqc, L, hfe, hL⟩ | ⟨q, rfl, E, ce, L, hx, hce, hcv, hcl, hW₂, hsm, hL⟩
  · obtain ⟨⟨v, rfl⟩, hW₂, e2, q2, q3, q4, q5, q6⟩ := id hfe
    have e3 : s₂ = ({ (U.calling g mk a).setFrames s₂.frames with heap := s₂.heap, slotsUsed := s₂.slotsUsed } : State).setVm s₂.vm := by
      have : s₂ = ({ s₂ with vm := (U.calling g mk a).vm } : State).setVm s₂.vm := rfl
      rw [e2] at this
      exact this
    obtain ⟨c₂, i₂, len₂, hc₂, hd₂, hf₂⟩ := hend
    have hW' : U.WarmedH s₂.vm := hW₂
    have hcc : c₂ = c := by
      have h1 : s₂.code? g.method = U.code? g.method := by
        rw [State.code?_eq, State.code?_eq, hW'.alike.method?]
      exact Option.some.inj (hc₂.symm.trans (h1.trans h.code))
    subst hcc
    have hlen : len₂ = len := by rw [hdg] at hd₂; cases hd₂; rfl
    subst hlen
    have hs₂ : s₂ = (({ U with heap := s₂.heap, slotsUsed := s₂.slotsUsed } : State).setVm s₂.vm).setTop { g with pc := g.pc + len₂, stack := v.toList ++ g.stack } := by
      refine e3.trans ?_
      rw [hf₂, State.calling_eq h.top, State.setFrames_setFrames, State.setTop_of_frames _ hr', hr]
      rfl
    have hsame : U.sameButNew ({ U with heap := s₂.heap, slotsUsed := s₂.slotsUsed } : State) L mc ms := by
      refine ⟨?_, q2, q3, q4, q5, q6⟩
      obtain ⟨t, ht, -⟩ := State.frames_cons hr
      show ({ U with heap := s₂.heap, slotsUsed := s₂.slotsUsed } : State) = { U.setFrames U.frames with heap := s₂.heap, slotsUsed := s₂.slotsUsed }
      rw [State.setFrames_self ht]
    subst hg
    refine Or.inl ⟨v, ⟨(({ U with heap := s₂.heap, slotsUsed := s₂.slotsUsed } : State).setVm s₂.vm), Ls ++ L, c0 + mc, s0 + ms⟩,
      ⟨X.admits, X.cas, X.clock, X.frames, X.room, X.hears, X.method, X.code, (X.here.setHeapUsed s₂.heap s₂.slotsUsed).setVm hW'.alike, X.tail, State.WarmedH.trans X.warmed hW', X.limits, X.bytes, X.same.trans (hsame.setVm s.vm)⟩,
      ⟨g, mk, s₂, L, rfl, rfl, hqc, rfl, hL, rfl, rfl⟩, ?_⟩
    show Steps p.tables e below _ ((({ U with heap := s₂.heap, slotsUsed := s₂.slotsUsed } : State).setVm s₂.vm).setTop { g with pc := g.pc + len₂, stack := v.toList ++ g.stack })
    rw [← hs₂]
    exact hsteps
  · obtain ⟨e2, q2, q3, q4, q5, q6⟩ := id hsm
    have e3 : s₂ = ({ (U.calling g mk a).setFrames s₂.frames with heap := s₂.heap, slotsUsed := s₂.slotsUsed } : State).setVm s₂.vm := by
      have : s₂ = ({ s₂ with vm := (U.calling g mk a).vm } : State).setVm s₂.vm := rfl
      rw [e2] at this
      exact this
    have hf₂ : s₂.frames = .throwing q :: .java g :: U.frames.tail := hend
    have hW' : U.WarmedH s₂.vm := hW₂
    have hs₂ : s₂ = ((({ U with heap := s₂.heap, slotsUsed := s₂.slotsUsed } : State).setVm s₂.vm).setTop g).pushFrame (.throwing q) := by
      refine e3.trans ?_
      rw [hf₂, State.calling_eq h.top, State.setFrames_setFrames, State.pushFrame, State.frames_setTop _ hr', State.setTop_of_frames _ hr', State.setFrames_setFrames, hr]
      rfl
    have hsame : U.sameButNew ({ U with heap := s₂.heap, slotsUsed := s₂.slotsUsed } : State) L mc ms := by
      refine ⟨?_, q2, q3, q4, q5, q6⟩
      obtain ⟨t, ht, -⟩ := State.frames_cons hr
      show ({ U with heap := s₂.heap, slotsUsed := s₂.slotsUsed } : State) = { U.setFrames U.frames with heap := s₂.heap, slotsUsed := s₂.slotsUsed }
      rw [State.setFrames_self ht]
    subst hg
    refine Or.inr ⟨q, ⟨(({ U with heap := s₂.heap, slotsUsed := s₂.slotsUsed } : State).setVm s₂.vm), Ls ++ L, c0 + mc, s0 + ms⟩,
      ⟨X.admits, X.cas, X.clock, X.frames, X.room, X.hears, X.method, X.code, (X.here.setHeapUsed s₂.heap s₂.slotsUsed).setVm hW'.alike, X.tail, State.WarmedH.trans X.warmed hW', X.limits, X.bytes, X.same.trans (hsame.setVm s.vm)⟩,
      ⟨g, mk, s₂, L, E, ce, rfl, rfl, hx, hce, hcv, hcl, rfl, hL, rfl, rfl⟩, ?_⟩
    show Steps p.tables e below _ (((({ U with heap := s₂.heap, slotsUsed := s₂.slotsUsed } : State).setVm s₂.vm).setTop g).pushFrame (.throwing q))
    rw [← hs₂]
    exact hsteps
end
variable {p : Program} {l : Launch} {e : Env} {R : Room} {s : State} {m : MethodId} {args : Array Value} {below : List Frame} {meth : Method} {c : Code} {T : State} {H : Heap} {locs : List Loc} {cells slots : Nat}
theorem vx_callVX (X : Stand p l e R s m args below meth c T locs cells slots) (hexec : p.tables.exec = Jvm.exec) {own C : String} {index : Nat} {y : MethodName} {bytes : ByteArray} {maxL : Nat} {ret : Option FieldType} {hh : List (Nat × Nat × Nat × Nat)}
    (hown : s.vm.findClass own = some m.cls) (hlink : (Cond.methodLink own index y).before args s = true) (hinst : (Cond.instanceMethod y).before args s = true) (hsel : (Cond.selects C y y).before args s = true)
    (hcode : (Cond.codeWith y bytes maxL ret hh).before args s = true) (hy : y.cls ≠ "java/lang/invoke/MethodHandle" ∧ y.cls ≠ "java/lang/invoke/VarHandle")
    {W9 : Nat} {Pre : Pt → Array Value → Prop} {Post : Pt → Array Value → Option Value → Pt → Prop} {PostX : Pt → Array Value → Addr → Pt → Prop} (hK : vx_Back l R p e below s args y 3 W9 Pre Post PostX)
    {b : Addr} {cellB : Cell} (hcell : T.heap[b]? = some cellB) (hobj : cellB.vm.isStatics = false) (hcls : s.vm.findClass C = some cellB.cls)
    {g : JFrame} (hg : g.method = m) (hsize : g.locals.size = c.maxLocals) {argsL rest : List Value} (hlen : ∀ sig, parseMethodDescriptor y.desc = some sig → argsL.length = sig.parameters.length)
    (hstack : g.stack = argsL.reverse ++ .ref b :: rest) (hW : 2 * g.monitorRoom + (rest.map fun v => v.category).sum ≤ W9) (hdg : decode c.code g.pc = .ok (.invokevirtual index, 3))
    (hpre : ∀ vm₁, s.WarmedH vm₁ → Pre ⟨T.setVm vm₁, locs, cells, slots⟩ (Value.ref b :: argsL).toArray) :
    (∃ (v : Option Value) (vm₁ : Vm) (B : Pt), s.WarmedH vm₁ ∧ Stand p l e R s m args below meth c B.U B.locs B.cells B.slots ∧ Post ⟨T.setVm vm₁, locs, cells, slots⟩ (Value.ref b :: argsL).toArray v B ∧
      ∀ target, Steps p.tables e below (B.U.setTop { g with pc := g.pc + 3, stack := v.toList ++ rest }) target → Steps p.tables e below (T.setTop g) target) ∨
    (∃ (q : Addr) (vm₁ : Vm) (B : Pt), s.WarmedH vm₁ ∧ Stand p l e R s m args below meth c B.U B.locs B.cells B.slots ∧ PostX ⟨T.setVm vm₁, locs, cells, slots⟩ (Value.ref b :: argsL).toArray q B ∧
      Steps p.tables e below (T.setTop g) ((B.U.setTop { g with stack := rest }).pushFrame (.throwing q))) := by
  obtain ⟨mk, methM, hnamed, hmethM, hstM, habM⟩ := Cond.instanceMethod_spec hinst
  obtain ⟨m8, methM', cM, hn8, hmethM', -, -, -, -, -, -, hsigM⟩ := Cond.codeWith_spec hcode
  cases Option.some.inj (hn8.symm.trans hnamed)
  cases hmethM.symm.trans hmethM'
  obtain ⟨c2, r2, m2, q1, q2, q3, q4, kP, hkP, hkPi⟩ := Cond.selects_spec hsel
  cases hcls.symm.trans q1
  cases (State.methodFound?_of_named hnamed hy).symm.trans q2
  cases hnamed.symm.trans q3
  have hselP : selectMethod e.platform s.vm cellB.cls mk = .method mk := by rw [Launch.admits_selectMethod X.admits]; exact q4
  obtain ⟨vm₁, X₁, hstep₁⟩ := X.invokevirtual hexec hown hlink hnamed hmethM hstM hkP hkPi hy (a := b) (cell := cellB) hcell
    (fun z h => by rw [h] at hobj; cases hobj) hselP hmethM habM hkP hkPi (g := g) hg (argsL := argsL) (rest := rest) (hlen _ hsigM) hstack hdg
  rcases hK m meth c ⟨T.setVm vm₁, locs, cells, slots⟩ { g with stack := rest } (.invokevirtual index) mk (Value.ref b :: argsL).toArray X₁ hg hsize hdg hW (X₁.named hnamed) (hpre vm₁ X₁.warmed) with ⟨v, B, X', hpost, hsteps⟩ | ⟨q, B, X', hpost, hsteps⟩
  · exact Or.inl ⟨v, vm₁, B, X₁.warmed, X', hpost, fun target h => hstep₁ _ fun acts => by rw [doInvoke_state]; exact hsteps.trans h⟩
  · exact Or.inr ⟨q, vm₁, B, X₁.warmed, X', hpost, hstep₁ _ fun acts => by rw [doInvoke_state]; exact hsteps⟩
theorem vx_callSX (X : Stand p l e R s m args below meth c T locs cells slots) (hexec : p.tables.exec = Jvm.exec) {own : String} {index : Nat} {y : MethodName} {bytes : ByteArray} {maxL : Nat} {ret : Option FieldType} {hh : List (Nat × Nat × Nat × Nat)}
    (hown : s.vm.findClass own = some m.cls) (hlink : (Cond.methodLink own index y).before args s = true) (hstat : (Cond.static y).before args s = true) (hinit : (Cond.initialized y.cls).before args s = true)
    (hcode : (Cond.codeWith y bytes maxL ret hh).before args s = true) (hy : y.cls ≠ "java/lang/invoke/MethodHandle" ∧ y.cls ≠ "java/lang/invoke/VarHandle")
    {W9 : Nat} {Pre : Pt → Array Value → Prop} {Post : Pt → Array Value → Option Value → Pt → Prop} {PostX : Pt → Array Value → Addr → Pt → Prop} (hK : vx_Back l R p e below s args y 3 W9 Pre Post PostX)
    {g : JFrame} (hg : g.method = m) (hsize : g.locals.size = c.maxLocals) {argsL rest : List Value} (hlen : ∀ sig, parseMethodDescriptor y.desc = some sig → argsL.length = sig.parameters.length)
    (hstack : g.stack = argsL.reverse ++ rest) (hW : 2 * g.monitorRoom + (rest.map fun v => v.category).sum ≤ W9) (hdg : decode c.code g.pc = .ok (.invokestatic index, 3))
    (hpre : ∀ vm₁, s.WarmedH vm₁ → Pre ⟨T.setVm vm₁, locs, cells, slots⟩ argsL.toArray) :
    (∃ (v : Option Value) (vm₁ : Vm) (B : Pt), s.WarmedH vm₁ ∧ Stand p l e R s m args below meth c B.U B.locs B.cells B.slots ∧ Post ⟨T.setVm vm₁, locs, cells, slots⟩ argsL.toArray v B ∧
      ∀ target, Steps p.tables e below (B.U.setTop { g with pc := g.pc + 3, stack := v.toList ++ rest }) target → Steps p.tables e below (T.setTop g) target) ∨
    (∃ (q : Addr) (vm₁ : Vm) (B : Pt), s.WarmedH vm₁ ∧ Stand p l e R s m args below meth c B.U B.locs B.cells B.slots ∧ PostX ⟨T.setVm vm₁, locs, cells, slots⟩ argsL.toArray q B ∧
      Steps p.tables e below (T.setTop g) ((B.U.setTop { g with stack := rest }).pushFrame (.throwing q))) := by
  obtain ⟨mk, methM, cM, hnamed, hmethM, -, -, -, -, -, -, hsigM⟩ := Cond.codeWith_spec hcode
  have hstatic : methM.isStatic = true := Cond.static_spec hnamed hmethM hstat
  obtain ⟨kP, hkP, -⟩ := className_of_methodNamed hnamed
  have hinitP : kP.init = .initialized := Cond.initialized_spec (findClass_of_methodNamed hnamed) hkP hinit
  obtain ⟨vm₁, X₁, hstep₁⟩ := X.invokestatic hexec hown hlink hnamed hmethM hstatic hkP hinitP hy (g := g) hg (argsL := argsL) (rest := rest) (hlen _ hsigM) hstack hdg
  rcases hK m meth c ⟨T.setVm vm₁, locs, cells, slots⟩ { g with stack := rest } (.invokestatic index) mk argsL.toArray X₁ hg hsize hdg hW (X₁.named hnamed) (hpre vm₁ X₁.warmed) with ⟨v, B, X', hpost, hsteps⟩ | ⟨q, B, X', hpost, hsteps⟩
  · exact Or.inl ⟨v, vm₁, B, X₁.warmed, X', hpost, fun target h => hstep₁ _ fun acts => by rw [doInvoke_state]; exact hsteps.trans h⟩
  · exact Or.inr ⟨q, vm₁, B, X₁.warmed, X', hpost, hstep₁ _ fun acts => by rw [doInvoke_state]; exact hsteps⟩
theorem vx_callVW (X : Stand p l e R s m args below meth c T locs cells slots) (hexec : p.tables.exec = Jvm.exec) {own C : String} {index : Nat} {y : MethodName} {bytes : ByteArray} {maxL : Nat} {ret : Option FieldType} {hh : List (Nat × Nat × Nat × Nat)}
    (hown : s.vm.findClass own = some m.cls) (hlink : (Cond.methodLink own index y).before args s = true) (hinst : (Cond.instanceMethod y).before args s = true) (hsel : (Cond.selects C y y).before args s = true)
    (hcode : (Cond.codeWith y bytes maxL ret hh).before args s = true) (hy : y.cls ≠ "java/lang/invoke/MethodHandle" ∧ y.cls ≠ "java/lang/invoke/VarHandle")
    {W9 : Nat} {Pre : Pt → Array Value → Prop} {Post : Pt → Array Value → Option Value → Pt → Prop} (hK : Back l R p e below s args y 3 W9 Pre Post)
    {b : Addr} {cellB : Cell} (hcell : T.heap[b]? = some cellB) (hobj : cellB.vm.isStatics = false) (hcls : s.vm.findClass C = some cellB.cls)
    {g : JFrame} (hg : g.method = m) (hsize : g.locals.size = c.maxLocals) {argsL rest : List Value} (hlen : ∀ sig, parseMethodDescriptor y.desc = some sig → argsL.length = sig.parameters.length)
    (hstack : g.stack = argsL.reverse ++ .ref b :: rest) (hW : 2 * g.monitorRoom + (rest.map fun v => v.category).sum ≤ W9) (hdg : decode c.code g.pc = .ok (.invokevirtual index, 3))
    (hpre : ∀ vm₁, s.WarmedH vm₁ → Pre ⟨T.setVm vm₁, locs, cells, slots⟩ (Value.ref b :: argsL).toArray) :
    ∃ (v : Option Value) (vm₁ : Vm) (B : Pt), s.WarmedH vm₁ ∧ Stand p l e R s m args below meth c B.U B.locs B.cells B.slots ∧ Post ⟨T.setVm vm₁, locs, cells, slots⟩ (Value.ref b :: argsL).toArray v B ∧
      ∀ target, Steps p.tables e below (B.U.setTop { g with pc := g.pc + 3, stack := v.toList ++ rest }) target → Steps p.tables e below (T.setTop g) target := by
  obtain ⟨mk, methM, hnamed, hmethM, hstM, habM⟩ := Cond.instanceMethod_spec hinst
  obtain ⟨m8, methM', cM, hn8, hmethM', -, -, -, -, -, -, hsigM⟩ := Cond.codeWith_spec hcode
  cases Option.some.inj (hn8.symm.trans hnamed)
  cases hmethM.symm.trans hmethM'
  obtain ⟨c2, r2, m2, q1, q2, q3, q4, kP, hkP, hkPi⟩ := Cond.selects_spec hsel
  cases hcls.symm.trans q1
  cases (State.methodFound?_of_named hnamed hy).symm.trans q2
  cases hnamed.symm.trans q3
  have hselP : selectMethod e.platform s.vm cellB.cls mk = .method mk := by rw [Launch.admits_selectMethod X.admits]; exact q4
  obtain ⟨vm₁, X₁, hstep₁⟩ := X.invokevirtual hexec hown hlink hnamed hmethM hstM hkP hkPi hy (a := b) (cell := cellB) hcell
    (fun z h => by rw [h] at hobj; cases hobj) hselP hmethM habM hkP hkPi (g := g) hg (argsL := argsL) (rest := rest) (hlen _ hsigM) hstack hdg
  obtain ⟨v, B, X', hpost, hsteps⟩ := hK m meth c ⟨T.setVm vm₁, locs, cells, slots⟩ { g with stack := rest } (.invokevirtual index) mk (Value.ref b :: argsL).toArray X₁ hg hsize hdg hW (X₁.named hnamed) (hpre vm₁ X₁.warmed)
  exact ⟨v, vm₁, B, X₁.warmed, X', hpost, fun target h => hstep₁ _ fun acts => by rw [doInvoke_state]; exact hsteps.trans h⟩
abbrev vx_CVW (R : Room) (s : State) (args : Array Value) (own C : String) (index : Nat) (y : MethodName) (bytes : ByteArray) (maxL : Nat) (ret : Option FieldType) (hh : List (Nat × Nat × Nat × Nat)) (ws : List Cond) (rm : Room) (mc ms n : Nat) : Prop :=
  (rm.cells = mc ∧ rm.slots = ms ∧ rm.frames + 1 ≤ R.frames ∧ 8 + (maxL + 11) + rm.locals ≤ R.locals ∧ (∀ w ∈ ws, ∀ (a' : Array Value) (U : State), s.WarmedH U.vm → w.before a' U = true) ∧ Cond.codeWith y bytes maxL ret hh ∈ ws) ∧
  (Cond.codeWith y bytes maxL ret hh).before args s = true ∧ (Cond.initialized y.cls).before args s = true ∧ (y.cls ≠ "java/lang/invoke/MethodHandle" ∧ y.cls ≠ "java/lang/invoke/VarHandle") ∧
  (∀ sig, parseMethodDescriptor y.desc = some sig → n = sig.parameters.length) ∧ (Cond.methodLink own index y).before args s = true ∧ (Cond.instanceMethod y).before args s = true ∧ (Cond.selects C y y).before args s = true
theorem vx_cwVW {own C : String} {index maxL mc ms : Nat} {y : MethodName} {bytes : ByteArray} {ret : Option FieldType} {hh : List (Nat × Nat × Nat × Nat)} {Ts ws ws' : List Cond} {rm : Room} (n : Nat) (ht : ∀ w ∈ Ts, w.before args s = true) (hT : GoodIn Ts (wsV own index C y ws)) (hw : ws = Cond.codeWith y bytes maxL ret hh :: ws') (hrc : rm.cells = mc) (hrs : rm.slots = ms)
    (hd : y.cls = C ∧ y.cls ≠ "java/lang/invoke/MethodHandle" ∧ y.cls ≠ "java/lang/invoke/VarHandle" ∧ (parseMethodDescriptor y.desc).map (fun d => d.parameters.length) = some n) (hR : rm.frames + 1 ≤ R.frames ∧ 8 + (maxL + 11) + rm.locals ≤ R.locals) :
    vx_CVW R s args own C index y bytes maxL ret hh ws rm mc ms n := by
  obtain ⟨hC, hd⟩ := hd
  subst hC
  have ok : ∀ w ∈ wsV own index y.cls y ws, w.before args s = true := fun w h => ht w (hT w h).1
  have hG : GoodIn Ts ws := fun w h => hT w (by unfold wsV; exact List.mem_append_right _ h)
  have hc : Cond.codeWith y bytes maxL ret hh ∈ ws := by rw [hw]; exact List.mem_cons_self
  refine ⟨⟨hrc, hrs, hR.1, hR.2, pay_in ht hG, hc⟩, ht _ (hG _ hc).1, ok _ (by simp [wsV]), ⟨hd.1, hd.2.1⟩, fun sig h => ?_, ok _ (by simp [wsV]), ok _ (by simp [wsV]), ok _ (by simp [wsV])⟩
  have h2 := hd.2.2
  rw [h] at h2
  exact (Option.some.inj h2).symm
theorem vx_runVW {y : MethodName} {bytes cc : ByteArray} {maxL nL mc ms n index : Nat} {ret : Option FieldType} {hh : List (Nat × Nat × Nat × Nat)} {ws : List Cond} {rm : Room} {Pc : Array Value → State → Prop} {Qc : Array Value → State → Outcome → State → Prop} {free : Addr → Prop} {Ts : List Cond} {own C : String} {b : Addr} {As rest : List Value} {g : JFrame}
    (S : CallFix p m c cc nL s args Ts own) (hM : Met l y ws rm Pc Qc mc ms free) (cw : vx_CVW R s args own C index y bytes maxL ret hh ws rm mc ms n) (hp : PreV s H C b Pc As)
    (hg : g.method = m) (hn : As.length = n) (hsize : g.locals.size = nL) (hstack : g.stack = As.reverse ++ .ref b :: rest) (hW : 2 * g.monitorRoom + (rest.map fun v => v.category).sum ≤ 8) (hdg : decode cc g.pc = .ok (.invokevirtual index, 3)) (hf : cells + mc ≤ R.cells ∧ slots + ms ≤ R.slots) :
    va_Run p l e R s m args below meth c H locs cells slots mc ms g rest (Qc (Value.ref b :: As).toArray) free := by
  obtain ⟨⟨hrc, hrs, hfr, hlo, hws, hcw⟩, hcode, hini, hy, hlen, hl, hin, hse⟩ := cw
  have hK : Back l R p e below s args y 3 8 (PreOf R mc ms Pc) (PostOf Qc mc ms free) := va_backW (hh := hh) (bytes := bytes) (maxL := maxL) (ret := ret) hM hp.1 hrc hrs hfr hlo hws hcw (fun a' U hW => word_at hW (Or.inl (by first | rfl | simp [Cond.onTables, Cond.keeps, Cond.steady])) hini)
  obtain ⟨hx, hb, hml, ho, -⟩ := S
  obtain ⟨-, ⟨cellB, hcB, hoB, hclB⟩, hPc⟩ := hp
  intro T hT X
  obtain ⟨v, vm₁, ⟨U', l2, c2, s2⟩, hW₁, X', ⟨g', mk, t, L, e1, e2, hq, h1, hL, h2, h3⟩, st⟩ := vx_callVW X hx (C := C) (hh := hh) (bytes := bytes) (maxL := maxL) (ret := ret) ho hl hin hse hcode hy hK (by rw [hT]; exact hcB) hoB hclB hg (hsize.trans hml.symm) (argsL := As) (rest := rest) (fun sig h => hn.trans (hlen sig h)) hstack hW (by rw [hb]; exact hdg)
    (fun vm₁ hW₁ => ⟨hf.1, hf.2, hPc (T.setVm vm₁) hT hW₁⟩)
  dsimp only [Pt.U, Pt.locs, Pt.cells, Pt.slots] at X' e1 e2 h1 h2 h3 st
  subst h1; subst h2; subst h3
  exact ⟨v, (T.setVm vm₁).calling g' mk (Value.ref b :: As).toArray, t, U', L, hT, X', hL, e1, e2, hq, st⟩
section
variable {y : MethodName} {bytes cc : ByteArray} {maxL nL mc ms n index : Nat} {ret : Option FieldType} {ws : List Cond} {rm : Room} {Pc : Array Value → State → Prop} {Qc : Array Value → State → Outcome → State → Prop} {XC : String → State → State → Prop} {free : Addr → Prop} {Ts : List Cond} {own C : String} {b : Addr} {As rest : List Value} {g : JFrame}
theorem vx_runVX {hh : List (Nat × Nat × Nat × Nat)} (S : CallFix p m c cc nL s args Ts own) (hM : vx_Met l y ws rm Pc Qc XC mc ms free) (cw : vx_CVW R s args own C index y bytes maxL ret hh ws rm mc ms n) (hp : PreV s H C b Pc As)
    (hg : g.method = m) (hn : As.length = n) (hsize : g.locals.size = nL) (hstack : g.stack = As.reverse ++ .ref b :: rest) (hW : 2 * g.monitorRoom + (rest.map fun v => v.category).sum ≤ 8) (hdg : decode cc g.pc = .ok (.invokevirtual index, 3)) (hf : cells + mc ≤ R.cells ∧ slots + ms ≤ R.slots) :
    vx_Run p l e R s m args below meth c H locs cells slots mc ms g rest (Qc (Value.ref b :: As).toArray) XC free := by
  obtain ⟨⟨hrc, hrs, hfr, hlo, hws, hcw⟩, hcode, hini, hy, hlen, hl, hin, hse⟩ := cw
  have hK : vx_Back l R p e below s args y 3 8 (PreOf R mc ms Pc) (PostOf Qc mc ms free) (vx_Post XC mc ms free) := vx_backW (hh := hh) (bytes := bytes) (maxL := maxL) (ret := ret) hM hp.1 hrc hrs hfr hlo hws hcw (fun a' U hW => word_at hW (Or.inl (by first | rfl | simp [Cond.onTables, Cond.keeps, Cond.steady])) hini)
  obtain ⟨hx, hb, hml, ho, -⟩ := S
  obtain ⟨-, ⟨cellB, hcB, hoB, hclB⟩, hPc⟩ := hp
  intro T hT X
  rcases vx_callVX X hx (C := C) (hh := hh) (bytes := bytes) (maxL := maxL) (ret := ret) ho hl hin hse hcode hy hK (by rw [hT]; exact hcB) hoB hclB hg (hsize.trans hml.symm) (argsL := As) (rest := rest) (fun sig h => hn.trans (hlen sig h)) hstack hW (by rw [hb]; exact hdg)
    (fun vm₁ hW₁ => ⟨hf.1, hf.2, hPc (T.setVm vm₁) hT hW₁⟩) with ⟨v, vm₁, ⟨U', l2, c2, s2⟩, hW₁, X', ⟨g', mk, t, L, e1, e2, hq, h1, hL, h2, h3⟩, st⟩ | ⟨q, vm₁, ⟨U', l2, c2, s2⟩, hW₁, X', ⟨g', mk, t, L, E, ce, e1, e2, hq, hce, hcv, hcl, h1, hL, h2, h3⟩, st⟩
  · dsimp only [Pt.U, Pt.locs, Pt.cells, Pt.slots] at X' e1 e2 h1 h2 h3 st
    subst h1; subst h2; subst h3
    exact Or.inl ⟨v, (T.setVm vm₁).calling g' mk (Value.ref b :: As).toArray, t, U', L, hT, X', hL, e1, e2, hq, st⟩
  · dsimp only [Pt.U, Pt.locs, Pt.cells, Pt.slots] at X' e1 e2 h1 h2 h3 st hcl
    subst h1; subst h2; subst h3
    exact Or.inr ⟨q, (T.setVm vm₁).calling g' mk (Value.ref b :: As).toArray, t, U', L, E, ce, hT, X', hL, e1, e2, hq, hce, hcv, vx_cls hW₁ hcl, st⟩
theorem vx_runSX {hh : List (Nat × Nat × Nat × Nat)} (S : CallFix p m c cc nL s args Ts own) (hM : vx_Met l y ws rm Pc Qc XC mc ms free) (cw : vx_CSW R s args own index y bytes maxL ret hh ws rm mc ms n) (hp : PreS s H Pc As)
    (hg : g.method = m) (hn : As.length = n) (hsize : g.locals.size = nL) (hstack : g.stack = As.reverse ++ rest) (hW : 2 * g.monitorRoom + (rest.map fun v => v.category).sum ≤ 8) (hdg : decode cc g.pc = .ok (.invokestatic index, 3)) (hf : cells + mc ≤ R.cells ∧ slots + ms ≤ R.slots) :
    vx_Run p l e R s m args below meth c H locs cells slots mc ms g rest (Qc As.toArray) XC free := by
  obtain ⟨⟨hrc, hrs, hfr, hlo, hws, hcw⟩, hcode, hini, hy, hlen, hl, hstt⟩ := cw
  have hK : vx_Back l R p e below s args y 3 8 (PreOf R mc ms Pc) (PostOf Qc mc ms free) (vx_Post XC mc ms free) := vx_backW (hh := hh) (bytes := bytes) (maxL := maxL) (ret := ret) hM hp.1 hrc hrs hfr hlo hws hcw (fun a' U hW => word_at hW (Or.inl (by first | rfl | simp [Cond.onTables, Cond.keeps, Cond.steady])) hini)
  obtain ⟨hx, hb, hml, ho, -⟩ := S
  intro T hT X
  rcases vx_callSX X hx (hh := hh) (bytes := bytes) (maxL := maxL) (ret := ret) ho hl hstt hini hcode hy hK hg (hsize.trans hml.symm) (argsL := As) (rest := rest) (fun sig h => hn.trans (hlen sig h)) hstack hW (by rw [hb]; exact hdg)
    (fun vm₁ hW₁ => ⟨hf.1, hf.2, hp.2 (T.setVm vm₁) hT hW₁⟩) with ⟨v, vm₁, ⟨U', l2, c2, s2⟩, hW₁, X', ⟨g', mk, t, L, e1, e2, hq, h1, hL, h2, h3⟩, st⟩ | ⟨q, vm₁, ⟨U', l2, c2, s2⟩, hW₁, X', ⟨g', mk, t, L, E, ce, e1, e2, hq, hce, hcv, hcl, h1, hL, h2, h3⟩, st⟩
  · dsimp only [Pt.U, Pt.locs, Pt.cells, Pt.slots] at X' e1 e2 h1 h2 h3 st
    subst h1; subst h2; subst h3
    exact Or.inl ⟨v, (T.setVm vm₁).calling g' mk As.toArray, t, U', L, hT, X', hL, e1, e2, hq, st⟩
  · dsimp only [Pt.U, Pt.locs, Pt.cells, Pt.slots] at X' e1 e2 h1 h2 h3 st hcl
    subst h1; subst h2; subst h3
    exact Or.inr ⟨q, (T.setVm vm₁).calling g' mk As.toArray, t, U', L, E, ce, hT, X', hL, e1, e2, hq, hce, hcv, vx_cls hW₁ hcl, st⟩
end
end VXH
theorem vx_ofWH {l : Launch} {y : MethodName} {ws ws' : List Cond} {rm : Room} {Pc : Array Value → State → Prop} {Qc : Array Value → State → Outcome → State → Prop} {XC : String → State → State → Prop} {mc ms : Nat} {free : Addr → Prop} {cc : ByteArray} {maxL : Nat} {ret : Option FieldType} {hh : List (Nat × Nat × Nat × Nat)}
    (hy : plainName y.cls = true) (hw : ws = Cond.codeWith y cc maxL ret hh :: ws')
    (body : ∀ p e s m args below meth c s₁, BodyLoose p l y (headSpec ws rm) cc maxL ret e s m args below meth c s₁ → c.maxLocals = maxL → Pc args s →
      W p l e (headSpec ws rm).room s m args below meth c s.heap [] 0 0 (vx_MQ below Qc XC args s mc ms free) (entryFrame m args maxL)) : vx_Met l y ws rm Pc Qc XC mc ms free := by
  refine MetFree.of_bodyS (code := cc) (maxLocals := maxL) (ret := ret) hy ?_ ?_
  · intro args s m h hn
    obtain ⟨m9, meth, c, hn9, h1, h2, h3, h4, -, h5, h6, -⟩ := Cond.codeWith_spec (atoms_spec (ws := ws) h _ (by rw [hw]; exact List.mem_cons_self))
    cases hn.symm.trans hn9
    exact ⟨meth, c, h1, h2, h3, h4, h5, h6⟩
  · intro p e s m args below meth c s₁ B hml hP _
    have hh0 : s₁.heap = s.heap := by rw [B.state]; rfl
    obtain ⟨t, a1, o, b1, b2, b3⟩ := body p e s m args below meth c s₁ B hml hP s₁ hh0 (Stand.of_body B)
    exact ⟨t, o, a1, b1, b2, b3⟩
/-! ===== END ===== -/
end
section
def RX0 : String := "SignTiles$Change"
def TX0 : u_T := fun k => match k with
  | 0 => ("SignTiles$Change", "kind", "I", true)
  | 1 => ("SignTiles$Change", "direction", "I", true)
  | _ => ("SignTiles$Change", "editor", "I", true)
def tyX0 : Nat → FieldType := fun k => match k with
  | 0 => .int
  | 1 => .int
  | _ => .int
abbrev wsX00 : List Cond := u_ws RX0 TX0 3
theorem nmX0 : ∀ a, a < 3 → ∀ b, b < 3 → a ≠ b → (TX0 a).2.1 ≠ (TX0 b).2.1 := by decide +kernel
theorem tyX0_ok : ∀ k, k < 3 → parseFieldDescriptor (TX0 k).2.2.1 = some (tyX0 k) := by decide +kernel
abbrev cX0_init : ByteArray := prog_2_method_1_code
def yX0_init : MethodName := ⟨RX0, "<init>", "(III)V"⟩
abbrev cX0_coded : ByteArray := prog_2_method_2_code
def yX0_coded : MethodName := ⟨RX0, "coded", "()I"⟩
def RX1 : String := "SignTiles$Tile"
def TX1 : u_T := fun k => match k with
  | 0 => ("SignTiles$Tile", "zoom", "I", true)
  | 1 => ("SignTiles$Tile", "left", "I", true)
  | 2 => ("SignTiles$Tile", "right", "I", true)
  | 3 => ("SignTiles$Tile", "top", "I", true)
  | 4 => ("SignTiles$Tile", "bottom", "I", true)
  | 5 => ("SignTiles$Tile", "stamp", "I", false)
  | _ => ("SignTiles$Tile", "picture", "I", false)
def tyX1 : Nat → FieldType := fun k => match k with
  | 0 => .int
  | 1 => .int
  | 2 => .int
  | 3 => .int
  | 4 => .int
  | 5 => .int
  | _ => .int
abbrev wsX10 : List Cond := u_ws RX1 TX1 7
theorem nmX1 : ∀ a, a < 7 → ∀ b, b < 7 → a ≠ b → (TX1 a).2.1 ≠ (TX1 b).2.1 := by decide +kernel
theorem tyX1_ok : ∀ k, k < 7 → parseFieldDescriptor (TX1 k).2.2.1 = some (tyX1 k) := by decide +kernel
abbrev cX1_init : ByteArray := prog_3_method_1_code
def yX1_init : MethodName := ⟨RX1, "<init>", "(III)V"⟩
abbrev cX1_shows : ByteArray := prog_3_method_2_code
def yX1_shows : MethodName := ⟨RX1, "shows", "(LSignTiles$Version;)Z"⟩
def RX2 : String := "SignTiles$Version"
def TX2 : u_T := fun k => match k with
  | 0 => ("SignTiles$Version", "change", "LSignTiles$Change;", true)
  | 1 => ("SignTiles$Version", "stamp", "I", true)
  | 2 => ("SignTiles$Version", "number", "I", true)
  | _ => ("SignTiles$Version", "ahead", "LSignTiles$Version;", true)
def tyX2 : Nat → FieldType := fun k => match k with
  | 0 => .object "SignTiles$Change"
  | 1 => .int
  | 2 => .int
  | _ => .object "SignTiles$Version"
abbrev wsX20 : List Cond := u_ws RX2 TX2 4
theorem nmX2 : ∀ a, a < 4 → ∀ b, b < 4 → a ≠ b → (TX2 a).2.1 ≠ (TX2 b).2.1 := by decide +kernel
theorem tyX2_ok : ∀ k, k < 4 → parseFieldDescriptor (TX2 k).2.2.1 = some (tyX2 k) := by decide +kernel
abbrev cX2_init : ByteArray := prog_4_method_1_code
def yX2_init : MethodName := ⟨RX2, "<init>", "(LSignTiles$Change;ILSignTiles$Version;)V"⟩
def RX3 : String := "SignTiles$Way"
def TX3 : u_T := fun k => match k with
  | 0 => ("SignTiles$Way", "beginX", "I", true)
  | 1 => ("SignTiles$Way", "beginY", "I", true)
  | 2 => ("SignTiles$Way", "endX", "I", true)
  | 3 => ("SignTiles$Way", "endY", "I", true)
  | 4 => ("SignTiles$Way", "guard", "I", false)
  | 5 => ("SignTiles$Way", "latest", "LSignTiles$Version;", false)
  | 6 => ("SignTiles$Way", "waiting", "LSignTiles$Change;", false)
  | _ => ("SignTiles$Way", "doubts", "[I", true)
def tyX3 : Nat → FieldType := fun k => match k with
  | 0 => .int
  | 1 => .int
  | 2 => .int
  | 3 => .int
  | 4 => .int
  | 5 => .object "SignTiles$Version"
  | 6 => .object "SignTiles$Change"
  | _ => .array .int
abbrev wsX30 : List Cond := u_ws RX3 TX3 8
theorem nmX3 : ∀ a, a < 8 → ∀ b, b < 8 → a ≠ b → (TX3 a).2.1 ≠ (TX3 b).2.1 := by decide +kernel
theorem tyX3_ok : ∀ k, k < 8 → parseFieldDescriptor (TX3 k).2.2.1 = some (tyX3 k) := by decide +kernel
abbrev cX3_init : ByteArray := prog_5_method_1_code
def yX3_init : MethodName := ⟨RX3, "<init>", "(IIIILSignTiles$Version;)V"⟩
abbrev cX3_kind : ByteArray := prog_5_method_2_code
def yX3_kind : MethodName := ⟨RX3, "kind", "()I"⟩
abbrev cX3_direction : ByteArray := prog_5_method_3_code
def yX3_direction : MethodName := ⟨RX3, "direction", "()I"⟩
abbrev cX3_versionCount : ByteArray := prog_5_method_4_code
def yX3_versionCount : MethodName := ⟨RX3, "versionCount", "()I"⟩
abbrev cX3_distanceFromBegin : ByteArray := prog_5_method_5_code
def yX3_distanceFromBegin : MethodName := ⟨RX3, "distanceFromBegin", "(II)I"⟩
abbrev cX3_distanceFromEnd : ByteArray := prog_5_method_6_code
def yX3_distanceFromEnd : MethodName := ⟨RX3, "distanceFromEnd", "(II)I"⟩
abbrev cX3_distanceFrom : ByteArray := prog_5_method_7_code
def yX3_distanceFrom : MethodName := ⟨RX3, "distanceFrom", "(II)I"⟩
abbrev cX3_hasPartIn : ByteArray := prog_5_method_8_code
def yX3_hasPartIn : MethodName := ⟨RX3, "hasPartIn", "(LSignTiles$Tile;)Z"⟩
abbrev cX3_shownIn : ByteArray := prog_5_method_9_code
def yX3_shownIn : MethodName := ⟨RX3, "shownIn", "(LSignTiles$Tile;I)LSignTiles$Change;"⟩
abbrev cX3_outdates : ByteArray := prog_5_method_10_code
def yX3_outdates : MethodName := ⟨RX3, "outdates", "(LSignTiles$Tile;)Z"⟩
abbrev cX3_keepSighting : ByteArray := prog_5_method_11_code
def yX3_keepSighting : MethodName := ⟨RX3, "keepSighting", "(III)V"⟩
abbrev cX3_hasAgreementOn : ByteArray := prog_5_method_12_code
def yX3_hasAgreementOn : MethodName := ⟨RX3, "hasAgreementOn", "(I)Z"⟩
abbrev cX3_forgetSightings : ByteArray := prog_5_method_13_code
def yX3_forgetSightings : MethodName := ⟨RX3, "forgetSightings", "()V"⟩
abbrev cX3_countSightings : ByteArray := prog_5_method_14_code
def yX3_countSightings : MethodName := ⟨RX3, "countSightings", "()I"⟩
abbrev cX3_dearness : ByteArray := prog_5_method_15_code
def yX3_dearness : MethodName := ⟨RX3, "dearness", "()I"⟩
def RX4 : String := "SignTiles"
def TX4 : u_T := fun k => match k with
  | 0 => ("SignTiles", "ways", "Ljava/util/ArrayList;", true)
  | 1 => ("SignTiles", "trusts", "[I", true)
  | 2 => ("SignTiles", "carX", "[I", true)
  | 3 => ("SignTiles", "carY", "[I", true)
  | 4 => ("SignTiles", "tiles", "[LSignTiles$Tile;", true)
  | _ => ("SignTiles", "changes", "I", false)
def tyX4 : Nat → FieldType := fun k => match k with
  | 0 => .object "java/util/ArrayList"
  | 1 => .array .int
  | 2 => .array .int
  | 3 => .array .int
  | 4 => .array (.object "SignTiles$Tile")
  | _ => .int
abbrev wsX40 : List Cond := u_ws RX4 TX4 6
theorem nmX4 : ∀ a, a < 6 → ∀ b, b < 6 → a ≠ b → (TX4 a).2.1 ≠ (TX4 b).2.1 := by decide +kernel
theorem tyX4_ok : ∀ k, k < 6 → parseFieldDescriptor (TX4 k).2.2.1 = some (tyX4 k) := by decide +kernel
abbrev cX4_init : ByteArray := prog_1_method_1_code
def yX4_init : MethodName := ⟨RX4, "<init>", "()V"⟩
abbrev cX4_addWay : ByteArray := prog_1_method_2_code
def yX4_addWay : MethodName := ⟨RX4, "addWay", "(IIIII)I"⟩
abbrev cX4_edit : ByteArray := prog_1_method_3_code
def yX4_edit : MethodName := ⟨RX4, "edit", "(IIII)Z"⟩
abbrev cX4_judge : ByteArray := prog_1_method_4_code
def yX4_judge : MethodName := ⟨RX4, "judge", "(IIZ)I"⟩
abbrev cX4_revert : ByteArray := prog_1_method_5_code
def yX4_revert : MethodName := ⟨RX4, "revert", "(II)I"⟩
abbrev cX4_guard : ByteArray := prog_1_method_6_code
def yX4_guard : MethodName := ⟨RX4, "guard", "(II)I"⟩
abbrev cX4_trust : ByteArray := prog_1_method_7_code
def yX4_trust : MethodName := ⟨RX4, "trust", "(I)I"⟩
abbrev cX4_ways : ByteArray := prog_1_method_8_code
def yX4_ways : MethodName := ⟨RX4, "ways", "()I"⟩
abbrev cX4_versions : ByteArray := prog_1_method_9_code
def yX4_versions : MethodName := ⟨RX4, "versions", "(I)I"⟩
abbrev cX4_version : ByteArray := prog_1_method_10_code
def yX4_version : MethodName := ⟨RX4, "version", "(II)I"⟩
abbrev cX4_stampOf : ByteArray := prog_1_method_11_code
def yX4_stampOf : MethodName := ⟨RX4, "stampOf", "(II)I"⟩
abbrev cX4_waiting : ByteArray := prog_1_method_12_code
def yX4_waiting : MethodName := ⟨RX4, "waiting", "(I)I"⟩
abbrev cX4_clock : ByteArray := prog_1_method_13_code
def yX4_clock : MethodName := ⟨RX4, "clock", "()I"⟩
abbrev cX4_draw : ByteArray := prog_1_method_14_code
def yX4_draw : MethodName := ⟨RX4, "draw", "(III)I"⟩
abbrev cX4_picture : ByteArray := prog_1_method_15_code
def yX4_picture : MethodName := ⟨RX4, "picture", "(III)I"⟩
abbrev cX4_pictureAnew : ByteArray := prog_1_method_16_code
def yX4_pictureAnew : MethodName := ⟨RX4, "pictureAnew", "(III)I"⟩
abbrev cX4_tileStamp : ByteArray := prog_1_method_17_code
def yX4_tileStamp : MethodName := ⟨RX4, "tileStamp", "(III)I"⟩
abbrev cX4_isStale : ByteArray := prog_1_method_18_code
def yX4_isStale : MethodName := ⟨RX4, "isStale", "(III)Z"⟩
abbrev cX4_staleTiles : ByteArray := prog_1_method_19_code
def yX4_staleTiles : MethodName := ⟨RX4, "staleTiles", "(I)I"⟩
abbrev cX4_refresh : ByteArray := prog_1_method_20_code
def yX4_refresh : MethodName := ⟨RX4, "refresh", "()I"⟩
abbrev cX4_drive : ByteArray := prog_1_method_21_code
def yX4_drive : MethodName := ⟨RX4, "drive", "(III)I"⟩
abbrev cX4_see : ByteArray := prog_1_method_22_code
def yX4_see : MethodName := ⟨RX4, "see", "(IIII)Z"⟩
abbrev cX4_sightings : ByteArray := prog_1_method_23_code
def yX4_sightings : MethodName := ⟨RX4, "sightings", "(I)I"⟩
abbrev cX4_dear : ByteArray := prog_1_method_24_code
def yX4_dear : MethodName := ⟨RX4, "dear", "(I)I"⟩
abbrev cX4_target : ByteArray := prog_1_method_25_code
def yX4_target : MethodName := ⟨RX4, "target", "(I)I"⟩
abbrev cX4_send : ByteArray := prog_1_method_26_code
def yX4_send : MethodName := ⟨RX4, "send", "(I)I"⟩
abbrev cX4_carAt : ByteArray := prog_1_method_27_code
def yX4_carAt : MethodName := ⟨RX4, "carAt", "(I)I"⟩
abbrev cX4_isIn : ByteArray := prog_1_method_28_code
def yX4_isIn : MethodName := ⟨RX4, "isIn", "(III)Z"⟩
abbrev cX4_isKind : ByteArray := prog_1_method_29_code
def yX4_isKind : MethodName := ⟨RX4, "isKind", "(I)Z"⟩
abbrev cX4_isDirection : ByteArray := prog_1_method_30_code
def yX4_isDirection : MethodName := ⟨RX4, "isDirection", "(I)Z"⟩
abbrev cX4_requireEditor : ByteArray := prog_1_method_31_code
def yX4_requireEditor : MethodName := ⟨RX4, "requireEditor", "(I)V"⟩
abbrev cX4_requireCrossing : ByteArray := prog_1_method_32_code
def yX4_requireCrossing : MethodName := ⟨RX4, "requireCrossing", "(II)V"⟩
abbrev cX4_requireCar : ByteArray := prog_1_method_33_code
def yX4_requireCar : MethodName := ⟨RX4, "requireCar", "(I)V"⟩
abbrev cX4_requireZoom : ByteArray := prog_1_method_34_code
def yX4_requireZoom : MethodName := ⟨RX4, "requireZoom", "(I)V"⟩
abbrev cX4_wayAt : ByteArray := prog_1_method_35_code
def yX4_wayAt : MethodName := ⟨RX4, "wayAt", "(I)LSignTiles$Way;"⟩
abbrev cX4_versionAt : ByteArray := prog_1_method_36_code
def yX4_versionAt : MethodName := ⟨RX4, "versionAt", "(LSignTiles$Way;I)LSignTiles$Version;"⟩
abbrev cX4_isFull : ByteArray := prog_1_method_37_code
def yX4_isFull : MethodName := ⟨RX4, "isFull", "()Z"⟩
abbrev cX4_newVersion : ByteArray := prog_1_method_38_code
def yX4_newVersion : MethodName := ⟨RX4, "newVersion", "(LSignTiles$Change;LSignTiles$Version;)LSignTiles$Version;"⟩
abbrev cX4_addVersion : ByteArray := prog_1_method_39_code
def yX4_addVersion : MethodName := ⟨RX4, "addVersion", "(LSignTiles$Way;LSignTiles$Change;)V"⟩
abbrev cX4_addTrust : ByteArray := prog_1_method_40_code
def yX4_addTrust : MethodName := ⟨RX4, "addTrust", "(II)I"⟩
abbrev cX4_tilesAcross : ByteArray := prog_1_method_41_code
def yX4_tilesAcross : MethodName := ⟨RX4, "tilesAcross", "(I)I"⟩
abbrev cX4_tileIndex : ByteArray := prog_1_method_42_code
def yX4_tileIndex : MethodName := ⟨RX4, "tileIndex", "(III)I"⟩
abbrev cX4_drawnTile : ByteArray := prog_1_method_43_code
def yX4_drawnTile : MethodName := ⟨RX4, "drawnTile", "(III)LSignTiles$Tile;"⟩
abbrev cX4_keepPicture : ByteArray := prog_1_method_44_code
def yX4_keepPicture : MethodName := ⟨RX4, "keepPicture", "(LSignTiles$Tile;)V"⟩
abbrev cX4_pictureAt : ByteArray := prog_1_method_45_code
def yX4_pictureAt : MethodName := ⟨RX4, "pictureAt", "(LSignTiles$Tile;I)I"⟩
abbrev cX4_countWaysIn : ByteArray := prog_1_method_46_code
def yX4_countWaysIn : MethodName := ⟨RX4, "countWaysIn", "(LSignTiles$Tile;)I"⟩
abbrev cX4_isOutdated : ByteArray := prog_1_method_47_code
def yX4_isOutdated : MethodName := ⟨RX4, "isOutdated", "(LSignTiles$Tile;)Z"⟩
abbrev cX4_distance : ByteArray := prog_1_method_48_code
def yX4_distance : MethodName := ⟨RX4, "distance", "(IIII)I"⟩
abbrev cX4_targetFrom : ByteArray := prog_1_method_49_code
def yX4_targetFrom : MethodName := ⟨RX4, "targetFrom", "(II)I"⟩
def RX5 : String := "SignTilesModel"
def TX5 : u_T := fun k => match k with
  | 0 => ("SignTilesModel", "trust", "[I", true)
  | 1 => ("SignTilesModel", "ways", "I", false)
  | 2 => ("SignTilesModel", "beginX", "[I", true)
  | 3 => ("SignTilesModel", "beginY", "[I", true)
  | 4 => ("SignTilesModel", "endX", "[I", true)
  | 5 => ("SignTilesModel", "endY", "[I", true)
  | 6 => ("SignTilesModel", "guard", "[I", true)
  | 7 => ("SignTilesModel", "versions", "[I", true)
  | 8 => ("SignTilesModel", "latest", "[I", true)
  | 9 => ("SignTilesModel", "waits", "[I", true)
  | 10 => ("SignTilesModel", "clock", "I", false)
  | 11 => ("SignTilesModel", "version", "[I", true)
  | 12 => ("SignTilesModel", "ahead", "[I", true)
  | 13 => ("SignTilesModel", "stamp", "[I", true)
  | 14 => ("SignTilesModel", "picture", "[I", true)
  | 15 => ("SignTilesModel", "carX", "[I", true)
  | 16 => ("SignTilesModel", "carY", "[I", true)
  | 17 => ("SignTilesModel", "sightings", "[I", true)
  | 18 => ("SignTilesModel", "seen", "[I", true)
  | _ => ("SignTilesModel", "thrown", "I", false)
def tyX5 : Nat → FieldType := fun k => match k with
  | 0 => .array .int
  | 1 => .int
  | 2 => .array .int
  | 3 => .array .int
  | 4 => .array .int
  | 5 => .array .int
  | 6 => .array .int
  | 7 => .array .int
  | 8 => .array .int
  | 9 => .array .int
  | 10 => .int
  | 11 => .array .int
  | 12 => .array .int
  | 13 => .array .int
  | 14 => .array .int
  | 15 => .array .int
  | 16 => .array .int
  | 17 => .array .int
  | 18 => .array .int
  | _ => .int
abbrev wsX50 : List Cond := u_ws RX5 TX5 20
theorem nmX5 : ∀ a, a < 20 → ∀ b, b < 20 → a ≠ b → (TX5 a).2.1 ≠ (TX5 b).2.1 := by decide +kernel
theorem tyX5_ok : ∀ k, k < 20 → parseFieldDescriptor (TX5 k).2.2.1 = some (tyX5 k) := by decide +kernel
abbrev cX5_init : ByteArray := prog_7_method_1_code
def yX5_init : MethodName := ⟨RX5, "<init>", "()V"⟩
abbrev cX5_thrown : ByteArray := prog_7_method_2_code
def yX5_thrown : MethodName := ⟨RX5, "thrown", "()I"⟩
abbrev cX5_fails : ByteArray := prog_7_method_3_code
def yX5_fails : MethodName := ⟨RX5, "fails", "(I)I"⟩
abbrev cX5_asks : ByteArray := prog_7_method_4_code
def yX5_asks : MethodName := ⟨RX5, "asks", "(Z)Z"⟩
abbrev cX5_in : ByteArray := prog_7_method_5_code
def yX5_in : MethodName := ⟨RX5, "in", "(III)Z"⟩
abbrev cX5_isEditor : ByteArray := prog_7_method_6_code
def yX5_isEditor : MethodName := ⟨RX5, "isEditor", "(I)Z"⟩
abbrev cX5_isCrossing : ByteArray := prog_7_method_7_code
def yX5_isCrossing : MethodName := ⟨RX5, "isCrossing", "(II)Z"⟩
abbrev cX5_isWay : ByteArray := prog_7_method_8_code
def yX5_isWay : MethodName := ⟨RX5, "isWay", "(I)Z"⟩
abbrev cX5_kindNow : ByteArray := prog_7_method_9_code
def yX5_kindNow : MethodName := ⟨RX5, "kindNow", "(I)I"⟩
abbrev cX5_directionNow : ByteArray := prog_7_method_10_code
def yX5_directionNow : MethodName := ⟨RX5, "directionNow", "(I)I"⟩
abbrev cX5_makes : ByteArray := prog_7_method_11_code
def yX5_makes : MethodName := ⟨RX5, "makes", "(IIII)V"⟩
abbrev cX5_addWay : ByteArray := prog_7_method_12_code
def yX5_addWay : MethodName := ⟨RX5, "addWay", "(IIIII)I"⟩
abbrev cX5_edit : ByteArray := prog_7_method_13_code
def yX5_edit : MethodName := ⟨RX5, "edit", "(IIII)Z"⟩
abbrev cX5_trusts : ByteArray := prog_7_method_14_code
def yX5_trusts : MethodName := ⟨RX5, "trusts", "(II)V"⟩
abbrev cX5_judge : ByteArray := prog_7_method_15_code
def yX5_judge : MethodName := ⟨RX5, "judge", "(IIZ)I"⟩
abbrev cX5_revert : ByteArray := prog_7_method_16_code
def yX5_revert : MethodName := ⟨RX5, "revert", "(II)I"⟩
abbrev cX5_guard : ByteArray := prog_7_method_17_code
def yX5_guard : MethodName := ⟨RX5, "guard", "(II)I"⟩
abbrev cX5_trust : ByteArray := prog_7_method_18_code
def yX5_trust : MethodName := ⟨RX5, "trust", "(I)I"⟩
abbrev cX5_ways : ByteArray := prog_7_method_19_code
def yX5_ways : MethodName := ⟨RX5, "ways", "()I"⟩
abbrev cX5_versions : ByteArray := prog_7_method_20_code
def yX5_versions : MethodName := ⟨RX5, "versions", "(I)I"⟩
abbrev cX5_placeOf : ByteArray := prog_7_method_21_code
def yX5_placeOf : MethodName := ⟨RX5, "placeOf", "(II)I"⟩
abbrev cX5_version : ByteArray := prog_7_method_22_code
def yX5_version : MethodName := ⟨RX5, "version", "(II)I"⟩
abbrev cX5_stampOf : ByteArray := prog_7_method_23_code
def yX5_stampOf : MethodName := ⟨RX5, "stampOf", "(II)I"⟩
abbrev cX5_waiting : ByteArray := prog_7_method_24_code
def yX5_waiting : MethodName := ⟨RX5, "waiting", "(I)I"⟩
abbrev cX5_clock : ByteArray := prog_7_method_25_code
def yX5_clock : MethodName := ⟨RX5, "clock", "()I"⟩
abbrev cX5_tileAt : ByteArray := prog_7_method_26_code
def yX5_tileAt : MethodName := ⟨RX5, "tileAt", "(III)I"⟩
abbrev cX5_isIn : ByteArray := prog_7_method_27_code
def yX5_isIn : MethodName := ⟨RX5, "isIn", "(IIII)Z"⟩
abbrev cX5_isShown : ByteArray := prog_7_method_28_code
def yX5_isShown : MethodName := ⟨RX5, "isShown", "(II)Z"⟩
abbrev cX5_drawn : ByteArray := prog_7_method_29_code
def yX5_drawn : MethodName := ⟨RX5, "drawn", "(IIII)I"⟩
abbrev cX5_draws : ByteArray := prog_7_method_30_code
def yX5_draws : MethodName := ⟨RX5, "draws", "(IIII)V"⟩
abbrev cX5_draw : ByteArray := prog_7_method_31_code
def yX5_draw : MethodName := ⟨RX5, "draw", "(III)I"⟩
abbrev cX5_picture : ByteArray := prog_7_method_32_code
def yX5_picture : MethodName := ⟨RX5, "picture", "(III)I"⟩
abbrev cX5_pictureAnew : ByteArray := prog_7_method_33_code
def yX5_pictureAnew : MethodName := ⟨RX5, "pictureAnew", "(III)I"⟩
abbrev cX5_tileStamp : ByteArray := prog_7_method_34_code
def yX5_tileStamp : MethodName := ⟨RX5, "tileStamp", "(III)I"⟩
abbrev cX5_isOld : ByteArray := prog_7_method_35_code
def yX5_isOld : MethodName := ⟨RX5, "isOld", "(IIII)Z"⟩
abbrev cX5_isStale : ByteArray := prog_7_method_36_code
def yX5_isStale : MethodName := ⟨RX5, "isStale", "(III)Z"⟩
abbrev cX5_stales : ByteArray := prog_7_method_37_code
def yX5_stales : MethodName := ⟨RX5, "stales", "(IZ)I"⟩
abbrev cX5_staleTiles : ByteArray := prog_7_method_38_code
def yX5_staleTiles : MethodName := ⟨RX5, "staleTiles", "(I)I"⟩
abbrev cX5_refresh : ByteArray := prog_7_method_39_code
def yX5_refresh : MethodName := ⟨RX5, "refresh", "()I"⟩
abbrev cX5_isCar : ByteArray := prog_7_method_40_code
def yX5_isCar : MethodName := ⟨RX5, "isCar", "(I)Z"⟩
abbrev cX5_far : ByteArray := prog_7_method_41_code
def yX5_far : MethodName := ⟨RX5, "far", "(III)I"⟩
abbrev cX5_goes : ByteArray := prog_7_method_42_code
def yX5_goes : MethodName := ⟨RX5, "goes", "(III)I"⟩
abbrev cX5_drive : ByteArray := prog_7_method_43_code
def yX5_drive : MethodName := ⟨RX5, "drive", "(III)I"⟩
abbrev cX5_clears : ByteArray := prog_7_method_44_code
def yX5_clears : MethodName := ⟨RX5, "clears", "(IIII)V"⟩
abbrev cX5_agree : ByteArray := prog_7_method_45_code
def yX5_agree : MethodName := ⟨RX5, "agree", "(II)Z"⟩
abbrev cX5_see : ByteArray := prog_7_method_46_code
def yX5_see : MethodName := ⟨RX5, "see", "(IIII)Z"⟩
abbrev cX5_sightings : ByteArray := prog_7_method_47_code
def yX5_sightings : MethodName := ⟨RX5, "sightings", "(I)I"⟩
abbrev cX5_dearBy : ByteArray := prog_7_method_48_code
def yX5_dearBy : MethodName := ⟨RX5, "dearBy", "(I)I"⟩
abbrev cX5_dear : ByteArray := prog_7_method_49_code
def yX5_dear : MethodName := ⟨RX5, "dear", "(I)I"⟩
abbrev cX5_nearest : ByteArray := prog_7_method_50_code
def yX5_nearest : MethodName := ⟨RX5, "nearest", "(II)I"⟩
abbrev cX5_targetOf : ByteArray := prog_7_method_51_code
def yX5_targetOf : MethodName := ⟨RX5, "targetOf", "(I)I"⟩
abbrev cX5_target : ByteArray := prog_7_method_52_code
def yX5_target : MethodName := ⟨RX5, "target", "(I)I"⟩
abbrev cX5_send : ByteArray := prog_7_method_53_code
def yX5_send : MethodName := ⟨RX5, "send", "(I)I"⟩
abbrev cX5_carAt : ByteArray := prog_7_method_54_code
def yX5_carAt : MethodName := ⟨RX5, "carAt", "(I)I"⟩
def RJx145de : String := "java/io/Serializable"
def TJx145de : u_T := fun k => match k with
  | _ => ("", "", "", false)
def tyJx145de : Nat → FieldType := fun k => match k with
  | _ => .int
abbrev wsJx145de0 : List Cond := u_ws RJx145de TJx145de 0
theorem nmJx145de : ∀ a, a < 0 → ∀ b, b < 0 → a ≠ b → (TJx145de a).2.1 ≠ (TJx145de b).2.1 := by decide +kernel
theorem tyJx145de_ok : ∀ k, k < 0 → parseFieldDescriptor (TJx145de k).2.2.1 = some (tyJx145de k) := by decide +kernel
def RJx8e188 : String := "java/lang/Cloneable"
def TJx8e188 : u_T := fun k => match k with
  | _ => ("", "", "", false)
def tyJx8e188 : Nat → FieldType := fun k => match k with
  | _ => .int
abbrev wsJx8e1880 : List Cond := u_ws RJx8e188 TJx8e188 0
theorem nmJx8e188 : ∀ a, a < 0 → ∀ b, b < 0 → a ≠ b → (TJx8e188 a).2.1 ≠ (TJx8e188 b).2.1 := by decide +kernel
theorem tyJx8e188_ok : ∀ k, k < 0 → parseFieldDescriptor (TJx8e188 k).2.2.1 = some (tyJx8e188 k) := by decide +kernel
def RJxab1ab : String := "java/lang/Iterable"
def TJxab1ab : u_T := fun k => match k with
  | _ => ("", "", "", false)
def tyJxab1ab : Nat → FieldType := fun k => match k with
  | _ => .int
abbrev wsJxab1ab0 : List Cond := u_ws RJxab1ab TJxab1ab 0
theorem nmJxab1ab : ∀ a, a < 0 → ∀ b, b < 0 → a ≠ b → (TJxab1ab a).2.1 ≠ (TJxab1ab b).2.1 := by decide +kernel
theorem tyJxab1ab_ok : ∀ k, k < 0 → parseFieldDescriptor (TJxab1ab k).2.2.1 = some (tyJxab1ab k) := by decide +kernel
def RJ9 : String := "java/lang/Math"
def TJ9 : u_T := fun k => match k with
  | _ => ("", "", "", false)
def tyJ9 : Nat → FieldType := fun k => match k with
  | _ => .int
abbrev wsJ90 : List Cond := u_ws RJ9 TJ9 0
theorem nmJ9 : ∀ a, a < 0 → ∀ b, b < 0 → a ≠ b → (TJ9 a).2.1 ≠ (TJ9 b).2.1 := by decide +kernel
theorem tyJ9_ok : ∀ k, k < 0 → parseFieldDescriptor (TJ9 k).2.2.1 = some (tyJ9 k) := by decide +kernel
abbrev cJ9_abs_0f7a4 : ByteArray := prog_15_method_59_code
def yJ9_abs_0f7a4 : MethodName := ⟨RJ9, "abs", "(I)I"⟩
abbrev cJ9_max_7cf53 : ByteArray := prog_15_method_65_code
def yJ9_max_7cf53 : MethodName := ⟨RJ9, "max", "(II)I"⟩
abbrev cJ9_min_7cf53 : ByteArray := prog_15_method_69_code
def yJ9_min_7cf53 : MethodName := ⟨RJ9, "min", "(II)I"⟩
def RJ0 : String := "java/lang/String"
def TJ0 : u_T := fun k => match k with
  | _ => ("", "", "", false)
def tyJ0 : Nat → FieldType := fun k => match k with
  | _ => .int
abbrev wsJ00 : List Cond := u_ws RJ0 TJ0 0
theorem nmJ0 : ∀ a, a < 0 → ∀ b, b < 0 → a ≠ b → (TJ0 a).2.1 ≠ (TJ0 b).2.1 := by decide +kernel
theorem tyJ0_ok : ∀ k, k < 0 → parseFieldDescriptor (TJ0 k).2.2.1 = some (tyJ0 k) := by decide +kernel
def RJ10 : String := "java/lang/System"
def TJ10 : u_T := fun k => match k with
  | _ => ("", "", "", false)
def tyJ10 : Nat → FieldType := fun k => match k with
  | _ => .int
abbrev wsJ100 : List Cond := u_ws RJ10 TJ10 0
theorem nmJ10 : ∀ a, a < 0 → ∀ b, b < 0 → a ≠ b → (TJ10 a).2.1 ≠ (TJ10 b).2.1 := by decide +kernel
theorem tyJ10_ok : ∀ k, k < 0 → parseFieldDescriptor (TJ10 k).2.2.1 = some (tyJ10 k) := by decide +kernel
def RJxa1e45 : String := "java/util/AbstractCollection"
def TJxa1e45 : u_T := fun k => match k with
  | _ => ("", "", "", false)
def tyJxa1e45 : Nat → FieldType := fun k => match k with
  | _ => .int
abbrev wsJxa1e450 : List Cond := u_ws RJxa1e45 TJxa1e45 0
theorem nmJxa1e45 : ∀ a, a < 0 → ∀ b, b < 0 → a ≠ b → (TJxa1e45 a).2.1 ≠ (TJxa1e45 b).2.1 := by decide +kernel
theorem tyJxa1e45_ok : ∀ k, k < 0 → parseFieldDescriptor (TJxa1e45 k).2.2.1 = some (tyJxa1e45 k) := by decide +kernel
abbrev cJxa1e45_init_da8c8 : ByteArray := prog_20_method_1_code
def yJxa1e45_init_da8c8 : MethodName := ⟨RJxa1e45, "<init>", "()V"⟩
def RJxc12de : String := "java/util/AbstractList"
def TJxc12de : u_T := fun k => match k with
  | _ => ("", "", "", false)
def tyJxc12de : Nat → FieldType := fun k => match k with
  | _ => .int
abbrev wsJxc12de0 : List Cond := u_ws RJxc12de TJxc12de 0
theorem nmJxc12de : ∀ a, a < 0 → ∀ b, b < 0 → a ≠ b → (TJxc12de a).2.1 ≠ (TJxc12de b).2.1 := by decide +kernel
theorem tyJxc12de_ok : ∀ k, k < 0 → parseFieldDescriptor (TJxc12de k).2.2.1 = some (tyJxc12de k) := by decide +kernel
abbrev cJxc12de_init_da8c8 : ByteArray := prog_21_method_1_code
def yJxc12de_init_da8c8 : MethodName := ⟨RJxc12de, "<init>", "()V"⟩
def RJx4a65c : String := "java/util/ArrayList"
def TJx4a65c : u_T := fun k => match k with
  | 0 => ("java/util/AbstractList", "modCount", "I", false)
  | 1 => ("java/util/ArrayList", "elementData", "[Ljava/lang/Object;", false)
  | _ => ("java/util/ArrayList", "size", "I", false)
def tyJx4a65c : Nat → FieldType := fun k => match k with
  | 0 => .int
  | 1 => .array (.object "java/lang/Object")
  | _ => .int
abbrev wsJx4a65c0 : List Cond := u_ws RJx4a65c TJx4a65c 3
theorem nmJx4a65c : ∀ a, a < 3 → ∀ b, b < 3 → a ≠ b → (TJx4a65c a).2.1 ≠ (TJx4a65c b).2.1 := by decide +kernel
theorem tyJx4a65c_ok : ∀ k, k < 3 → parseFieldDescriptor (TJx4a65c k).2.2.1 = some (tyJx4a65c k) := by decide +kernel
abbrev cJx4a65c_init_da8c8 : ByteArray := prog_22_method_2_code
def yJx4a65c_init_da8c8 : MethodName := ⟨RJx4a65c, "<init>", "()V"⟩
abbrev cJx4a65c_grow_92f84 : ByteArray := prog_22_method_6_code
def yJx4a65c_grow_92f84 : MethodName := ⟨RJx4a65c, "grow", "(I)[Ljava/lang/Object;"⟩
abbrev cJx4a65c_grow_d5877 : ByteArray := prog_22_method_7_code
def yJx4a65c_grow_d5877 : MethodName := ⟨RJx4a65c, "grow", "()[Ljava/lang/Object;"⟩
abbrev cJx4a65c_size_8abf5 : ByteArray := prog_22_method_8_code
def yJx4a65c_size_8abf5 : MethodName := ⟨RJx4a65c, "size", "()I"⟩
abbrev cJx4a65c_elementData_915e3 : ByteArray := prog_22_method_18_code
def yJx4a65c_elementData_915e3 : MethodName := ⟨RJx4a65c, "elementData", "(I)Ljava/lang/Object;"⟩
abbrev cJx4a65c_get_915e3 : ByteArray := prog_22_method_20_code
def yJx4a65c_get_915e3 : MethodName := ⟨RJx4a65c, "get", "(I)Ljava/lang/Object;"⟩
abbrev cJx4a65c_add_72be8 : ByteArray := prog_22_method_24_code
def yJx4a65c_add_72be8 : MethodName := ⟨RJx4a65c, "add", "(Ljava/lang/Object;[Ljava/lang/Object;I)V"⟩
abbrev cJx4a65c_add_9ea2d : ByteArray := prog_22_method_25_code
def yJx4a65c_add_9ea2d : MethodName := ⟨RJx4a65c, "add", "(Ljava/lang/Object;)Z"⟩
def RJ7 : String := "java/util/Arrays"
def TJ7 : u_T := fun k => match k with
  | _ => ("", "", "", false)
def tyJ7 : Nat → FieldType := fun k => match k with
  | _ => .int
abbrev wsJ70 : List Cond := u_ws RJ7 TJ7 0
theorem nmJ7 : ∀ a, a < 0 → ∀ b, b < 0 → a ≠ b → (TJ7 a).2.1 ≠ (TJ7 b).2.1 := by decide +kernel
theorem tyJ7_ok : ∀ k, k < 0 → parseFieldDescriptor (TJ7 k).2.2.1 = some (tyJ7 k) := by decide +kernel
abbrev cJ7_fill_53178 : ByteArray := prog_23_method_103_code
def yJ7_fill_53178 : MethodName := ⟨RJ7, "fill", "([II)V"⟩
abbrev cJ7_copyOf_1904c : ByteArray := prog_23_method_119_code
def yJ7_copyOf_1904c : MethodName := ⟨RJ7, "copyOf", "([Ljava/lang/Object;I)[Ljava/lang/Object;"⟩
abbrev cJ7_copyOf_6403c : ByteArray := prog_23_method_120_code
def yJ7_copyOf_6403c : MethodName := ⟨RJ7, "copyOf", "([Ljava/lang/Object;ILjava/lang/Class;)[Ljava/lang/Object;"⟩
def RJx5ef63 : String := "java/util/Collection"
def TJx5ef63 : u_T := fun k => match k with
  | _ => ("", "", "", false)
def tyJx5ef63 : Nat → FieldType := fun k => match k with
  | _ => .int
abbrev wsJx5ef630 : List Cond := u_ws RJx5ef63 TJx5ef63 0
theorem nmJx5ef63 : ∀ a, a < 0 → ∀ b, b < 0 → a ≠ b → (TJx5ef63 a).2.1 ≠ (TJx5ef63 b).2.1 := by decide +kernel
theorem tyJx5ef63_ok : ∀ k, k < 0 → parseFieldDescriptor (TJx5ef63 k).2.2.1 = some (tyJx5ef63 k) := by decide +kernel
def RJxbd725 : String := "java/util/List"
def TJxbd725 : u_T := fun k => match k with
  | _ => ("", "", "", false)
def tyJxbd725 : Nat → FieldType := fun k => match k with
  | _ => .int
abbrev wsJxbd7250 : List Cond := u_ws RJxbd725 TJxbd725 0
theorem nmJxbd725 : ∀ a, a < 0 → ∀ b, b < 0 → a ≠ b → (TJxbd725 a).2.1 ≠ (TJxbd725 b).2.1 := by decide +kernel
theorem tyJxbd725_ok : ∀ k, k < 0 → parseFieldDescriptor (TJxbd725 k).2.2.1 = some (tyJxbd725 k) := by decide +kernel
def RJ15 : String := "java/util/Objects"
def TJ15 : u_T := fun k => match k with
  | _ => ("", "", "", false)
def tyJ15 : Nat → FieldType := fun k => match k with
  | _ => .int
abbrev wsJ150 : List Cond := u_ws RJ15 TJ15 0
theorem nmJ15 : ∀ a, a < 0 → ∀ b, b < 0 → a ≠ b → (TJ15 a).2.1 ≠ (TJ15 b).2.1 := by decide +kernel
theorem tyJ15_ok : ∀ k, k < 0 → parseFieldDescriptor (TJ15 k).2.2.1 = some (tyJ15 k) := by decide +kernel
abbrev cJ15_checkIndex_7cf53 : ByteArray := prog_26_method_17_code
def yJ15_checkIndex_7cf53 : MethodName := ⟨RJ15, "checkIndex", "(II)I"⟩
def RJxf0a74 : String := "java/util/RandomAccess"
def TJxf0a74 : u_T := fun k => match k with
  | _ => ("", "", "", false)
def tyJxf0a74 : Nat → FieldType := fun k => match k with
  | _ => .int
abbrev wsJxf0a740 : List Cond := u_ws RJxf0a74 TJxf0a74 0
theorem nmJxf0a74 : ∀ a, a < 0 → ∀ b, b < 0 → a ≠ b → (TJxf0a74 a).2.1 ≠ (TJxf0a74 b).2.1 := by decide +kernel
theorem tyJxf0a74_ok : ∀ k, k < 0 → parseFieldDescriptor (TJxf0a74 k).2.2.1 = some (tyJxf0a74 k) := by decide +kernel
def RJxa66e6 : String := "java/util/SequencedCollection"
def TJxa66e6 : u_T := fun k => match k with
  | _ => ("", "", "", false)
def tyJxa66e6 : Nat → FieldType := fun k => match k with
  | _ => .int
abbrev wsJxa66e60 : List Cond := u_ws RJxa66e6 TJxa66e6 0
theorem nmJxa66e6 : ∀ a, a < 0 → ∀ b, b < 0 → a ≠ b → (TJxa66e6 a).2.1 ≠ (TJxa66e6 b).2.1 := by decide +kernel
theorem tyJxa66e6_ok : ∀ k, k < 0 → parseFieldDescriptor (TJxa66e6 k).2.2.1 = some (tyJxa66e6 k) := by decide +kernel
def RJ8 : String := "jdk/internal/util/ArraysSupport"
def TJ8 : u_T := fun k => match k with
  | _ => ("", "", "", false)
def tyJ8 : Nat → FieldType := fun k => match k with
  | _ => .int
abbrev wsJ80 : List Cond := u_ws RJ8 TJ8 0
theorem nmJ8 : ∀ a, a < 0 → ∀ b, b < 0 → a ≠ b → (TJ8 a).2.1 ≠ (TJ8 b).2.1 := by decide +kernel
theorem tyJ8_ok : ∀ k, k < 0 → parseFieldDescriptor (TJ8 k).2.2.1 = some (tyJ8 k) := by decide +kernel
abbrev cJ8_newLength_cabcc : ByteArray := prog_29_method_27_code
def yJ8_newLength_cabcc : MethodName := ⟨RJ8, "newLength", "(III)I"⟩
abbrev cJ8_hugeLength_7cf53 : ByteArray := prog_29_method_28_code
def yJ8_hugeLength_7cf53 : MethodName := ⟨RJ8, "hugeLength", "(II)I"⟩
def RJ3 : String := "jdk/internal/util/Preconditions"
def TJ3 : u_T := fun k => match k with
  | _ => ("", "", "", false)
def tyJ3 : Nat → FieldType := fun k => match k with
  | _ => .int
abbrev wsJ30 : List Cond := u_ws RJ3 TJ3 0
theorem nmJ3 : ∀ a, a < 0 → ∀ b, b < 0 → a ≠ b → (TJ3 a).2.1 ≠ (TJ3 b).2.1 := by decide +kernel
theorem tyJ3_ok : ∀ k, k < 0 → parseFieldDescriptor (TJ3 k).2.2.1 = some (tyJ3 k) := by decide +kernel
abbrev cJ3_checkIndex_8e157 : ByteArray := prog_30_method_11_code
def yJ3_checkIndex_8e157 : MethodName := ⟨RJ3, "checkIndex", "(IILjava/util/function/BiFunction;)I"⟩
def RL : String := "SignTilesLaw"
abbrev cL_addWay : ByteArray := method_3_code
def yL_addWay : MethodName := ⟨RL, "addWay", "(LSignTiles;IIIII[J)I"⟩
abbrev cL_edit : ByteArray := method_4_code
def yL_edit : MethodName := ⟨RL, "edit", "(LSignTiles;IIII[J)I"⟩
abbrev cL_judge : ByteArray := method_5_code
def yL_judge : MethodName := ⟨RL, "judge", "(LSignTiles;IIZ[J)I"⟩
abbrev cL_revert : ByteArray := method_6_code
def yL_revert : MethodName := ⟨RL, "revert", "(LSignTiles;II[J)I"⟩
abbrev cL_guard : ByteArray := method_7_code
def yL_guard : MethodName := ⟨RL, "guard", "(LSignTiles;II[J)I"⟩
abbrev cL_trust : ByteArray := method_8_code
def yL_trust : MethodName := ⟨RL, "trust", "(LSignTiles;I[J)I"⟩
abbrev cL_versions : ByteArray := method_9_code
def yL_versions : MethodName := ⟨RL, "versions", "(LSignTiles;I[J)I"⟩
abbrev cL_version : ByteArray := method_10_code
def yL_version : MethodName := ⟨RL, "version", "(LSignTiles;II[J)I"⟩
abbrev cL_stampOf : ByteArray := method_11_code
def yL_stampOf : MethodName := ⟨RL, "stampOf", "(LSignTiles;II[J)I"⟩
abbrev cL_waiting : ByteArray := method_12_code
def yL_waiting : MethodName := ⟨RL, "waiting", "(LSignTiles;I[J)I"⟩
abbrev cL_draw : ByteArray := method_13_code
def yL_draw : MethodName := ⟨RL, "draw", "(LSignTiles;III[J)I"⟩
abbrev cL_picture : ByteArray := method_14_code
def yL_picture : MethodName := ⟨RL, "picture", "(LSignTiles;III[J)I"⟩
abbrev cL_pictureAnew : ByteArray := method_15_code
def yL_pictureAnew : MethodName := ⟨RL, "pictureAnew", "(LSignTiles;III[J)I"⟩
abbrev cL_tileStamp : ByteArray := method_16_code
def yL_tileStamp : MethodName := ⟨RL, "tileStamp", "(LSignTiles;III[J)I"⟩
abbrev cL_isStale : ByteArray := method_17_code
def yL_isStale : MethodName := ⟨RL, "isStale", "(LSignTiles;III[J)I"⟩
abbrev cL_staleTiles : ByteArray := method_18_code
def yL_staleTiles : MethodName := ⟨RL, "staleTiles", "(LSignTiles;I[J)I"⟩
abbrev cL_drive : ByteArray := method_19_code
def yL_drive : MethodName := ⟨RL, "drive", "(LSignTiles;III[J)I"⟩
abbrev cL_see : ByteArray := method_20_code
def yL_see : MethodName := ⟨RL, "see", "(LSignTiles;IIII[J)I"⟩
abbrev cL_sightings : ByteArray := method_21_code
def yL_sightings : MethodName := ⟨RL, "sightings", "(LSignTiles;I[J)I"⟩
abbrev cL_dear : ByteArray := method_22_code
def yL_dear : MethodName := ⟨RL, "dear", "(LSignTiles;I[J)I"⟩
abbrev cL_target : ByteArray := method_23_code
def yL_target : MethodName := ⟨RL, "target", "(LSignTiles;I[J)I"⟩
abbrev cL_send : ByteArray := method_24_code
def yL_send : MethodName := ⟨RL, "send", "(LSignTiles;I[J)I"⟩
abbrev cL_carAt : ByteArray := method_25_code
def yL_carAt : MethodName := ⟨RL, "carAt", "(LSignTiles;I[J)I"⟩
abbrev cL_law : ByteArray := code
def yL_law : MethodName := ⟨RL, "law", "([I)Z"⟩
abbrev vwCl : List vw_C := [(RJx4a65c, TJx4a65c, 3), (RX0, TX0, 3), (RX1, TX1, 7), (RX2, TX2, 4), (RX3, TX3, 8), (RX4, TX4, 6), (RX5, TX5, 20)]
end
section
def wsL_law0_r1 : List Cond := [Cond.classLink RL 8 RX4, Cond.instantiable RX4 6, Cond.initialized RX4, Cond.classLink RL 92 RX5, Cond.instantiable RX5 20, Cond.initialized RX5, Cond.arrayClass .long, Cond.methodLink RL 91 yX4_init, Cond.instanceMethod yX4_init, Cond.code yX4_init cX4_init 1 none, Cond.methodLink RX4 1 objectInit, Cond.instanceMethod objectInit, Cond.code objectInit ⟨#[0xb1]⟩ 1 none, Cond.classLink RX4 7 RJx4a65c, Cond.instantiable RJx4a65c 3, Cond.initialized RJx4a65c, Cond.fieldLink RX4 10 "SignTiles" "ways" "Ljava/util/ArrayList;", Cond.arrayClass .int, Cond.fieldLink RX4 16 "SignTiles" "trusts" "[I", Cond.fieldLink RX4 20 "SignTiles" "carX" "[I", Cond.fieldLink RX4 23 "SignTiles" "carY" "[I", Cond.classLink RX4 26 RX1, Cond.fieldLink RX4 28 "SignTiles" "tiles" "[LSignTiles$Tile;", Cond.fieldLink RX4 32 "SignTiles" "changes" "I"]
def wsL_law0_r2 : List Cond := [Cond.methodLink RX4 9 yJx4a65c_init_da8c8, Cond.instanceMethod yJx4a65c_init_da8c8, Cond.code yJx4a65c_init_da8c8 cJx4a65c_init_da8c8 1 none, Cond.fieldLink RJx4a65c 39 "java/util/ArrayList" "DEFAULTCAPACITY_EMPTY_ELEMENTDATA" "[Ljava/lang/Object;", Cond.fieldLink RJx4a65c 9 "java/util/ArrayList" "elementData" "[Ljava/lang/Object;", Cond.methodLink RJx4a65c 1 yJxc12de_init_da8c8, Cond.instanceMethod yJxc12de_init_da8c8, Cond.initialized RJxc12de, Cond.code yJxc12de_init_da8c8 cJxc12de_init_da8c8 1 none, Cond.fieldLink RJxc12de 7 "java/util/AbstractList" "modCount" "I", Cond.methodLink RJxc12de 1 yJxa1e45_init_da8c8, Cond.instanceMethod yJxa1e45_init_da8c8, Cond.initialized RJxa1e45, Cond.code yJxa1e45_init_da8c8 cJxa1e45_init_da8c8 1 none, Cond.methodLink RJxa1e45 1 objectInit, Cond.methodLink RX4 36 yJ7_fill_53178, Cond.static yJ7_fill_53178, Cond.initialized RJ7, Cond.code yJ7_fill_53178 cJ7_fill_53178 4 none, Cond.methodLink RL 94 yX5_init, Cond.instanceMethod yX5_init, Cond.code yX5_init cX5_init 2 none, Cond.methodLink RX5 1 objectInit, Cond.fieldLink RX5 7 "SignTilesModel" "trust" "[I"]
def wsL_law0_r3 : List Cond := [Cond.fieldLink RX5 13 "SignTilesModel" "beginX" "[I", Cond.fieldLink RX5 16 "SignTilesModel" "beginY" "[I", Cond.fieldLink RX5 19 "SignTilesModel" "endX" "[I", Cond.fieldLink RX5 22 "SignTilesModel" "endY" "[I", Cond.fieldLink RX5 25 "SignTilesModel" "guard" "[I", Cond.fieldLink RX5 28 "SignTilesModel" "versions" "[I", Cond.fieldLink RX5 31 "SignTilesModel" "latest" "[I", Cond.fieldLink RX5 34 "SignTilesModel" "waits" "[I", Cond.fieldLink RX5 37 "SignTilesModel" "version" "[I", Cond.fieldLink RX5 40 "SignTilesModel" "ahead" "[I", Cond.fieldLink RX5 43 "SignTilesModel" "stamp" "[I", Cond.fieldLink RX5 46 "SignTilesModel" "picture" "[I", Cond.fieldLink RX5 49 "SignTilesModel" "carX" "[I", Cond.fieldLink RX5 52 "SignTilesModel" "carY" "[I", Cond.fieldLink RX5 55 "SignTilesModel" "sightings" "[I", Cond.fieldLink RX5 58 "SignTilesModel" "seen" "[I", Cond.methodLink RL 95 yL_addWay, Cond.static yL_addWay, Cond.initialized RL, Cond.codeWith yL_addWay cL_addWay 8 (some .int) [(0, 16, 19, 13), (0, 16, 23, 15), (0, 16, 27, 17)], Cond.classLink RL 13 "java/lang/IndexOutOfBoundsException", Cond.classLink RL 15 "java/lang/IllegalArgumentException", Cond.classLink RL 17 "java/lang/IllegalStateException", Cond.methodLink RL 7 yX4_addWay]
def wsL_law0_r4 : List Cond := [Cond.instanceMethod yX4_addWay, Cond.selects RX4 yX4_addWay yX4_addWay, Cond.code yX4_addWay cX4_addWay 9 (some .int), Cond.classLink RX4 58 "java/lang/IllegalArgumentException", Cond.initialized "java/lang/IllegalArgumentException", Cond.classLink RX4 73 "java/lang/IllegalStateException", Cond.initialized "java/lang/IllegalStateException", Cond.classLink RX4 78 RX3, Cond.instantiable RX3 8, Cond.initialized RX3, Cond.classLink RX4 80 RX0, Cond.instantiable RX0 3, Cond.initialized RX0, Cond.methodLink RX4 42 yX4_requireEditor, Cond.static yX4_requireEditor, Cond.code yX4_requireEditor cX4_requireEditor 1 none, Cond.classLink RX4 259 "java/lang/IndexOutOfBoundsException", Cond.initialized "java/lang/IndexOutOfBoundsException", Cond.methodLink RX4 50 yX4_isIn, Cond.static yX4_isIn, Cond.code yX4_isIn cX4_isIn 3 (some .boolean), Cond.methodLink RX4 46 yX4_requireCrossing, Cond.static yX4_requireCrossing, Cond.code yX4_requireCrossing cX4_requireCrossing 2 none]
def wsL_law0_r5 : List Cond := [Cond.methodLink RX4 54 yX4_isKind, Cond.static yX4_isKind, Cond.code yX4_isKind cX4_isKind 1 (some .boolean), Cond.methodLink RX4 65 yJx4a65c_size_8abf5, Cond.instanceMethod yJx4a65c_size_8abf5, Cond.selects RJx4a65c yJx4a65c_size_8abf5 yJx4a65c_size_8abf5, Cond.code yJx4a65c_size_8abf5 cJx4a65c_size_8abf5 1 (some .int), Cond.fieldLink RJx4a65c 48 "java/util/ArrayList" "size" "I", Cond.methodLink RX4 69 yX4_isFull, Cond.instanceMethod yX4_isFull, Cond.selects RX4 yX4_isFull yX4_isFull, Cond.code yX4_isFull cX4_isFull 1 (some .boolean), Cond.methodLink RX4 82 yX0_init, Cond.instanceMethod yX0_init, Cond.code yX0_init cX0_init 4 none, Cond.methodLink RX0 1 objectInit, Cond.fieldLink RX0 7 "SignTiles$Change" "kind" "I", Cond.fieldLink RX0 13 "SignTiles$Change" "direction" "I", Cond.fieldLink RX0 16 "SignTiles$Change" "editor" "I", Cond.methodLink RX4 85 yX4_newVersion, Cond.instanceMethod yX4_newVersion, Cond.selects RX4 yX4_newVersion yX4_newVersion, Cond.code yX4_newVersion cX4_newVersion 3 (some (.object "SignTiles$Version")), Cond.classLink RX4 138 RX2]
def wsL_law0_r6 : List Cond := [Cond.instantiable RX2 4, Cond.initialized RX2, Cond.methodLink RX4 281 yX2_init, Cond.instanceMethod yX2_init, Cond.code yX2_init cX2_init 4 none, Cond.methodLink RX2 1 objectInit, Cond.fieldLink RX2 7 "SignTiles$Version" "change" "LSignTiles$Change;", Cond.fieldLink RX2 13 "SignTiles$Version" "stamp" "I", Cond.fieldLink RX2 17 "SignTiles$Version" "number" "I", Cond.fieldLink RX2 20 "SignTiles$Version" "ahead" "LSignTiles$Version;", Cond.methodLink RX4 89 yX3_init, Cond.instanceMethod yX3_init, Cond.code yX3_init cX3_init 6 none, Cond.methodLink RX3 3 objectInit, Cond.fieldLink RX3 9 "SignTiles$Way" "guard" "I", Cond.fieldLink RX3 15 "SignTiles$Way" "waiting" "LSignTiles$Change;", Cond.fieldLink RX3 19 "SignTiles$Way" "doubts" "[I", Cond.fieldLink RX3 23 "SignTiles$Way" "beginX" "I", Cond.fieldLink RX3 26 "SignTiles$Way" "beginY" "I", Cond.fieldLink RX3 29 "SignTiles$Way" "endX" "I", Cond.fieldLink RX3 32 "SignTiles$Way" "endY" "I", Cond.fieldLink RX3 35 "SignTiles$Way" "latest" "LSignTiles$Version;", Cond.methodLink RX3 39 yJ7_fill_53178, Cond.methodLink RX4 92 yJx4a65c_add_9ea2d]
def wsL_law0_r7 : List Cond := [Cond.instanceMethod yJx4a65c_add_9ea2d, Cond.selects RJx4a65c yJx4a65c_add_9ea2d yJx4a65c_add_9ea2d, Cond.code yJx4a65c_add_9ea2d cJx4a65c_add_9ea2d 2 (some .boolean), Cond.fieldLink RJx4a65c 63 "java/util/ArrayList" "modCount" "I", Cond.sameField "java/util/ArrayList" "java/util/AbstractList" "modCount" "I", Cond.methodLink RJx4a65c 131 yJx4a65c_add_72be8, Cond.instanceMethod yJx4a65c_add_72be8, Cond.selects RJx4a65c yJx4a65c_add_72be8 yJx4a65c_add_72be8, Cond.code yJx4a65c_add_72be8 cJx4a65c_add_72be8 4 none, Cond.methodLink RJx4a65c 129 yJx4a65c_grow_d5877, Cond.instanceMethod yJx4a65c_grow_d5877, Cond.selects RJx4a65c yJx4a65c_grow_d5877 yJx4a65c_grow_d5877, Cond.code yJx4a65c_grow_d5877 cJx4a65c_grow_d5877 1 (some (.array (.object "java/lang/Object"))), Cond.methodLink RJx4a65c 69 yJx4a65c_grow_92f84, Cond.instanceMethod yJx4a65c_grow_92f84, Cond.selects RJx4a65c yJx4a65c_grow_92f84 yJx4a65c_grow_92f84, Cond.code yJx4a65c_grow_92f84 cJx4a65c_grow_92f84 4 (some (.array (.object "java/lang/Object"))), Cond.methodLink RJx4a65c 79 Lib.Math.max.name, Cond.static Lib.Math.max.name, Cond.initialized "java/lang/Math", Cond.code Lib.Math.max.name Lib.Math.max.code 2 (some .int), Cond.classLink RJx4a65c 7 "java/lang/Object", Cond.methodLink RJx4a65c 73 yJ8_newLength_cabcc, Cond.static yJ8_newLength_cabcc]
def wsL_law0_r8 : List Cond := [Cond.initialized RJ8, Cond.code yJ8_newLength_cabcc cJ8_newLength_cabcc 4 (some .int), Cond.methodLink RJ8 194 Lib.Math.max.name, Cond.constant RJ8 200 (2147483639), Cond.methodLink RJ8 201 yJ8_hugeLength_7cf53, Cond.static yJ8_hugeLength_7cf53, Cond.code yJ8_hugeLength_7cf53 cJ8_hugeLength_7cf53 3 (some .int), Cond.methodLink RJx4a65c 66 yJ7_copyOf_1904c, Cond.static yJ7_copyOf_1904c, Cond.code yJ7_copyOf_1904c cJ7_copyOf_1904c 2 (some (.array (.object "java/lang/Object"))), Cond.methodLink RJ7 86 ⟨"java/lang/Object", "getClass", "()Ljava/lang/Class;"⟩, Cond.selects "[Ljava/lang/Object;" ⟨"java/lang/Object", "getClass", "()Ljava/lang/Class;"⟩ ⟨"java/lang/Object", "getClass", "()Ljava/lang/Class;"⟩, Cond.instanceMethod ⟨"java/lang/Object", "getClass", "()Ljava/lang/Class;"⟩, Cond.native ⟨"java/lang/Object", "getClass", "()Ljava/lang/Class;"⟩, Cond.methodLink RJ7 300 yJ7_copyOf_6403c, Cond.static yJ7_copyOf_6403c, Cond.code yJ7_copyOf_6403c cJ7_copyOf_6403c 4 (some (.array (.object "java/lang/Object"))), Cond.classLink RJ7 110 "[Ljava/lang/Object;", Cond.classLink RJ7 2 "java/lang/Object", Cond.methodLink RJ7 304 Lib.Math.min.name, Cond.static Lib.Math.min.name, Cond.code Lib.Math.min.name Lib.Math.min.code 2 (some .int), Cond.methodLink RJ7 150 arraycopyName, Cond.native arraycopyName]
def wsL_law0_r9 : List Cond := [Cond.static arraycopyName, Cond.initialized "java/lang/System", Cond.methodLink RL 100 yX5_addWay, Cond.instanceMethod yX5_addWay, Cond.selects RX5 yX5_addWay yX5_addWay, Cond.code yX5_addWay cX5_addWay 9 (some .int), Cond.fieldLink RX5 69 "SignTilesModel" "ways" "I", Cond.methodLink RX5 65 yX5_in, Cond.static yX5_in, Cond.code yX5_in cX5_in 3 (some .boolean), Cond.methodLink RX5 75 yX5_isEditor, Cond.static yX5_isEditor, Cond.code yX5_isEditor cX5_isEditor 1 (some .boolean), Cond.methodLink RX5 79 yX5_isCrossing, Cond.static yX5_isCrossing, Cond.code yX5_isCrossing cX5_isCrossing 2 (some .boolean), Cond.methodLink RX5 83 yX5_asks, Cond.instanceMethod yX5_asks, Cond.selects RX5 yX5_asks yX5_asks, Cond.code yX5_asks cX5_asks 2 (some .boolean), Cond.fieldLink RX5 61 "SignTilesModel" "thrown" "I", Cond.methodLink RX5 87 yX5_fails, Cond.instanceMethod yX5_fails, Cond.selects RX5 yX5_fails yX5_fails]
def wsL_law0_r10 : List Cond := [Cond.code yX5_fails cX5_fails 2 (some .int), Cond.methodLink RX5 91 yX5_makes, Cond.instanceMethod yX5_makes, Cond.selects RX5 yX5_makes yX5_makes, Cond.code yX5_makes cX5_makes 5 none, Cond.fieldLink RX5 72 "SignTilesModel" "clock" "I", Cond.methodLink RL 101 yX5_thrown, Cond.instanceMethod yX5_thrown, Cond.selects RX5 yX5_thrown yX5_thrown, Cond.code yX5_thrown cX5_thrown 1 (some .int), Cond.methodLink RL 105 yL_edit, Cond.static yL_edit, Cond.codeWith yL_edit cL_edit 7 (some .int) [(0, 21, 24, 13), (0, 21, 28, 15), (0, 21, 32, 17)], Cond.methodLink RL 19 yX4_edit, Cond.instanceMethod yX4_edit, Cond.selects RX4 yX4_edit yX4_edit, Cond.code yX4_edit cX4_edit 7 (some .boolean), Cond.fieldLink RX4 113 "SignTiles$Way" "guard" "I", Cond.fieldLink RX4 116 "SignTiles$Way" "waiting" "LSignTiles$Change;", Cond.methodLink RX4 96 yX4_wayAt, Cond.instanceMethod yX4_wayAt, Cond.selects RX4 yX4_wayAt yX4_wayAt, Cond.code yX4_wayAt cX4_wayAt 2 (some (.object "SignTiles$Way")), Cond.classLink RX4 78 "SignTiles$Way"]
def wsL_law0_r11 : List Cond := [Cond.methodLink RX4 272 yJx4a65c_get_915e3, Cond.instanceMethod yJx4a65c_get_915e3, Cond.selects RJx4a65c yJx4a65c_get_915e3 yJx4a65c_get_915e3, Cond.code yJx4a65c_get_915e3 cJx4a65c_get_915e3 2 (some (.object "java/lang/Object")), Cond.methodLink RJx4a65c 118 yJ15_checkIndex_7cf53, Cond.static yJ15_checkIndex_7cf53, Cond.initialized RJ15, Cond.code yJ15_checkIndex_7cf53 cJ15_checkIndex_7cf53 2 (some .int), Cond.methodLink RJ15 105 yJ3_checkIndex_8e157, Cond.static yJ3_checkIndex_8e157, Cond.initialized RJ3, Cond.code yJ3_checkIndex_8e157 cJ3_checkIndex_8e157 3 (some .int), Cond.methodLink RJx4a65c 123 yJx4a65c_elementData_915e3, Cond.instanceMethod yJx4a65c_elementData_915e3, Cond.selects RJx4a65c yJx4a65c_elementData_915e3 yJx4a65c_elementData_915e3, Cond.code yJx4a65c_elementData_915e3 cJx4a65c_elementData_915e3 2 (some (.object "java/lang/Object")), Cond.methodLink RX4 100 yX4_isDirection, Cond.static yX4_isDirection, Cond.code yX4_isDirection cX4_isDirection 1 (some .boolean), Cond.methodLink RX4 105 yX3_kind, Cond.instanceMethod yX3_kind, Cond.selects RX3 yX3_kind yX3_kind, Cond.code yX3_kind cX3_kind 1 (some .int), Cond.fieldLink RX3 45 "SignTiles$Version" "change" "LSignTiles$Change;"]
def wsL_law0_r12 : List Cond := [Cond.fieldLink RX3 50 "SignTiles$Change" "kind" "I", Cond.methodLink RX4 108 yX3_direction, Cond.instanceMethod yX3_direction, Cond.selects RX3 yX3_direction yX3_direction, Cond.code yX3_direction cX3_direction 1 (some .int), Cond.fieldLink RX3 55 "SignTiles$Change" "direction" "I", Cond.methodLink RX4 120 yX4_addVersion, Cond.instanceMethod yX4_addVersion, Cond.selects RX4 yX4_addVersion yX4_addVersion, Cond.code yX4_addVersion cX4_addVersion 3 none, Cond.fieldLink RX4 133 "SignTiles$Way" "latest" "LSignTiles$Version;", Cond.methodLink RL 108 yX5_edit, Cond.instanceMethod yX5_edit, Cond.selects RX5 yX5_edit yX5_edit, Cond.code yX5_edit cX5_edit 6 (some .boolean), Cond.methodLink RX5 95 yX5_isWay, Cond.instanceMethod yX5_isWay, Cond.selects RX5 yX5_isWay yX5_isWay, Cond.code yX5_isWay cX5_isWay 2 (some .boolean), Cond.methodLink RX5 98 yX5_kindNow, Cond.instanceMethod yX5_kindNow, Cond.selects RX5 yX5_kindNow yX5_kindNow, Cond.code yX5_kindNow cX5_kindNow 2 (some .int), Cond.methodLink RX5 101 yX5_directionNow]
def wsL_law0_r13 : List Cond := [Cond.instanceMethod yX5_directionNow, Cond.selects RX5 yX5_directionNow yX5_directionNow, Cond.code yX5_directionNow cX5_directionNow 2 (some .int), Cond.methodLink RL 109 yL_judge, Cond.static yL_judge, Cond.codeWith yL_judge cL_judge 6 (some .int) [(0, 12, 15, 13), (0, 12, 19, 17)], Cond.methodLink RL 23 yX4_judge, Cond.instanceMethod yX4_judge, Cond.selects RX4 yX4_judge yX4_judge, Cond.code yX4_judge cX4_judge 6 (some .int), Cond.fieldLink RX4 124 "SignTiles$Change" "editor" "I", Cond.methodLink RX4 129 yX4_addTrust, Cond.instanceMethod yX4_addTrust, Cond.selects RX4 yX4_addTrust yX4_addTrust, Cond.code yX4_addTrust cX4_addTrust 3 (some .int), Cond.methodLink RX4 284 Lib.Math.min.name, Cond.methodLink RX4 289 Lib.Math.max.name, Cond.methodLink RL 112 yX5_judge, Cond.instanceMethod yX5_judge, Cond.selects RX5 yX5_judge yX5_judge, Cond.code yX5_judge cX5_judge 6 (some .int), Cond.methodLink RX5 104 yX5_trusts, Cond.instanceMethod yX5_trusts, Cond.selects RX5 yX5_trusts yX5_trusts]
def wsL_law0_r14 : List Cond := [Cond.code yX5_trusts cX5_trusts 4 none, Cond.methodLink RL 113 yL_revert, Cond.static yL_revert, Cond.codeWith yL_revert cL_revert 5 (some .int) [(0, 10, 13, 13), (0, 10, 17, 17)], Cond.methodLink RL 27 yX4_revert, Cond.instanceMethod yX4_revert, Cond.selects RX4 yX4_revert yX4_revert, Cond.code yX4_revert cX4_revert 7 (some .int), Cond.fieldLink RX4 137 "SignTiles$Version" "ahead" "LSignTiles$Version;", Cond.fieldLink RX4 144 "SignTiles$Version" "change" "LSignTiles$Change;", Cond.fieldLink RX4 149 "SignTiles$Change" "kind" "I", Cond.fieldLink RX4 151 "SignTiles$Change" "direction" "I", Cond.methodLink RL 116 yX5_revert, Cond.instanceMethod yX5_revert, Cond.selects RX5 yX5_revert yX5_revert, Cond.code yX5_revert cX5_revert 5 (some .int), Cond.methodLink RL 117 yL_guard, Cond.static yL_guard, Cond.codeWith yL_guard cL_guard 5 (some .int) [(0, 10, 13, 13), (0, 10, 17, 15)], Cond.methodLink RL 31 yX4_guard, Cond.instanceMethod yX4_guard, Cond.selects RX4 yX4_guard yX4_guard, Cond.code yX4_guard cX4_guard 5 (some .int), Cond.methodLink RL 119 yX5_guard]
def wsL_law0_r15 : List Cond := [Cond.instanceMethod yX5_guard, Cond.selects RX5 yX5_guard yX5_guard, Cond.code yX5_guard cX5_guard 4 (some .int), Cond.methodLink RL 120 yL_trust, Cond.static yL_trust, Cond.codeWith yL_trust cL_trust 4 (some .int) [(0, 9, 12, 13)], Cond.methodLink RL 34 yX4_trust, Cond.instanceMethod yX4_trust, Cond.selects RX4 yX4_trust yX4_trust, Cond.code yX4_trust cX4_trust 2 (some .int), Cond.methodLink RL 123 yX5_trust, Cond.instanceMethod yX5_trust, Cond.selects RX5 yX5_trust yX5_trust, Cond.code yX5_trust cX5_trust 2 (some .int), Cond.methodLink RL 124 yX4_ways, Cond.instanceMethod yX4_ways, Cond.selects RX4 yX4_ways yX4_ways, Cond.code yX4_ways cX4_ways 1 (some .int), Cond.methodLink RL 127 yX5_ways, Cond.instanceMethod yX5_ways, Cond.selects RX5 yX5_ways yX5_ways, Cond.code yX5_ways cX5_ways 1 (some .int), Cond.methodLink RL 128 yL_versions, Cond.static yL_versions]
def wsL_law0_r16 : List Cond := [Cond.codeWith yL_versions cL_versions 4 (some .int) [(0, 9, 12, 13)], Cond.methodLink RL 38 yX4_versions, Cond.instanceMethod yX4_versions, Cond.selects RX4 yX4_versions yX4_versions, Cond.code yX4_versions cX4_versions 2 (some .int), Cond.methodLink RX4 155 yX3_versionCount, Cond.instanceMethod yX3_versionCount, Cond.selects RX3 yX3_versionCount yX3_versionCount, Cond.code yX3_versionCount cX3_versionCount 1 (some .int), Cond.fieldLink RX3 58 "SignTiles$Version" "number" "I", Cond.methodLink RL 130 yX5_versions, Cond.instanceMethod yX5_versions, Cond.selects RX5 yX5_versions yX5_versions, Cond.code yX5_versions cX5_versions 2 (some .int), Cond.methodLink RL 131 yL_version, Cond.static yL_version, Cond.codeWith yL_version cL_version 5 (some .int) [(0, 10, 13, 13)], Cond.methodLink RL 41 yX4_version, Cond.instanceMethod yX4_version, Cond.selects RX4 yX4_version yX4_version, Cond.code yX4_version cX4_version 3 (some .int), Cond.methodLink RX4 158 yX4_versionAt, Cond.static yX4_versionAt, Cond.code yX4_versionAt cX4_versionAt 3 (some (.object "SignTiles$Version"))]
def wsL_law0_r17 : List Cond := [Cond.fieldLink RX4 276 "SignTiles$Version" "number" "I", Cond.methodLink RX4 162 yX0_coded, Cond.instanceMethod yX0_coded, Cond.selects RX0 yX0_coded yX0_coded, Cond.code yX0_coded cX0_coded 1 (some .int), Cond.methodLink RL 133 yX5_version, Cond.instanceMethod yX5_version, Cond.selects RX5 yX5_version yX5_version, Cond.code yX5_version cX5_version 4 (some .int), Cond.methodLink RX5 108 yX5_placeOf, Cond.instanceMethod yX5_placeOf, Cond.selects RX5 yX5_placeOf yX5_placeOf, Cond.code yX5_placeOf cX5_placeOf 5 (some .int), Cond.methodLink RL 134 yL_stampOf, Cond.static yL_stampOf, Cond.codeWith yL_stampOf cL_stampOf 5 (some .int) [(0, 10, 13, 13)], Cond.methodLink RL 44 yX4_stampOf, Cond.instanceMethod yX4_stampOf, Cond.selects RX4 yX4_stampOf yX4_stampOf, Cond.code yX4_stampOf cX4_stampOf 3 (some .int), Cond.fieldLink RX4 165 "SignTiles$Version" "stamp" "I", Cond.methodLink RL 136 yX5_stampOf, Cond.instanceMethod yX5_stampOf, Cond.selects RX5 yX5_stampOf yX5_stampOf]
def wsL_law0_r18 : List Cond := [Cond.code yX5_stampOf cX5_stampOf 4 (some .int), Cond.methodLink RL 137 yL_waiting, Cond.static yL_waiting, Cond.codeWith yL_waiting cL_waiting 4 (some .int) [(0, 9, 12, 13)], Cond.methodLink RL 47 yX4_waiting, Cond.instanceMethod yX4_waiting, Cond.selects RX4 yX4_waiting yX4_waiting, Cond.code yX4_waiting cX4_waiting 3 (some .int), Cond.methodLink RL 139 yX5_waiting, Cond.instanceMethod yX5_waiting, Cond.selects RX5 yX5_waiting yX5_waiting, Cond.code yX5_waiting cX5_waiting 2 (some .int), Cond.methodLink RL 140 yX4_clock, Cond.instanceMethod yX4_clock, Cond.selects RX4 yX4_clock yX4_clock, Cond.code yX4_clock cX4_clock 1 (some .int), Cond.methodLink RL 143 yX5_clock, Cond.instanceMethod yX5_clock, Cond.selects RX5 yX5_clock yX5_clock, Cond.code yX5_clock cX5_clock 1 (some .int), Cond.methodLink RL 144 yL_draw, Cond.static yL_draw, Cond.codeWith yL_draw cL_draw 6 (some .int) [(0, 12, 15, 13)], Cond.methodLink RL 50 yX4_draw]
def wsL_law0_r19 : List Cond := [Cond.instanceMethod yX4_draw, Cond.selects RX4 yX4_draw yX4_draw, Cond.code yX4_draw cX4_draw 6 (some .int), Cond.instantiable RX1 7, Cond.initialized RX1, Cond.methodLink RX4 168 yX4_tileIndex, Cond.static yX4_tileIndex, Cond.code yX4_tileIndex cX4_tileIndex 4 (some .int), Cond.fieldLink RX4 200 "SignTiles" "FIRST_TILES" "[I", Cond.methodLink RX4 197 yX4_requireZoom, Cond.static yX4_requireZoom, Cond.code yX4_requireZoom cX4_requireZoom 1 none, Cond.methodLink RX4 203 yX4_tilesAcross, Cond.static yX4_tilesAcross, Cond.code yX4_tilesAcross cX4_tilesAcross 1 (some .int), Cond.methodLink RX4 172 yX1_init, Cond.instanceMethod yX1_init, Cond.code yX1_init cX1_init 5 none, Cond.methodLink RX1 3 objectInit, Cond.fieldLink RX1 9 "SignTiles$Tile" "stamp" "I", Cond.fieldLink RX1 15 "SignTiles$Tile" "picture" "I", Cond.fieldLink RX1 18 "SignTiles$Tile" "zoom" "I", Cond.fieldLink RX1 21 "SignTiles$Tile" "left" "I", Cond.fieldLink RX1 24 "SignTiles$Tile" "right" "I"]
def wsL_law0_r20 : List Cond := [Cond.fieldLink RX1 27 "SignTiles$Tile" "top" "I", Cond.fieldLink RX1 30 "SignTiles$Tile" "bottom" "I", Cond.methodLink RX4 173 yX4_keepPicture, Cond.instanceMethod yX4_keepPicture, Cond.selects RX4 yX4_keepPicture yX4_keepPicture, Cond.code yX4_keepPicture cX4_keepPicture 2 none, Cond.fieldLink RX4 188 "SignTiles$Tile" "stamp" "I", Cond.fieldLink RX4 185 "SignTiles$Tile" "picture" "I", Cond.methodLink RX4 189 yX4_pictureAt, Cond.instanceMethod yX4_pictureAt, Cond.selects RX4 yX4_pictureAt yX4_pictureAt, Cond.code yX4_pictureAt cX4_pictureAt 6 (some .int), Cond.methodLink RX4 296 yX3_shownIn, Cond.instanceMethod yX3_shownIn, Cond.selects RX3 yX3_shownIn yX3_shownIn, Cond.code yX3_shownIn cX3_shownIn 4 (some (.object "SignTiles$Change")), Cond.fieldLink RX3 95 "SignTiles$Version" "stamp" "I", Cond.fieldLink RX3 98 "SignTiles$Version" "ahead" "LSignTiles$Version;", Cond.methodLink RX3 91 yX3_hasPartIn, Cond.instanceMethod yX3_hasPartIn, Cond.selects RX3 yX3_hasPartIn yX3_hasPartIn, Cond.code yX3_hasPartIn cX3_hasPartIn 2 (some .boolean), Cond.fieldLink RX3 77 "SignTiles$Tile" "right" "I", Cond.fieldLink RX3 82 "SignTiles$Tile" "left" "I"]
def wsL_law0_r21 : List Cond := [Cond.fieldLink RX3 85 "SignTiles$Tile" "bottom" "I", Cond.fieldLink RX3 88 "SignTiles$Tile" "top" "I", Cond.methodLink RX3 101 yX1_shows, Cond.instanceMethod yX1_shows, Cond.selects RX1 yX1_shows yX1_shows, Cond.code yX1_shows cX1_shows 2 (some .boolean), Cond.fieldLink RX1 33 "SignTiles$Version" "change" "LSignTiles$Change;", Cond.fieldLink RX1 39 "SignTiles$Change" "kind" "I", Cond.methodLink RX4 177 yX4_countWaysIn, Cond.instanceMethod yX4_countWaysIn, Cond.selects RX4 yX4_countWaysIn yX4_countWaysIn, Cond.code yX4_countWaysIn cX4_countWaysIn 4 (some .int), Cond.methodLink RL 147 yX5_draw, Cond.instanceMethod yX5_draw, Cond.selects RX5 yX5_draw yX5_draw, Cond.code yX5_draw cX5_draw 7 (some .int), Cond.methodLink RX5 123 yX5_tileAt, Cond.instanceMethod yX5_tileAt, Cond.selects RX5 yX5_tileAt yX5_tileAt, Cond.code yX5_tileAt cX5_tileAt 6 (some .int), Cond.methodLink RX5 127 yX5_draws, Cond.instanceMethod yX5_draws, Cond.selects RX5 yX5_draws yX5_draws, Cond.code yX5_draws cX5_draws 5 none]
def wsL_law0_r22 : List Cond := [Cond.methodLink RX5 119 yX5_drawn, Cond.instanceMethod yX5_drawn, Cond.selects RX5 yX5_drawn yX5_drawn, Cond.code yX5_drawn cX5_drawn 8 (some .int), Cond.methodLink RX5 112 yX5_isShown, Cond.static yX5_isShown, Cond.code yX5_isShown cX5_isShown 2 (some .boolean), Cond.methodLink RX5 115 yX5_isIn, Cond.instanceMethod yX5_isIn, Cond.selects RX5 yX5_isIn yX5_isIn, Cond.code yX5_isIn cX5_isIn 6 (some .boolean), Cond.methodLink RL 148 yL_picture, Cond.static yL_picture, Cond.codeWith yL_picture cL_picture 6 (some .int) [(0, 12, 15, 13), (0, 12, 19, 17)], Cond.methodLink RL 54 yX4_picture, Cond.instanceMethod yX4_picture, Cond.selects RX4 yX4_picture yX4_picture, Cond.code yX4_picture cX4_picture 4 (some .int), Cond.methodLink RX4 181 yX4_drawnTile, Cond.instanceMethod yX4_drawnTile, Cond.selects RX4 yX4_drawnTile yX4_drawnTile, Cond.code yX4_drawnTile cX4_drawnTile 5 (some (.object "SignTiles$Tile")), Cond.methodLink RL 150 yX5_picture, Cond.instanceMethod yX5_picture]
def wsL_law0_r23 : List Cond := [Cond.selects RX5 yX5_picture yX5_picture, Cond.code yX5_picture cX5_picture 5 (some .int), Cond.methodLink RL 151 yL_pictureAnew, Cond.static yL_pictureAnew, Cond.codeWith yL_pictureAnew cL_pictureAnew 6 (some .int) [(0, 12, 15, 13), (0, 12, 19, 17)], Cond.methodLink RL 57 yX4_pictureAnew, Cond.instanceMethod yX4_pictureAnew, Cond.selects RX4 yX4_pictureAnew yX4_pictureAnew, Cond.code yX4_pictureAnew cX4_pictureAnew 5 (some .int), Cond.methodLink RL 153 yX5_pictureAnew, Cond.instanceMethod yX5_pictureAnew, Cond.selects RX5 yX5_pictureAnew yX5_pictureAnew, Cond.code yX5_pictureAnew cX5_pictureAnew 5 (some .int), Cond.methodLink RL 154 yL_tileStamp, Cond.static yL_tileStamp, Cond.codeWith yL_tileStamp cL_tileStamp 6 (some .int) [(0, 12, 15, 13)], Cond.methodLink RL 60 yX4_tileStamp, Cond.instanceMethod yX4_tileStamp, Cond.selects RX4 yX4_tileStamp yX4_tileStamp, Cond.code yX4_tileStamp cX4_tileStamp 5 (some .int), Cond.methodLink RL 156 yX5_tileStamp, Cond.instanceMethod yX5_tileStamp, Cond.selects RX5 yX5_tileStamp yX5_tileStamp, Cond.code yX5_tileStamp cX5_tileStamp 5 (some .int)]
def wsL_law0_r24 : List Cond := [Cond.methodLink RL 157 yL_isStale, Cond.static yL_isStale, Cond.codeWith yL_isStale cL_isStale 6 (some .int) [(0, 19, 22, 13)], Cond.methodLink RL 63 yX4_isStale, Cond.instanceMethod yX4_isStale, Cond.selects RX4 yX4_isStale yX4_isStale, Cond.code yX4_isStale cX4_isStale 4 (some .boolean), Cond.methodLink RX4 193 yX4_isOutdated, Cond.instanceMethod yX4_isOutdated, Cond.selects RX4 yX4_isOutdated yX4_isOutdated, Cond.code yX4_isOutdated cX4_isOutdated 3 (some .boolean), Cond.methodLink RX4 300 yX3_outdates, Cond.instanceMethod yX3_outdates, Cond.selects RX3 yX3_outdates yX3_outdates, Cond.code yX3_outdates cX3_outdates 3 (some .boolean), Cond.fieldLink RX3 105 "SignTiles$Tile" "stamp" "I", Cond.methodLink RL 159 yX5_isStale, Cond.instanceMethod yX5_isStale, Cond.selects RX5 yX5_isStale yX5_isStale, Cond.code yX5_isStale cX5_isStale 5 (some .boolean), Cond.methodLink RX5 130 yX5_isOld, Cond.instanceMethod yX5_isOld, Cond.selects RX5 yX5_isOld yX5_isOld, Cond.code yX5_isOld cX5_isOld 8 (some .boolean)]
def wsL_law0_r25 : List Cond := [Cond.methodLink RL 160 yL_staleTiles, Cond.static yL_staleTiles, Cond.codeWith yL_staleTiles cL_staleTiles 4 (some .int) [(0, 9, 12, 13)], Cond.methodLink RL 67 yX4_staleTiles, Cond.instanceMethod yX4_staleTiles, Cond.selects RX4 yX4_staleTiles yX4_staleTiles, Cond.code yX4_staleTiles cX4_staleTiles 6 (some .int), Cond.methodLink RL 162 yX5_staleTiles, Cond.instanceMethod yX5_staleTiles, Cond.selects RX5 yX5_staleTiles yX5_staleTiles, Cond.code yX5_staleTiles cX5_staleTiles 2 (some .int), Cond.methodLink RX5 133 yX5_stales, Cond.instanceMethod yX5_stales, Cond.selects RX5 yX5_stales yX5_stales, Cond.code yX5_stales cX5_stales 8 (some .int), Cond.methodLink RL 163 yX4_refresh, Cond.instanceMethod yX4_refresh, Cond.selects RX4 yX4_refresh yX4_refresh, Cond.code yX4_refresh cX4_refresh 4 (some .int), Cond.methodLink RL 166 yX5_refresh, Cond.instanceMethod yX5_refresh, Cond.selects RX5 yX5_refresh yX5_refresh, Cond.code yX5_refresh cX5_refresh 3 (some .int), Cond.methodLink RL 167 yL_drive]
def wsL_law0_r26 : List Cond := [Cond.static yL_drive, Cond.codeWith yL_drive cL_drive 6 (some .int) [(0, 12, 15, 13)], Cond.methodLink RL 70 yX4_drive, Cond.instanceMethod yX4_drive, Cond.selects RX4 yX4_drive yX4_drive, Cond.code yX4_drive cX4_drive 5 (some .int), Cond.methodLink RX4 207 yX4_requireCar, Cond.static yX4_requireCar, Cond.code yX4_requireCar cX4_requireCar 1 none, Cond.methodLink RX4 210 yX4_distance, Cond.static yX4_distance, Cond.code yX4_distance cX4_distance 4 (some .int), Cond.methodLink RX4 303 Lib.Math.abs.name, Cond.static Lib.Math.abs.name, Cond.code Lib.Math.abs.name Lib.Math.abs.code 1 (some .int), Cond.methodLink RL 169 yX5_drive, Cond.instanceMethod yX5_drive, Cond.selects RX5 yX5_drive yX5_drive, Cond.code yX5_drive cX5_drive 4 (some .int), Cond.methodLink RX5 140 yX5_isCar, Cond.static yX5_isCar, Cond.code yX5_isCar cX5_isCar 1 (some .boolean), Cond.methodLink RX5 143 yX5_goes, Cond.instanceMethod yX5_goes]
def wsL_law0_r27 : List Cond := [Cond.selects RX5 yX5_goes yX5_goes, Cond.code yX5_goes cX5_goes 5 (some .int), Cond.methodLink RX5 137 yX5_far, Cond.instanceMethod yX5_far, Cond.selects RX5 yX5_far yX5_far, Cond.code yX5_far cX5_far 6 (some .int), Cond.methodLink RL 170 yL_see, Cond.static yL_see, Cond.codeWith yL_see cL_see 7 (some .int) [(0, 21, 24, 13), (0, 21, 28, 15), (0, 21, 32, 17)], Cond.methodLink RL 73 yX4_see, Cond.instanceMethod yX4_see, Cond.selects RX4 yX4_see yX4_see, Cond.code yX4_see cX4_see 6 (some .boolean), Cond.methodLink RX4 216 yX3_distanceFrom, Cond.instanceMethod yX3_distanceFrom, Cond.selects RX3 yX3_distanceFrom yX3_distanceFrom, Cond.code yX3_distanceFrom cX3_distanceFrom 3 (some .int), Cond.methodLink RX3 72 Lib.Math.min.name, Cond.methodLink RX3 65 yX3_distanceFromBegin, Cond.instanceMethod yX3_distanceFromBegin, Cond.selects RX3 yX3_distanceFromBegin yX3_distanceFromBegin, Cond.code yX3_distanceFromBegin cX3_distanceFromBegin 3 (some .int), Cond.methodLink RX3 69 yX3_distanceFromEnd, Cond.instanceMethod yX3_distanceFromEnd]
def wsL_law0_r28 : List Cond := [Cond.selects RX3 yX3_distanceFromEnd yX3_distanceFromEnd, Cond.code yX3_distanceFromEnd cX3_distanceFromEnd 3 (some .int), Cond.methodLink RX4 221 yX3_keepSighting, Cond.instanceMethod yX3_keepSighting, Cond.selects RX3 yX3_keepSighting yX3_keepSighting, Cond.code yX3_keepSighting cX3_keepSighting 5 none, Cond.methodLink RX4 224 yX3_hasAgreementOn, Cond.instanceMethod yX3_hasAgreementOn, Cond.selects RX3 yX3_hasAgreementOn yX3_hasAgreementOn, Cond.code yX3_hasAgreementOn cX3_hasAgreementOn 4 (some .boolean), Cond.methodLink RX4 227 yX3_forgetSightings, Cond.instanceMethod yX3_forgetSightings, Cond.selects RX3 yX3_forgetSightings yX3_forgetSightings, Cond.code yX3_forgetSightings cX3_forgetSightings 1 none, Cond.methodLink RL 172 yX5_see, Cond.instanceMethod yX5_see, Cond.selects RX5 yX5_see yX5_see, Cond.code yX5_see cX5_see 6 (some .boolean), Cond.methodLink RX5 146 yX5_clears, Cond.instanceMethod yX5_clears, Cond.selects RX5 yX5_clears yX5_clears, Cond.code yX5_clears cX5_clears 10 none, Cond.methodLink RX5 149 yX5_agree, Cond.instanceMethod yX5_agree]
def wsL_law0_r29 : List Cond := [Cond.selects RX5 yX5_agree yX5_agree, Cond.code yX5_agree cX5_agree 8 (some .boolean), Cond.methodLink RL 173 yL_sightings, Cond.static yL_sightings, Cond.codeWith yL_sightings cL_sightings 4 (some .int) [(0, 9, 12, 13)], Cond.methodLink RL 76 yX4_sightings, Cond.instanceMethod yX4_sightings, Cond.selects RX4 yX4_sightings yX4_sightings, Cond.code yX4_sightings cX4_sightings 2 (some .int), Cond.methodLink RX4 230 yX3_countSightings, Cond.instanceMethod yX3_countSightings, Cond.selects RX3 yX3_countSightings yX3_countSightings, Cond.code yX3_countSightings cX3_countSightings 3 (some .int), Cond.methodLink RL 175 yX5_sightings, Cond.instanceMethod yX5_sightings, Cond.selects RX5 yX5_sightings yX5_sightings, Cond.code yX5_sightings cX5_sightings 2 (some .int), Cond.methodLink RL 176 yL_dear, Cond.static yL_dear, Cond.codeWith yL_dear cL_dear 4 (some .int) [(0, 9, 12, 13)], Cond.methodLink RL 79 yX4_dear, Cond.instanceMethod yX4_dear, Cond.selects RX4 yX4_dear yX4_dear, Cond.code yX4_dear cX4_dear 2 (some .int)]
def wsL_law0_r30 : List Cond := [Cond.methodLink RX4 233 yX3_dearness, Cond.instanceMethod yX3_dearness, Cond.selects RX3 yX3_dearness yX3_dearness, Cond.code yX3_dearness cX3_dearness 4 (some .int), Cond.methodLink RX3 106 yX3_direction, Cond.methodLink RX3 109 yX3_kind, Cond.methodLink RL 178 yX5_dear, Cond.instanceMethod yX5_dear, Cond.selects RX5 yX5_dear yX5_dear, Cond.code yX5_dear cX5_dear 2 (some .int), Cond.methodLink RX5 152 yX5_dearBy, Cond.instanceMethod yX5_dearBy, Cond.selects RX5 yX5_dearBy yX5_dearBy, Cond.code yX5_dearBy cX5_dearBy 6 (some .int), Cond.methodLink RL 179 yL_target, Cond.static yL_target, Cond.codeWith yL_target cL_target 4 (some .int) [(0, 9, 12, 13)], Cond.methodLink RL 82 yX4_target, Cond.instanceMethod yX4_target, Cond.selects RX4 yX4_target yX4_target, Cond.code yX4_target cX4_target 2 (some .int), Cond.methodLink RX4 236 yX4_targetFrom, Cond.instanceMethod yX4_targetFrom, Cond.selects RX4 yX4_targetFrom yX4_targetFrom]
def wsL_law0_r31 : List Cond := [Cond.code yX4_targetFrom cX4_targetFrom 8 (some .int), Cond.methodLink RL 181 yX5_target, Cond.instanceMethod yX5_target, Cond.selects RX5 yX5_target yX5_target, Cond.code yX5_target cX5_target 2 (some .int), Cond.methodLink RX5 158 yX5_targetOf, Cond.instanceMethod yX5_targetOf, Cond.selects RX5 yX5_targetOf yX5_targetOf, Cond.code yX5_targetOf cX5_targetOf 6 (some .int), Cond.methodLink RX5 155 yX5_nearest, Cond.instanceMethod yX5_nearest, Cond.selects RX5 yX5_nearest yX5_nearest, Cond.code yX5_nearest cX5_nearest 5 (some .int), Cond.methodLink RL 182 yL_send, Cond.static yL_send, Cond.codeWith yL_send cL_send 4 (some .int) [(0, 9, 12, 13), (0, 9, 15, 17)], Cond.methodLink RL 85 yX4_send, Cond.instanceMethod yX4_send, Cond.selects RX4 yX4_send yX4_send, Cond.code yX4_send cX4_send 7 (some .int), Cond.fieldLink RX4 247 "SignTiles$Way" "endX" "I", Cond.fieldLink RX4 250 "SignTiles$Way" "beginX" "I", Cond.fieldLink RX4 253 "SignTiles$Way" "endY" "I", Cond.fieldLink RX4 256 "SignTiles$Way" "beginY" "I"]
def wsL_law0_r32 : List Cond := [Cond.methodLink RX4 241 yX3_distanceFromBegin, Cond.methodLink RX4 244 yX3_distanceFromEnd, Cond.methodLink RL 184 yX5_send, Cond.instanceMethod yX5_send, Cond.selects RX5 yX5_send yX5_send, Cond.code yX5_send cX5_send 4 (some .int), Cond.methodLink RL 185 yL_carAt, Cond.static yL_carAt, Cond.codeWith yL_carAt cL_carAt 4 (some .int) [(0, 9, 12, 13)], Cond.methodLink RL 88 yX4_carAt, Cond.instanceMethod yX4_carAt, Cond.selects RX4 yX4_carAt yX4_carAt, Cond.code yX4_carAt cX4_carAt 2 (some .int), Cond.methodLink RL 187 yX5_carAt, Cond.instanceMethod yX5_carAt, Cond.selects RX5 yX5_carAt yX5_carAt, Cond.code yX5_carAt cX5_carAt 2 (some .int)]
def wsL_law0 : List Cond := (wsL_law0_r1 ++ (wsL_law0_r2 ++ (wsL_law0_r3 ++ (wsL_law0_r4 ++ (wsL_law0_r5 ++ (wsL_law0_r6 ++ (wsL_law0_r7 ++ (wsL_law0_r8 ++ (wsL_law0_r9 ++ (wsL_law0_r10 ++ (wsL_law0_r11 ++ (wsL_law0_r12 ++ (wsL_law0_r13 ++ (wsL_law0_r14 ++ (wsL_law0_r15 ++ (wsL_law0_r16 ++ (wsL_law0_r17 ++ (wsL_law0_r18 ++ (wsL_law0_r19 ++ (wsL_law0_r20 ++ (wsL_law0_r21 ++ (wsL_law0_r22 ++ (wsL_law0_r23 ++ (wsL_law0_r24 ++ (wsL_law0_r25 ++ (wsL_law0_r26 ++ (wsL_law0_r27 ++ (wsL_law0_r28 ++ (wsL_law0_r29 ++ (wsL_law0_r30 ++ (wsL_law0_r31 ++ wsL_law0_r32))))))))))))))))))))))))))))))) ++ wsX40 ++ wsX50 ++ wsJx4a65c0 ++ wsX30 ++ wsX00 ++ wsX20 ++ wsX10 ++ ([] : List Cond)
def wsL_law : List Cond := wsL_law0 ++ (vx_atS RX4 62 "java/lang/IllegalArgumentException" ["java/lang/RuntimeException", "java/lang/Exception"]).filter goodWord ++ (vx_atS RX4 77 "java/lang/IllegalStateException" ["java/lang/RuntimeException", "java/lang/Exception"]).filter goodWord ++ (vx_atS RX4 263 "java/lang/IndexOutOfBoundsException" ["java/lang/RuntimeException", "java/lang/Exception"]).filter goodWord
theorem inlX0 : ∀ w ∈ wsX00, w ∈ wsL_law := fun _ h => List.mem_append_left _ (List.mem_append_left _ (List.mem_append_left _ (List.mem_append_left _ (List.mem_append_left _ (List.mem_append_left _ (List.mem_append_right _ h))))))
theorem inlX1 : ∀ w ∈ wsX10, w ∈ wsL_law := fun _ h => List.mem_append_left _ (List.mem_append_left _ (List.mem_append_left _ (List.mem_append_left _ (List.mem_append_right _ h))))
theorem inlX2 : ∀ w ∈ wsX20, w ∈ wsL_law := fun _ h => List.mem_append_left _ (List.mem_append_left _ (List.mem_append_left _ (List.mem_append_left _ (List.mem_append_left _ (List.mem_append_right _ h)))))
theorem inlX3 : ∀ w ∈ wsX30, w ∈ wsL_law := fun _ h => List.mem_append_left _ (List.mem_append_left _ (List.mem_append_left _ (List.mem_append_left _ (List.mem_append_left _ (List.mem_append_left _ (List.mem_append_left _ (List.mem_append_right _ h)))))))
theorem inlX4 : ∀ w ∈ wsX40, w ∈ wsL_law := fun _ h => List.mem_append_left _ (List.mem_append_left _ (List.mem_append_left _ (List.mem_append_left _ (List.mem_append_left _ (List.mem_append_left _ (List.mem_append_left _ (List.mem_append_left _ (List.mem_append_left _ (List.mem_append_left _ (List.mem_append_right _ h))))))))))
theorem inlX5 : ∀ w ∈ wsX50, w ∈ wsL_law := fun _ h => List.mem_append_left _ (List.mem_append_left _ (List.mem_append_left _ (List.mem_append_left _ (List.mem_append_left _ (List.mem_append_left _ (List.mem_append_left _ (List.mem_append_left _ (List.mem_append_left _ (List.mem_append_right _ h)))))))))
theorem inlJx4a65c : ∀ w ∈ wsJx4a65c0, w ∈ wsL_law := fun _ h => List.mem_append_left _ (List.mem_append_left _ (List.mem_append_left _ (List.mem_append_left _ (List.mem_append_left _ (List.mem_append_left _ (List.mem_append_left _ (List.mem_append_left _ (List.mem_append_right _ h))))))))
end
section
theorem wl_0 : ∀ w ∈ wsL_law0, w ∈ wsL_law := fun _ h => List.mem_append_left _ (List.mem_append_left _ (List.mem_append_left _ (h)))
theorem wl_r1 : ∀ w ∈ wsL_law0_r1, w ∈ wsL_law := fun w h => wl_0 w (List.mem_append_left _ (List.mem_append_left _ (List.mem_append_left _ (List.mem_append_left _ (List.mem_append_left _ (List.mem_append_left _ (List.mem_append_left _ (List.mem_append_left _ (List.mem_append_left _ h)))))))))
theorem wl_r2 : ∀ w ∈ wsL_law0_r2, w ∈ wsL_law := fun w h => wl_0 w (List.mem_append_left _ (List.mem_append_left _ (List.mem_append_left _ (List.mem_append_left _ (List.mem_append_left _ (List.mem_append_left _ (List.mem_append_left _ (List.mem_append_left _ (List.mem_append_right _ (List.mem_append_left _ h))))))))))
theorem wl_r3 : ∀ w ∈ wsL_law0_r3, w ∈ wsL_law := fun w h => wl_0 w (List.mem_append_left _ (List.mem_append_left _ (List.mem_append_left _ (List.mem_append_left _ (List.mem_append_left _ (List.mem_append_left _ (List.mem_append_left _ (List.mem_append_left _ (List.mem_append_right _ (List.mem_append_right _ (List.mem_append_left _ h)))))))))))
theorem wl_r4 : ∀ w ∈ wsL_law0_r4, w ∈ wsL_law := fun w h => wl_0 w (List.mem_append_left _ (List.mem_append_left _ (List.mem_append_left _ (List.mem_append_left _ (List.mem_append_left _ (List.mem_append_left _ (List.mem_append_left _ (List.mem_append_left _ (List.mem_append_right _ (List.mem_append_right _ (List.mem_append_right _ (List.mem_append_left _ h))))))))))))
theorem wl_r5 : ∀ w ∈ wsL_law0_r5, w ∈ wsL_law := fun w h => wl_0 w (List.mem_append_left _ (List.mem_append_left _ (List.mem_append_left _ (List.mem_append_left _ (List.mem_append_left _ (List.mem_append_left _ (List.mem_append_left _ (List.mem_append_left _ (List.mem_append_right _ (List.mem_append_right _ (List.mem_append_right _ (List.mem_append_right _ (List.mem_append_left _ h)))))))))))))
theorem wl_r6 : ∀ w ∈ wsL_law0_r6, w ∈ wsL_law := fun w h => wl_0 w (List.mem_append_left _ (List.mem_append_left _ (List.mem_append_left _ (List.mem_append_left _ (List.mem_append_left _ (List.mem_append_left _ (List.mem_append_left _ (List.mem_append_left _ (List.mem_append_right _ (List.mem_append_right _ (List.mem_append_right _ (List.mem_append_right _ (List.mem_append_right _ (List.mem_append_left _ h))))))))))))))
theorem wl_r7 : ∀ w ∈ wsL_law0_r7, w ∈ wsL_law := fun w h => wl_0 w (List.mem_append_left _ (List.mem_append_left _ (List.mem_append_left _ (List.mem_append_left _ (List.mem_append_left _ (List.mem_append_left _ (List.mem_append_left _ (List.mem_append_left _ (List.mem_append_right _ (List.mem_append_right _ (List.mem_append_right _ (List.mem_append_right _ (List.mem_append_right _ (List.mem_append_right _ (List.mem_append_left _ h)))))))))))))))
theorem wl_r8 : ∀ w ∈ wsL_law0_r8, w ∈ wsL_law := fun w h => wl_0 w (List.mem_append_left _ (List.mem_append_left _ (List.mem_append_left _ (List.mem_append_left _ (List.mem_append_left _ (List.mem_append_left _ (List.mem_append_left _ (List.mem_append_left _ (List.mem_append_right _ (List.mem_append_right _ (List.mem_append_right _ (List.mem_append_right _ (List.mem_append_right _ (List.mem_append_right _ (List.mem_append_right _ (List.mem_append_left _ h))))))))))))))))
theorem wl_r9 : ∀ w ∈ wsL_law0_r9, w ∈ wsL_law := fun w h => wl_0 w (List.mem_append_left _ (List.mem_append_left _ (List.mem_append_left _ (List.mem_append_left _ (List.mem_append_left _ (List.mem_append_left _ (List.mem_append_left _ (List.mem_append_left _ (List.mem_append_right _ (List.mem_append_right _ (List.mem_append_right _ (List.mem_append_right _ (List.mem_append_right _ (List.mem_append_right _ (List.mem_append_right _ (List.mem_append_right _ (List.mem_append_left _ h)))))))))))))))))
theorem wl_r10 : ∀ w ∈ wsL_law0_r10, w ∈ wsL_law := fun w h => wl_0 w (List.mem_append_left _ (List.mem_append_left _ (List.mem_append_left _ (List.mem_append_left _ (List.mem_append_left _ (List.mem_append_left _ (List.mem_append_left _ (List.mem_append_left _ (List.mem_append_right _ (List.mem_append_right _ (List.mem_append_right _ (List.mem_append_right _ (List.mem_append_right _ (List.mem_append_right _ (List.mem_append_right _ (List.mem_append_right _ (List.mem_append_right _ (List.mem_append_left _ h))))))))))))))))))
theorem wl_r11 : ∀ w ∈ wsL_law0_r11, w ∈ wsL_law := fun w h => wl_0 w (List.mem_append_left _ (List.mem_append_left _ (List.mem_append_left _ (List.mem_append_left _ (List.mem_append_left _ (List.mem_append_left _ (List.mem_append_left _ (List.mem_append_left _ (List.mem_append_right _ (List.mem_append_right _ (List.mem_append_right _ (List.mem_append_right _ (List.mem_append_right _ (List.mem_append_right _ (List.mem_append_right _ (List.mem_append_right _ (List.mem_append_right _ (List.mem_append_right _ (List.mem_append_left _ h)))))))))))))))))))
theorem wl_r12 : ∀ w ∈ wsL_law0_r12, w ∈ wsL_law := fun w h => wl_0 w (List.mem_append_left _ (List.mem_append_left _ (List.mem_append_left _ (List.mem_append_left _ (List.mem_append_left _ (List.mem_append_left _ (List.mem_append_left _ (List.mem_append_left _ (List.mem_append_right _ (List.mem_append_right _ (List.mem_append_right _ (List.mem_append_right _ (List.mem_append_right _ (List.mem_append_right _ (List.mem_append_right _ (List.mem_append_right _ (List.mem_append_right _ (List.mem_append_right _ (List.mem_append_right _ (List.mem_append_left _ h))))))))))))))))))))
theorem wl_r13 : ∀ w ∈ wsL_law0_r13, w ∈ wsL_law := fun w h => wl_0 w (List.mem_append_left _ (List.mem_append_left _ (List.mem_append_left _ (List.mem_append_left _ (List.mem_append_left _ (List.mem_append_left _ (List.mem_append_left _ (List.mem_append_left _ (List.mem_append_right _ (List.mem_append_right _ (List.mem_append_right _ (List.mem_append_right _ (List.mem_append_right _ (List.mem_append_right _ (List.mem_append_right _ (List.mem_append_right _ (List.mem_append_right _ (List.mem_append_right _ (List.mem_append_right _ (List.mem_append_right _ (List.mem_append_left _ h)))))))))))))))))))))
theorem wl_r14 : ∀ w ∈ wsL_law0_r14, w ∈ wsL_law := fun w h => wl_0 w (List.mem_append_left _ (List.mem_append_left _ (List.mem_append_left _ (List.mem_append_left _ (List.mem_append_left _ (List.mem_append_left _ (List.mem_append_left _ (List.mem_append_left _ (List.mem_append_right _ (List.mem_append_right _ (List.mem_append_right _ (List.mem_append_right _ (List.mem_append_right _ (List.mem_append_right _ (List.mem_append_right _ (List.mem_append_right _ (List.mem_append_right _ (List.mem_append_right _ (List.mem_append_right _ (List.mem_append_right _ (List.mem_append_right _ (List.mem_append_left _ h))))))))))))))))))))))
theorem wl_r15 : ∀ w ∈ wsL_law0_r15, w ∈ wsL_law := fun w h => wl_0 w (List.mem_append_left _ (List.mem_append_left _ (List.mem_append_left _ (List.mem_append_left _ (List.mem_append_left _ (List.mem_append_left _ (List.mem_append_left _ (List.mem_append_left _ (List.mem_append_right _ (List.mem_append_right _ (List.mem_append_right _ (List.mem_append_right _ (List.mem_append_right _ (List.mem_append_right _ (List.mem_append_right _ (List.mem_append_right _ (List.mem_append_right _ (List.mem_append_right _ (List.mem_append_right _ (List.mem_append_right _ (List.mem_append_right _ (List.mem_append_right _ (List.mem_append_left _ h)))))))))))))))))))))))
theorem wl_r16 : ∀ w ∈ wsL_law0_r16, w ∈ wsL_law := fun w h => wl_0 w (List.mem_append_left _ (List.mem_append_left _ (List.mem_append_left _ (List.mem_append_left _ (List.mem_append_left _ (List.mem_append_left _ (List.mem_append_left _ (List.mem_append_left _ (List.mem_append_right _ (List.mem_append_right _ (List.mem_append_right _ (List.mem_append_right _ (List.mem_append_right _ (List.mem_append_right _ (List.mem_append_right _ (List.mem_append_right _ (List.mem_append_right _ (List.mem_append_right _ (List.mem_append_right _ (List.mem_append_right _ (List.mem_append_right _ (List.mem_append_right _ (List.mem_append_right _ (List.mem_append_left _ h))))))))))))))))))))))))
theorem wl_r17 : ∀ w ∈ wsL_law0_r17, w ∈ wsL_law := fun w h => wl_0 w (List.mem_append_left _ (List.mem_append_left _ (List.mem_append_left _ (List.mem_append_left _ (List.mem_append_left _ (List.mem_append_left _ (List.mem_append_left _ (List.mem_append_left _ (List.mem_append_right _ (List.mem_append_right _ (List.mem_append_right _ (List.mem_append_right _ (List.mem_append_right _ (List.mem_append_right _ (List.mem_append_right _ (List.mem_append_right _ (List.mem_append_right _ (List.mem_append_right _ (List.mem_append_right _ (List.mem_append_right _ (List.mem_append_right _ (List.mem_append_right _ (List.mem_append_right _ (List.mem_append_right _ (List.mem_append_left _ h)))))))))))))))))))))))))
theorem wl_r18 : ∀ w ∈ wsL_law0_r18, w ∈ wsL_law := fun w h => wl_0 w (List.mem_append_left _ (List.mem_append_left _ (List.mem_append_left _ (List.mem_append_left _ (List.mem_append_left _ (List.mem_append_left _ (List.mem_append_left _ (List.mem_append_left _ (List.mem_append_right _ (List.mem_append_right _ (List.mem_append_right _ (List.mem_append_right _ (List.mem_append_right _ (List.mem_append_right _ (List.mem_append_right _ (List.mem_append_right _ (List.mem_append_right _ (List.mem_append_right _ (List.mem_append_right _ (List.mem_append_right _ (List.mem_append_right _ (List.mem_append_right _ (List.mem_append_right _ (List.mem_append_right _ (List.mem_append_right _ (List.mem_append_left _ h))))))))))))))))))))))))))
theorem wl_r19 : ∀ w ∈ wsL_law0_r19, w ∈ wsL_law := fun w h => wl_0 w (List.mem_append_left _ (List.mem_append_left _ (List.mem_append_left _ (List.mem_append_left _ (List.mem_append_left _ (List.mem_append_left _ (List.mem_append_left _ (List.mem_append_left _ (List.mem_append_right _ (List.mem_append_right _ (List.mem_append_right _ (List.mem_append_right _ (List.mem_append_right _ (List.mem_append_right _ (List.mem_append_right _ (List.mem_append_right _ (List.mem_append_right _ (List.mem_append_right _ (List.mem_append_right _ (List.mem_append_right _ (List.mem_append_right _ (List.mem_append_right _ (List.mem_append_right _ (List.mem_append_right _ (List.mem_append_right _ (List.mem_append_right _ (List.mem_append_left _ h)))))))))))))))))))))))))))
theorem wl_r20 : ∀ w ∈ wsL_law0_r20, w ∈ wsL_law := fun w h => wl_0 w (List.mem_append_left _ (List.mem_append_left _ (List.mem_append_left _ (List.mem_append_left _ (List.mem_append_left _ (List.mem_append_left _ (List.mem_append_left _ (List.mem_append_left _ (List.mem_append_right _ (List.mem_append_right _ (List.mem_append_right _ (List.mem_append_right _ (List.mem_append_right _ (List.mem_append_right _ (List.mem_append_right _ (List.mem_append_right _ (List.mem_append_right _ (List.mem_append_right _ (List.mem_append_right _ (List.mem_append_right _ (List.mem_append_right _ (List.mem_append_right _ (List.mem_append_right _ (List.mem_append_right _ (List.mem_append_right _ (List.mem_append_right _ (List.mem_append_right _ (List.mem_append_left _ h))))))))))))))))))))))))))))
theorem wl_r21 : ∀ w ∈ wsL_law0_r21, w ∈ wsL_law := fun w h => wl_0 w (List.mem_append_left _ (List.mem_append_left _ (List.mem_append_left _ (List.mem_append_left _ (List.mem_append_left _ (List.mem_append_left _ (List.mem_append_left _ (List.mem_append_left _ (List.mem_append_right _ (List.mem_append_right _ (List.mem_append_right _ (List.mem_append_right _ (List.mem_append_right _ (List.mem_append_right _ (List.mem_append_right _ (List.mem_append_right _ (List.mem_append_right _ (List.mem_append_right _ (List.mem_append_right _ (List.mem_append_right _ (List.mem_append_right _ (List.mem_append_right _ (List.mem_append_right _ (List.mem_append_right _ (List.mem_append_right _ (List.mem_append_right _ (List.mem_append_right _ (List.mem_append_right _ (List.mem_append_left _ h)))))))))))))))))))))))))))))
theorem wl_r22 : ∀ w ∈ wsL_law0_r22, w ∈ wsL_law := fun w h => wl_0 w (List.mem_append_left _ (List.mem_append_left _ (List.mem_append_left _ (List.mem_append_left _ (List.mem_append_left _ (List.mem_append_left _ (List.mem_append_left _ (List.mem_append_left _ (List.mem_append_right _ (List.mem_append_right _ (List.mem_append_right _ (List.mem_append_right _ (List.mem_append_right _ (List.mem_append_right _ (List.mem_append_right _ (List.mem_append_right _ (List.mem_append_right _ (List.mem_append_right _ (List.mem_append_right _ (List.mem_append_right _ (List.mem_append_right _ (List.mem_append_right _ (List.mem_append_right _ (List.mem_append_right _ (List.mem_append_right _ (List.mem_append_right _ (List.mem_append_right _ (List.mem_append_right _ (List.mem_append_right _ (List.mem_append_left _ h))))))))))))))))))))))))))))))
theorem wl_r23 : ∀ w ∈ wsL_law0_r23, w ∈ wsL_law := fun w h => wl_0 w (List.mem_append_left _ (List.mem_append_left _ (List.mem_append_left _ (List.mem_append_left _ (List.mem_append_left _ (List.mem_append_left _ (List.mem_append_left _ (List.mem_append_left _ (List.mem_append_right _ (List.mem_append_right _ (List.mem_append_right _ (List.mem_append_right _ (List.mem_append_right _ (List.mem_append_right _ (List.mem_append_right _ (List.mem_append_right _ (List.mem_append_right _ (List.mem_append_right _ (List.mem_append_right _ (List.mem_append_right _ (List.mem_append_right _ (List.mem_append_right _ (List.mem_append_right _ (List.mem_append_right _ (List.mem_append_right _ (List.mem_append_right _ (List.mem_append_right _ (List.mem_append_right _ (List.mem_append_right _ (List.mem_append_right _ (List.mem_append_left _ h)))))))))))))))))))))))))))))))
theorem wl_r24 : ∀ w ∈ wsL_law0_r24, w ∈ wsL_law := fun w h => wl_0 w (List.mem_append_left _ (List.mem_append_left _ (List.mem_append_left _ (List.mem_append_left _ (List.mem_append_left _ (List.mem_append_left _ (List.mem_append_left _ (List.mem_append_left _ (List.mem_append_right _ (List.mem_append_right _ (List.mem_append_right _ (List.mem_append_right _ (List.mem_append_right _ (List.mem_append_right _ (List.mem_append_right _ (List.mem_append_right _ (List.mem_append_right _ (List.mem_append_right _ (List.mem_append_right _ (List.mem_append_right _ (List.mem_append_right _ (List.mem_append_right _ (List.mem_append_right _ (List.mem_append_right _ (List.mem_append_right _ (List.mem_append_right _ (List.mem_append_right _ (List.mem_append_right _ (List.mem_append_right _ (List.mem_append_right _ (List.mem_append_right _ (List.mem_append_left _ h))))))))))))))))))))))))))))))))
theorem wl_r25 : ∀ w ∈ wsL_law0_r25, w ∈ wsL_law := fun w h => wl_0 w (List.mem_append_left _ (List.mem_append_left _ (List.mem_append_left _ (List.mem_append_left _ (List.mem_append_left _ (List.mem_append_left _ (List.mem_append_left _ (List.mem_append_left _ (List.mem_append_right _ (List.mem_append_right _ (List.mem_append_right _ (List.mem_append_right _ (List.mem_append_right _ (List.mem_append_right _ (List.mem_append_right _ (List.mem_append_right _ (List.mem_append_right _ (List.mem_append_right _ (List.mem_append_right _ (List.mem_append_right _ (List.mem_append_right _ (List.mem_append_right _ (List.mem_append_right _ (List.mem_append_right _ (List.mem_append_right _ (List.mem_append_right _ (List.mem_append_right _ (List.mem_append_right _ (List.mem_append_right _ (List.mem_append_right _ (List.mem_append_right _ (List.mem_append_right _ (List.mem_append_left _ h)))))))))))))))))))))))))))))))))
theorem wl_r26 : ∀ w ∈ wsL_law0_r26, w ∈ wsL_law := fun w h => wl_0 w (List.mem_append_left _ (List.mem_append_left _ (List.mem_append_left _ (List.mem_append_left _ (List.mem_append_left _ (List.mem_append_left _ (List.mem_append_left _ (List.mem_append_left _ (List.mem_append_right _ (List.mem_append_right _ (List.mem_append_right _ (List.mem_append_right _ (List.mem_append_right _ (List.mem_append_right _ (List.mem_append_right _ (List.mem_append_right _ (List.mem_append_right _ (List.mem_append_right _ (List.mem_append_right _ (List.mem_append_right _ (List.mem_append_right _ (List.mem_append_right _ (List.mem_append_right _ (List.mem_append_right _ (List.mem_append_right _ (List.mem_append_right _ (List.mem_append_right _ (List.mem_append_right _ (List.mem_append_right _ (List.mem_append_right _ (List.mem_append_right _ (List.mem_append_right _ (List.mem_append_right _ (List.mem_append_left _ h))))))))))))))))))))))))))))))))))
theorem wl_r27 : ∀ w ∈ wsL_law0_r27, w ∈ wsL_law := fun w h => wl_0 w (List.mem_append_left _ (List.mem_append_left _ (List.mem_append_left _ (List.mem_append_left _ (List.mem_append_left _ (List.mem_append_left _ (List.mem_append_left _ (List.mem_append_left _ (List.mem_append_right _ (List.mem_append_right _ (List.mem_append_right _ (List.mem_append_right _ (List.mem_append_right _ (List.mem_append_right _ (List.mem_append_right _ (List.mem_append_right _ (List.mem_append_right _ (List.mem_append_right _ (List.mem_append_right _ (List.mem_append_right _ (List.mem_append_right _ (List.mem_append_right _ (List.mem_append_right _ (List.mem_append_right _ (List.mem_append_right _ (List.mem_append_right _ (List.mem_append_right _ (List.mem_append_right _ (List.mem_append_right _ (List.mem_append_right _ (List.mem_append_right _ (List.mem_append_right _ (List.mem_append_right _ (List.mem_append_right _ (List.mem_append_left _ h)))))))))))))))))))))))))))))))))))
theorem wl_r28 : ∀ w ∈ wsL_law0_r28, w ∈ wsL_law := fun w h => wl_0 w (List.mem_append_left _ (List.mem_append_left _ (List.mem_append_left _ (List.mem_append_left _ (List.mem_append_left _ (List.mem_append_left _ (List.mem_append_left _ (List.mem_append_left _ (List.mem_append_right _ (List.mem_append_right _ (List.mem_append_right _ (List.mem_append_right _ (List.mem_append_right _ (List.mem_append_right _ (List.mem_append_right _ (List.mem_append_right _ (List.mem_append_right _ (List.mem_append_right _ (List.mem_append_right _ (List.mem_append_right _ (List.mem_append_right _ (List.mem_append_right _ (List.mem_append_right _ (List.mem_append_right _ (List.mem_append_right _ (List.mem_append_right _ (List.mem_append_right _ (List.mem_append_right _ (List.mem_append_right _ (List.mem_append_right _ (List.mem_append_right _ (List.mem_append_right _ (List.mem_append_right _ (List.mem_append_right _ (List.mem_append_right _ (List.mem_append_left _ h))))))))))))))))))))))))))))))))))))
theorem wl_r29 : ∀ w ∈ wsL_law0_r29, w ∈ wsL_law := fun w h => wl_0 w (List.mem_append_left _ (List.mem_append_left _ (List.mem_append_left _ (List.mem_append_left _ (List.mem_append_left _ (List.mem_append_left _ (List.mem_append_left _ (List.mem_append_left _ (List.mem_append_right _ (List.mem_append_right _ (List.mem_append_right _ (List.mem_append_right _ (List.mem_append_right _ (List.mem_append_right _ (List.mem_append_right _ (List.mem_append_right _ (List.mem_append_right _ (List.mem_append_right _ (List.mem_append_right _ (List.mem_append_right _ (List.mem_append_right _ (List.mem_append_right _ (List.mem_append_right _ (List.mem_append_right _ (List.mem_append_right _ (List.mem_append_right _ (List.mem_append_right _ (List.mem_append_right _ (List.mem_append_right _ (List.mem_append_right _ (List.mem_append_right _ (List.mem_append_right _ (List.mem_append_right _ (List.mem_append_right _ (List.mem_append_right _ (List.mem_append_right _ (List.mem_append_left _ h)))))))))))))))))))))))))))))))))))))
theorem wl_r30 : ∀ w ∈ wsL_law0_r30, w ∈ wsL_law := fun w h => wl_0 w (List.mem_append_left _ (List.mem_append_left _ (List.mem_append_left _ (List.mem_append_left _ (List.mem_append_left _ (List.mem_append_left _ (List.mem_append_left _ (List.mem_append_left _ (List.mem_append_right _ (List.mem_append_right _ (List.mem_append_right _ (List.mem_append_right _ (List.mem_append_right _ (List.mem_append_right _ (List.mem_append_right _ (List.mem_append_right _ (List.mem_append_right _ (List.mem_append_right _ (List.mem_append_right _ (List.mem_append_right _ (List.mem_append_right _ (List.mem_append_right _ (List.mem_append_right _ (List.mem_append_right _ (List.mem_append_right _ (List.mem_append_right _ (List.mem_append_right _ (List.mem_append_right _ (List.mem_append_right _ (List.mem_append_right _ (List.mem_append_right _ (List.mem_append_right _ (List.mem_append_right _ (List.mem_append_right _ (List.mem_append_right _ (List.mem_append_right _ (List.mem_append_right _ (List.mem_append_left _ h))))))))))))))))))))))))))))))))))))))
theorem wl_r31 : ∀ w ∈ wsL_law0_r31, w ∈ wsL_law := fun w h => wl_0 w (List.mem_append_left _ (List.mem_append_left _ (List.mem_append_left _ (List.mem_append_left _ (List.mem_append_left _ (List.mem_append_left _ (List.mem_append_left _ (List.mem_append_left _ (List.mem_append_right _ (List.mem_append_right _ (List.mem_append_right _ (List.mem_append_right _ (List.mem_append_right _ (List.mem_append_right _ (List.mem_append_right _ (List.mem_append_right _ (List.mem_append_right _ (List.mem_append_right _ (List.mem_append_right _ (List.mem_append_right _ (List.mem_append_right _ (List.mem_append_right _ (List.mem_append_right _ (List.mem_append_right _ (List.mem_append_right _ (List.mem_append_right _ (List.mem_append_right _ (List.mem_append_right _ (List.mem_append_right _ (List.mem_append_right _ (List.mem_append_right _ (List.mem_append_right _ (List.mem_append_right _ (List.mem_append_right _ (List.mem_append_right _ (List.mem_append_right _ (List.mem_append_right _ (List.mem_append_right _ (List.mem_append_left _ h)))))))))))))))))))))))))))))))))))))))
theorem wl_r32 : ∀ w ∈ wsL_law0_r32, w ∈ wsL_law := fun w h => wl_0 w (List.mem_append_left _ (List.mem_append_left _ (List.mem_append_left _ (List.mem_append_left _ (List.mem_append_left _ (List.mem_append_left _ (List.mem_append_left _ (List.mem_append_left _ (List.mem_append_right _ (List.mem_append_right _ (List.mem_append_right _ (List.mem_append_right _ (List.mem_append_right _ (List.mem_append_right _ (List.mem_append_right _ (List.mem_append_right _ (List.mem_append_right _ (List.mem_append_right _ (List.mem_append_right _ (List.mem_append_right _ (List.mem_append_right _ (List.mem_append_right _ (List.mem_append_right _ (List.mem_append_right _ (List.mem_append_right _ (List.mem_append_right _ (List.mem_append_right _ (List.mem_append_right _ (List.mem_append_right _ (List.mem_append_right _ (List.mem_append_right _ (List.mem_append_right _ (List.mem_append_right _ (List.mem_append_right _ (List.mem_append_right _ (List.mem_append_right _ (List.mem_append_right _ (List.mem_append_right _ (List.mem_append_right _ (h))))))))))))))))))))))))))))))))))))))))
theorem wd_k_L_8 : Cond.classLink RL 8 RX4 ∈ wsL_law := wl_r1 _ (List.mem_of_getElem? (i := 0) rfl)
theorem wd_a_X4 : Cond.instantiable RX4 6 ∈ wsL_law := wl_r1 _ (List.mem_of_getElem? (i := 1) rfl)
theorem wd_n_X4 : Cond.initialized RX4 ∈ wsL_law := wl_r1 _ (List.mem_of_getElem? (i := 2) rfl)
theorem wd_k_L_92 : Cond.classLink RL 92 RX5 ∈ wsL_law := wl_r1 _ (List.mem_of_getElem? (i := 3) rfl)
theorem wd_a_X5 : Cond.instantiable RX5 20 ∈ wsL_law := wl_r1 _ (List.mem_of_getElem? (i := 4) rfl)
theorem wd_n_X5 : Cond.initialized RX5 ∈ wsL_law := wl_r1 _ (List.mem_of_getElem? (i := 5) rfl)
theorem wd_x0 : Cond.arrayClass .long ∈ wsL_law := wl_r1 _ (List.mem_of_getElem? (i := 6) rfl)
theorem wd_l_L_91 : Cond.methodLink RL 91 yX4_init ∈ wsL_law := wl_r1 _ (List.mem_of_getElem? (i := 7) rfl)
theorem wd_i_X4_init : Cond.instanceMethod yX4_init ∈ wsL_law := wl_r1 _ (List.mem_of_getElem? (i := 8) rfl)
theorem wd_c_X4_init : Cond.code yX4_init cX4_init 1 none ∈ wsL_law := wl_r1 _ (List.mem_of_getElem? (i := 9) rfl)
theorem wd_l_X4_1 : Cond.methodLink RX4 1 objectInit ∈ wsL_law := wl_r1 _ (List.mem_of_getElem? (i := 10) rfl)
theorem wd_x1 : Cond.instanceMethod objectInit ∈ wsL_law := wl_r1 _ (List.mem_of_getElem? (i := 11) rfl)
theorem wd_x2 : Cond.code objectInit ⟨#[0xb1]⟩ 1 none ∈ wsL_law := wl_r1 _ (List.mem_of_getElem? (i := 12) rfl)
theorem wd_k_X4_7 : Cond.classLink RX4 7 RJx4a65c ∈ wsL_law := wl_r1 _ (List.mem_of_getElem? (i := 13) rfl)
theorem wd_a_Jx4a65c : Cond.instantiable RJx4a65c 3 ∈ wsL_law := wl_r1 _ (List.mem_of_getElem? (i := 14) rfl)
theorem wd_n_Jx4a65c : Cond.initialized RJx4a65c ∈ wsL_law := wl_r1 _ (List.mem_of_getElem? (i := 15) rfl)
theorem wd_f_X4_10 : Cond.fieldLink RX4 10 "SignTiles" "ways" "Ljava/util/ArrayList;" ∈ wsL_law := wl_r1 _ (List.mem_of_getElem? (i := 16) rfl)
theorem wd_x3 : Cond.arrayClass .int ∈ wsL_law := wl_r1 _ (List.mem_of_getElem? (i := 17) rfl)
theorem wd_f_X4_16 : Cond.fieldLink RX4 16 "SignTiles" "trusts" "[I" ∈ wsL_law := wl_r1 _ (List.mem_of_getElem? (i := 18) rfl)
theorem wd_f_X4_20 : Cond.fieldLink RX4 20 "SignTiles" "carX" "[I" ∈ wsL_law := wl_r1 _ (List.mem_of_getElem? (i := 19) rfl)
theorem wd_f_X4_23 : Cond.fieldLink RX4 23 "SignTiles" "carY" "[I" ∈ wsL_law := wl_r1 _ (List.mem_of_getElem? (i := 20) rfl)
theorem wd_k_X4_26 : Cond.classLink RX4 26 RX1 ∈ wsL_law := wl_r1 _ (List.mem_of_getElem? (i := 21) rfl)
theorem wd_f_X4_28 : Cond.fieldLink RX4 28 "SignTiles" "tiles" "[LSignTiles$Tile;" ∈ wsL_law := wl_r1 _ (List.mem_of_getElem? (i := 22) rfl)
theorem wd_f_X4_32 : Cond.fieldLink RX4 32 "SignTiles" "changes" "I" ∈ wsL_law := wl_r1 _ (List.mem_of_getElem? (i := 23) rfl)
theorem wd_l_X4_9 : Cond.methodLink RX4 9 yJx4a65c_init_da8c8 ∈ wsL_law := wl_r2 _ (List.mem_of_getElem? (i := 0) rfl)
theorem wd_i_Jx4a65c_init_da8c8 : Cond.instanceMethod yJx4a65c_init_da8c8 ∈ wsL_law := wl_r2 _ (List.mem_of_getElem? (i := 1) rfl)
theorem wd_c_Jx4a65c_init_da8c8 : Cond.code yJx4a65c_init_da8c8 cJx4a65c_init_da8c8 1 none ∈ wsL_law := wl_r2 _ (List.mem_of_getElem? (i := 2) rfl)
theorem wd_f_Jx4a65c_39 : Cond.fieldLink RJx4a65c 39 "java/util/ArrayList" "DEFAULTCAPACITY_EMPTY_ELEMENTDATA" "[Ljava/lang/Object;" ∈ wsL_law := wl_r2 _ (List.mem_of_getElem? (i := 3) rfl)
theorem wd_f_Jx4a65c_9 : Cond.fieldLink RJx4a65c 9 "java/util/ArrayList" "elementData" "[Ljava/lang/Object;" ∈ wsL_law := wl_r2 _ (List.mem_of_getElem? (i := 4) rfl)
theorem wd_l_Jx4a65c_1 : Cond.methodLink RJx4a65c 1 yJxc12de_init_da8c8 ∈ wsL_law := wl_r2 _ (List.mem_of_getElem? (i := 5) rfl)
theorem wd_i_Jxc12de_init_da8c8 : Cond.instanceMethod yJxc12de_init_da8c8 ∈ wsL_law := wl_r2 _ (List.mem_of_getElem? (i := 6) rfl)
theorem wd_n_Jxc12de : Cond.initialized RJxc12de ∈ wsL_law := wl_r2 _ (List.mem_of_getElem? (i := 7) rfl)
theorem wd_c_Jxc12de_init_da8c8 : Cond.code yJxc12de_init_da8c8 cJxc12de_init_da8c8 1 none ∈ wsL_law := wl_r2 _ (List.mem_of_getElem? (i := 8) rfl)
theorem wd_f_Jxc12de_7 : Cond.fieldLink RJxc12de 7 "java/util/AbstractList" "modCount" "I" ∈ wsL_law := wl_r2 _ (List.mem_of_getElem? (i := 9) rfl)
theorem wd_l_Jxc12de_1 : Cond.methodLink RJxc12de 1 yJxa1e45_init_da8c8 ∈ wsL_law := wl_r2 _ (List.mem_of_getElem? (i := 10) rfl)
theorem wd_i_Jxa1e45_init_da8c8 : Cond.instanceMethod yJxa1e45_init_da8c8 ∈ wsL_law := wl_r2 _ (List.mem_of_getElem? (i := 11) rfl)
theorem wd_n_Jxa1e45 : Cond.initialized RJxa1e45 ∈ wsL_law := wl_r2 _ (List.mem_of_getElem? (i := 12) rfl)
theorem wd_c_Jxa1e45_init_da8c8 : Cond.code yJxa1e45_init_da8c8 cJxa1e45_init_da8c8 1 none ∈ wsL_law := wl_r2 _ (List.mem_of_getElem? (i := 13) rfl)
theorem wd_l_Jxa1e45_1 : Cond.methodLink RJxa1e45 1 objectInit ∈ wsL_law := wl_r2 _ (List.mem_of_getElem? (i := 14) rfl)
theorem wd_l_X4_36 : Cond.methodLink RX4 36 yJ7_fill_53178 ∈ wsL_law := wl_r2 _ (List.mem_of_getElem? (i := 15) rfl)
theorem wd_t_J7_fill_53178 : Cond.static yJ7_fill_53178 ∈ wsL_law := wl_r2 _ (List.mem_of_getElem? (i := 16) rfl)
theorem wd_n_J7 : Cond.initialized RJ7 ∈ wsL_law := wl_r2 _ (List.mem_of_getElem? (i := 17) rfl)
theorem wd_c_J7_fill_53178 : Cond.code yJ7_fill_53178 cJ7_fill_53178 4 none ∈ wsL_law := wl_r2 _ (List.mem_of_getElem? (i := 18) rfl)
theorem wd_l_L_94 : Cond.methodLink RL 94 yX5_init ∈ wsL_law := wl_r2 _ (List.mem_of_getElem? (i := 19) rfl)
theorem wd_i_X5_init : Cond.instanceMethod yX5_init ∈ wsL_law := wl_r2 _ (List.mem_of_getElem? (i := 20) rfl)
theorem wd_c_X5_init : Cond.code yX5_init cX5_init 2 none ∈ wsL_law := wl_r2 _ (List.mem_of_getElem? (i := 21) rfl)
theorem wd_l_X5_1 : Cond.methodLink RX5 1 objectInit ∈ wsL_law := wl_r2 _ (List.mem_of_getElem? (i := 22) rfl)
theorem wd_f_X5_7 : Cond.fieldLink RX5 7 "SignTilesModel" "trust" "[I" ∈ wsL_law := wl_r2 _ (List.mem_of_getElem? (i := 23) rfl)
theorem wd_f_X5_13 : Cond.fieldLink RX5 13 "SignTilesModel" "beginX" "[I" ∈ wsL_law := wl_r3 _ (List.mem_of_getElem? (i := 0) rfl)
theorem wd_f_X5_16 : Cond.fieldLink RX5 16 "SignTilesModel" "beginY" "[I" ∈ wsL_law := wl_r3 _ (List.mem_of_getElem? (i := 1) rfl)
theorem wd_f_X5_19 : Cond.fieldLink RX5 19 "SignTilesModel" "endX" "[I" ∈ wsL_law := wl_r3 _ (List.mem_of_getElem? (i := 2) rfl)
theorem wd_f_X5_22 : Cond.fieldLink RX5 22 "SignTilesModel" "endY" "[I" ∈ wsL_law := wl_r3 _ (List.mem_of_getElem? (i := 3) rfl)
theorem wd_f_X5_25 : Cond.fieldLink RX5 25 "SignTilesModel" "guard" "[I" ∈ wsL_law := wl_r3 _ (List.mem_of_getElem? (i := 4) rfl)
theorem wd_f_X5_28 : Cond.fieldLink RX5 28 "SignTilesModel" "versions" "[I" ∈ wsL_law := wl_r3 _ (List.mem_of_getElem? (i := 5) rfl)
theorem wd_f_X5_31 : Cond.fieldLink RX5 31 "SignTilesModel" "latest" "[I" ∈ wsL_law := wl_r3 _ (List.mem_of_getElem? (i := 6) rfl)
theorem wd_f_X5_34 : Cond.fieldLink RX5 34 "SignTilesModel" "waits" "[I" ∈ wsL_law := wl_r3 _ (List.mem_of_getElem? (i := 7) rfl)
theorem wd_f_X5_37 : Cond.fieldLink RX5 37 "SignTilesModel" "version" "[I" ∈ wsL_law := wl_r3 _ (List.mem_of_getElem? (i := 8) rfl)
theorem wd_f_X5_40 : Cond.fieldLink RX5 40 "SignTilesModel" "ahead" "[I" ∈ wsL_law := wl_r3 _ (List.mem_of_getElem? (i := 9) rfl)
theorem wd_f_X5_43 : Cond.fieldLink RX5 43 "SignTilesModel" "stamp" "[I" ∈ wsL_law := wl_r3 _ (List.mem_of_getElem? (i := 10) rfl)
theorem wd_f_X5_46 : Cond.fieldLink RX5 46 "SignTilesModel" "picture" "[I" ∈ wsL_law := wl_r3 _ (List.mem_of_getElem? (i := 11) rfl)
theorem wd_f_X5_49 : Cond.fieldLink RX5 49 "SignTilesModel" "carX" "[I" ∈ wsL_law := wl_r3 _ (List.mem_of_getElem? (i := 12) rfl)
theorem wd_f_X5_52 : Cond.fieldLink RX5 52 "SignTilesModel" "carY" "[I" ∈ wsL_law := wl_r3 _ (List.mem_of_getElem? (i := 13) rfl)
theorem wd_f_X5_55 : Cond.fieldLink RX5 55 "SignTilesModel" "sightings" "[I" ∈ wsL_law := wl_r3 _ (List.mem_of_getElem? (i := 14) rfl)
theorem wd_f_X5_58 : Cond.fieldLink RX5 58 "SignTilesModel" "seen" "[I" ∈ wsL_law := wl_r3 _ (List.mem_of_getElem? (i := 15) rfl)
theorem wd_l_L_95 : Cond.methodLink RL 95 yL_addWay ∈ wsL_law := wl_r3 _ (List.mem_of_getElem? (i := 16) rfl)
theorem wd_t_L_addWay : Cond.static yL_addWay ∈ wsL_law := wl_r3 _ (List.mem_of_getElem? (i := 17) rfl)
theorem wd_n_L : Cond.initialized RL ∈ wsL_law := wl_r3 _ (List.mem_of_getElem? (i := 18) rfl)
theorem wd_c_L_addWay : Cond.codeWith yL_addWay cL_addWay 8 (some .int) [(0, 16, 19, 13), (0, 16, 23, 15), (0, 16, 27, 17)] ∈ wsL_law := wl_r3 _ (List.mem_of_getElem? (i := 19) rfl)
theorem wd_k_L_13 : Cond.classLink RL 13 "java/lang/IndexOutOfBoundsException" ∈ wsL_law := wl_r3 _ (List.mem_of_getElem? (i := 20) rfl)
theorem wd_k_L_15 : Cond.classLink RL 15 "java/lang/IllegalArgumentException" ∈ wsL_law := wl_r3 _ (List.mem_of_getElem? (i := 21) rfl)
theorem wd_k_L_17 : Cond.classLink RL 17 "java/lang/IllegalStateException" ∈ wsL_law := wl_r3 _ (List.mem_of_getElem? (i := 22) rfl)
theorem wd_l_L_7 : Cond.methodLink RL 7 yX4_addWay ∈ wsL_law := wl_r3 _ (List.mem_of_getElem? (i := 23) rfl)
theorem wd_i_X4_addWay : Cond.instanceMethod yX4_addWay ∈ wsL_law := wl_r4 _ (List.mem_of_getElem? (i := 0) rfl)
theorem wd_s_X4_addWay : Cond.selects RX4 yX4_addWay yX4_addWay ∈ wsL_law := wl_r4 _ (List.mem_of_getElem? (i := 1) rfl)
theorem wd_c_X4_addWay : Cond.code yX4_addWay cX4_addWay 9 (some .int) ∈ wsL_law := wl_r4 _ (List.mem_of_getElem? (i := 2) rfl)
theorem wd_k_X4_58 : Cond.classLink RX4 58 "java/lang/IllegalArgumentException" ∈ wsL_law := wl_r4 _ (List.mem_of_getElem? (i := 3) rfl)
theorem wd_x4 : Cond.initialized "java/lang/IllegalArgumentException" ∈ wsL_law := wl_r4 _ (List.mem_of_getElem? (i := 4) rfl)
theorem wd_k_X4_73 : Cond.classLink RX4 73 "java/lang/IllegalStateException" ∈ wsL_law := wl_r4 _ (List.mem_of_getElem? (i := 5) rfl)
theorem wd_x5 : Cond.initialized "java/lang/IllegalStateException" ∈ wsL_law := wl_r4 _ (List.mem_of_getElem? (i := 6) rfl)
theorem wd_k_X4_78 : Cond.classLink RX4 78 RX3 ∈ wsL_law := wl_r4 _ (List.mem_of_getElem? (i := 7) rfl)
theorem wd_a_X3 : Cond.instantiable RX3 8 ∈ wsL_law := wl_r4 _ (List.mem_of_getElem? (i := 8) rfl)
theorem wd_n_X3 : Cond.initialized RX3 ∈ wsL_law := wl_r4 _ (List.mem_of_getElem? (i := 9) rfl)
theorem wd_k_X4_80 : Cond.classLink RX4 80 RX0 ∈ wsL_law := wl_r4 _ (List.mem_of_getElem? (i := 10) rfl)
theorem wd_a_X0 : Cond.instantiable RX0 3 ∈ wsL_law := wl_r4 _ (List.mem_of_getElem? (i := 11) rfl)
theorem wd_n_X0 : Cond.initialized RX0 ∈ wsL_law := wl_r4 _ (List.mem_of_getElem? (i := 12) rfl)
theorem wd_l_X4_42 : Cond.methodLink RX4 42 yX4_requireEditor ∈ wsL_law := wl_r4 _ (List.mem_of_getElem? (i := 13) rfl)
theorem wd_t_X4_requireEditor : Cond.static yX4_requireEditor ∈ wsL_law := wl_r4 _ (List.mem_of_getElem? (i := 14) rfl)
theorem wd_c_X4_requireEditor : Cond.code yX4_requireEditor cX4_requireEditor 1 none ∈ wsL_law := wl_r4 _ (List.mem_of_getElem? (i := 15) rfl)
theorem wd_k_X4_259 : Cond.classLink RX4 259 "java/lang/IndexOutOfBoundsException" ∈ wsL_law := wl_r4 _ (List.mem_of_getElem? (i := 16) rfl)
theorem wd_x6 : Cond.initialized "java/lang/IndexOutOfBoundsException" ∈ wsL_law := wl_r4 _ (List.mem_of_getElem? (i := 17) rfl)
theorem wd_l_X4_50 : Cond.methodLink RX4 50 yX4_isIn ∈ wsL_law := wl_r4 _ (List.mem_of_getElem? (i := 18) rfl)
theorem wd_t_X4_isIn : Cond.static yX4_isIn ∈ wsL_law := wl_r4 _ (List.mem_of_getElem? (i := 19) rfl)
theorem wd_c_X4_isIn : Cond.code yX4_isIn cX4_isIn 3 (some .boolean) ∈ wsL_law := wl_r4 _ (List.mem_of_getElem? (i := 20) rfl)
theorem wd_l_X4_46 : Cond.methodLink RX4 46 yX4_requireCrossing ∈ wsL_law := wl_r4 _ (List.mem_of_getElem? (i := 21) rfl)
theorem wd_t_X4_requireCrossing : Cond.static yX4_requireCrossing ∈ wsL_law := wl_r4 _ (List.mem_of_getElem? (i := 22) rfl)
theorem wd_c_X4_requireCrossing : Cond.code yX4_requireCrossing cX4_requireCrossing 2 none ∈ wsL_law := wl_r4 _ (List.mem_of_getElem? (i := 23) rfl)
theorem wd_l_X4_54 : Cond.methodLink RX4 54 yX4_isKind ∈ wsL_law := wl_r5 _ (List.mem_of_getElem? (i := 0) rfl)
theorem wd_t_X4_isKind : Cond.static yX4_isKind ∈ wsL_law := wl_r5 _ (List.mem_of_getElem? (i := 1) rfl)
theorem wd_c_X4_isKind : Cond.code yX4_isKind cX4_isKind 1 (some .boolean) ∈ wsL_law := wl_r5 _ (List.mem_of_getElem? (i := 2) rfl)
theorem wd_l_X4_65 : Cond.methodLink RX4 65 yJx4a65c_size_8abf5 ∈ wsL_law := wl_r5 _ (List.mem_of_getElem? (i := 3) rfl)
theorem wd_i_Jx4a65c_size_8abf5 : Cond.instanceMethod yJx4a65c_size_8abf5 ∈ wsL_law := wl_r5 _ (List.mem_of_getElem? (i := 4) rfl)
theorem wd_s_Jx4a65c_size_8abf5 : Cond.selects RJx4a65c yJx4a65c_size_8abf5 yJx4a65c_size_8abf5 ∈ wsL_law := wl_r5 _ (List.mem_of_getElem? (i := 5) rfl)
theorem wd_c_Jx4a65c_size_8abf5 : Cond.code yJx4a65c_size_8abf5 cJx4a65c_size_8abf5 1 (some .int) ∈ wsL_law := wl_r5 _ (List.mem_of_getElem? (i := 6) rfl)
theorem wd_f_Jx4a65c_48 : Cond.fieldLink RJx4a65c 48 "java/util/ArrayList" "size" "I" ∈ wsL_law := wl_r5 _ (List.mem_of_getElem? (i := 7) rfl)
theorem wd_l_X4_69 : Cond.methodLink RX4 69 yX4_isFull ∈ wsL_law := wl_r5 _ (List.mem_of_getElem? (i := 8) rfl)
theorem wd_i_X4_isFull : Cond.instanceMethod yX4_isFull ∈ wsL_law := wl_r5 _ (List.mem_of_getElem? (i := 9) rfl)
theorem wd_s_X4_isFull : Cond.selects RX4 yX4_isFull yX4_isFull ∈ wsL_law := wl_r5 _ (List.mem_of_getElem? (i := 10) rfl)
theorem wd_c_X4_isFull : Cond.code yX4_isFull cX4_isFull 1 (some .boolean) ∈ wsL_law := wl_r5 _ (List.mem_of_getElem? (i := 11) rfl)
theorem wd_l_X4_82 : Cond.methodLink RX4 82 yX0_init ∈ wsL_law := wl_r5 _ (List.mem_of_getElem? (i := 12) rfl)
theorem wd_i_X0_init : Cond.instanceMethod yX0_init ∈ wsL_law := wl_r5 _ (List.mem_of_getElem? (i := 13) rfl)
theorem wd_c_X0_init : Cond.code yX0_init cX0_init 4 none ∈ wsL_law := wl_r5 _ (List.mem_of_getElem? (i := 14) rfl)
theorem wd_l_X0_1 : Cond.methodLink RX0 1 objectInit ∈ wsL_law := wl_r5 _ (List.mem_of_getElem? (i := 15) rfl)
theorem wd_f_X0_7 : Cond.fieldLink RX0 7 "SignTiles$Change" "kind" "I" ∈ wsL_law := wl_r5 _ (List.mem_of_getElem? (i := 16) rfl)
theorem wd_f_X0_13 : Cond.fieldLink RX0 13 "SignTiles$Change" "direction" "I" ∈ wsL_law := wl_r5 _ (List.mem_of_getElem? (i := 17) rfl)
theorem wd_f_X0_16 : Cond.fieldLink RX0 16 "SignTiles$Change" "editor" "I" ∈ wsL_law := wl_r5 _ (List.mem_of_getElem? (i := 18) rfl)
theorem wd_l_X4_85 : Cond.methodLink RX4 85 yX4_newVersion ∈ wsL_law := wl_r5 _ (List.mem_of_getElem? (i := 19) rfl)
theorem wd_i_X4_newVersion : Cond.instanceMethod yX4_newVersion ∈ wsL_law := wl_r5 _ (List.mem_of_getElem? (i := 20) rfl)
theorem wd_s_X4_newVersion : Cond.selects RX4 yX4_newVersion yX4_newVersion ∈ wsL_law := wl_r5 _ (List.mem_of_getElem? (i := 21) rfl)
theorem wd_c_X4_newVersion : Cond.code yX4_newVersion cX4_newVersion 3 (some (.object "SignTiles$Version")) ∈ wsL_law := wl_r5 _ (List.mem_of_getElem? (i := 22) rfl)
theorem wd_k_X4_138 : Cond.classLink RX4 138 RX2 ∈ wsL_law := wl_r5 _ (List.mem_of_getElem? (i := 23) rfl)
theorem wd_a_X2 : Cond.instantiable RX2 4 ∈ wsL_law := wl_r6 _ (List.mem_of_getElem? (i := 0) rfl)
theorem wd_n_X2 : Cond.initialized RX2 ∈ wsL_law := wl_r6 _ (List.mem_of_getElem? (i := 1) rfl)
theorem wd_l_X4_281 : Cond.methodLink RX4 281 yX2_init ∈ wsL_law := wl_r6 _ (List.mem_of_getElem? (i := 2) rfl)
theorem wd_i_X2_init : Cond.instanceMethod yX2_init ∈ wsL_law := wl_r6 _ (List.mem_of_getElem? (i := 3) rfl)
theorem wd_c_X2_init : Cond.code yX2_init cX2_init 4 none ∈ wsL_law := wl_r6 _ (List.mem_of_getElem? (i := 4) rfl)
theorem wd_l_X2_1 : Cond.methodLink RX2 1 objectInit ∈ wsL_law := wl_r6 _ (List.mem_of_getElem? (i := 5) rfl)
theorem wd_f_X2_7 : Cond.fieldLink RX2 7 "SignTiles$Version" "change" "LSignTiles$Change;" ∈ wsL_law := wl_r6 _ (List.mem_of_getElem? (i := 6) rfl)
theorem wd_f_X2_13 : Cond.fieldLink RX2 13 "SignTiles$Version" "stamp" "I" ∈ wsL_law := wl_r6 _ (List.mem_of_getElem? (i := 7) rfl)
theorem wd_f_X2_17 : Cond.fieldLink RX2 17 "SignTiles$Version" "number" "I" ∈ wsL_law := wl_r6 _ (List.mem_of_getElem? (i := 8) rfl)
theorem wd_f_X2_20 : Cond.fieldLink RX2 20 "SignTiles$Version" "ahead" "LSignTiles$Version;" ∈ wsL_law := wl_r6 _ (List.mem_of_getElem? (i := 9) rfl)
theorem wd_l_X4_89 : Cond.methodLink RX4 89 yX3_init ∈ wsL_law := wl_r6 _ (List.mem_of_getElem? (i := 10) rfl)
theorem wd_i_X3_init : Cond.instanceMethod yX3_init ∈ wsL_law := wl_r6 _ (List.mem_of_getElem? (i := 11) rfl)
theorem wd_c_X3_init : Cond.code yX3_init cX3_init 6 none ∈ wsL_law := wl_r6 _ (List.mem_of_getElem? (i := 12) rfl)
theorem wd_l_X3_3 : Cond.methodLink RX3 3 objectInit ∈ wsL_law := wl_r6 _ (List.mem_of_getElem? (i := 13) rfl)
theorem wd_f_X3_9 : Cond.fieldLink RX3 9 "SignTiles$Way" "guard" "I" ∈ wsL_law := wl_r6 _ (List.mem_of_getElem? (i := 14) rfl)
theorem wd_f_X3_15 : Cond.fieldLink RX3 15 "SignTiles$Way" "waiting" "LSignTiles$Change;" ∈ wsL_law := wl_r6 _ (List.mem_of_getElem? (i := 15) rfl)
theorem wd_f_X3_19 : Cond.fieldLink RX3 19 "SignTiles$Way" "doubts" "[I" ∈ wsL_law := wl_r6 _ (List.mem_of_getElem? (i := 16) rfl)
theorem wd_f_X3_23 : Cond.fieldLink RX3 23 "SignTiles$Way" "beginX" "I" ∈ wsL_law := wl_r6 _ (List.mem_of_getElem? (i := 17) rfl)
theorem wd_f_X3_26 : Cond.fieldLink RX3 26 "SignTiles$Way" "beginY" "I" ∈ wsL_law := wl_r6 _ (List.mem_of_getElem? (i := 18) rfl)
theorem wd_f_X3_29 : Cond.fieldLink RX3 29 "SignTiles$Way" "endX" "I" ∈ wsL_law := wl_r6 _ (List.mem_of_getElem? (i := 19) rfl)
theorem wd_f_X3_32 : Cond.fieldLink RX3 32 "SignTiles$Way" "endY" "I" ∈ wsL_law := wl_r6 _ (List.mem_of_getElem? (i := 20) rfl)
theorem wd_f_X3_35 : Cond.fieldLink RX3 35 "SignTiles$Way" "latest" "LSignTiles$Version;" ∈ wsL_law := wl_r6 _ (List.mem_of_getElem? (i := 21) rfl)
theorem wd_l_X3_39 : Cond.methodLink RX3 39 yJ7_fill_53178 ∈ wsL_law := wl_r6 _ (List.mem_of_getElem? (i := 22) rfl)
theorem wd_l_X4_92 : Cond.methodLink RX4 92 yJx4a65c_add_9ea2d ∈ wsL_law := wl_r6 _ (List.mem_of_getElem? (i := 23) rfl)
theorem wd_i_Jx4a65c_add_9ea2d : Cond.instanceMethod yJx4a65c_add_9ea2d ∈ wsL_law := wl_r7 _ (List.mem_of_getElem? (i := 0) rfl)
theorem wd_s_Jx4a65c_add_9ea2d : Cond.selects RJx4a65c yJx4a65c_add_9ea2d yJx4a65c_add_9ea2d ∈ wsL_law := wl_r7 _ (List.mem_of_getElem? (i := 1) rfl)
theorem wd_c_Jx4a65c_add_9ea2d : Cond.code yJx4a65c_add_9ea2d cJx4a65c_add_9ea2d 2 (some .boolean) ∈ wsL_law := wl_r7 _ (List.mem_of_getElem? (i := 2) rfl)
theorem wd_f_Jx4a65c_63 : Cond.fieldLink RJx4a65c 63 "java/util/ArrayList" "modCount" "I" ∈ wsL_law := wl_r7 _ (List.mem_of_getElem? (i := 3) rfl)
theorem wd_x7 : Cond.sameField "java/util/ArrayList" "java/util/AbstractList" "modCount" "I" ∈ wsL_law := wl_r7 _ (List.mem_of_getElem? (i := 4) rfl)
theorem wd_l_Jx4a65c_131 : Cond.methodLink RJx4a65c 131 yJx4a65c_add_72be8 ∈ wsL_law := wl_r7 _ (List.mem_of_getElem? (i := 5) rfl)
theorem wd_i_Jx4a65c_add_72be8 : Cond.instanceMethod yJx4a65c_add_72be8 ∈ wsL_law := wl_r7 _ (List.mem_of_getElem? (i := 6) rfl)
theorem wd_s_Jx4a65c_add_72be8 : Cond.selects RJx4a65c yJx4a65c_add_72be8 yJx4a65c_add_72be8 ∈ wsL_law := wl_r7 _ (List.mem_of_getElem? (i := 7) rfl)
theorem wd_c_Jx4a65c_add_72be8 : Cond.code yJx4a65c_add_72be8 cJx4a65c_add_72be8 4 none ∈ wsL_law := wl_r7 _ (List.mem_of_getElem? (i := 8) rfl)
theorem wd_l_Jx4a65c_129 : Cond.methodLink RJx4a65c 129 yJx4a65c_grow_d5877 ∈ wsL_law := wl_r7 _ (List.mem_of_getElem? (i := 9) rfl)
theorem wd_i_Jx4a65c_grow_d5877 : Cond.instanceMethod yJx4a65c_grow_d5877 ∈ wsL_law := wl_r7 _ (List.mem_of_getElem? (i := 10) rfl)
theorem wd_s_Jx4a65c_grow_d5877 : Cond.selects RJx4a65c yJx4a65c_grow_d5877 yJx4a65c_grow_d5877 ∈ wsL_law := wl_r7 _ (List.mem_of_getElem? (i := 11) rfl)
theorem wd_c_Jx4a65c_grow_d5877 : Cond.code yJx4a65c_grow_d5877 cJx4a65c_grow_d5877 1 (some (.array (.object "java/lang/Object"))) ∈ wsL_law := wl_r7 _ (List.mem_of_getElem? (i := 12) rfl)
theorem wd_l_Jx4a65c_69 : Cond.methodLink RJx4a65c 69 yJx4a65c_grow_92f84 ∈ wsL_law := wl_r7 _ (List.mem_of_getElem? (i := 13) rfl)
theorem wd_i_Jx4a65c_grow_92f84 : Cond.instanceMethod yJx4a65c_grow_92f84 ∈ wsL_law := wl_r7 _ (List.mem_of_getElem? (i := 14) rfl)
theorem wd_s_Jx4a65c_grow_92f84 : Cond.selects RJx4a65c yJx4a65c_grow_92f84 yJx4a65c_grow_92f84 ∈ wsL_law := wl_r7 _ (List.mem_of_getElem? (i := 15) rfl)
theorem wd_c_Jx4a65c_grow_92f84 : Cond.code yJx4a65c_grow_92f84 cJx4a65c_grow_92f84 4 (some (.array (.object "java/lang/Object"))) ∈ wsL_law := wl_r7 _ (List.mem_of_getElem? (i := 16) rfl)
theorem wd_l_Jx4a65c_79 : Cond.methodLink RJx4a65c 79 Lib.Math.max.name ∈ wsL_law := wl_r7 _ (List.mem_of_getElem? (i := 17) rfl)
theorem wd_x8 : Cond.static Lib.Math.max.name ∈ wsL_law := wl_r7 _ (List.mem_of_getElem? (i := 18) rfl)
theorem wd_x9 : Cond.initialized "java/lang/Math" ∈ wsL_law := wl_r7 _ (List.mem_of_getElem? (i := 19) rfl)
theorem wd_x10 : Cond.code Lib.Math.max.name Lib.Math.max.code 2 (some .int) ∈ wsL_law := wl_r7 _ (List.mem_of_getElem? (i := 20) rfl)
theorem wd_k_Jx4a65c_7 : Cond.classLink RJx4a65c 7 "java/lang/Object" ∈ wsL_law := wl_r7 _ (List.mem_of_getElem? (i := 21) rfl)
theorem wd_l_Jx4a65c_73 : Cond.methodLink RJx4a65c 73 yJ8_newLength_cabcc ∈ wsL_law := wl_r7 _ (List.mem_of_getElem? (i := 22) rfl)
theorem wd_t_J8_newLength_cabcc : Cond.static yJ8_newLength_cabcc ∈ wsL_law := wl_r7 _ (List.mem_of_getElem? (i := 23) rfl)
theorem wd_n_J8 : Cond.initialized RJ8 ∈ wsL_law := wl_r8 _ (List.mem_of_getElem? (i := 0) rfl)
theorem wd_c_J8_newLength_cabcc : Cond.code yJ8_newLength_cabcc cJ8_newLength_cabcc 4 (some .int) ∈ wsL_law := wl_r8 _ (List.mem_of_getElem? (i := 1) rfl)
theorem wd_l_J8_194 : Cond.methodLink RJ8 194 Lib.Math.max.name ∈ wsL_law := wl_r8 _ (List.mem_of_getElem? (i := 2) rfl)
theorem wd_x11 : Cond.constant RJ8 200 (2147483639) ∈ wsL_law := wl_r8 _ (List.mem_of_getElem? (i := 3) rfl)
theorem wd_l_J8_201 : Cond.methodLink RJ8 201 yJ8_hugeLength_7cf53 ∈ wsL_law := wl_r8 _ (List.mem_of_getElem? (i := 4) rfl)
theorem wd_t_J8_hugeLength_7cf53 : Cond.static yJ8_hugeLength_7cf53 ∈ wsL_law := wl_r8 _ (List.mem_of_getElem? (i := 5) rfl)
theorem wd_c_J8_hugeLength_7cf53 : Cond.code yJ8_hugeLength_7cf53 cJ8_hugeLength_7cf53 3 (some .int) ∈ wsL_law := wl_r8 _ (List.mem_of_getElem? (i := 6) rfl)
theorem wd_l_Jx4a65c_66 : Cond.methodLink RJx4a65c 66 yJ7_copyOf_1904c ∈ wsL_law := wl_r8 _ (List.mem_of_getElem? (i := 7) rfl)
theorem wd_t_J7_copyOf_1904c : Cond.static yJ7_copyOf_1904c ∈ wsL_law := wl_r8 _ (List.mem_of_getElem? (i := 8) rfl)
theorem wd_c_J7_copyOf_1904c : Cond.code yJ7_copyOf_1904c cJ7_copyOf_1904c 2 (some (.array (.object "java/lang/Object"))) ∈ wsL_law := wl_r8 _ (List.mem_of_getElem? (i := 9) rfl)
theorem wd_l_J7_86 : Cond.methodLink RJ7 86 ⟨"java/lang/Object", "getClass", "()Ljava/lang/Class;"⟩ ∈ wsL_law := wl_r8 _ (List.mem_of_getElem? (i := 10) rfl)
theorem wd_x12 : Cond.selects "[Ljava/lang/Object;" ⟨"java/lang/Object", "getClass", "()Ljava/lang/Class;"⟩ ⟨"java/lang/Object", "getClass", "()Ljava/lang/Class;"⟩ ∈ wsL_law := wl_r8 _ (List.mem_of_getElem? (i := 11) rfl)
theorem wd_x13 : Cond.instanceMethod ⟨"java/lang/Object", "getClass", "()Ljava/lang/Class;"⟩ ∈ wsL_law := wl_r8 _ (List.mem_of_getElem? (i := 12) rfl)
theorem wd_x14 : Cond.native ⟨"java/lang/Object", "getClass", "()Ljava/lang/Class;"⟩ ∈ wsL_law := wl_r8 _ (List.mem_of_getElem? (i := 13) rfl)
theorem wd_l_J7_300 : Cond.methodLink RJ7 300 yJ7_copyOf_6403c ∈ wsL_law := wl_r8 _ (List.mem_of_getElem? (i := 14) rfl)
theorem wd_t_J7_copyOf_6403c : Cond.static yJ7_copyOf_6403c ∈ wsL_law := wl_r8 _ (List.mem_of_getElem? (i := 15) rfl)
theorem wd_c_J7_copyOf_6403c : Cond.code yJ7_copyOf_6403c cJ7_copyOf_6403c 4 (some (.array (.object "java/lang/Object"))) ∈ wsL_law := wl_r8 _ (List.mem_of_getElem? (i := 16) rfl)
theorem wd_k_J7_110 : Cond.classLink RJ7 110 "[Ljava/lang/Object;" ∈ wsL_law := wl_r8 _ (List.mem_of_getElem? (i := 17) rfl)
theorem wd_k_J7_2 : Cond.classLink RJ7 2 "java/lang/Object" ∈ wsL_law := wl_r8 _ (List.mem_of_getElem? (i := 18) rfl)
theorem wd_l_J7_304 : Cond.methodLink RJ7 304 Lib.Math.min.name ∈ wsL_law := wl_r8 _ (List.mem_of_getElem? (i := 19) rfl)
theorem wd_x15 : Cond.static Lib.Math.min.name ∈ wsL_law := wl_r8 _ (List.mem_of_getElem? (i := 20) rfl)
theorem wd_x16 : Cond.code Lib.Math.min.name Lib.Math.min.code 2 (some .int) ∈ wsL_law := wl_r8 _ (List.mem_of_getElem? (i := 21) rfl)
theorem wd_l_J7_150 : Cond.methodLink RJ7 150 arraycopyName ∈ wsL_law := wl_r8 _ (List.mem_of_getElem? (i := 22) rfl)
theorem wd_x17 : Cond.native arraycopyName ∈ wsL_law := wl_r8 _ (List.mem_of_getElem? (i := 23) rfl)
theorem wd_x18 : Cond.static arraycopyName ∈ wsL_law := wl_r9 _ (List.mem_of_getElem? (i := 0) rfl)
theorem wd_x19 : Cond.initialized "java/lang/System" ∈ wsL_law := wl_r9 _ (List.mem_of_getElem? (i := 1) rfl)
theorem wd_l_L_100 : Cond.methodLink RL 100 yX5_addWay ∈ wsL_law := wl_r9 _ (List.mem_of_getElem? (i := 2) rfl)
theorem wd_i_X5_addWay : Cond.instanceMethod yX5_addWay ∈ wsL_law := wl_r9 _ (List.mem_of_getElem? (i := 3) rfl)
theorem wd_s_X5_addWay : Cond.selects RX5 yX5_addWay yX5_addWay ∈ wsL_law := wl_r9 _ (List.mem_of_getElem? (i := 4) rfl)
theorem wd_c_X5_addWay : Cond.code yX5_addWay cX5_addWay 9 (some .int) ∈ wsL_law := wl_r9 _ (List.mem_of_getElem? (i := 5) rfl)
theorem wd_f_X5_69 : Cond.fieldLink RX5 69 "SignTilesModel" "ways" "I" ∈ wsL_law := wl_r9 _ (List.mem_of_getElem? (i := 6) rfl)
theorem wd_l_X5_65 : Cond.methodLink RX5 65 yX5_in ∈ wsL_law := wl_r9 _ (List.mem_of_getElem? (i := 7) rfl)
theorem wd_t_X5_in : Cond.static yX5_in ∈ wsL_law := wl_r9 _ (List.mem_of_getElem? (i := 8) rfl)
theorem wd_c_X5_in : Cond.code yX5_in cX5_in 3 (some .boolean) ∈ wsL_law := wl_r9 _ (List.mem_of_getElem? (i := 9) rfl)
theorem wd_l_X5_75 : Cond.methodLink RX5 75 yX5_isEditor ∈ wsL_law := wl_r9 _ (List.mem_of_getElem? (i := 10) rfl)
theorem wd_t_X5_isEditor : Cond.static yX5_isEditor ∈ wsL_law := wl_r9 _ (List.mem_of_getElem? (i := 11) rfl)
theorem wd_c_X5_isEditor : Cond.code yX5_isEditor cX5_isEditor 1 (some .boolean) ∈ wsL_law := wl_r9 _ (List.mem_of_getElem? (i := 12) rfl)
theorem wd_l_X5_79 : Cond.methodLink RX5 79 yX5_isCrossing ∈ wsL_law := wl_r9 _ (List.mem_of_getElem? (i := 13) rfl)
theorem wd_t_X5_isCrossing : Cond.static yX5_isCrossing ∈ wsL_law := wl_r9 _ (List.mem_of_getElem? (i := 14) rfl)
theorem wd_c_X5_isCrossing : Cond.code yX5_isCrossing cX5_isCrossing 2 (some .boolean) ∈ wsL_law := wl_r9 _ (List.mem_of_getElem? (i := 15) rfl)
theorem wd_l_X5_83 : Cond.methodLink RX5 83 yX5_asks ∈ wsL_law := wl_r9 _ (List.mem_of_getElem? (i := 16) rfl)
theorem wd_i_X5_asks : Cond.instanceMethod yX5_asks ∈ wsL_law := wl_r9 _ (List.mem_of_getElem? (i := 17) rfl)
theorem wd_s_X5_asks : Cond.selects RX5 yX5_asks yX5_asks ∈ wsL_law := wl_r9 _ (List.mem_of_getElem? (i := 18) rfl)
theorem wd_c_X5_asks : Cond.code yX5_asks cX5_asks 2 (some .boolean) ∈ wsL_law := wl_r9 _ (List.mem_of_getElem? (i := 19) rfl)
theorem wd_f_X5_61 : Cond.fieldLink RX5 61 "SignTilesModel" "thrown" "I" ∈ wsL_law := wl_r9 _ (List.mem_of_getElem? (i := 20) rfl)
theorem wd_l_X5_87 : Cond.methodLink RX5 87 yX5_fails ∈ wsL_law := wl_r9 _ (List.mem_of_getElem? (i := 21) rfl)
theorem wd_i_X5_fails : Cond.instanceMethod yX5_fails ∈ wsL_law := wl_r9 _ (List.mem_of_getElem? (i := 22) rfl)
theorem wd_s_X5_fails : Cond.selects RX5 yX5_fails yX5_fails ∈ wsL_law := wl_r9 _ (List.mem_of_getElem? (i := 23) rfl)
theorem wd_c_X5_fails : Cond.code yX5_fails cX5_fails 2 (some .int) ∈ wsL_law := wl_r10 _ (List.mem_of_getElem? (i := 0) rfl)
theorem wd_l_X5_91 : Cond.methodLink RX5 91 yX5_makes ∈ wsL_law := wl_r10 _ (List.mem_of_getElem? (i := 1) rfl)
theorem wd_i_X5_makes : Cond.instanceMethod yX5_makes ∈ wsL_law := wl_r10 _ (List.mem_of_getElem? (i := 2) rfl)
theorem wd_s_X5_makes : Cond.selects RX5 yX5_makes yX5_makes ∈ wsL_law := wl_r10 _ (List.mem_of_getElem? (i := 3) rfl)
theorem wd_c_X5_makes : Cond.code yX5_makes cX5_makes 5 none ∈ wsL_law := wl_r10 _ (List.mem_of_getElem? (i := 4) rfl)
theorem wd_f_X5_72 : Cond.fieldLink RX5 72 "SignTilesModel" "clock" "I" ∈ wsL_law := wl_r10 _ (List.mem_of_getElem? (i := 5) rfl)
theorem wd_l_L_101 : Cond.methodLink RL 101 yX5_thrown ∈ wsL_law := wl_r10 _ (List.mem_of_getElem? (i := 6) rfl)
theorem wd_i_X5_thrown : Cond.instanceMethod yX5_thrown ∈ wsL_law := wl_r10 _ (List.mem_of_getElem? (i := 7) rfl)
theorem wd_s_X5_thrown : Cond.selects RX5 yX5_thrown yX5_thrown ∈ wsL_law := wl_r10 _ (List.mem_of_getElem? (i := 8) rfl)
theorem wd_c_X5_thrown : Cond.code yX5_thrown cX5_thrown 1 (some .int) ∈ wsL_law := wl_r10 _ (List.mem_of_getElem? (i := 9) rfl)
theorem wd_l_L_105 : Cond.methodLink RL 105 yL_edit ∈ wsL_law := wl_r10 _ (List.mem_of_getElem? (i := 10) rfl)
theorem wd_t_L_edit : Cond.static yL_edit ∈ wsL_law := wl_r10 _ (List.mem_of_getElem? (i := 11) rfl)
theorem wd_c_L_edit : Cond.codeWith yL_edit cL_edit 7 (some .int) [(0, 21, 24, 13), (0, 21, 28, 15), (0, 21, 32, 17)] ∈ wsL_law := wl_r10 _ (List.mem_of_getElem? (i := 12) rfl)
theorem wd_l_L_19 : Cond.methodLink RL 19 yX4_edit ∈ wsL_law := wl_r10 _ (List.mem_of_getElem? (i := 13) rfl)
theorem wd_i_X4_edit : Cond.instanceMethod yX4_edit ∈ wsL_law := wl_r10 _ (List.mem_of_getElem? (i := 14) rfl)
theorem wd_s_X4_edit : Cond.selects RX4 yX4_edit yX4_edit ∈ wsL_law := wl_r10 _ (List.mem_of_getElem? (i := 15) rfl)
theorem wd_c_X4_edit : Cond.code yX4_edit cX4_edit 7 (some .boolean) ∈ wsL_law := wl_r10 _ (List.mem_of_getElem? (i := 16) rfl)
theorem wd_f_X4_113 : Cond.fieldLink RX4 113 "SignTiles$Way" "guard" "I" ∈ wsL_law := wl_r10 _ (List.mem_of_getElem? (i := 17) rfl)
theorem wd_f_X4_116 : Cond.fieldLink RX4 116 "SignTiles$Way" "waiting" "LSignTiles$Change;" ∈ wsL_law := wl_r10 _ (List.mem_of_getElem? (i := 18) rfl)
theorem wd_l_X4_96 : Cond.methodLink RX4 96 yX4_wayAt ∈ wsL_law := wl_r10 _ (List.mem_of_getElem? (i := 19) rfl)
theorem wd_i_X4_wayAt : Cond.instanceMethod yX4_wayAt ∈ wsL_law := wl_r10 _ (List.mem_of_getElem? (i := 20) rfl)
theorem wd_s_X4_wayAt : Cond.selects RX4 yX4_wayAt yX4_wayAt ∈ wsL_law := wl_r10 _ (List.mem_of_getElem? (i := 21) rfl)
theorem wd_c_X4_wayAt : Cond.code yX4_wayAt cX4_wayAt 2 (some (.object "SignTiles$Way")) ∈ wsL_law := wl_r10 _ (List.mem_of_getElem? (i := 22) rfl)
theorem wd_k_X4_78_b : Cond.classLink RX4 78 "SignTiles$Way" ∈ wsL_law := wl_r10 _ (List.mem_of_getElem? (i := 23) rfl)
theorem wd_l_X4_272 : Cond.methodLink RX4 272 yJx4a65c_get_915e3 ∈ wsL_law := wl_r11 _ (List.mem_of_getElem? (i := 0) rfl)
theorem wd_i_Jx4a65c_get_915e3 : Cond.instanceMethod yJx4a65c_get_915e3 ∈ wsL_law := wl_r11 _ (List.mem_of_getElem? (i := 1) rfl)
theorem wd_s_Jx4a65c_get_915e3 : Cond.selects RJx4a65c yJx4a65c_get_915e3 yJx4a65c_get_915e3 ∈ wsL_law := wl_r11 _ (List.mem_of_getElem? (i := 2) rfl)
theorem wd_c_Jx4a65c_get_915e3 : Cond.code yJx4a65c_get_915e3 cJx4a65c_get_915e3 2 (some (.object "java/lang/Object")) ∈ wsL_law := wl_r11 _ (List.mem_of_getElem? (i := 3) rfl)
theorem wd_l_Jx4a65c_118 : Cond.methodLink RJx4a65c 118 yJ15_checkIndex_7cf53 ∈ wsL_law := wl_r11 _ (List.mem_of_getElem? (i := 4) rfl)
theorem wd_t_J15_checkIndex_7cf53 : Cond.static yJ15_checkIndex_7cf53 ∈ wsL_law := wl_r11 _ (List.mem_of_getElem? (i := 5) rfl)
theorem wd_n_J15 : Cond.initialized RJ15 ∈ wsL_law := wl_r11 _ (List.mem_of_getElem? (i := 6) rfl)
theorem wd_c_J15_checkIndex_7cf53 : Cond.code yJ15_checkIndex_7cf53 cJ15_checkIndex_7cf53 2 (some .int) ∈ wsL_law := wl_r11 _ (List.mem_of_getElem? (i := 7) rfl)
theorem wd_l_J15_105 : Cond.methodLink RJ15 105 yJ3_checkIndex_8e157 ∈ wsL_law := wl_r11 _ (List.mem_of_getElem? (i := 8) rfl)
theorem wd_t_J3_checkIndex_8e157 : Cond.static yJ3_checkIndex_8e157 ∈ wsL_law := wl_r11 _ (List.mem_of_getElem? (i := 9) rfl)
theorem wd_n_J3 : Cond.initialized RJ3 ∈ wsL_law := wl_r11 _ (List.mem_of_getElem? (i := 10) rfl)
theorem wd_c_J3_checkIndex_8e157 : Cond.code yJ3_checkIndex_8e157 cJ3_checkIndex_8e157 3 (some .int) ∈ wsL_law := wl_r11 _ (List.mem_of_getElem? (i := 11) rfl)
theorem wd_l_Jx4a65c_123 : Cond.methodLink RJx4a65c 123 yJx4a65c_elementData_915e3 ∈ wsL_law := wl_r11 _ (List.mem_of_getElem? (i := 12) rfl)
theorem wd_i_Jx4a65c_elementData_915e3 : Cond.instanceMethod yJx4a65c_elementData_915e3 ∈ wsL_law := wl_r11 _ (List.mem_of_getElem? (i := 13) rfl)
theorem wd_s_Jx4a65c_elementData_915e3 : Cond.selects RJx4a65c yJx4a65c_elementData_915e3 yJx4a65c_elementData_915e3 ∈ wsL_law := wl_r11 _ (List.mem_of_getElem? (i := 14) rfl)
theorem wd_c_Jx4a65c_elementData_915e3 : Cond.code yJx4a65c_elementData_915e3 cJx4a65c_elementData_915e3 2 (some (.object "java/lang/Object")) ∈ wsL_law := wl_r11 _ (List.mem_of_getElem? (i := 15) rfl)
theorem wd_l_X4_100 : Cond.methodLink RX4 100 yX4_isDirection ∈ wsL_law := wl_r11 _ (List.mem_of_getElem? (i := 16) rfl)
theorem wd_t_X4_isDirection : Cond.static yX4_isDirection ∈ wsL_law := wl_r11 _ (List.mem_of_getElem? (i := 17) rfl)
theorem wd_c_X4_isDirection : Cond.code yX4_isDirection cX4_isDirection 1 (some .boolean) ∈ wsL_law := wl_r11 _ (List.mem_of_getElem? (i := 18) rfl)
theorem wd_l_X4_105 : Cond.methodLink RX4 105 yX3_kind ∈ wsL_law := wl_r11 _ (List.mem_of_getElem? (i := 19) rfl)
theorem wd_i_X3_kind : Cond.instanceMethod yX3_kind ∈ wsL_law := wl_r11 _ (List.mem_of_getElem? (i := 20) rfl)
theorem wd_s_X3_kind : Cond.selects RX3 yX3_kind yX3_kind ∈ wsL_law := wl_r11 _ (List.mem_of_getElem? (i := 21) rfl)
theorem wd_c_X3_kind : Cond.code yX3_kind cX3_kind 1 (some .int) ∈ wsL_law := wl_r11 _ (List.mem_of_getElem? (i := 22) rfl)
theorem wd_f_X3_45 : Cond.fieldLink RX3 45 "SignTiles$Version" "change" "LSignTiles$Change;" ∈ wsL_law := wl_r11 _ (List.mem_of_getElem? (i := 23) rfl)
theorem wd_f_X3_50 : Cond.fieldLink RX3 50 "SignTiles$Change" "kind" "I" ∈ wsL_law := wl_r12 _ (List.mem_of_getElem? (i := 0) rfl)
theorem wd_l_X4_108 : Cond.methodLink RX4 108 yX3_direction ∈ wsL_law := wl_r12 _ (List.mem_of_getElem? (i := 1) rfl)
theorem wd_i_X3_direction : Cond.instanceMethod yX3_direction ∈ wsL_law := wl_r12 _ (List.mem_of_getElem? (i := 2) rfl)
theorem wd_s_X3_direction : Cond.selects RX3 yX3_direction yX3_direction ∈ wsL_law := wl_r12 _ (List.mem_of_getElem? (i := 3) rfl)
theorem wd_c_X3_direction : Cond.code yX3_direction cX3_direction 1 (some .int) ∈ wsL_law := wl_r12 _ (List.mem_of_getElem? (i := 4) rfl)
theorem wd_f_X3_55 : Cond.fieldLink RX3 55 "SignTiles$Change" "direction" "I" ∈ wsL_law := wl_r12 _ (List.mem_of_getElem? (i := 5) rfl)
theorem wd_l_X4_120 : Cond.methodLink RX4 120 yX4_addVersion ∈ wsL_law := wl_r12 _ (List.mem_of_getElem? (i := 6) rfl)
theorem wd_i_X4_addVersion : Cond.instanceMethod yX4_addVersion ∈ wsL_law := wl_r12 _ (List.mem_of_getElem? (i := 7) rfl)
theorem wd_s_X4_addVersion : Cond.selects RX4 yX4_addVersion yX4_addVersion ∈ wsL_law := wl_r12 _ (List.mem_of_getElem? (i := 8) rfl)
theorem wd_c_X4_addVersion : Cond.code yX4_addVersion cX4_addVersion 3 none ∈ wsL_law := wl_r12 _ (List.mem_of_getElem? (i := 9) rfl)
theorem wd_f_X4_133 : Cond.fieldLink RX4 133 "SignTiles$Way" "latest" "LSignTiles$Version;" ∈ wsL_law := wl_r12 _ (List.mem_of_getElem? (i := 10) rfl)
theorem wd_l_L_108 : Cond.methodLink RL 108 yX5_edit ∈ wsL_law := wl_r12 _ (List.mem_of_getElem? (i := 11) rfl)
theorem wd_i_X5_edit : Cond.instanceMethod yX5_edit ∈ wsL_law := wl_r12 _ (List.mem_of_getElem? (i := 12) rfl)
theorem wd_s_X5_edit : Cond.selects RX5 yX5_edit yX5_edit ∈ wsL_law := wl_r12 _ (List.mem_of_getElem? (i := 13) rfl)
theorem wd_c_X5_edit : Cond.code yX5_edit cX5_edit 6 (some .boolean) ∈ wsL_law := wl_r12 _ (List.mem_of_getElem? (i := 14) rfl)
theorem wd_l_X5_95 : Cond.methodLink RX5 95 yX5_isWay ∈ wsL_law := wl_r12 _ (List.mem_of_getElem? (i := 15) rfl)
theorem wd_i_X5_isWay : Cond.instanceMethod yX5_isWay ∈ wsL_law := wl_r12 _ (List.mem_of_getElem? (i := 16) rfl)
theorem wd_s_X5_isWay : Cond.selects RX5 yX5_isWay yX5_isWay ∈ wsL_law := wl_r12 _ (List.mem_of_getElem? (i := 17) rfl)
theorem wd_c_X5_isWay : Cond.code yX5_isWay cX5_isWay 2 (some .boolean) ∈ wsL_law := wl_r12 _ (List.mem_of_getElem? (i := 18) rfl)
theorem wd_l_X5_98 : Cond.methodLink RX5 98 yX5_kindNow ∈ wsL_law := wl_r12 _ (List.mem_of_getElem? (i := 19) rfl)
theorem wd_i_X5_kindNow : Cond.instanceMethod yX5_kindNow ∈ wsL_law := wl_r12 _ (List.mem_of_getElem? (i := 20) rfl)
theorem wd_s_X5_kindNow : Cond.selects RX5 yX5_kindNow yX5_kindNow ∈ wsL_law := wl_r12 _ (List.mem_of_getElem? (i := 21) rfl)
theorem wd_c_X5_kindNow : Cond.code yX5_kindNow cX5_kindNow 2 (some .int) ∈ wsL_law := wl_r12 _ (List.mem_of_getElem? (i := 22) rfl)
theorem wd_l_X5_101 : Cond.methodLink RX5 101 yX5_directionNow ∈ wsL_law := wl_r12 _ (List.mem_of_getElem? (i := 23) rfl)
theorem wd_i_X5_directionNow : Cond.instanceMethod yX5_directionNow ∈ wsL_law := wl_r13 _ (List.mem_of_getElem? (i := 0) rfl)
theorem wd_s_X5_directionNow : Cond.selects RX5 yX5_directionNow yX5_directionNow ∈ wsL_law := wl_r13 _ (List.mem_of_getElem? (i := 1) rfl)
theorem wd_c_X5_directionNow : Cond.code yX5_directionNow cX5_directionNow 2 (some .int) ∈ wsL_law := wl_r13 _ (List.mem_of_getElem? (i := 2) rfl)
theorem wd_l_L_109 : Cond.methodLink RL 109 yL_judge ∈ wsL_law := wl_r13 _ (List.mem_of_getElem? (i := 3) rfl)
theorem wd_t_L_judge : Cond.static yL_judge ∈ wsL_law := wl_r13 _ (List.mem_of_getElem? (i := 4) rfl)
theorem wd_c_L_judge : Cond.codeWith yL_judge cL_judge 6 (some .int) [(0, 12, 15, 13), (0, 12, 19, 17)] ∈ wsL_law := wl_r13 _ (List.mem_of_getElem? (i := 5) rfl)
theorem wd_l_L_23 : Cond.methodLink RL 23 yX4_judge ∈ wsL_law := wl_r13 _ (List.mem_of_getElem? (i := 6) rfl)
theorem wd_i_X4_judge : Cond.instanceMethod yX4_judge ∈ wsL_law := wl_r13 _ (List.mem_of_getElem? (i := 7) rfl)
theorem wd_s_X4_judge : Cond.selects RX4 yX4_judge yX4_judge ∈ wsL_law := wl_r13 _ (List.mem_of_getElem? (i := 8) rfl)
theorem wd_c_X4_judge : Cond.code yX4_judge cX4_judge 6 (some .int) ∈ wsL_law := wl_r13 _ (List.mem_of_getElem? (i := 9) rfl)
theorem wd_f_X4_124 : Cond.fieldLink RX4 124 "SignTiles$Change" "editor" "I" ∈ wsL_law := wl_r13 _ (List.mem_of_getElem? (i := 10) rfl)
theorem wd_l_X4_129 : Cond.methodLink RX4 129 yX4_addTrust ∈ wsL_law := wl_r13 _ (List.mem_of_getElem? (i := 11) rfl)
theorem wd_i_X4_addTrust : Cond.instanceMethod yX4_addTrust ∈ wsL_law := wl_r13 _ (List.mem_of_getElem? (i := 12) rfl)
theorem wd_s_X4_addTrust : Cond.selects RX4 yX4_addTrust yX4_addTrust ∈ wsL_law := wl_r13 _ (List.mem_of_getElem? (i := 13) rfl)
theorem wd_c_X4_addTrust : Cond.code yX4_addTrust cX4_addTrust 3 (some .int) ∈ wsL_law := wl_r13 _ (List.mem_of_getElem? (i := 14) rfl)
theorem wd_l_X4_284 : Cond.methodLink RX4 284 Lib.Math.min.name ∈ wsL_law := wl_r13 _ (List.mem_of_getElem? (i := 15) rfl)
theorem wd_l_X4_289 : Cond.methodLink RX4 289 Lib.Math.max.name ∈ wsL_law := wl_r13 _ (List.mem_of_getElem? (i := 16) rfl)
theorem wd_l_L_112 : Cond.methodLink RL 112 yX5_judge ∈ wsL_law := wl_r13 _ (List.mem_of_getElem? (i := 17) rfl)
theorem wd_i_X5_judge : Cond.instanceMethod yX5_judge ∈ wsL_law := wl_r13 _ (List.mem_of_getElem? (i := 18) rfl)
theorem wd_s_X5_judge : Cond.selects RX5 yX5_judge yX5_judge ∈ wsL_law := wl_r13 _ (List.mem_of_getElem? (i := 19) rfl)
theorem wd_c_X5_judge : Cond.code yX5_judge cX5_judge 6 (some .int) ∈ wsL_law := wl_r13 _ (List.mem_of_getElem? (i := 20) rfl)
theorem wd_l_X5_104 : Cond.methodLink RX5 104 yX5_trusts ∈ wsL_law := wl_r13 _ (List.mem_of_getElem? (i := 21) rfl)
theorem wd_i_X5_trusts : Cond.instanceMethod yX5_trusts ∈ wsL_law := wl_r13 _ (List.mem_of_getElem? (i := 22) rfl)
theorem wd_s_X5_trusts : Cond.selects RX5 yX5_trusts yX5_trusts ∈ wsL_law := wl_r13 _ (List.mem_of_getElem? (i := 23) rfl)
theorem wd_c_X5_trusts : Cond.code yX5_trusts cX5_trusts 4 none ∈ wsL_law := wl_r14 _ (List.mem_of_getElem? (i := 0) rfl)
theorem wd_l_L_113 : Cond.methodLink RL 113 yL_revert ∈ wsL_law := wl_r14 _ (List.mem_of_getElem? (i := 1) rfl)
theorem wd_t_L_revert : Cond.static yL_revert ∈ wsL_law := wl_r14 _ (List.mem_of_getElem? (i := 2) rfl)
theorem wd_c_L_revert : Cond.codeWith yL_revert cL_revert 5 (some .int) [(0, 10, 13, 13), (0, 10, 17, 17)] ∈ wsL_law := wl_r14 _ (List.mem_of_getElem? (i := 3) rfl)
theorem wd_l_L_27 : Cond.methodLink RL 27 yX4_revert ∈ wsL_law := wl_r14 _ (List.mem_of_getElem? (i := 4) rfl)
theorem wd_i_X4_revert : Cond.instanceMethod yX4_revert ∈ wsL_law := wl_r14 _ (List.mem_of_getElem? (i := 5) rfl)
theorem wd_s_X4_revert : Cond.selects RX4 yX4_revert yX4_revert ∈ wsL_law := wl_r14 _ (List.mem_of_getElem? (i := 6) rfl)
theorem wd_c_X4_revert : Cond.code yX4_revert cX4_revert 7 (some .int) ∈ wsL_law := wl_r14 _ (List.mem_of_getElem? (i := 7) rfl)
theorem wd_f_X4_137 : Cond.fieldLink RX4 137 "SignTiles$Version" "ahead" "LSignTiles$Version;" ∈ wsL_law := wl_r14 _ (List.mem_of_getElem? (i := 8) rfl)
theorem wd_f_X4_144 : Cond.fieldLink RX4 144 "SignTiles$Version" "change" "LSignTiles$Change;" ∈ wsL_law := wl_r14 _ (List.mem_of_getElem? (i := 9) rfl)
theorem wd_f_X4_149 : Cond.fieldLink RX4 149 "SignTiles$Change" "kind" "I" ∈ wsL_law := wl_r14 _ (List.mem_of_getElem? (i := 10) rfl)
theorem wd_f_X4_151 : Cond.fieldLink RX4 151 "SignTiles$Change" "direction" "I" ∈ wsL_law := wl_r14 _ (List.mem_of_getElem? (i := 11) rfl)
theorem wd_l_L_116 : Cond.methodLink RL 116 yX5_revert ∈ wsL_law := wl_r14 _ (List.mem_of_getElem? (i := 12) rfl)
theorem wd_i_X5_revert : Cond.instanceMethod yX5_revert ∈ wsL_law := wl_r14 _ (List.mem_of_getElem? (i := 13) rfl)
theorem wd_s_X5_revert : Cond.selects RX5 yX5_revert yX5_revert ∈ wsL_law := wl_r14 _ (List.mem_of_getElem? (i := 14) rfl)
theorem wd_c_X5_revert : Cond.code yX5_revert cX5_revert 5 (some .int) ∈ wsL_law := wl_r14 _ (List.mem_of_getElem? (i := 15) rfl)
theorem wd_l_L_117 : Cond.methodLink RL 117 yL_guard ∈ wsL_law := wl_r14 _ (List.mem_of_getElem? (i := 16) rfl)
theorem wd_t_L_guard : Cond.static yL_guard ∈ wsL_law := wl_r14 _ (List.mem_of_getElem? (i := 17) rfl)
theorem wd_c_L_guard : Cond.codeWith yL_guard cL_guard 5 (some .int) [(0, 10, 13, 13), (0, 10, 17, 15)] ∈ wsL_law := wl_r14 _ (List.mem_of_getElem? (i := 18) rfl)
theorem wd_l_L_31 : Cond.methodLink RL 31 yX4_guard ∈ wsL_law := wl_r14 _ (List.mem_of_getElem? (i := 19) rfl)
theorem wd_i_X4_guard : Cond.instanceMethod yX4_guard ∈ wsL_law := wl_r14 _ (List.mem_of_getElem? (i := 20) rfl)
theorem wd_s_X4_guard : Cond.selects RX4 yX4_guard yX4_guard ∈ wsL_law := wl_r14 _ (List.mem_of_getElem? (i := 21) rfl)
theorem wd_c_X4_guard : Cond.code yX4_guard cX4_guard 5 (some .int) ∈ wsL_law := wl_r14 _ (List.mem_of_getElem? (i := 22) rfl)
theorem wd_l_L_119 : Cond.methodLink RL 119 yX5_guard ∈ wsL_law := wl_r14 _ (List.mem_of_getElem? (i := 23) rfl)
theorem wd_i_X5_guard : Cond.instanceMethod yX5_guard ∈ wsL_law := wl_r15 _ (List.mem_of_getElem? (i := 0) rfl)
theorem wd_s_X5_guard : Cond.selects RX5 yX5_guard yX5_guard ∈ wsL_law := wl_r15 _ (List.mem_of_getElem? (i := 1) rfl)
theorem wd_c_X5_guard : Cond.code yX5_guard cX5_guard 4 (some .int) ∈ wsL_law := wl_r15 _ (List.mem_of_getElem? (i := 2) rfl)
theorem wd_l_L_120 : Cond.methodLink RL 120 yL_trust ∈ wsL_law := wl_r15 _ (List.mem_of_getElem? (i := 3) rfl)
theorem wd_t_L_trust : Cond.static yL_trust ∈ wsL_law := wl_r15 _ (List.mem_of_getElem? (i := 4) rfl)
theorem wd_c_L_trust : Cond.codeWith yL_trust cL_trust 4 (some .int) [(0, 9, 12, 13)] ∈ wsL_law := wl_r15 _ (List.mem_of_getElem? (i := 5) rfl)
theorem wd_l_L_34 : Cond.methodLink RL 34 yX4_trust ∈ wsL_law := wl_r15 _ (List.mem_of_getElem? (i := 6) rfl)
theorem wd_i_X4_trust : Cond.instanceMethod yX4_trust ∈ wsL_law := wl_r15 _ (List.mem_of_getElem? (i := 7) rfl)
theorem wd_s_X4_trust : Cond.selects RX4 yX4_trust yX4_trust ∈ wsL_law := wl_r15 _ (List.mem_of_getElem? (i := 8) rfl)
theorem wd_c_X4_trust : Cond.code yX4_trust cX4_trust 2 (some .int) ∈ wsL_law := wl_r15 _ (List.mem_of_getElem? (i := 9) rfl)
theorem wd_l_L_123 : Cond.methodLink RL 123 yX5_trust ∈ wsL_law := wl_r15 _ (List.mem_of_getElem? (i := 10) rfl)
theorem wd_i_X5_trust : Cond.instanceMethod yX5_trust ∈ wsL_law := wl_r15 _ (List.mem_of_getElem? (i := 11) rfl)
theorem wd_s_X5_trust : Cond.selects RX5 yX5_trust yX5_trust ∈ wsL_law := wl_r15 _ (List.mem_of_getElem? (i := 12) rfl)
theorem wd_c_X5_trust : Cond.code yX5_trust cX5_trust 2 (some .int) ∈ wsL_law := wl_r15 _ (List.mem_of_getElem? (i := 13) rfl)
theorem wd_l_L_124 : Cond.methodLink RL 124 yX4_ways ∈ wsL_law := wl_r15 _ (List.mem_of_getElem? (i := 14) rfl)
theorem wd_i_X4_ways : Cond.instanceMethod yX4_ways ∈ wsL_law := wl_r15 _ (List.mem_of_getElem? (i := 15) rfl)
theorem wd_s_X4_ways : Cond.selects RX4 yX4_ways yX4_ways ∈ wsL_law := wl_r15 _ (List.mem_of_getElem? (i := 16) rfl)
theorem wd_c_X4_ways : Cond.code yX4_ways cX4_ways 1 (some .int) ∈ wsL_law := wl_r15 _ (List.mem_of_getElem? (i := 17) rfl)
theorem wd_l_L_127 : Cond.methodLink RL 127 yX5_ways ∈ wsL_law := wl_r15 _ (List.mem_of_getElem? (i := 18) rfl)
theorem wd_i_X5_ways : Cond.instanceMethod yX5_ways ∈ wsL_law := wl_r15 _ (List.mem_of_getElem? (i := 19) rfl)
theorem wd_s_X5_ways : Cond.selects RX5 yX5_ways yX5_ways ∈ wsL_law := wl_r15 _ (List.mem_of_getElem? (i := 20) rfl)
theorem wd_c_X5_ways : Cond.code yX5_ways cX5_ways 1 (some .int) ∈ wsL_law := wl_r15 _ (List.mem_of_getElem? (i := 21) rfl)
theorem wd_l_L_128 : Cond.methodLink RL 128 yL_versions ∈ wsL_law := wl_r15 _ (List.mem_of_getElem? (i := 22) rfl)
theorem wd_t_L_versions : Cond.static yL_versions ∈ wsL_law := wl_r15 _ (List.mem_of_getElem? (i := 23) rfl)
theorem wd_c_L_versions : Cond.codeWith yL_versions cL_versions 4 (some .int) [(0, 9, 12, 13)] ∈ wsL_law := wl_r16 _ (List.mem_of_getElem? (i := 0) rfl)
theorem wd_l_L_38 : Cond.methodLink RL 38 yX4_versions ∈ wsL_law := wl_r16 _ (List.mem_of_getElem? (i := 1) rfl)
theorem wd_i_X4_versions : Cond.instanceMethod yX4_versions ∈ wsL_law := wl_r16 _ (List.mem_of_getElem? (i := 2) rfl)
theorem wd_s_X4_versions : Cond.selects RX4 yX4_versions yX4_versions ∈ wsL_law := wl_r16 _ (List.mem_of_getElem? (i := 3) rfl)
theorem wd_c_X4_versions : Cond.code yX4_versions cX4_versions 2 (some .int) ∈ wsL_law := wl_r16 _ (List.mem_of_getElem? (i := 4) rfl)
theorem wd_l_X4_155 : Cond.methodLink RX4 155 yX3_versionCount ∈ wsL_law := wl_r16 _ (List.mem_of_getElem? (i := 5) rfl)
theorem wd_i_X3_versionCount : Cond.instanceMethod yX3_versionCount ∈ wsL_law := wl_r16 _ (List.mem_of_getElem? (i := 6) rfl)
theorem wd_s_X3_versionCount : Cond.selects RX3 yX3_versionCount yX3_versionCount ∈ wsL_law := wl_r16 _ (List.mem_of_getElem? (i := 7) rfl)
theorem wd_c_X3_versionCount : Cond.code yX3_versionCount cX3_versionCount 1 (some .int) ∈ wsL_law := wl_r16 _ (List.mem_of_getElem? (i := 8) rfl)
theorem wd_f_X3_58 : Cond.fieldLink RX3 58 "SignTiles$Version" "number" "I" ∈ wsL_law := wl_r16 _ (List.mem_of_getElem? (i := 9) rfl)
theorem wd_l_L_130 : Cond.methodLink RL 130 yX5_versions ∈ wsL_law := wl_r16 _ (List.mem_of_getElem? (i := 10) rfl)
theorem wd_i_X5_versions : Cond.instanceMethod yX5_versions ∈ wsL_law := wl_r16 _ (List.mem_of_getElem? (i := 11) rfl)
theorem wd_s_X5_versions : Cond.selects RX5 yX5_versions yX5_versions ∈ wsL_law := wl_r16 _ (List.mem_of_getElem? (i := 12) rfl)
theorem wd_c_X5_versions : Cond.code yX5_versions cX5_versions 2 (some .int) ∈ wsL_law := wl_r16 _ (List.mem_of_getElem? (i := 13) rfl)
theorem wd_l_L_131 : Cond.methodLink RL 131 yL_version ∈ wsL_law := wl_r16 _ (List.mem_of_getElem? (i := 14) rfl)
theorem wd_t_L_version : Cond.static yL_version ∈ wsL_law := wl_r16 _ (List.mem_of_getElem? (i := 15) rfl)
theorem wd_c_L_version : Cond.codeWith yL_version cL_version 5 (some .int) [(0, 10, 13, 13)] ∈ wsL_law := wl_r16 _ (List.mem_of_getElem? (i := 16) rfl)
theorem wd_l_L_41 : Cond.methodLink RL 41 yX4_version ∈ wsL_law := wl_r16 _ (List.mem_of_getElem? (i := 17) rfl)
theorem wd_i_X4_version : Cond.instanceMethod yX4_version ∈ wsL_law := wl_r16 _ (List.mem_of_getElem? (i := 18) rfl)
theorem wd_s_X4_version : Cond.selects RX4 yX4_version yX4_version ∈ wsL_law := wl_r16 _ (List.mem_of_getElem? (i := 19) rfl)
theorem wd_c_X4_version : Cond.code yX4_version cX4_version 3 (some .int) ∈ wsL_law := wl_r16 _ (List.mem_of_getElem? (i := 20) rfl)
theorem wd_l_X4_158 : Cond.methodLink RX4 158 yX4_versionAt ∈ wsL_law := wl_r16 _ (List.mem_of_getElem? (i := 21) rfl)
theorem wd_t_X4_versionAt : Cond.static yX4_versionAt ∈ wsL_law := wl_r16 _ (List.mem_of_getElem? (i := 22) rfl)
theorem wd_c_X4_versionAt : Cond.code yX4_versionAt cX4_versionAt 3 (some (.object "SignTiles$Version")) ∈ wsL_law := wl_r16 _ (List.mem_of_getElem? (i := 23) rfl)
theorem wd_f_X4_276 : Cond.fieldLink RX4 276 "SignTiles$Version" "number" "I" ∈ wsL_law := wl_r17 _ (List.mem_of_getElem? (i := 0) rfl)
theorem wd_l_X4_162 : Cond.methodLink RX4 162 yX0_coded ∈ wsL_law := wl_r17 _ (List.mem_of_getElem? (i := 1) rfl)
theorem wd_i_X0_coded : Cond.instanceMethod yX0_coded ∈ wsL_law := wl_r17 _ (List.mem_of_getElem? (i := 2) rfl)
theorem wd_s_X0_coded : Cond.selects RX0 yX0_coded yX0_coded ∈ wsL_law := wl_r17 _ (List.mem_of_getElem? (i := 3) rfl)
theorem wd_c_X0_coded : Cond.code yX0_coded cX0_coded 1 (some .int) ∈ wsL_law := wl_r17 _ (List.mem_of_getElem? (i := 4) rfl)
theorem wd_l_L_133 : Cond.methodLink RL 133 yX5_version ∈ wsL_law := wl_r17 _ (List.mem_of_getElem? (i := 5) rfl)
theorem wd_i_X5_version : Cond.instanceMethod yX5_version ∈ wsL_law := wl_r17 _ (List.mem_of_getElem? (i := 6) rfl)
theorem wd_s_X5_version : Cond.selects RX5 yX5_version yX5_version ∈ wsL_law := wl_r17 _ (List.mem_of_getElem? (i := 7) rfl)
theorem wd_c_X5_version : Cond.code yX5_version cX5_version 4 (some .int) ∈ wsL_law := wl_r17 _ (List.mem_of_getElem? (i := 8) rfl)
theorem wd_l_X5_108 : Cond.methodLink RX5 108 yX5_placeOf ∈ wsL_law := wl_r17 _ (List.mem_of_getElem? (i := 9) rfl)
theorem wd_i_X5_placeOf : Cond.instanceMethod yX5_placeOf ∈ wsL_law := wl_r17 _ (List.mem_of_getElem? (i := 10) rfl)
theorem wd_s_X5_placeOf : Cond.selects RX5 yX5_placeOf yX5_placeOf ∈ wsL_law := wl_r17 _ (List.mem_of_getElem? (i := 11) rfl)
theorem wd_c_X5_placeOf : Cond.code yX5_placeOf cX5_placeOf 5 (some .int) ∈ wsL_law := wl_r17 _ (List.mem_of_getElem? (i := 12) rfl)
theorem wd_l_L_134 : Cond.methodLink RL 134 yL_stampOf ∈ wsL_law := wl_r17 _ (List.mem_of_getElem? (i := 13) rfl)
theorem wd_t_L_stampOf : Cond.static yL_stampOf ∈ wsL_law := wl_r17 _ (List.mem_of_getElem? (i := 14) rfl)
theorem wd_c_L_stampOf : Cond.codeWith yL_stampOf cL_stampOf 5 (some .int) [(0, 10, 13, 13)] ∈ wsL_law := wl_r17 _ (List.mem_of_getElem? (i := 15) rfl)
theorem wd_l_L_44 : Cond.methodLink RL 44 yX4_stampOf ∈ wsL_law := wl_r17 _ (List.mem_of_getElem? (i := 16) rfl)
theorem wd_i_X4_stampOf : Cond.instanceMethod yX4_stampOf ∈ wsL_law := wl_r17 _ (List.mem_of_getElem? (i := 17) rfl)
theorem wd_s_X4_stampOf : Cond.selects RX4 yX4_stampOf yX4_stampOf ∈ wsL_law := wl_r17 _ (List.mem_of_getElem? (i := 18) rfl)
theorem wd_c_X4_stampOf : Cond.code yX4_stampOf cX4_stampOf 3 (some .int) ∈ wsL_law := wl_r17 _ (List.mem_of_getElem? (i := 19) rfl)
theorem wd_f_X4_165 : Cond.fieldLink RX4 165 "SignTiles$Version" "stamp" "I" ∈ wsL_law := wl_r17 _ (List.mem_of_getElem? (i := 20) rfl)
theorem wd_l_L_136 : Cond.methodLink RL 136 yX5_stampOf ∈ wsL_law := wl_r17 _ (List.mem_of_getElem? (i := 21) rfl)
theorem wd_i_X5_stampOf : Cond.instanceMethod yX5_stampOf ∈ wsL_law := wl_r17 _ (List.mem_of_getElem? (i := 22) rfl)
theorem wd_s_X5_stampOf : Cond.selects RX5 yX5_stampOf yX5_stampOf ∈ wsL_law := wl_r17 _ (List.mem_of_getElem? (i := 23) rfl)
theorem wd_c_X5_stampOf : Cond.code yX5_stampOf cX5_stampOf 4 (some .int) ∈ wsL_law := wl_r18 _ (List.mem_of_getElem? (i := 0) rfl)
theorem wd_l_L_137 : Cond.methodLink RL 137 yL_waiting ∈ wsL_law := wl_r18 _ (List.mem_of_getElem? (i := 1) rfl)
theorem wd_t_L_waiting : Cond.static yL_waiting ∈ wsL_law := wl_r18 _ (List.mem_of_getElem? (i := 2) rfl)
theorem wd_c_L_waiting : Cond.codeWith yL_waiting cL_waiting 4 (some .int) [(0, 9, 12, 13)] ∈ wsL_law := wl_r18 _ (List.mem_of_getElem? (i := 3) rfl)
theorem wd_l_L_47 : Cond.methodLink RL 47 yX4_waiting ∈ wsL_law := wl_r18 _ (List.mem_of_getElem? (i := 4) rfl)
theorem wd_i_X4_waiting : Cond.instanceMethod yX4_waiting ∈ wsL_law := wl_r18 _ (List.mem_of_getElem? (i := 5) rfl)
theorem wd_s_X4_waiting : Cond.selects RX4 yX4_waiting yX4_waiting ∈ wsL_law := wl_r18 _ (List.mem_of_getElem? (i := 6) rfl)
theorem wd_c_X4_waiting : Cond.code yX4_waiting cX4_waiting 3 (some .int) ∈ wsL_law := wl_r18 _ (List.mem_of_getElem? (i := 7) rfl)
theorem wd_l_L_139 : Cond.methodLink RL 139 yX5_waiting ∈ wsL_law := wl_r18 _ (List.mem_of_getElem? (i := 8) rfl)
theorem wd_i_X5_waiting : Cond.instanceMethod yX5_waiting ∈ wsL_law := wl_r18 _ (List.mem_of_getElem? (i := 9) rfl)
theorem wd_s_X5_waiting : Cond.selects RX5 yX5_waiting yX5_waiting ∈ wsL_law := wl_r18 _ (List.mem_of_getElem? (i := 10) rfl)
theorem wd_c_X5_waiting : Cond.code yX5_waiting cX5_waiting 2 (some .int) ∈ wsL_law := wl_r18 _ (List.mem_of_getElem? (i := 11) rfl)
theorem wd_l_L_140 : Cond.methodLink RL 140 yX4_clock ∈ wsL_law := wl_r18 _ (List.mem_of_getElem? (i := 12) rfl)
theorem wd_i_X4_clock : Cond.instanceMethod yX4_clock ∈ wsL_law := wl_r18 _ (List.mem_of_getElem? (i := 13) rfl)
theorem wd_s_X4_clock : Cond.selects RX4 yX4_clock yX4_clock ∈ wsL_law := wl_r18 _ (List.mem_of_getElem? (i := 14) rfl)
theorem wd_c_X4_clock : Cond.code yX4_clock cX4_clock 1 (some .int) ∈ wsL_law := wl_r18 _ (List.mem_of_getElem? (i := 15) rfl)
theorem wd_l_L_143 : Cond.methodLink RL 143 yX5_clock ∈ wsL_law := wl_r18 _ (List.mem_of_getElem? (i := 16) rfl)
theorem wd_i_X5_clock : Cond.instanceMethod yX5_clock ∈ wsL_law := wl_r18 _ (List.mem_of_getElem? (i := 17) rfl)
theorem wd_s_X5_clock : Cond.selects RX5 yX5_clock yX5_clock ∈ wsL_law := wl_r18 _ (List.mem_of_getElem? (i := 18) rfl)
theorem wd_c_X5_clock : Cond.code yX5_clock cX5_clock 1 (some .int) ∈ wsL_law := wl_r18 _ (List.mem_of_getElem? (i := 19) rfl)
theorem wd_l_L_144 : Cond.methodLink RL 144 yL_draw ∈ wsL_law := wl_r18 _ (List.mem_of_getElem? (i := 20) rfl)
theorem wd_t_L_draw : Cond.static yL_draw ∈ wsL_law := wl_r18 _ (List.mem_of_getElem? (i := 21) rfl)
theorem wd_c_L_draw : Cond.codeWith yL_draw cL_draw 6 (some .int) [(0, 12, 15, 13)] ∈ wsL_law := wl_r18 _ (List.mem_of_getElem? (i := 22) rfl)
theorem wd_l_L_50 : Cond.methodLink RL 50 yX4_draw ∈ wsL_law := wl_r18 _ (List.mem_of_getElem? (i := 23) rfl)
theorem wd_i_X4_draw : Cond.instanceMethod yX4_draw ∈ wsL_law := wl_r19 _ (List.mem_of_getElem? (i := 0) rfl)
theorem wd_s_X4_draw : Cond.selects RX4 yX4_draw yX4_draw ∈ wsL_law := wl_r19 _ (List.mem_of_getElem? (i := 1) rfl)
theorem wd_c_X4_draw : Cond.code yX4_draw cX4_draw 6 (some .int) ∈ wsL_law := wl_r19 _ (List.mem_of_getElem? (i := 2) rfl)
theorem wd_a_X1 : Cond.instantiable RX1 7 ∈ wsL_law := wl_r19 _ (List.mem_of_getElem? (i := 3) rfl)
theorem wd_n_X1 : Cond.initialized RX1 ∈ wsL_law := wl_r19 _ (List.mem_of_getElem? (i := 4) rfl)
theorem wd_l_X4_168 : Cond.methodLink RX4 168 yX4_tileIndex ∈ wsL_law := wl_r19 _ (List.mem_of_getElem? (i := 5) rfl)
theorem wd_t_X4_tileIndex : Cond.static yX4_tileIndex ∈ wsL_law := wl_r19 _ (List.mem_of_getElem? (i := 6) rfl)
theorem wd_c_X4_tileIndex : Cond.code yX4_tileIndex cX4_tileIndex 4 (some .int) ∈ wsL_law := wl_r19 _ (List.mem_of_getElem? (i := 7) rfl)
theorem wd_f_X4_200 : Cond.fieldLink RX4 200 "SignTiles" "FIRST_TILES" "[I" ∈ wsL_law := wl_r19 _ (List.mem_of_getElem? (i := 8) rfl)
theorem wd_l_X4_197 : Cond.methodLink RX4 197 yX4_requireZoom ∈ wsL_law := wl_r19 _ (List.mem_of_getElem? (i := 9) rfl)
theorem wd_t_X4_requireZoom : Cond.static yX4_requireZoom ∈ wsL_law := wl_r19 _ (List.mem_of_getElem? (i := 10) rfl)
theorem wd_c_X4_requireZoom : Cond.code yX4_requireZoom cX4_requireZoom 1 none ∈ wsL_law := wl_r19 _ (List.mem_of_getElem? (i := 11) rfl)
theorem wd_l_X4_203 : Cond.methodLink RX4 203 yX4_tilesAcross ∈ wsL_law := wl_r19 _ (List.mem_of_getElem? (i := 12) rfl)
theorem wd_t_X4_tilesAcross : Cond.static yX4_tilesAcross ∈ wsL_law := wl_r19 _ (List.mem_of_getElem? (i := 13) rfl)
theorem wd_c_X4_tilesAcross : Cond.code yX4_tilesAcross cX4_tilesAcross 1 (some .int) ∈ wsL_law := wl_r19 _ (List.mem_of_getElem? (i := 14) rfl)
theorem wd_l_X4_172 : Cond.methodLink RX4 172 yX1_init ∈ wsL_law := wl_r19 _ (List.mem_of_getElem? (i := 15) rfl)
theorem wd_i_X1_init : Cond.instanceMethod yX1_init ∈ wsL_law := wl_r19 _ (List.mem_of_getElem? (i := 16) rfl)
theorem wd_c_X1_init : Cond.code yX1_init cX1_init 5 none ∈ wsL_law := wl_r19 _ (List.mem_of_getElem? (i := 17) rfl)
theorem wd_l_X1_3 : Cond.methodLink RX1 3 objectInit ∈ wsL_law := wl_r19 _ (List.mem_of_getElem? (i := 18) rfl)
theorem wd_f_X1_9 : Cond.fieldLink RX1 9 "SignTiles$Tile" "stamp" "I" ∈ wsL_law := wl_r19 _ (List.mem_of_getElem? (i := 19) rfl)
theorem wd_f_X1_15 : Cond.fieldLink RX1 15 "SignTiles$Tile" "picture" "I" ∈ wsL_law := wl_r19 _ (List.mem_of_getElem? (i := 20) rfl)
theorem wd_f_X1_18 : Cond.fieldLink RX1 18 "SignTiles$Tile" "zoom" "I" ∈ wsL_law := wl_r19 _ (List.mem_of_getElem? (i := 21) rfl)
theorem wd_f_X1_21 : Cond.fieldLink RX1 21 "SignTiles$Tile" "left" "I" ∈ wsL_law := wl_r19 _ (List.mem_of_getElem? (i := 22) rfl)
theorem wd_f_X1_24 : Cond.fieldLink RX1 24 "SignTiles$Tile" "right" "I" ∈ wsL_law := wl_r19 _ (List.mem_of_getElem? (i := 23) rfl)
theorem wd_f_X1_27 : Cond.fieldLink RX1 27 "SignTiles$Tile" "top" "I" ∈ wsL_law := wl_r20 _ (List.mem_of_getElem? (i := 0) rfl)
theorem wd_f_X1_30 : Cond.fieldLink RX1 30 "SignTiles$Tile" "bottom" "I" ∈ wsL_law := wl_r20 _ (List.mem_of_getElem? (i := 1) rfl)
theorem wd_l_X4_173 : Cond.methodLink RX4 173 yX4_keepPicture ∈ wsL_law := wl_r20 _ (List.mem_of_getElem? (i := 2) rfl)
theorem wd_i_X4_keepPicture : Cond.instanceMethod yX4_keepPicture ∈ wsL_law := wl_r20 _ (List.mem_of_getElem? (i := 3) rfl)
theorem wd_s_X4_keepPicture : Cond.selects RX4 yX4_keepPicture yX4_keepPicture ∈ wsL_law := wl_r20 _ (List.mem_of_getElem? (i := 4) rfl)
theorem wd_c_X4_keepPicture : Cond.code yX4_keepPicture cX4_keepPicture 2 none ∈ wsL_law := wl_r20 _ (List.mem_of_getElem? (i := 5) rfl)
theorem wd_f_X4_188 : Cond.fieldLink RX4 188 "SignTiles$Tile" "stamp" "I" ∈ wsL_law := wl_r20 _ (List.mem_of_getElem? (i := 6) rfl)
theorem wd_f_X4_185 : Cond.fieldLink RX4 185 "SignTiles$Tile" "picture" "I" ∈ wsL_law := wl_r20 _ (List.mem_of_getElem? (i := 7) rfl)
theorem wd_l_X4_189 : Cond.methodLink RX4 189 yX4_pictureAt ∈ wsL_law := wl_r20 _ (List.mem_of_getElem? (i := 8) rfl)
theorem wd_i_X4_pictureAt : Cond.instanceMethod yX4_pictureAt ∈ wsL_law := wl_r20 _ (List.mem_of_getElem? (i := 9) rfl)
theorem wd_s_X4_pictureAt : Cond.selects RX4 yX4_pictureAt yX4_pictureAt ∈ wsL_law := wl_r20 _ (List.mem_of_getElem? (i := 10) rfl)
theorem wd_c_X4_pictureAt : Cond.code yX4_pictureAt cX4_pictureAt 6 (some .int) ∈ wsL_law := wl_r20 _ (List.mem_of_getElem? (i := 11) rfl)
theorem wd_l_X4_296 : Cond.methodLink RX4 296 yX3_shownIn ∈ wsL_law := wl_r20 _ (List.mem_of_getElem? (i := 12) rfl)
theorem wd_i_X3_shownIn : Cond.instanceMethod yX3_shownIn ∈ wsL_law := wl_r20 _ (List.mem_of_getElem? (i := 13) rfl)
theorem wd_s_X3_shownIn : Cond.selects RX3 yX3_shownIn yX3_shownIn ∈ wsL_law := wl_r20 _ (List.mem_of_getElem? (i := 14) rfl)
theorem wd_c_X3_shownIn : Cond.code yX3_shownIn cX3_shownIn 4 (some (.object "SignTiles$Change")) ∈ wsL_law := wl_r20 _ (List.mem_of_getElem? (i := 15) rfl)
theorem wd_f_X3_95 : Cond.fieldLink RX3 95 "SignTiles$Version" "stamp" "I" ∈ wsL_law := wl_r20 _ (List.mem_of_getElem? (i := 16) rfl)
theorem wd_f_X3_98 : Cond.fieldLink RX3 98 "SignTiles$Version" "ahead" "LSignTiles$Version;" ∈ wsL_law := wl_r20 _ (List.mem_of_getElem? (i := 17) rfl)
theorem wd_l_X3_91 : Cond.methodLink RX3 91 yX3_hasPartIn ∈ wsL_law := wl_r20 _ (List.mem_of_getElem? (i := 18) rfl)
theorem wd_i_X3_hasPartIn : Cond.instanceMethod yX3_hasPartIn ∈ wsL_law := wl_r20 _ (List.mem_of_getElem? (i := 19) rfl)
theorem wd_s_X3_hasPartIn : Cond.selects RX3 yX3_hasPartIn yX3_hasPartIn ∈ wsL_law := wl_r20 _ (List.mem_of_getElem? (i := 20) rfl)
theorem wd_c_X3_hasPartIn : Cond.code yX3_hasPartIn cX3_hasPartIn 2 (some .boolean) ∈ wsL_law := wl_r20 _ (List.mem_of_getElem? (i := 21) rfl)
theorem wd_f_X3_77 : Cond.fieldLink RX3 77 "SignTiles$Tile" "right" "I" ∈ wsL_law := wl_r20 _ (List.mem_of_getElem? (i := 22) rfl)
theorem wd_f_X3_82 : Cond.fieldLink RX3 82 "SignTiles$Tile" "left" "I" ∈ wsL_law := wl_r20 _ (List.mem_of_getElem? (i := 23) rfl)
theorem wd_f_X3_85 : Cond.fieldLink RX3 85 "SignTiles$Tile" "bottom" "I" ∈ wsL_law := wl_r21 _ (List.mem_of_getElem? (i := 0) rfl)
theorem wd_f_X3_88 : Cond.fieldLink RX3 88 "SignTiles$Tile" "top" "I" ∈ wsL_law := wl_r21 _ (List.mem_of_getElem? (i := 1) rfl)
theorem wd_l_X3_101 : Cond.methodLink RX3 101 yX1_shows ∈ wsL_law := wl_r21 _ (List.mem_of_getElem? (i := 2) rfl)
theorem wd_i_X1_shows : Cond.instanceMethod yX1_shows ∈ wsL_law := wl_r21 _ (List.mem_of_getElem? (i := 3) rfl)
theorem wd_s_X1_shows : Cond.selects RX1 yX1_shows yX1_shows ∈ wsL_law := wl_r21 _ (List.mem_of_getElem? (i := 4) rfl)
theorem wd_c_X1_shows : Cond.code yX1_shows cX1_shows 2 (some .boolean) ∈ wsL_law := wl_r21 _ (List.mem_of_getElem? (i := 5) rfl)
theorem wd_f_X1_33 : Cond.fieldLink RX1 33 "SignTiles$Version" "change" "LSignTiles$Change;" ∈ wsL_law := wl_r21 _ (List.mem_of_getElem? (i := 6) rfl)
theorem wd_f_X1_39 : Cond.fieldLink RX1 39 "SignTiles$Change" "kind" "I" ∈ wsL_law := wl_r21 _ (List.mem_of_getElem? (i := 7) rfl)
theorem wd_l_X4_177 : Cond.methodLink RX4 177 yX4_countWaysIn ∈ wsL_law := wl_r21 _ (List.mem_of_getElem? (i := 8) rfl)
theorem wd_i_X4_countWaysIn : Cond.instanceMethod yX4_countWaysIn ∈ wsL_law := wl_r21 _ (List.mem_of_getElem? (i := 9) rfl)
theorem wd_s_X4_countWaysIn : Cond.selects RX4 yX4_countWaysIn yX4_countWaysIn ∈ wsL_law := wl_r21 _ (List.mem_of_getElem? (i := 10) rfl)
theorem wd_c_X4_countWaysIn : Cond.code yX4_countWaysIn cX4_countWaysIn 4 (some .int) ∈ wsL_law := wl_r21 _ (List.mem_of_getElem? (i := 11) rfl)
theorem wd_l_L_147 : Cond.methodLink RL 147 yX5_draw ∈ wsL_law := wl_r21 _ (List.mem_of_getElem? (i := 12) rfl)
theorem wd_i_X5_draw : Cond.instanceMethod yX5_draw ∈ wsL_law := wl_r21 _ (List.mem_of_getElem? (i := 13) rfl)
theorem wd_s_X5_draw : Cond.selects RX5 yX5_draw yX5_draw ∈ wsL_law := wl_r21 _ (List.mem_of_getElem? (i := 14) rfl)
theorem wd_c_X5_draw : Cond.code yX5_draw cX5_draw 7 (some .int) ∈ wsL_law := wl_r21 _ (List.mem_of_getElem? (i := 15) rfl)
theorem wd_l_X5_123 : Cond.methodLink RX5 123 yX5_tileAt ∈ wsL_law := wl_r21 _ (List.mem_of_getElem? (i := 16) rfl)
theorem wd_i_X5_tileAt : Cond.instanceMethod yX5_tileAt ∈ wsL_law := wl_r21 _ (List.mem_of_getElem? (i := 17) rfl)
theorem wd_s_X5_tileAt : Cond.selects RX5 yX5_tileAt yX5_tileAt ∈ wsL_law := wl_r21 _ (List.mem_of_getElem? (i := 18) rfl)
theorem wd_c_X5_tileAt : Cond.code yX5_tileAt cX5_tileAt 6 (some .int) ∈ wsL_law := wl_r21 _ (List.mem_of_getElem? (i := 19) rfl)
theorem wd_l_X5_127 : Cond.methodLink RX5 127 yX5_draws ∈ wsL_law := wl_r21 _ (List.mem_of_getElem? (i := 20) rfl)
theorem wd_i_X5_draws : Cond.instanceMethod yX5_draws ∈ wsL_law := wl_r21 _ (List.mem_of_getElem? (i := 21) rfl)
theorem wd_s_X5_draws : Cond.selects RX5 yX5_draws yX5_draws ∈ wsL_law := wl_r21 _ (List.mem_of_getElem? (i := 22) rfl)
theorem wd_c_X5_draws : Cond.code yX5_draws cX5_draws 5 none ∈ wsL_law := wl_r21 _ (List.mem_of_getElem? (i := 23) rfl)
theorem wd_l_X5_119 : Cond.methodLink RX5 119 yX5_drawn ∈ wsL_law := wl_r22 _ (List.mem_of_getElem? (i := 0) rfl)
theorem wd_i_X5_drawn : Cond.instanceMethod yX5_drawn ∈ wsL_law := wl_r22 _ (List.mem_of_getElem? (i := 1) rfl)
theorem wd_s_X5_drawn : Cond.selects RX5 yX5_drawn yX5_drawn ∈ wsL_law := wl_r22 _ (List.mem_of_getElem? (i := 2) rfl)
theorem wd_c_X5_drawn : Cond.code yX5_drawn cX5_drawn 8 (some .int) ∈ wsL_law := wl_r22 _ (List.mem_of_getElem? (i := 3) rfl)
theorem wd_l_X5_112 : Cond.methodLink RX5 112 yX5_isShown ∈ wsL_law := wl_r22 _ (List.mem_of_getElem? (i := 4) rfl)
theorem wd_t_X5_isShown : Cond.static yX5_isShown ∈ wsL_law := wl_r22 _ (List.mem_of_getElem? (i := 5) rfl)
theorem wd_c_X5_isShown : Cond.code yX5_isShown cX5_isShown 2 (some .boolean) ∈ wsL_law := wl_r22 _ (List.mem_of_getElem? (i := 6) rfl)
theorem wd_l_X5_115 : Cond.methodLink RX5 115 yX5_isIn ∈ wsL_law := wl_r22 _ (List.mem_of_getElem? (i := 7) rfl)
theorem wd_i_X5_isIn : Cond.instanceMethod yX5_isIn ∈ wsL_law := wl_r22 _ (List.mem_of_getElem? (i := 8) rfl)
theorem wd_s_X5_isIn : Cond.selects RX5 yX5_isIn yX5_isIn ∈ wsL_law := wl_r22 _ (List.mem_of_getElem? (i := 9) rfl)
theorem wd_c_X5_isIn : Cond.code yX5_isIn cX5_isIn 6 (some .boolean) ∈ wsL_law := wl_r22 _ (List.mem_of_getElem? (i := 10) rfl)
theorem wd_l_L_148 : Cond.methodLink RL 148 yL_picture ∈ wsL_law := wl_r22 _ (List.mem_of_getElem? (i := 11) rfl)
theorem wd_t_L_picture : Cond.static yL_picture ∈ wsL_law := wl_r22 _ (List.mem_of_getElem? (i := 12) rfl)
theorem wd_c_L_picture : Cond.codeWith yL_picture cL_picture 6 (some .int) [(0, 12, 15, 13), (0, 12, 19, 17)] ∈ wsL_law := wl_r22 _ (List.mem_of_getElem? (i := 13) rfl)
theorem wd_l_L_54 : Cond.methodLink RL 54 yX4_picture ∈ wsL_law := wl_r22 _ (List.mem_of_getElem? (i := 14) rfl)
theorem wd_i_X4_picture : Cond.instanceMethod yX4_picture ∈ wsL_law := wl_r22 _ (List.mem_of_getElem? (i := 15) rfl)
theorem wd_s_X4_picture : Cond.selects RX4 yX4_picture yX4_picture ∈ wsL_law := wl_r22 _ (List.mem_of_getElem? (i := 16) rfl)
theorem wd_c_X4_picture : Cond.code yX4_picture cX4_picture 4 (some .int) ∈ wsL_law := wl_r22 _ (List.mem_of_getElem? (i := 17) rfl)
theorem wd_l_X4_181 : Cond.methodLink RX4 181 yX4_drawnTile ∈ wsL_law := wl_r22 _ (List.mem_of_getElem? (i := 18) rfl)
theorem wd_i_X4_drawnTile : Cond.instanceMethod yX4_drawnTile ∈ wsL_law := wl_r22 _ (List.mem_of_getElem? (i := 19) rfl)
theorem wd_s_X4_drawnTile : Cond.selects RX4 yX4_drawnTile yX4_drawnTile ∈ wsL_law := wl_r22 _ (List.mem_of_getElem? (i := 20) rfl)
theorem wd_c_X4_drawnTile : Cond.code yX4_drawnTile cX4_drawnTile 5 (some (.object "SignTiles$Tile")) ∈ wsL_law := wl_r22 _ (List.mem_of_getElem? (i := 21) rfl)
theorem wd_l_L_150 : Cond.methodLink RL 150 yX5_picture ∈ wsL_law := wl_r22 _ (List.mem_of_getElem? (i := 22) rfl)
theorem wd_i_X5_picture : Cond.instanceMethod yX5_picture ∈ wsL_law := wl_r22 _ (List.mem_of_getElem? (i := 23) rfl)
theorem wd_s_X5_picture : Cond.selects RX5 yX5_picture yX5_picture ∈ wsL_law := wl_r23 _ (List.mem_of_getElem? (i := 0) rfl)
theorem wd_c_X5_picture : Cond.code yX5_picture cX5_picture 5 (some .int) ∈ wsL_law := wl_r23 _ (List.mem_of_getElem? (i := 1) rfl)
theorem wd_l_L_151 : Cond.methodLink RL 151 yL_pictureAnew ∈ wsL_law := wl_r23 _ (List.mem_of_getElem? (i := 2) rfl)
theorem wd_t_L_pictureAnew : Cond.static yL_pictureAnew ∈ wsL_law := wl_r23 _ (List.mem_of_getElem? (i := 3) rfl)
theorem wd_c_L_pictureAnew : Cond.codeWith yL_pictureAnew cL_pictureAnew 6 (some .int) [(0, 12, 15, 13), (0, 12, 19, 17)] ∈ wsL_law := wl_r23 _ (List.mem_of_getElem? (i := 4) rfl)
theorem wd_l_L_57 : Cond.methodLink RL 57 yX4_pictureAnew ∈ wsL_law := wl_r23 _ (List.mem_of_getElem? (i := 5) rfl)
theorem wd_i_X4_pictureAnew : Cond.instanceMethod yX4_pictureAnew ∈ wsL_law := wl_r23 _ (List.mem_of_getElem? (i := 6) rfl)
theorem wd_s_X4_pictureAnew : Cond.selects RX4 yX4_pictureAnew yX4_pictureAnew ∈ wsL_law := wl_r23 _ (List.mem_of_getElem? (i := 7) rfl)
theorem wd_c_X4_pictureAnew : Cond.code yX4_pictureAnew cX4_pictureAnew 5 (some .int) ∈ wsL_law := wl_r23 _ (List.mem_of_getElem? (i := 8) rfl)
theorem wd_l_L_153 : Cond.methodLink RL 153 yX5_pictureAnew ∈ wsL_law := wl_r23 _ (List.mem_of_getElem? (i := 9) rfl)
theorem wd_i_X5_pictureAnew : Cond.instanceMethod yX5_pictureAnew ∈ wsL_law := wl_r23 _ (List.mem_of_getElem? (i := 10) rfl)
theorem wd_s_X5_pictureAnew : Cond.selects RX5 yX5_pictureAnew yX5_pictureAnew ∈ wsL_law := wl_r23 _ (List.mem_of_getElem? (i := 11) rfl)
theorem wd_c_X5_pictureAnew : Cond.code yX5_pictureAnew cX5_pictureAnew 5 (some .int) ∈ wsL_law := wl_r23 _ (List.mem_of_getElem? (i := 12) rfl)
theorem wd_l_L_154 : Cond.methodLink RL 154 yL_tileStamp ∈ wsL_law := wl_r23 _ (List.mem_of_getElem? (i := 13) rfl)
theorem wd_t_L_tileStamp : Cond.static yL_tileStamp ∈ wsL_law := wl_r23 _ (List.mem_of_getElem? (i := 14) rfl)
theorem wd_c_L_tileStamp : Cond.codeWith yL_tileStamp cL_tileStamp 6 (some .int) [(0, 12, 15, 13)] ∈ wsL_law := wl_r23 _ (List.mem_of_getElem? (i := 15) rfl)
theorem wd_l_L_60 : Cond.methodLink RL 60 yX4_tileStamp ∈ wsL_law := wl_r23 _ (List.mem_of_getElem? (i := 16) rfl)
theorem wd_i_X4_tileStamp : Cond.instanceMethod yX4_tileStamp ∈ wsL_law := wl_r23 _ (List.mem_of_getElem? (i := 17) rfl)
theorem wd_s_X4_tileStamp : Cond.selects RX4 yX4_tileStamp yX4_tileStamp ∈ wsL_law := wl_r23 _ (List.mem_of_getElem? (i := 18) rfl)
theorem wd_c_X4_tileStamp : Cond.code yX4_tileStamp cX4_tileStamp 5 (some .int) ∈ wsL_law := wl_r23 _ (List.mem_of_getElem? (i := 19) rfl)
theorem wd_l_L_156 : Cond.methodLink RL 156 yX5_tileStamp ∈ wsL_law := wl_r23 _ (List.mem_of_getElem? (i := 20) rfl)
theorem wd_i_X5_tileStamp : Cond.instanceMethod yX5_tileStamp ∈ wsL_law := wl_r23 _ (List.mem_of_getElem? (i := 21) rfl)
theorem wd_s_X5_tileStamp : Cond.selects RX5 yX5_tileStamp yX5_tileStamp ∈ wsL_law := wl_r23 _ (List.mem_of_getElem? (i := 22) rfl)
theorem wd_c_X5_tileStamp : Cond.code yX5_tileStamp cX5_tileStamp 5 (some .int) ∈ wsL_law := wl_r23 _ (List.mem_of_getElem? (i := 23) rfl)
theorem wd_l_L_157 : Cond.methodLink RL 157 yL_isStale ∈ wsL_law := wl_r24 _ (List.mem_of_getElem? (i := 0) rfl)
theorem wd_t_L_isStale : Cond.static yL_isStale ∈ wsL_law := wl_r24 _ (List.mem_of_getElem? (i := 1) rfl)
theorem wd_c_L_isStale : Cond.codeWith yL_isStale cL_isStale 6 (some .int) [(0, 19, 22, 13)] ∈ wsL_law := wl_r24 _ (List.mem_of_getElem? (i := 2) rfl)
theorem wd_l_L_63 : Cond.methodLink RL 63 yX4_isStale ∈ wsL_law := wl_r24 _ (List.mem_of_getElem? (i := 3) rfl)
theorem wd_i_X4_isStale : Cond.instanceMethod yX4_isStale ∈ wsL_law := wl_r24 _ (List.mem_of_getElem? (i := 4) rfl)
theorem wd_s_X4_isStale : Cond.selects RX4 yX4_isStale yX4_isStale ∈ wsL_law := wl_r24 _ (List.mem_of_getElem? (i := 5) rfl)
theorem wd_c_X4_isStale : Cond.code yX4_isStale cX4_isStale 4 (some .boolean) ∈ wsL_law := wl_r24 _ (List.mem_of_getElem? (i := 6) rfl)
theorem wd_l_X4_193 : Cond.methodLink RX4 193 yX4_isOutdated ∈ wsL_law := wl_r24 _ (List.mem_of_getElem? (i := 7) rfl)
theorem wd_i_X4_isOutdated : Cond.instanceMethod yX4_isOutdated ∈ wsL_law := wl_r24 _ (List.mem_of_getElem? (i := 8) rfl)
theorem wd_s_X4_isOutdated : Cond.selects RX4 yX4_isOutdated yX4_isOutdated ∈ wsL_law := wl_r24 _ (List.mem_of_getElem? (i := 9) rfl)
theorem wd_c_X4_isOutdated : Cond.code yX4_isOutdated cX4_isOutdated 3 (some .boolean) ∈ wsL_law := wl_r24 _ (List.mem_of_getElem? (i := 10) rfl)
theorem wd_l_X4_300 : Cond.methodLink RX4 300 yX3_outdates ∈ wsL_law := wl_r24 _ (List.mem_of_getElem? (i := 11) rfl)
theorem wd_i_X3_outdates : Cond.instanceMethod yX3_outdates ∈ wsL_law := wl_r24 _ (List.mem_of_getElem? (i := 12) rfl)
theorem wd_s_X3_outdates : Cond.selects RX3 yX3_outdates yX3_outdates ∈ wsL_law := wl_r24 _ (List.mem_of_getElem? (i := 13) rfl)
theorem wd_c_X3_outdates : Cond.code yX3_outdates cX3_outdates 3 (some .boolean) ∈ wsL_law := wl_r24 _ (List.mem_of_getElem? (i := 14) rfl)
theorem wd_f_X3_105 : Cond.fieldLink RX3 105 "SignTiles$Tile" "stamp" "I" ∈ wsL_law := wl_r24 _ (List.mem_of_getElem? (i := 15) rfl)
theorem wd_l_L_159 : Cond.methodLink RL 159 yX5_isStale ∈ wsL_law := wl_r24 _ (List.mem_of_getElem? (i := 16) rfl)
theorem wd_i_X5_isStale : Cond.instanceMethod yX5_isStale ∈ wsL_law := wl_r24 _ (List.mem_of_getElem? (i := 17) rfl)
theorem wd_s_X5_isStale : Cond.selects RX5 yX5_isStale yX5_isStale ∈ wsL_law := wl_r24 _ (List.mem_of_getElem? (i := 18) rfl)
theorem wd_c_X5_isStale : Cond.code yX5_isStale cX5_isStale 5 (some .boolean) ∈ wsL_law := wl_r24 _ (List.mem_of_getElem? (i := 19) rfl)
theorem wd_l_X5_130 : Cond.methodLink RX5 130 yX5_isOld ∈ wsL_law := wl_r24 _ (List.mem_of_getElem? (i := 20) rfl)
theorem wd_i_X5_isOld : Cond.instanceMethod yX5_isOld ∈ wsL_law := wl_r24 _ (List.mem_of_getElem? (i := 21) rfl)
theorem wd_s_X5_isOld : Cond.selects RX5 yX5_isOld yX5_isOld ∈ wsL_law := wl_r24 _ (List.mem_of_getElem? (i := 22) rfl)
theorem wd_c_X5_isOld : Cond.code yX5_isOld cX5_isOld 8 (some .boolean) ∈ wsL_law := wl_r24 _ (List.mem_of_getElem? (i := 23) rfl)
theorem wd_l_L_160 : Cond.methodLink RL 160 yL_staleTiles ∈ wsL_law := wl_r25 _ (List.mem_of_getElem? (i := 0) rfl)
theorem wd_t_L_staleTiles : Cond.static yL_staleTiles ∈ wsL_law := wl_r25 _ (List.mem_of_getElem? (i := 1) rfl)
theorem wd_c_L_staleTiles : Cond.codeWith yL_staleTiles cL_staleTiles 4 (some .int) [(0, 9, 12, 13)] ∈ wsL_law := wl_r25 _ (List.mem_of_getElem? (i := 2) rfl)
theorem wd_l_L_67 : Cond.methodLink RL 67 yX4_staleTiles ∈ wsL_law := wl_r25 _ (List.mem_of_getElem? (i := 3) rfl)
theorem wd_i_X4_staleTiles : Cond.instanceMethod yX4_staleTiles ∈ wsL_law := wl_r25 _ (List.mem_of_getElem? (i := 4) rfl)
theorem wd_s_X4_staleTiles : Cond.selects RX4 yX4_staleTiles yX4_staleTiles ∈ wsL_law := wl_r25 _ (List.mem_of_getElem? (i := 5) rfl)
theorem wd_c_X4_staleTiles : Cond.code yX4_staleTiles cX4_staleTiles 6 (some .int) ∈ wsL_law := wl_r25 _ (List.mem_of_getElem? (i := 6) rfl)
theorem wd_l_L_162 : Cond.methodLink RL 162 yX5_staleTiles ∈ wsL_law := wl_r25 _ (List.mem_of_getElem? (i := 7) rfl)
theorem wd_i_X5_staleTiles : Cond.instanceMethod yX5_staleTiles ∈ wsL_law := wl_r25 _ (List.mem_of_getElem? (i := 8) rfl)
theorem wd_s_X5_staleTiles : Cond.selects RX5 yX5_staleTiles yX5_staleTiles ∈ wsL_law := wl_r25 _ (List.mem_of_getElem? (i := 9) rfl)
theorem wd_c_X5_staleTiles : Cond.code yX5_staleTiles cX5_staleTiles 2 (some .int) ∈ wsL_law := wl_r25 _ (List.mem_of_getElem? (i := 10) rfl)
theorem wd_l_X5_133 : Cond.methodLink RX5 133 yX5_stales ∈ wsL_law := wl_r25 _ (List.mem_of_getElem? (i := 11) rfl)
theorem wd_i_X5_stales : Cond.instanceMethod yX5_stales ∈ wsL_law := wl_r25 _ (List.mem_of_getElem? (i := 12) rfl)
theorem wd_s_X5_stales : Cond.selects RX5 yX5_stales yX5_stales ∈ wsL_law := wl_r25 _ (List.mem_of_getElem? (i := 13) rfl)
theorem wd_c_X5_stales : Cond.code yX5_stales cX5_stales 8 (some .int) ∈ wsL_law := wl_r25 _ (List.mem_of_getElem? (i := 14) rfl)
theorem wd_l_L_163 : Cond.methodLink RL 163 yX4_refresh ∈ wsL_law := wl_r25 _ (List.mem_of_getElem? (i := 15) rfl)
theorem wd_i_X4_refresh : Cond.instanceMethod yX4_refresh ∈ wsL_law := wl_r25 _ (List.mem_of_getElem? (i := 16) rfl)
theorem wd_s_X4_refresh : Cond.selects RX4 yX4_refresh yX4_refresh ∈ wsL_law := wl_r25 _ (List.mem_of_getElem? (i := 17) rfl)
theorem wd_c_X4_refresh : Cond.code yX4_refresh cX4_refresh 4 (some .int) ∈ wsL_law := wl_r25 _ (List.mem_of_getElem? (i := 18) rfl)
theorem wd_l_L_166 : Cond.methodLink RL 166 yX5_refresh ∈ wsL_law := wl_r25 _ (List.mem_of_getElem? (i := 19) rfl)
theorem wd_i_X5_refresh : Cond.instanceMethod yX5_refresh ∈ wsL_law := wl_r25 _ (List.mem_of_getElem? (i := 20) rfl)
theorem wd_s_X5_refresh : Cond.selects RX5 yX5_refresh yX5_refresh ∈ wsL_law := wl_r25 _ (List.mem_of_getElem? (i := 21) rfl)
theorem wd_c_X5_refresh : Cond.code yX5_refresh cX5_refresh 3 (some .int) ∈ wsL_law := wl_r25 _ (List.mem_of_getElem? (i := 22) rfl)
theorem wd_l_L_167 : Cond.methodLink RL 167 yL_drive ∈ wsL_law := wl_r25 _ (List.mem_of_getElem? (i := 23) rfl)
theorem wd_t_L_drive : Cond.static yL_drive ∈ wsL_law := wl_r26 _ (List.mem_of_getElem? (i := 0) rfl)
theorem wd_c_L_drive : Cond.codeWith yL_drive cL_drive 6 (some .int) [(0, 12, 15, 13)] ∈ wsL_law := wl_r26 _ (List.mem_of_getElem? (i := 1) rfl)
theorem wd_l_L_70 : Cond.methodLink RL 70 yX4_drive ∈ wsL_law := wl_r26 _ (List.mem_of_getElem? (i := 2) rfl)
theorem wd_i_X4_drive : Cond.instanceMethod yX4_drive ∈ wsL_law := wl_r26 _ (List.mem_of_getElem? (i := 3) rfl)
theorem wd_s_X4_drive : Cond.selects RX4 yX4_drive yX4_drive ∈ wsL_law := wl_r26 _ (List.mem_of_getElem? (i := 4) rfl)
theorem wd_c_X4_drive : Cond.code yX4_drive cX4_drive 5 (some .int) ∈ wsL_law := wl_r26 _ (List.mem_of_getElem? (i := 5) rfl)
theorem wd_l_X4_207 : Cond.methodLink RX4 207 yX4_requireCar ∈ wsL_law := wl_r26 _ (List.mem_of_getElem? (i := 6) rfl)
theorem wd_t_X4_requireCar : Cond.static yX4_requireCar ∈ wsL_law := wl_r26 _ (List.mem_of_getElem? (i := 7) rfl)
theorem wd_c_X4_requireCar : Cond.code yX4_requireCar cX4_requireCar 1 none ∈ wsL_law := wl_r26 _ (List.mem_of_getElem? (i := 8) rfl)
theorem wd_l_X4_210 : Cond.methodLink RX4 210 yX4_distance ∈ wsL_law := wl_r26 _ (List.mem_of_getElem? (i := 9) rfl)
theorem wd_t_X4_distance : Cond.static yX4_distance ∈ wsL_law := wl_r26 _ (List.mem_of_getElem? (i := 10) rfl)
theorem wd_c_X4_distance : Cond.code yX4_distance cX4_distance 4 (some .int) ∈ wsL_law := wl_r26 _ (List.mem_of_getElem? (i := 11) rfl)
theorem wd_l_X4_303 : Cond.methodLink RX4 303 Lib.Math.abs.name ∈ wsL_law := wl_r26 _ (List.mem_of_getElem? (i := 12) rfl)
theorem wd_x20 : Cond.static Lib.Math.abs.name ∈ wsL_law := wl_r26 _ (List.mem_of_getElem? (i := 13) rfl)
theorem wd_x21 : Cond.code Lib.Math.abs.name Lib.Math.abs.code 1 (some .int) ∈ wsL_law := wl_r26 _ (List.mem_of_getElem? (i := 14) rfl)
theorem wd_l_L_169 : Cond.methodLink RL 169 yX5_drive ∈ wsL_law := wl_r26 _ (List.mem_of_getElem? (i := 15) rfl)
theorem wd_i_X5_drive : Cond.instanceMethod yX5_drive ∈ wsL_law := wl_r26 _ (List.mem_of_getElem? (i := 16) rfl)
theorem wd_s_X5_drive : Cond.selects RX5 yX5_drive yX5_drive ∈ wsL_law := wl_r26 _ (List.mem_of_getElem? (i := 17) rfl)
theorem wd_c_X5_drive : Cond.code yX5_drive cX5_drive 4 (some .int) ∈ wsL_law := wl_r26 _ (List.mem_of_getElem? (i := 18) rfl)
theorem wd_l_X5_140 : Cond.methodLink RX5 140 yX5_isCar ∈ wsL_law := wl_r26 _ (List.mem_of_getElem? (i := 19) rfl)
theorem wd_t_X5_isCar : Cond.static yX5_isCar ∈ wsL_law := wl_r26 _ (List.mem_of_getElem? (i := 20) rfl)
theorem wd_c_X5_isCar : Cond.code yX5_isCar cX5_isCar 1 (some .boolean) ∈ wsL_law := wl_r26 _ (List.mem_of_getElem? (i := 21) rfl)
theorem wd_l_X5_143 : Cond.methodLink RX5 143 yX5_goes ∈ wsL_law := wl_r26 _ (List.mem_of_getElem? (i := 22) rfl)
theorem wd_i_X5_goes : Cond.instanceMethod yX5_goes ∈ wsL_law := wl_r26 _ (List.mem_of_getElem? (i := 23) rfl)
theorem wd_s_X5_goes : Cond.selects RX5 yX5_goes yX5_goes ∈ wsL_law := wl_r27 _ (List.mem_of_getElem? (i := 0) rfl)
theorem wd_c_X5_goes : Cond.code yX5_goes cX5_goes 5 (some .int) ∈ wsL_law := wl_r27 _ (List.mem_of_getElem? (i := 1) rfl)
theorem wd_l_X5_137 : Cond.methodLink RX5 137 yX5_far ∈ wsL_law := wl_r27 _ (List.mem_of_getElem? (i := 2) rfl)
theorem wd_i_X5_far : Cond.instanceMethod yX5_far ∈ wsL_law := wl_r27 _ (List.mem_of_getElem? (i := 3) rfl)
theorem wd_s_X5_far : Cond.selects RX5 yX5_far yX5_far ∈ wsL_law := wl_r27 _ (List.mem_of_getElem? (i := 4) rfl)
theorem wd_c_X5_far : Cond.code yX5_far cX5_far 6 (some .int) ∈ wsL_law := wl_r27 _ (List.mem_of_getElem? (i := 5) rfl)
theorem wd_l_L_170 : Cond.methodLink RL 170 yL_see ∈ wsL_law := wl_r27 _ (List.mem_of_getElem? (i := 6) rfl)
theorem wd_t_L_see : Cond.static yL_see ∈ wsL_law := wl_r27 _ (List.mem_of_getElem? (i := 7) rfl)
theorem wd_c_L_see : Cond.codeWith yL_see cL_see 7 (some .int) [(0, 21, 24, 13), (0, 21, 28, 15), (0, 21, 32, 17)] ∈ wsL_law := wl_r27 _ (List.mem_of_getElem? (i := 8) rfl)
theorem wd_l_L_73 : Cond.methodLink RL 73 yX4_see ∈ wsL_law := wl_r27 _ (List.mem_of_getElem? (i := 9) rfl)
theorem wd_i_X4_see : Cond.instanceMethod yX4_see ∈ wsL_law := wl_r27 _ (List.mem_of_getElem? (i := 10) rfl)
theorem wd_s_X4_see : Cond.selects RX4 yX4_see yX4_see ∈ wsL_law := wl_r27 _ (List.mem_of_getElem? (i := 11) rfl)
theorem wd_c_X4_see : Cond.code yX4_see cX4_see 6 (some .boolean) ∈ wsL_law := wl_r27 _ (List.mem_of_getElem? (i := 12) rfl)
theorem wd_l_X4_216 : Cond.methodLink RX4 216 yX3_distanceFrom ∈ wsL_law := wl_r27 _ (List.mem_of_getElem? (i := 13) rfl)
theorem wd_i_X3_distanceFrom : Cond.instanceMethod yX3_distanceFrom ∈ wsL_law := wl_r27 _ (List.mem_of_getElem? (i := 14) rfl)
theorem wd_s_X3_distanceFrom : Cond.selects RX3 yX3_distanceFrom yX3_distanceFrom ∈ wsL_law := wl_r27 _ (List.mem_of_getElem? (i := 15) rfl)
theorem wd_c_X3_distanceFrom : Cond.code yX3_distanceFrom cX3_distanceFrom 3 (some .int) ∈ wsL_law := wl_r27 _ (List.mem_of_getElem? (i := 16) rfl)
theorem wd_l_X3_72 : Cond.methodLink RX3 72 Lib.Math.min.name ∈ wsL_law := wl_r27 _ (List.mem_of_getElem? (i := 17) rfl)
theorem wd_l_X3_65 : Cond.methodLink RX3 65 yX3_distanceFromBegin ∈ wsL_law := wl_r27 _ (List.mem_of_getElem? (i := 18) rfl)
theorem wd_i_X3_distanceFromBegin : Cond.instanceMethod yX3_distanceFromBegin ∈ wsL_law := wl_r27 _ (List.mem_of_getElem? (i := 19) rfl)
theorem wd_s_X3_distanceFromBegin : Cond.selects RX3 yX3_distanceFromBegin yX3_distanceFromBegin ∈ wsL_law := wl_r27 _ (List.mem_of_getElem? (i := 20) rfl)
theorem wd_c_X3_distanceFromBegin : Cond.code yX3_distanceFromBegin cX3_distanceFromBegin 3 (some .int) ∈ wsL_law := wl_r27 _ (List.mem_of_getElem? (i := 21) rfl)
theorem wd_l_X3_69 : Cond.methodLink RX3 69 yX3_distanceFromEnd ∈ wsL_law := wl_r27 _ (List.mem_of_getElem? (i := 22) rfl)
theorem wd_i_X3_distanceFromEnd : Cond.instanceMethod yX3_distanceFromEnd ∈ wsL_law := wl_r27 _ (List.mem_of_getElem? (i := 23) rfl)
theorem wd_s_X3_distanceFromEnd : Cond.selects RX3 yX3_distanceFromEnd yX3_distanceFromEnd ∈ wsL_law := wl_r28 _ (List.mem_of_getElem? (i := 0) rfl)
theorem wd_c_X3_distanceFromEnd : Cond.code yX3_distanceFromEnd cX3_distanceFromEnd 3 (some .int) ∈ wsL_law := wl_r28 _ (List.mem_of_getElem? (i := 1) rfl)
theorem wd_l_X4_221 : Cond.methodLink RX4 221 yX3_keepSighting ∈ wsL_law := wl_r28 _ (List.mem_of_getElem? (i := 2) rfl)
theorem wd_i_X3_keepSighting : Cond.instanceMethod yX3_keepSighting ∈ wsL_law := wl_r28 _ (List.mem_of_getElem? (i := 3) rfl)
theorem wd_s_X3_keepSighting : Cond.selects RX3 yX3_keepSighting yX3_keepSighting ∈ wsL_law := wl_r28 _ (List.mem_of_getElem? (i := 4) rfl)
theorem wd_c_X3_keepSighting : Cond.code yX3_keepSighting cX3_keepSighting 5 none ∈ wsL_law := wl_r28 _ (List.mem_of_getElem? (i := 5) rfl)
theorem wd_l_X4_224 : Cond.methodLink RX4 224 yX3_hasAgreementOn ∈ wsL_law := wl_r28 _ (List.mem_of_getElem? (i := 6) rfl)
theorem wd_i_X3_hasAgreementOn : Cond.instanceMethod yX3_hasAgreementOn ∈ wsL_law := wl_r28 _ (List.mem_of_getElem? (i := 7) rfl)
theorem wd_s_X3_hasAgreementOn : Cond.selects RX3 yX3_hasAgreementOn yX3_hasAgreementOn ∈ wsL_law := wl_r28 _ (List.mem_of_getElem? (i := 8) rfl)
theorem wd_c_X3_hasAgreementOn : Cond.code yX3_hasAgreementOn cX3_hasAgreementOn 4 (some .boolean) ∈ wsL_law := wl_r28 _ (List.mem_of_getElem? (i := 9) rfl)
theorem wd_l_X4_227 : Cond.methodLink RX4 227 yX3_forgetSightings ∈ wsL_law := wl_r28 _ (List.mem_of_getElem? (i := 10) rfl)
theorem wd_i_X3_forgetSightings : Cond.instanceMethod yX3_forgetSightings ∈ wsL_law := wl_r28 _ (List.mem_of_getElem? (i := 11) rfl)
theorem wd_s_X3_forgetSightings : Cond.selects RX3 yX3_forgetSightings yX3_forgetSightings ∈ wsL_law := wl_r28 _ (List.mem_of_getElem? (i := 12) rfl)
theorem wd_c_X3_forgetSightings : Cond.code yX3_forgetSightings cX3_forgetSightings 1 none ∈ wsL_law := wl_r28 _ (List.mem_of_getElem? (i := 13) rfl)
theorem wd_l_L_172 : Cond.methodLink RL 172 yX5_see ∈ wsL_law := wl_r28 _ (List.mem_of_getElem? (i := 14) rfl)
theorem wd_i_X5_see : Cond.instanceMethod yX5_see ∈ wsL_law := wl_r28 _ (List.mem_of_getElem? (i := 15) rfl)
theorem wd_s_X5_see : Cond.selects RX5 yX5_see yX5_see ∈ wsL_law := wl_r28 _ (List.mem_of_getElem? (i := 16) rfl)
theorem wd_c_X5_see : Cond.code yX5_see cX5_see 6 (some .boolean) ∈ wsL_law := wl_r28 _ (List.mem_of_getElem? (i := 17) rfl)
theorem wd_l_X5_146 : Cond.methodLink RX5 146 yX5_clears ∈ wsL_law := wl_r28 _ (List.mem_of_getElem? (i := 18) rfl)
theorem wd_i_X5_clears : Cond.instanceMethod yX5_clears ∈ wsL_law := wl_r28 _ (List.mem_of_getElem? (i := 19) rfl)
theorem wd_s_X5_clears : Cond.selects RX5 yX5_clears yX5_clears ∈ wsL_law := wl_r28 _ (List.mem_of_getElem? (i := 20) rfl)
theorem wd_c_X5_clears : Cond.code yX5_clears cX5_clears 10 none ∈ wsL_law := wl_r28 _ (List.mem_of_getElem? (i := 21) rfl)
theorem wd_l_X5_149 : Cond.methodLink RX5 149 yX5_agree ∈ wsL_law := wl_r28 _ (List.mem_of_getElem? (i := 22) rfl)
theorem wd_i_X5_agree : Cond.instanceMethod yX5_agree ∈ wsL_law := wl_r28 _ (List.mem_of_getElem? (i := 23) rfl)
theorem wd_s_X5_agree : Cond.selects RX5 yX5_agree yX5_agree ∈ wsL_law := wl_r29 _ (List.mem_of_getElem? (i := 0) rfl)
theorem wd_c_X5_agree : Cond.code yX5_agree cX5_agree 8 (some .boolean) ∈ wsL_law := wl_r29 _ (List.mem_of_getElem? (i := 1) rfl)
theorem wd_l_L_173 : Cond.methodLink RL 173 yL_sightings ∈ wsL_law := wl_r29 _ (List.mem_of_getElem? (i := 2) rfl)
theorem wd_t_L_sightings : Cond.static yL_sightings ∈ wsL_law := wl_r29 _ (List.mem_of_getElem? (i := 3) rfl)
theorem wd_c_L_sightings : Cond.codeWith yL_sightings cL_sightings 4 (some .int) [(0, 9, 12, 13)] ∈ wsL_law := wl_r29 _ (List.mem_of_getElem? (i := 4) rfl)
theorem wd_l_L_76 : Cond.methodLink RL 76 yX4_sightings ∈ wsL_law := wl_r29 _ (List.mem_of_getElem? (i := 5) rfl)
theorem wd_i_X4_sightings : Cond.instanceMethod yX4_sightings ∈ wsL_law := wl_r29 _ (List.mem_of_getElem? (i := 6) rfl)
theorem wd_s_X4_sightings : Cond.selects RX4 yX4_sightings yX4_sightings ∈ wsL_law := wl_r29 _ (List.mem_of_getElem? (i := 7) rfl)
theorem wd_c_X4_sightings : Cond.code yX4_sightings cX4_sightings 2 (some .int) ∈ wsL_law := wl_r29 _ (List.mem_of_getElem? (i := 8) rfl)
theorem wd_l_X4_230 : Cond.methodLink RX4 230 yX3_countSightings ∈ wsL_law := wl_r29 _ (List.mem_of_getElem? (i := 9) rfl)
theorem wd_i_X3_countSightings : Cond.instanceMethod yX3_countSightings ∈ wsL_law := wl_r29 _ (List.mem_of_getElem? (i := 10) rfl)
theorem wd_s_X3_countSightings : Cond.selects RX3 yX3_countSightings yX3_countSightings ∈ wsL_law := wl_r29 _ (List.mem_of_getElem? (i := 11) rfl)
theorem wd_c_X3_countSightings : Cond.code yX3_countSightings cX3_countSightings 3 (some .int) ∈ wsL_law := wl_r29 _ (List.mem_of_getElem? (i := 12) rfl)
theorem wd_l_L_175 : Cond.methodLink RL 175 yX5_sightings ∈ wsL_law := wl_r29 _ (List.mem_of_getElem? (i := 13) rfl)
theorem wd_i_X5_sightings : Cond.instanceMethod yX5_sightings ∈ wsL_law := wl_r29 _ (List.mem_of_getElem? (i := 14) rfl)
theorem wd_s_X5_sightings : Cond.selects RX5 yX5_sightings yX5_sightings ∈ wsL_law := wl_r29 _ (List.mem_of_getElem? (i := 15) rfl)
theorem wd_c_X5_sightings : Cond.code yX5_sightings cX5_sightings 2 (some .int) ∈ wsL_law := wl_r29 _ (List.mem_of_getElem? (i := 16) rfl)
theorem wd_l_L_176 : Cond.methodLink RL 176 yL_dear ∈ wsL_law := wl_r29 _ (List.mem_of_getElem? (i := 17) rfl)
theorem wd_t_L_dear : Cond.static yL_dear ∈ wsL_law := wl_r29 _ (List.mem_of_getElem? (i := 18) rfl)
theorem wd_c_L_dear : Cond.codeWith yL_dear cL_dear 4 (some .int) [(0, 9, 12, 13)] ∈ wsL_law := wl_r29 _ (List.mem_of_getElem? (i := 19) rfl)
theorem wd_l_L_79 : Cond.methodLink RL 79 yX4_dear ∈ wsL_law := wl_r29 _ (List.mem_of_getElem? (i := 20) rfl)
theorem wd_i_X4_dear : Cond.instanceMethod yX4_dear ∈ wsL_law := wl_r29 _ (List.mem_of_getElem? (i := 21) rfl)
theorem wd_s_X4_dear : Cond.selects RX4 yX4_dear yX4_dear ∈ wsL_law := wl_r29 _ (List.mem_of_getElem? (i := 22) rfl)
theorem wd_c_X4_dear : Cond.code yX4_dear cX4_dear 2 (some .int) ∈ wsL_law := wl_r29 _ (List.mem_of_getElem? (i := 23) rfl)
theorem wd_l_X4_233 : Cond.methodLink RX4 233 yX3_dearness ∈ wsL_law := wl_r30 _ (List.mem_of_getElem? (i := 0) rfl)
theorem wd_i_X3_dearness : Cond.instanceMethod yX3_dearness ∈ wsL_law := wl_r30 _ (List.mem_of_getElem? (i := 1) rfl)
theorem wd_s_X3_dearness : Cond.selects RX3 yX3_dearness yX3_dearness ∈ wsL_law := wl_r30 _ (List.mem_of_getElem? (i := 2) rfl)
theorem wd_c_X3_dearness : Cond.code yX3_dearness cX3_dearness 4 (some .int) ∈ wsL_law := wl_r30 _ (List.mem_of_getElem? (i := 3) rfl)
theorem wd_l_X3_106 : Cond.methodLink RX3 106 yX3_direction ∈ wsL_law := wl_r30 _ (List.mem_of_getElem? (i := 4) rfl)
theorem wd_l_X3_109 : Cond.methodLink RX3 109 yX3_kind ∈ wsL_law := wl_r30 _ (List.mem_of_getElem? (i := 5) rfl)
theorem wd_l_L_178 : Cond.methodLink RL 178 yX5_dear ∈ wsL_law := wl_r30 _ (List.mem_of_getElem? (i := 6) rfl)
theorem wd_i_X5_dear : Cond.instanceMethod yX5_dear ∈ wsL_law := wl_r30 _ (List.mem_of_getElem? (i := 7) rfl)
theorem wd_s_X5_dear : Cond.selects RX5 yX5_dear yX5_dear ∈ wsL_law := wl_r30 _ (List.mem_of_getElem? (i := 8) rfl)
theorem wd_c_X5_dear : Cond.code yX5_dear cX5_dear 2 (some .int) ∈ wsL_law := wl_r30 _ (List.mem_of_getElem? (i := 9) rfl)
theorem wd_l_X5_152 : Cond.methodLink RX5 152 yX5_dearBy ∈ wsL_law := wl_r30 _ (List.mem_of_getElem? (i := 10) rfl)
theorem wd_i_X5_dearBy : Cond.instanceMethod yX5_dearBy ∈ wsL_law := wl_r30 _ (List.mem_of_getElem? (i := 11) rfl)
theorem wd_s_X5_dearBy : Cond.selects RX5 yX5_dearBy yX5_dearBy ∈ wsL_law := wl_r30 _ (List.mem_of_getElem? (i := 12) rfl)
theorem wd_c_X5_dearBy : Cond.code yX5_dearBy cX5_dearBy 6 (some .int) ∈ wsL_law := wl_r30 _ (List.mem_of_getElem? (i := 13) rfl)
theorem wd_l_L_179 : Cond.methodLink RL 179 yL_target ∈ wsL_law := wl_r30 _ (List.mem_of_getElem? (i := 14) rfl)
theorem wd_t_L_target : Cond.static yL_target ∈ wsL_law := wl_r30 _ (List.mem_of_getElem? (i := 15) rfl)
theorem wd_c_L_target : Cond.codeWith yL_target cL_target 4 (some .int) [(0, 9, 12, 13)] ∈ wsL_law := wl_r30 _ (List.mem_of_getElem? (i := 16) rfl)
theorem wd_l_L_82 : Cond.methodLink RL 82 yX4_target ∈ wsL_law := wl_r30 _ (List.mem_of_getElem? (i := 17) rfl)
theorem wd_i_X4_target : Cond.instanceMethod yX4_target ∈ wsL_law := wl_r30 _ (List.mem_of_getElem? (i := 18) rfl)
theorem wd_s_X4_target : Cond.selects RX4 yX4_target yX4_target ∈ wsL_law := wl_r30 _ (List.mem_of_getElem? (i := 19) rfl)
theorem wd_c_X4_target : Cond.code yX4_target cX4_target 2 (some .int) ∈ wsL_law := wl_r30 _ (List.mem_of_getElem? (i := 20) rfl)
theorem wd_l_X4_236 : Cond.methodLink RX4 236 yX4_targetFrom ∈ wsL_law := wl_r30 _ (List.mem_of_getElem? (i := 21) rfl)
theorem wd_i_X4_targetFrom : Cond.instanceMethod yX4_targetFrom ∈ wsL_law := wl_r30 _ (List.mem_of_getElem? (i := 22) rfl)
theorem wd_s_X4_targetFrom : Cond.selects RX4 yX4_targetFrom yX4_targetFrom ∈ wsL_law := wl_r30 _ (List.mem_of_getElem? (i := 23) rfl)
theorem wd_c_X4_targetFrom : Cond.code yX4_targetFrom cX4_targetFrom 8 (some .int) ∈ wsL_law := wl_r31 _ (List.mem_of_getElem? (i := 0) rfl)
theorem wd_l_L_181 : Cond.methodLink RL 181 yX5_target ∈ wsL_law := wl_r31 _ (List.mem_of_getElem? (i := 1) rfl)
theorem wd_i_X5_target : Cond.instanceMethod yX5_target ∈ wsL_law := wl_r31 _ (List.mem_of_getElem? (i := 2) rfl)
theorem wd_s_X5_target : Cond.selects RX5 yX5_target yX5_target ∈ wsL_law := wl_r31 _ (List.mem_of_getElem? (i := 3) rfl)
theorem wd_c_X5_target : Cond.code yX5_target cX5_target 2 (some .int) ∈ wsL_law := wl_r31 _ (List.mem_of_getElem? (i := 4) rfl)
theorem wd_l_X5_158 : Cond.methodLink RX5 158 yX5_targetOf ∈ wsL_law := wl_r31 _ (List.mem_of_getElem? (i := 5) rfl)
theorem wd_i_X5_targetOf : Cond.instanceMethod yX5_targetOf ∈ wsL_law := wl_r31 _ (List.mem_of_getElem? (i := 6) rfl)
theorem wd_s_X5_targetOf : Cond.selects RX5 yX5_targetOf yX5_targetOf ∈ wsL_law := wl_r31 _ (List.mem_of_getElem? (i := 7) rfl)
theorem wd_c_X5_targetOf : Cond.code yX5_targetOf cX5_targetOf 6 (some .int) ∈ wsL_law := wl_r31 _ (List.mem_of_getElem? (i := 8) rfl)
theorem wd_l_X5_155 : Cond.methodLink RX5 155 yX5_nearest ∈ wsL_law := wl_r31 _ (List.mem_of_getElem? (i := 9) rfl)
theorem wd_i_X5_nearest : Cond.instanceMethod yX5_nearest ∈ wsL_law := wl_r31 _ (List.mem_of_getElem? (i := 10) rfl)
theorem wd_s_X5_nearest : Cond.selects RX5 yX5_nearest yX5_nearest ∈ wsL_law := wl_r31 _ (List.mem_of_getElem? (i := 11) rfl)
theorem wd_c_X5_nearest : Cond.code yX5_nearest cX5_nearest 5 (some .int) ∈ wsL_law := wl_r31 _ (List.mem_of_getElem? (i := 12) rfl)
theorem wd_l_L_182 : Cond.methodLink RL 182 yL_send ∈ wsL_law := wl_r31 _ (List.mem_of_getElem? (i := 13) rfl)
theorem wd_t_L_send : Cond.static yL_send ∈ wsL_law := wl_r31 _ (List.mem_of_getElem? (i := 14) rfl)
theorem wd_c_L_send : Cond.codeWith yL_send cL_send 4 (some .int) [(0, 9, 12, 13), (0, 9, 15, 17)] ∈ wsL_law := wl_r31 _ (List.mem_of_getElem? (i := 15) rfl)
theorem wd_l_L_85 : Cond.methodLink RL 85 yX4_send ∈ wsL_law := wl_r31 _ (List.mem_of_getElem? (i := 16) rfl)
theorem wd_i_X4_send : Cond.instanceMethod yX4_send ∈ wsL_law := wl_r31 _ (List.mem_of_getElem? (i := 17) rfl)
theorem wd_s_X4_send : Cond.selects RX4 yX4_send yX4_send ∈ wsL_law := wl_r31 _ (List.mem_of_getElem? (i := 18) rfl)
theorem wd_c_X4_send : Cond.code yX4_send cX4_send 7 (some .int) ∈ wsL_law := wl_r31 _ (List.mem_of_getElem? (i := 19) rfl)
theorem wd_f_X4_247 : Cond.fieldLink RX4 247 "SignTiles$Way" "endX" "I" ∈ wsL_law := wl_r31 _ (List.mem_of_getElem? (i := 20) rfl)
theorem wd_f_X4_250 : Cond.fieldLink RX4 250 "SignTiles$Way" "beginX" "I" ∈ wsL_law := wl_r31 _ (List.mem_of_getElem? (i := 21) rfl)
theorem wd_f_X4_253 : Cond.fieldLink RX4 253 "SignTiles$Way" "endY" "I" ∈ wsL_law := wl_r31 _ (List.mem_of_getElem? (i := 22) rfl)
theorem wd_f_X4_256 : Cond.fieldLink RX4 256 "SignTiles$Way" "beginY" "I" ∈ wsL_law := wl_r31 _ (List.mem_of_getElem? (i := 23) rfl)
theorem wd_l_X4_241 : Cond.methodLink RX4 241 yX3_distanceFromBegin ∈ wsL_law := wl_r32 _ (List.mem_of_getElem? (i := 0) rfl)
theorem wd_l_X4_244 : Cond.methodLink RX4 244 yX3_distanceFromEnd ∈ wsL_law := wl_r32 _ (List.mem_of_getElem? (i := 1) rfl)
theorem wd_l_L_184 : Cond.methodLink RL 184 yX5_send ∈ wsL_law := wl_r32 _ (List.mem_of_getElem? (i := 2) rfl)
theorem wd_i_X5_send : Cond.instanceMethod yX5_send ∈ wsL_law := wl_r32 _ (List.mem_of_getElem? (i := 3) rfl)
theorem wd_s_X5_send : Cond.selects RX5 yX5_send yX5_send ∈ wsL_law := wl_r32 _ (List.mem_of_getElem? (i := 4) rfl)
theorem wd_c_X5_send : Cond.code yX5_send cX5_send 4 (some .int) ∈ wsL_law := wl_r32 _ (List.mem_of_getElem? (i := 5) rfl)
theorem wd_l_L_185 : Cond.methodLink RL 185 yL_carAt ∈ wsL_law := wl_r32 _ (List.mem_of_getElem? (i := 6) rfl)
theorem wd_t_L_carAt : Cond.static yL_carAt ∈ wsL_law := wl_r32 _ (List.mem_of_getElem? (i := 7) rfl)
theorem wd_c_L_carAt : Cond.codeWith yL_carAt cL_carAt 4 (some .int) [(0, 9, 12, 13)] ∈ wsL_law := wl_r32 _ (List.mem_of_getElem? (i := 8) rfl)
theorem wd_l_L_88 : Cond.methodLink RL 88 yX4_carAt ∈ wsL_law := wl_r32 _ (List.mem_of_getElem? (i := 9) rfl)
theorem wd_i_X4_carAt : Cond.instanceMethod yX4_carAt ∈ wsL_law := wl_r32 _ (List.mem_of_getElem? (i := 10) rfl)
theorem wd_s_X4_carAt : Cond.selects RX4 yX4_carAt yX4_carAt ∈ wsL_law := wl_r32 _ (List.mem_of_getElem? (i := 11) rfl)
theorem wd_c_X4_carAt : Cond.code yX4_carAt cX4_carAt 2 (some .int) ∈ wsL_law := wl_r32 _ (List.mem_of_getElem? (i := 12) rfl)
theorem wd_l_L_187 : Cond.methodLink RL 187 yX5_carAt ∈ wsL_law := wl_r32 _ (List.mem_of_getElem? (i := 13) rfl)
theorem wd_i_X5_carAt : Cond.instanceMethod yX5_carAt ∈ wsL_law := wl_r32 _ (List.mem_of_getElem? (i := 14) rfl)
theorem wd_s_X5_carAt : Cond.selects RX5 yX5_carAt yX5_carAt ∈ wsL_law := wl_r32 _ (List.mem_of_getElem? (i := 15) rfl)
theorem wd_c_X5_carAt : Cond.code yX5_carAt cX5_carAt 2 (some .int) ∈ wsL_law := wl_r32 _ (List.mem_of_getElem? (i := 16) rfl)
end
section
/-! ===== words: all methods share one list ===== -/
theorem wl_good0 : wsL_law0.all goodWord = true := by decide +kernel
theorem wl_good : ∀ w ∈ wsL_law, goodWord w = true := by
  intro w h
  unfold wsL_law at h
  rcases List.mem_append.mp h with h | h
  · rcases List.mem_append.mp h with h | h
    · rcases List.mem_append.mp h with h | h
      · exact List.all_eq_true.mp wl_good0 w h
      · exact (List.mem_filter.mp h).2
    · exact (List.mem_filter.mp h).2
  · exact (List.mem_filter.mp h).2
theorem wl_pay {args : Array Value} {s : State} (hw : ∀ w ∈ wsL_law, w.before args s = true) : ∀ w ∈ wsL_law, ∀ (a' : Array Value) (U : State), s.WarmedH U.vm → w.before a' U = true := fun w h a' U hW => word_at hW (good_of_word (wl_good w h)) (hw w h)
/-- a method called by name on an object of the class C: its own words -/
def wl_V (C : String) (y : MethodName) (bytes : ByteArray) (maxL : Nat) (ret : Option FieldType) (n : Nat) : Prop :=
  Cond.code y bytes maxL ret ∈ wsL_law ∧ Cond.instanceMethod y ∈ wsL_law ∧ Cond.selects C y y ∈ wsL_law ∧ Cond.initialized y.cls ∈ wsL_law ∧ (y.cls ≠ "java/lang/invoke/MethodHandle" ∧ y.cls ≠ "java/lang/invoke/VarHandle") ∧ (parseMethodDescriptor y.desc).map (fun d => d.parameters.length) = some n
def wl_S (y : MethodName) (bytes : ByteArray) (maxL : Nat) (ret : Option FieldType) (n : Nat) : Prop :=
  Cond.code y bytes maxL ret ∈ wsL_law ∧ Cond.static y ∈ wsL_law ∧ Cond.initialized y.cls ∈ wsL_law ∧ (y.cls ≠ "java/lang/invoke/MethodHandle" ∧ y.cls ≠ "java/lang/invoke/VarHandle") ∧ (parseMethodDescriptor y.desc).map (fun d => d.parameters.length) = some n
def wl_I (y : MethodName) (bytes : ByteArray) (maxL : Nat) (n : Nat) : Prop :=
  Cond.code y bytes maxL none ∈ wsL_law ∧ Cond.instanceMethod y ∈ wsL_law ∧ Cond.initialized y.cls ∈ wsL_law ∧ (y.cls ≠ "java/lang/invoke/MethodHandle" ∧ y.cls ≠ "java/lang/invoke/VarHandle") ∧ (parseMethodDescriptor y.desc).map (fun d => d.parameters.length) = some n ∧ y.name = "<init>"
section
variable {p : Program} {l : Launch} {e : Env} {R : Room} {s : State} {m : MethodId} {args : Array Value} {below : List Frame} {meth : Method} {c : Code} {H : Heap} {locs : List Loc} {cells slots : Nat} {Q : State → Prop}
variable {cc : ByteArray} {pc nL : Nat} {ls : Array Slot} {rest st0 : List Value} {own : String}
theorem wl_callB {index n fr lo mc ms maxL : Nat} {y : MethodName} {bytes : ByteArray} {ret : Option FieldType} (hw : ∀ w ∈ wsL_law, w.before args s = true) (h1 : Cond.code y bytes maxL ret ∈ wsL_law) (h4 : Cond.initialized y.cls ∈ wsL_law) (h5 : y.cls ≠ "java/lang/invoke/MethodHandle" ∧ y.cls ≠ "java/lang/invoke/VarHandle") (h6 : (parseMethodDescriptor y.desc).map (fun d => d.parameters.length) = some n) (hl : Cond.methodLink own index y ∈ wsL_law) (hR : fr + 1 ≤ R.frames ∧ 8 + (maxL + 11) + lo ≤ R.locals) :
    CallB R s args own index y bytes maxL ret (Cond.code y bytes maxL ret :: wsL_law) { frames := fr, cells := mc, slots := ms, locals := lo } mc ms n := by
  have hws : ∀ w ∈ (Cond.code y bytes maxL ret :: wsL_law), ∀ (a' : Array Value) (U : State), s.WarmedH U.vm → w.before a' U = true := by
    intro w h
    rcases List.mem_cons.mp h with h | h
    · rw [h]; exact wl_pay hw _ h1
    · exact wl_pay hw _ h
  refine ⟨rfl, rfl, hR.1, hR.2, hws, List.mem_cons_self, hw _ h1, hw _ h4, h5, fun sig h => ?_, hw _ hl⟩
  rw [h] at h6
  exact (Option.some.inj h6).symm
theorem wl_callW {index n fr lo mc ms maxL : Nat} {C : String} {y : MethodName} {bytes : ByteArray} {ret : Option FieldType} (hw : ∀ w ∈ wsL_law, w.before args s = true) (h : wl_V C y bytes maxL ret n) (hl : Cond.methodLink own index y ∈ wsL_law) (hR : fr + 1 ≤ R.frames ∧ 8 + (maxL + 11) + lo ≤ R.locals) :
    CallW R s args own C index y bytes maxL ret (Cond.code y bytes maxL ret :: wsL_law) { frames := fr, cells := mc, slots := ms, locals := lo } mc ms n := by
  obtain ⟨h1, h2, h3, h4, h5, h6⟩ := h
  exact ⟨wl_callB hw h1 h4 h5 h6 hl hR, hw _ h2, hw _ h3⟩
theorem wl_callS {index n fr lo mc ms maxL : Nat} {y : MethodName} {bytes : ByteArray} {ret : Option FieldType} (hw : ∀ w ∈ wsL_law, w.before args s = true) (h : wl_S y bytes maxL ret n) (hl : Cond.methodLink own index y ∈ wsL_law) (hR : fr + 1 ≤ R.frames ∧ 8 + (maxL + 11) + lo ≤ R.locals) :
    CallB R s args own index y bytes maxL ret (Cond.code y bytes maxL ret :: wsL_law) { frames := fr, cells := mc, slots := ms, locals := lo } mc ms n ∧ (Cond.static y).before args s = true := by
  obtain ⟨h1, h2, h4, h5, h6⟩ := h
  exact ⟨wl_callB hw h1 h4 h5 h6 hl hR, hw _ h2⟩
theorem wl_callI {index n fr lo mc ms maxL : Nat} {y : MethodName} {bytes : ByteArray} (hw : ∀ w ∈ wsL_law, w.before args s = true) (h : wl_I y bytes maxL n) (hl : Cond.methodLink own index y ∈ wsL_law) (hR : fr + 1 ≤ R.frames ∧ 8 + (maxL + 11) + lo ≤ R.locals) :
    CallB R s args own index y bytes maxL none (Cond.code y bytes maxL none :: wsL_law) { frames := fr, cells := mc, slots := ms, locals := lo } mc ms n ∧ y.name = "<init>" ∧ (Cond.instanceMethod y).before args s = true := by
  obtain ⟨h1, h2, h4, h5, h6, h7⟩ := h
  exact ⟨wl_callB hw h1 h4 h5 h6 hl hR, h7, hw _ h2⟩
/-! ===== a method that only reads and answers an int ===== -/
def rc_C (l : Launch) (y : MethodName) (b : ByteArray) (nL : Nat) (r : Option FieldType) (fr lo : Nat) (As : List Value) (B : State → Prop) (post : Int32 → Prop) : Prop :=
  Met l y (Cond.code y b nL r :: wsL_law) { frames := fr, cells := 0, slots := 0, locals := lo } (va_Pc As B) (vp_Si post) 0 0 (fun _ => False)
/-- .. and a reference or null -/
def rq_C (l : Launch) (y : MethodName) (b : ByteArray) (nL : Nat) (r : Option FieldType) (fr lo : Nat) (As : List Value) (B : State → Prop) (post : Option Nat → Prop) : Prop :=
  Met l y (Cond.code y b nL r :: wsL_law) { frames := fr, cells := 0, slots := 0, locals := lo } (va_Pc As B) (va_Sq post) 0 0 (fun _ => False)
/-- what a state's part must bear: the steps between a caller's state and its callee's start -/
def bl_B (B : State → Prop) : Prop := ∀ (U V : State), U.heap = V.heap → U.vm.Alike V.vm → B U → B V
theorem bl_blind {As : List Value} {B : State → Prop} (h : bl_B B) : FrameBlind (va_Pc As B) := fun a U g mk q => ⟨q.1, h U (U.calling g mk a) rfl (Vm.Alike.refl U.vm) q.2⟩
theorem bl_true : bl_B (fun _ => True) := fun _ _ _ _ _ => trivial
theorem rc_S {index n fr lo maxL : Nat} {y : MethodName} {bytes : ByteArray} {ret : Option FieldType} {As : List Value} {B : State → Prop} {post : Int32 → Prop} (hF : CallFix p m c cc nL s args wsL_law own) (hM : rc_C l y bytes maxL ret fr lo As B post) (hk : wl_S y bytes maxL ret n) (hl : Cond.methodLink own index y ∈ wsL_law) (hR : fr + 1 ≤ R.frames ∧ 8 + (maxL + 11) + lo ≤ R.locals) (hbl : bl_B B) (hB : ∀ U : State, U.heap = H → s.vm.Alike U.vm → B U)
    (hn : As.length = n) (hsz : ls.size = nL) (hst : st0 = As.reverse ++ rest) (hro : (rest.map fun v => v.category).sum ≤ 8) (hdg : decode cc pc = .ok (.invokestatic index, 3)) (hf : cells ≤ R.cells ∧ slots ≤ R.slots)
    (kk : ∀ r : Int32, post r → W p l e R s m args below meth c H locs cells slots Q (F0 m (pc + 3) ls (.int r :: rest))) : W p l e R s m args below meth c H locs cells slots Q (F0 m pc ls st0) :=
  vp_callSi (W.runS hF hM (wl_callS hF.2.2.2.2 hk hl hR) ⟨bl_blind hbl, fun U hU hW => ⟨rfl, hB U hU hW.alike⟩⟩ rfl hn hsz hst (lv_room hro) hdg ⟨hf.1, hf.2⟩) kk
theorem rc_V {index n fr lo maxL : Nat} {C : String} {y : MethodName} {bytes : ByteArray} {ret : Option FieldType} {b : Nat} {As : List Value} {B : State → Prop} {post : Int32 → Prop} (hF : CallFix p m c cc nL s args wsL_law own) (hM : rc_C l y bytes maxL ret fr lo (.ref b :: As) B post) (hk : wl_V C y bytes maxL ret n) (hl : Cond.methodLink own index y ∈ wsL_law) (hR : fr + 1 ≤ R.frames ∧ 8 + (maxL + 11) + lo ≤ R.locals) (hbl : bl_B B) (hB : ∀ U : State, U.heap = H → s.vm.Alike U.vm → B U)
    (hrv : ∃ cellB : Cell, H[b]? = some cellB ∧ cellB.vm.isStatics = false ∧ s.vm.findClass C = some cellB.cls)
    (hn : As.length = n) (hsz : ls.size = nL) (hst : st0 = As.reverse ++ .ref b :: rest) (hro : (rest.map fun v => v.category).sum ≤ 8) (hdg : decode cc pc = .ok (.invokevirtual index, 3)) (hf : cells ≤ R.cells ∧ slots ≤ R.slots)
    (kk : ∀ r : Int32, post r → W p l e R s m args below meth c H locs cells slots Q (F0 m (pc + 3) ls (.int r :: rest))) : W p l e R s m args below meth c H locs cells slots Q (F0 m pc ls st0) :=
  vp_callSi (W.runV hF hM (wl_callW hF.2.2.2.2 hk hl hR) ⟨bl_blind hbl, hrv, fun U hU hW => ⟨rfl, hB U hU hW.alike⟩⟩ rfl hn hsz hst (lv_room hro) hdg ⟨hf.1, hf.2⟩) kk
theorem rq_V {index n fr lo maxL : Nat} {C : String} {y : MethodName} {bytes : ByteArray} {ret : Option FieldType} {b : Nat} {As : List Value} {B : State → Prop} {post : Option Nat → Prop} (hF : CallFix p m c cc nL s args wsL_law own) (hM : rq_C l y bytes maxL ret fr lo (.ref b :: As) B post) (hk : wl_V C y bytes maxL ret n) (hl : Cond.methodLink own index y ∈ wsL_law) (hR : fr + 1 ≤ R.frames ∧ 8 + (maxL + 11) + lo ≤ R.locals) (hbl : bl_B B) (hB : ∀ U : State, U.heap = H → s.vm.Alike U.vm → B U)
    (hrv : ∃ cellB : Cell, H[b]? = some cellB ∧ cellB.vm.isStatics = false ∧ s.vm.findClass C = some cellB.cls)
    (hn : As.length = n) (hsz : ls.size = nL) (hst : st0 = As.reverse ++ .ref b :: rest) (hro : (rest.map fun v => v.category).sum ≤ 8) (hdg : decode cc pc = .ok (.invokevirtual index, 3)) (hf : cells ≤ R.cells ∧ slots ≤ R.slots)
    (kk : ∀ r : Option Nat, post r → W p l e R s m args below meth c H locs cells slots Q (F0 m (pc + 3) ls (va_rf r :: rest))) : W p l e R s m args below meth c H locs cells slots Q (F0 m pc ls st0) :=
  va_csq (W.runV hF hM (wl_callW hF.2.2.2.2 hk hl hR) ⟨bl_blind hbl, hrv, fun U hU hW => ⟨rfl, hB U hU hW.alike⟩⟩ rfl hn hsz hst (lv_room hro) hdg ⟨hf.1, hf.2⟩) kk
/-- the body of such a method -/
theorem rc_of {l : Launch} {y : MethodName} {b : ByteArray} {nL : Nat} {r : Option FieldType} {fr lo : Nat} {As : List Value} {B : State → Prop} {post : Int32 → Prop} (hy : plainName y.cls = true) (hn : (lg_sl As).length ≤ nL)
    (body : ∀ (p : Program) (e : Env) (s : State) (m : MethodId) (args : Array Value) (below : List Frame) (meth : Method) (c : Code), p.tables.exec = Jvm.exec → c.code = b → meth.sig.returnType = r → CallFix p m c b nL s args wsL_law y.cls → meth.locks = false → B s → ∀ ls : Array Slot, lv_has ls nL (lv_args 0 As) →
      W p l e { frames := fr, cells := 0, slots := 0, locals := lo } s m args below meth c s.heap [] 0 0 (MQ below (vp_Si post) args s 0 0 (fun _ => False)) (F0 m 0 ls [])) : rc_C l y b nL r fr lo As B post := by
  refine Met.ofW (cc := b) (maxL := nL) (ret := r) hy rfl ?_
  intro p e s m args below meth c s₁ B0 hml hv
  obtain ⟨rfl, hB⟩ := hv
  have hts := atoms_spec (ws := Cond.code y b nL r :: wsL_law) B0.pre
  have hl := lv_entry As (n := nL) hn
  rw [lg_entry_eq]
  exact body p e s m _ below meth c B0.exec B0.bytes B0.returns ⟨B0.exec, B0.bytes, hml, findClass_of_methodNamed B0.named, fun w h => hts w (List.mem_cons_of_mem _ h)⟩ B0.notSynchronized hB _ hl
theorem rq_of {l : Launch} {y : MethodName} {b : ByteArray} {nL : Nat} {r : Option FieldType} {fr lo : Nat} {As : List Value} {B : State → Prop} {post : Option Nat → Prop} (hy : plainName y.cls = true) (hn : (lg_sl As).length ≤ nL)
    (body : ∀ (p : Program) (e : Env) (s : State) (m : MethodId) (args : Array Value) (below : List Frame) (meth : Method) (c : Code), p.tables.exec = Jvm.exec → c.code = b → meth.sig.returnType = r → CallFix p m c b nL s args wsL_law y.cls → meth.locks = false → B s → ∀ ls : Array Slot, lv_has ls nL (lv_args 0 As) →
      W p l e { frames := fr, cells := 0, slots := 0, locals := lo } s m args below meth c s.heap [] 0 0 (MQ below (va_Sq post) args s 0 0 (fun _ => False)) (F0 m 0 ls [])) : rq_C l y b nL r fr lo As B post := by
  refine Met.ofW (cc := b) (maxL := nL) (ret := r) hy rfl ?_
  intro p e s m args below meth c s₁ B0 hml hv
  obtain ⟨rfl, hB⟩ := hv
  have hts := atoms_spec (ws := Cond.code y b nL r :: wsL_law) B0.pre
  have hl := lv_entry As (n := nL) hn
  rw [lg_entry_eq]
  exact body p e s m _ below meth c B0.exec B0.bytes B0.returns ⟨B0.exec, B0.bytes, hml, findClass_of_methodNamed B0.named, fun w h => hts w (List.mem_cons_of_mem _ h)⟩ B0.notSynchronized hB _ hl
theorem rc_iret {post : Int32 → Prop} {v : Int32} (hx : p.tables.exec = Jvm.exec) (hb : c.code = cc) (hr : meth.sig.returnType = some .int) (hlocks : meth.locks = false) (hp : post v) (hdg : decode cc pc = .ok (.ireturn, 1)) : W p l e R s m args below meth c s.heap [] cells slots (MQ below (vp_Si post) args s cells slots (fun _ => False)) (F0 m pc ls [.int v]) :=
  W.iret hx hb hr (fun t ht _ => ⟨v, rfl, hp, ht⟩) (fun _ h => by cases h) hdg hlocks
theorem rc_zret {post : Int32 → Prop} {v : Int32} (hx : p.tables.exec = Jvm.exec) (hb : c.code = cc) (hr : meth.sig.returnType = some .boolean) (hlocks : meth.locks = false) (hv : v = 0 ∨ v = 1) (hp : post v) (hdg : decode cc pc = .ok (.ireturn, 1)) : W p l e R s m args below meth c s.heap [] cells slots (MQ below (vp_Si post) args s cells slots (fun _ => False)) (F0 m pc ls [.int v]) :=
  W.zret hx hb hr (by rcases hv with rfl | rfl <;> decide) (fun t ht _ => ⟨v, rfl, hp, ht⟩) (fun _ h => by cases h) hdg hlocks
end
/-! ===== numbers in a table: k an array's number, i a place ===== -/
abbrev q_Mem : Type := Nat → Nat → Int32
def up2 (mm : q_Mem) (k i : Nat) (v : Int32) : q_Mem := fun a b => if a = k ∧ b = i then v else mm a b
theorem up2_s {mm : q_Mem} {k i : Nat} {v : Int32} : up2 mm k i v k i = v := by simp [up2]
theorem up2_k {mm : q_Mem} {k i j : Nat} {v : Int32} (h : j ≠ k) : up2 mm k i v j = mm j := by funext b; simp [up2, h]
theorem up2_i {mm : q_Mem} {k i j : Nat} {v : Int32} (h : j ≠ i) : up2 mm k i v k j = mm k j := by simp [up2, h]
theorem up2_row {mm : q_Mem} {k i : Nat} {v : Int32} : up2 mm k i v k = upd (mm k) i v := by funext b; simp [up2, upd]
theorem up2_comm {mm : q_Mem} {k i k2 i2 : Nat} {v v2 : Int32} (h : k ≠ k2) : up2 (up2 mm k i v) k2 i2 v2 = up2 (up2 mm k2 i2 v2) k i v := by
  funext a b
  unfold up2
  by_cases h1 : a = k2 ∧ b = i2
  · rw [if_pos h1, if_neg (fun q => h (q.1.symm.trans h1.1)), if_pos h1]
  · rw [if_neg h1]
    by_cases h2 : a = k ∧ b = i
    · rw [if_pos h2, if_pos h2]
    · rw [if_neg h2, if_neg h2, if_neg h1]
theorem up2_twice {mm : q_Mem} {k i : Nat} {v w : Int32} : up2 (up2 mm k i v) k i w = up2 mm k i w := by
  funext a b
  unfold up2
  by_cases h1 : a = k ∧ b = i
  · rw [if_pos h1, if_pos h1]
  · rw [if_neg h1, if_neg h1, if_neg h1]
theorem up2_c {mm : q_Mem} {k i j b : Nat} {v : Int32} (h : j ≠ k) : up2 mm k i v j b = mm j b := by rw [up2_k h]
end
section
/-! ===== the reference's object: its arrays at a k, its numbers mm k i ===== -/
def mo_ar (k : Nat) : Bool := decide (k < 19) && !(k == 1) && !(k == 10)
def mo_ln (k : Nat) : Nat := match k with
  | 0 => 6
  | 11 => 4200
  | 12 => 4200
  | 13 => 341
  | 14 => 341
  | 15 => 3
  | 16 => 3
  | 18 => 360
  | _ => 40
theorem mo_ln_lt (k : Nat) : mo_ln k < 2 ^ 31 := by
  unfold mo_ln
  split <;> decide
def mo_fs (a : Nat → Nat) (mm : q_Mem) : List Value := [.ref (a 0), .int (mm 1 0), .ref (a 2), .ref (a 3), .ref (a 4), .ref (a 5), .ref (a 6), .ref (a 7), .ref (a 8), .ref (a 9), .int (mm 10 0), .ref (a 11), .ref (a 12), .ref (a 13), .ref (a 14), .ref (a 15), .ref (a 16), .ref (a 17), .ref (a 18), .int (mm 19 0)]
def mo_H (D : va_G) (cI : ClassId) (o : Nat) (a : Nat → Nat) (mm : q_Mem) (H : Heap) : Prop :=
  va_at D vwCl (o, .inr (6, mo_fs a mm)) H ∧ ∀ k, mo_ar k = true → va_at D vwCl (a k, .inl (cI, mo_ln k, .inl (mm k))) H
def mo_D (o : Nat) (a : Nat → Nat) : Prop := (∀ j k, mo_ar j = true → mo_ar k = true → a j = a k → j = k) ∧ ∀ k, mo_ar k = true → a k ≠ o
def mo_R (o : Nat) (a : Nat → Nat) : Nat → Prop := fun q => q = o ∨ ∃ k, mo_ar k = true ∧ q = a k
def mo_B (D : va_G) (cI : ClassId) (o : Nat) (a : Nat → Nat) (mm : q_Mem) : State → Prop := fun U => mo_H D cI o a mm U.heap ∧ va_K D vwCl [(cI, .int)] U
theorem mo_H.kept {D : va_G} {cI : ClassId} {o : Nat} {a : Nat → Nat} {mm : q_Mem} {H H1 : Heap} (h : mo_H D cI o a mm H) (hq : ∀ q, mo_R o a q → H1[q]? = H[q]?) : mo_H D cI o a mm H1 :=
  ⟨h.1.kept (hq o (Or.inl rfl)), fun k hk => (h.2 k hk).kept (hq (a k) (Or.inr ⟨k, hk, rfl⟩))⟩
theorem mo_blind {D : va_G} {cI : ClassId} {o : Nat} {a : Nat → Nat} {mm : q_Mem} : bl_B (mo_B D cI o a mm) := fun U V hh hv h => ⟨by rw [← hh]; exact h.1, h.2.moved hv⟩
theorem mo_one {D : va_G} {q : Nat × va_E} {H : Heap} (h : va_at D vwCl q H) : va_P D vwCl [q] H := by
  intro k x hk
  cases k with
  | zero => cases hk; exact h
  | succ k => simp at hk
theorem mo_T1 : ∀ k, k < 20 → (TX5 k).1 = RX5 := by decide +kernel
theorem mo_fs_up {a : Nat → Nat} {mm : q_Mem} {k i : Nat} {v : Int32} (hk : mo_ar k = true) : mo_fs a (up2 mm k i v) = mo_fs a mm := by
  have h1 : (1 : Nat) ≠ k := fun h => by subst h; exact absurd hk (by decide)
  have h10 : (10 : Nat) ≠ k := fun h => by subst h; exact absurd hk (by decide)
  have h19 : (19 : Nat) ≠ k := fun h => by subst h; exact absurd hk (by decide)
  unfold mo_fs
  rw [up2_k h1, up2_k h10, up2_k h19]
section
variable {p : Program} {l : Launch} {e : Env} {R : Room} {s : State} {m : MethodId} {args : Array Value} {below : List Frame} {meth : Method} {c : Code} {H : Heap} {locs : List Loc} {cells slots : Nat} {Q : State → Prop}
variable {cc : ByteArray} {pc nL : Nat} {ls : Array Slot} {rest st0 : List Value} {D : va_G} {cI : ClassId} {o : Nat} {a : Nat → Nat} {mm : q_Mem} {A : Nat → Prop} {H0 : Heap} {own : String}
theorem mo_get (hF : CallFix p m c cc nL s args wsL_law RX5) (hK : va_K D vwCl [(cI, .int)] s) (hM : mo_H D cI o a mm H) {idx : Nat} (k : Nat) (hk : k < 20) (hlink : Cond.fieldLink RX5 idx RX5 (TX5 k).2.1 (TX5 k).2.2.1 ∈ wsL_law) {v : Value} (hv : (mo_fs a mm)[k]? = some v) (hdg : decode cc pc = .ok (.getfield idx, 3))
    (kk : W p l e R s m args below meth c H locs cells slots Q (F0 m (pc + 3) ls (v :: rest))) : W p l e R s m args below meth c H locs cells slots Q (F0 m pc ls (.ref o :: rest)) :=
  va_get (ci := 6) (C := RX5) (T := TX5) (N := 20) hF.1 hF.2.1 hF.2.2.2.2 inlX5 hF.2.2.2.1 hK (mo_one hM.1) 0 rfl rfl k hk (hF.2.2.2.2 _ hlink) (fun x h => by rw [mo_T1 k hk] at h; exact h) hv hdg kk
theorem mo_put (hF : CallFix p m c cc nL s args wsL_law RX5) (hK : va_K D vwCl [(cI, .int)] s) (hM : mo_H D cI o a mm H) (hMD : mo_D o a) (hS : va_S A H0 H locs) (hA : ∀ q, mo_R o a q → A q) {idx : Nat} (k : Nat) (hk : k = 1 ∨ k = 10 ∨ k = 19) (hlink : Cond.fieldLink RX5 idx RX5 (TX5 k).2.1 (TX5 k).2.2.1 ∈ wsL_law) {v : Int32} (hdg : decode cc pc = .ok (.putfield idx, 3))
    (kk : ∀ (H1 : Heap) (locs1 : List Loc), mo_H D cI o a (up2 mm k 0 v) H1 → va_S A H0 H1 locs1 → W p l e R s m args below meth c H1 locs1 cells slots Q (F0 m (pc + 3) ls rest)) : W p l e R s m args below meth c H locs cells slots Q (F0 m pc ls (.int v :: .ref o :: rest)) := by
  obtain ⟨hx, hb, -, hown, hw⟩ := hF
  have hc : vwCl[6]? = some (RX5, TX5, 20) := rfl
  have hk20 : k < 20 := by omega
  have hap := va_apart (own := RX5) hw inlX5 tyX5 tyX5_ok nmX5 hK hc
  obtain ⟨r, h1, cell, q1, q2, q3, q4⟩ := hM.1
  have hr : r = (RX5, TX5, 20) := Option.some.inj (h1.symm.trans hc)
  subst hr
  obtain ⟨hSl, hfc, kC, hkC, hkind⟩ := hK.1 6 _ hc
  obtain ⟨cf, kf, fi, f, hi, hsl⟩ := hSl k hk20
  have hlay := hw _ (inlX5 _ (u_in_lay hk20))
  have hfin : (TX5 k).2.2.2 = false := by rcases hk with rfl | rfl | rfl <;> rfl
  have hty : parseFieldDescriptor (TX5 k).2.2.1 = some .int := by rcases hk with rfl | rfl | rfl <;> exact tyX5_ok _ (by decide)
  have hsame : s.fieldFound? RX5 (TX5 k).2.1 (TX5 k).2.2.1 = some (cf, kf, fi, f) := by rw [← mo_T1 k hk20]; exact hi
  unfold u_lay at hlay
  rw [if_neg (by rw [hfin]; decide)] at hlay
  have hst := (u_facts hfc hkC (u_lays hw inlX5 hk20) hi).1
  have h6 := u_store hfc hkC hkind hlay hi hty (v := .int v) rfl rfl
  refine W.putK hx hb (f := f) ⟨hown, hw _ hlink, ⟨_, _, _, hsame⟩, hst⟩ (by rw [q2]; exact h6) q1 q3 (by rw [hsl]; exact k2_hasslot (q4 k hk20)) rfl rfl hdg fun H' e1 e2 e3 => ?_
  rw [hsl] at e1 ⊢
  have hset : ∀ j, j < 20 → updV (vp_V (mo_fs a mm)) k (.int v) j = vp_V (mo_fs a (up2 mm k 0 v)) j := by
    intro j hj
    rcases hk with rfl | rfl | rfl <;> rw [vp_updV_set (Nat.le_of_ble_eq_true rfl)] <;> unfold mo_fs <;> simp [up2_s, up2_k]
  refine kk H' _ ⟨⟨_, hc, t_OB.to ⟨_, e1, q2, q3, t_set q4 hap hk20 (.int v)⟩ hset⟩, fun j hj => ?_⟩ (hS.put e2 e3 (hA o (Or.inl rfl)))
  have hjk : j ≠ k := fun q => by subst q; rcases hk with rfl | rfl | rfl <;> exact absurd hj (by decide)
  have h2 := (hM.2 j hj).kept (e3 (a j) (hMD.2 j hj))
  rw [up2_k hjk]
  exact h2
theorem mo_ald (hF : CallFix p m c cc nL s args wsL_law RX5) (hK : va_K D vwCl [(cI, .int)] s) (hM : mo_H D cI o a mm H) (k i : Nat) (hk : mo_ar k = true) {x : Int32} (hx : x = nI i) (hi : i < mo_ln k) (hdg : decode cc pc = .ok (.iaload, 1))
    (kk : W p l e R s m args below meth c H locs cells slots Q (F0 m (pc + 1) ls (.int (mm k i) :: rest))) : W p l e R s m args below meth c H locs cells slots Q (F0 m pc ls (.int x :: .ref (a k) :: rest)) := by
  subst hx
  have hcl : (nI i).toNatClampNeg = i := nI_clamp (Nat.lt_trans hi (mo_ln_lt k))
  refine va_iald hF.1 hF.2.1 hK (mo_one (hM.2 k hk)) 0 0 rfl rfl (vp_in_nI hi (mo_ln_lt k)) hdg ?_
  rw [hcl]
  exact kk
theorem mo_ast (hF : CallFix p m c cc nL s args wsL_law RX5) (hK : va_K D vwCl [(cI, .int)] s) (hM : mo_H D cI o a mm H) (hMD : mo_D o a) (hS : va_S A H0 H locs) (hA : ∀ q, mo_R o a q → A q) (k i : Nat) (hk : mo_ar k = true) {x v : Int32} (hx : x = nI i) (hi : i < mo_ln k) (hdg : decode cc pc = .ok (.iastore, 1))
    (kk : ∀ (H1 : Heap) (locs1 : List Loc), mo_H D cI o a (up2 mm k i v) H1 → va_S A H0 H1 locs1 → W p l e R s m args below meth c H1 locs1 cells slots Q (F0 m (pc + 1) ls rest)) : W p l e R s m args below meth c H locs cells slots Q (F0 m pc ls (.int v :: .int x :: .ref (a k) :: rest)) := by
  subst hx
  have hcl : (nI i).toNatClampNeg = i := nI_clamp (Nat.lt_trans hi (mo_ln_lt k))
  refine W.iast hF.1 hF.2.1 (hM.2 k hk) ((hK.2 0 _ rfl).1 (mo_ln k) (fun j => .int (mm k j))) (fun q => by cases q) (by show ¬ (nI i < 0 ∨ (arrV _ _ _).slots.size ≤ _); rw [arrV_size]; exact vp_in_nI hi (mo_ln_lt k)) rfl rfl hdg fun H1 e1 z oq => ?_
  refine kk H1 _ ⟨?_, fun j hj => ?_⟩ (hS.put z oq (hA (a k) (Or.inr ⟨k, hk, rfl⟩)))
  · rw [mo_fs_up hk]
    exact hM.1.kept (oq o (fun q => hMD.2 k hk q.symm))
  · by_cases hjk : j = k
    · subst hjk
      rw [up2_row]
      show H1[a j]? = some (vp_cell _ _)
      rw [e1, vp_cell_i, vp_cell_i, arrV_store, hcl]
      congr 2
      funext q
      by_cases hq : q = i
      · subst hq
        simp [updV, upd]
      · simp [updV, upd, hq]
    · rw [up2_k hjk]
      exact (hM.2 j hj).kept (oq (a j) (fun q => hjk (hMD.1 j k hj hk q)))
theorem mo_recv (hK : va_K D vwCl [(cI, .int)] s) (hM : mo_H D cI o a mm H) : ∃ cell : Cell, H[o]? = some cell ∧ cell.vm.isStatics = false ∧ s.vm.findClass RX5 = some cell.cls :=
  va_recv hK (mo_one hM.1) (q := (RX5, TX5, 20)) (ci := 6) (q0 := 0) rfl rfl
/-! contracts: a method of the reference, that answers an int, and may change the numbers -/
def mo_Ci (l : Launch) (y : MethodName) (b : ByteArray) (nL : Nat) (r : Option FieldType) (fr lo : Nat) (D : va_G) (cI : ClassId) (o : Nat) (a : Nat → Nat) (mm : q_Mem) (As : List Value) (post : Int32 → q_Mem → Prop) : Prop :=
  Met l y (Cond.code y b nL r :: wsL_law) { frames := fr, cells := 0, slots := 0, locals := lo } (va_Pc (.ref o :: As) (mo_B D cI o a mm)) (va_Qi post (mo_B D cI o a) (mo_R o a)) 0 0 (mo_R o a)
def mo_Cv (l : Launch) (y : MethodName) (b : ByteArray) (nL : Nat) (r : Option FieldType) (fr lo : Nat) (D : va_G) (cI : ClassId) (o : Nat) (a : Nat → Nat) (mm : q_Mem) (As : List Value) (post : q_Mem → Prop) : Prop :=
  Met l y (Cond.code y b nL r :: wsL_law) { frames := fr, cells := 0, slots := 0, locals := lo } (va_Pc (.ref o :: As) (mo_B D cI o a mm)) (va_Qv post (mo_B D cI o a) (mo_R o a)) 0 0 (mo_R o a)
theorem mo_ofQ {l : Launch} {y : MethodName} {b : ByteArray} {nL : Nat} {r : Option FieldType} {fr lo : Nat} {As : List Value} {Qc : Array Value → State → Outcome → State → Prop} (hy : plainName y.cls = true) (hn : (lg_sl (.ref o :: As)).length ≤ nL)
    (body : ∀ (p : Program) (e : Env) (s : State) (m : MethodId) (args : Array Value) (below : List Frame) (meth : Method) (c : Code), p.tables.exec = Jvm.exec → c.code = b → meth.sig.returnType = r → CallFix p m c b nL s args wsL_law y.cls → meth.locks = false → mo_H D cI o a mm s.heap → va_K D vwCl [(cI, .int)] s → va_S (mo_R o a) s.heap s.heap [] → ∀ ls : Array Slot, lv_has ls nL (lv_args 0 (.ref o :: As)) →
      W p l e { frames := fr, cells := 0, slots := 0, locals := lo } s m args below meth c s.heap [] 0 0 (MQ below Qc args s 0 0 (mo_R o a)) (F0 m 0 ls [])) : Met l y (Cond.code y b nL r :: wsL_law) { frames := fr, cells := 0, slots := 0, locals := lo } (va_Pc (.ref o :: As) (mo_B D cI o a mm)) Qc 0 0 (mo_R o a) := by
  refine Met.ofW (cc := b) (maxL := nL) (ret := r) hy rfl ?_
  intro p e s m args below meth c s₁ B0 hml hv
  obtain ⟨rfl, hM, hK⟩ := hv
  have hts := atoms_spec (ws := Cond.code y b nL r :: wsL_law) B0.pre
  have hl := lv_entry (.ref o :: As) (n := nL) hn
  rw [lg_entry_eq]
  exact body p e s m _ below meth c B0.exec B0.bytes B0.returns ⟨B0.exec, B0.bytes, hml, findClass_of_methodNamed B0.named, fun w h => hts w (List.mem_cons_of_mem _ h)⟩ B0.notSynchronized hM hK va_S.rf _ hl
theorem mo_iret {post : Int32 → q_Mem → Prop} {v : Int32} (hx : p.tables.exec = Jvm.exec) (hb : c.code = cc) (hr : meth.sig.returnType = some .int) (hlocks : meth.locks = false) (hK : va_K D vwCl [(cI, .int)] s) (hM : mo_H D cI o a mm H) (hS : va_S (mo_R o a) s.heap H locs) (hp : post v mm) (hdg : decode cc pc = .ok (.ireturn, 1)) : W p l e R s m args below meth c H locs cells slots (MQ below (va_Qi post (mo_B D cI o a) (mo_R o a)) args s cells slots (mo_R o a)) (F0 m pc ls [.int v]) :=
  W.iret hx hb hr (fun t ht hW => ⟨⟨v, mm, rfl, hp, by rw [ht]; exact hM, hK.moved hW.alike⟩, hS.F ht⟩) hS.2.2 hdg hlocks
theorem mo_zret {post : Int32 → q_Mem → Prop} {v : Int32} (hx : p.tables.exec = Jvm.exec) (hb : c.code = cc) (hr : meth.sig.returnType = some .boolean) (hlocks : meth.locks = false) (hv : v = 0 ∨ v = 1) (hK : va_K D vwCl [(cI, .int)] s) (hM : mo_H D cI o a mm H) (hS : va_S (mo_R o a) s.heap H locs) (hp : post v mm) (hdg : decode cc pc = .ok (.ireturn, 1)) : W p l e R s m args below meth c H locs cells slots (MQ below (va_Qi post (mo_B D cI o a) (mo_R o a)) args s cells slots (mo_R o a)) (F0 m pc ls [.int v]) :=
  W.zret hx hb hr (by rcases hv with rfl | rfl <;> decide) (fun t ht hW => ⟨⟨v, mm, rfl, hp, by rw [ht]; exact hM, hK.moved hW.alike⟩, hS.F ht⟩) hS.2.2 hdg hlocks
theorem mo_vret {post : q_Mem → Prop} (hx : p.tables.exec = Jvm.exec) (hb : c.code = cc) (hr : meth.sig.returnType = none) (hlocks : meth.locks = false) (hK : va_K D vwCl [(cI, .int)] s) (hM : mo_H D cI o a mm H) (hS : va_S (mo_R o a) s.heap H locs) (hp : post mm) (hdg : decode cc pc = .ok (.return_, 1)) : W p l e R s m args below meth c H locs cells slots (MQ below (va_Qv post (mo_B D cI o a) (mo_R o a)) args s cells slots (mo_R o a)) (F0 m pc ls []) :=
  W.vret hx hb hr (fun t ht hW => ⟨⟨mm, rfl, hp, by rw [ht]; exact hM, hK.moved hW.alike⟩, hS.F ht⟩) hS.2.2 hdg hlocks
/-- the call of such a method, by whoever owns its cells -/
theorem mo_iV {index n fr lo maxL : Nat} {y : MethodName} {bytes : ByteArray} {ret : Option FieldType} {As : List Value} {post : Int32 → q_Mem → Prop} (hF : CallFix p m c cc nL s args wsL_law own) (hM : mo_Ci l y bytes maxL ret fr lo D cI o a mm As post) (hk : wl_V RX5 y bytes maxL ret n) (hl : Cond.methodLink own index y ∈ wsL_law) (hR : fr + 1 ≤ R.frames ∧ 8 + (maxL + 11) + lo ≤ R.locals) (hK : va_K D vwCl [(cI, .int)] s) (hP : mo_H D cI o a mm H) (hS : va_S A H0 H locs) (hA : ∀ q, mo_R o a q → A q)
    (hn : As.length = n) (hsz : ls.size = nL) (hst : st0 = As.reverse ++ .ref o :: rest) (hro : (rest.map fun v => v.category).sum ≤ 8) (hdg : decode cc pc = .ok (.invokevirtual index, 3)) (hf : cells ≤ R.cells ∧ slots ≤ R.slots)
    (kk : ∀ (r : Int32) (mm1 : q_Mem) (H1 : Heap) (locs1 : List Loc), post r mm1 → mo_H D cI o a mm1 H1 → va_S A H0 H1 locs1 → H.size ≤ H1.size → (∀ q : Nat, q < H.size → ¬ mo_R o a q → H1[q]? = H[q]?) → W p l e R s m args below meth c H1 locs1 cells slots Q (F0 m (pc + 3) ls (.int r :: rest))) : W p l e R s m args below meth c H locs cells slots Q (F0 m pc ls st0) := by
  refine va_calli (A0 := A) (va_runV hF hM (wl_callW hF.2.2.2.2 hk hl hR) ⟨bl_blind mo_blind, mo_recv hK hP, fun U hU hW => ⟨rfl, by rw [hU]; exact hP, hK.moved hW.alike⟩⟩ rfl hn hsz hst (lv_room hro) hdg ⟨hf.1, hf.2⟩) hS (fun q _ h => hA q h) (fun q h => hA q h) ?_
  intro r u t H1 locs1 ht hvm hp hB hz hk2 hS1
  exact kk r u H1 locs1 hp (by rw [← ht]; exact hB.1) hS1 hz hk2
theorem mo_vV {index n fr lo maxL : Nat} {y : MethodName} {bytes : ByteArray} {ret : Option FieldType} {As : List Value} {post : q_Mem → Prop} (hF : CallFix p m c cc nL s args wsL_law own) (hM : mo_Cv l y bytes maxL ret fr lo D cI o a mm As post) (hk : wl_V RX5 y bytes maxL ret n) (hl : Cond.methodLink own index y ∈ wsL_law) (hR : fr + 1 ≤ R.frames ∧ 8 + (maxL + 11) + lo ≤ R.locals) (hK : va_K D vwCl [(cI, .int)] s) (hP : mo_H D cI o a mm H) (hS : va_S A H0 H locs) (hA : ∀ q, mo_R o a q → A q)
    (hn : As.length = n) (hsz : ls.size = nL) (hst : st0 = As.reverse ++ .ref o :: rest) (hro : (rest.map fun v => v.category).sum ≤ 8) (hdg : decode cc pc = .ok (.invokevirtual index, 3)) (hf : cells ≤ R.cells ∧ slots ≤ R.slots)
    (kk : ∀ (mm1 : q_Mem) (H1 : Heap) (locs1 : List Loc), post mm1 → mo_H D cI o a mm1 H1 → va_S A H0 H1 locs1 → W p l e R s m args below meth c H1 locs1 cells slots Q (F0 m (pc + 3) ls rest)) : W p l e R s m args below meth c H locs cells slots Q (F0 m pc ls st0) := by
  refine va_callv (A0 := A) (va_runV hF hM (wl_callW hF.2.2.2.2 hk hl hR) ⟨bl_blind mo_blind, mo_recv hK hP, fun U hU hW => ⟨rfl, by rw [hU]; exact hP, hK.moved hW.alike⟩⟩ rfl hn hsz hst (lv_room hro) hdg ⟨hf.1, hf.2⟩) hS (fun q _ h => hA q h) (fun q h => hA q h) ?_
  intro u t H1 locs1 ht hvm hp hB hz hk2 hS1
  exact kk u H1 locs1 hp (by rw [← ht]; exact hB.1) hS1
end
theorem mo_gh {D : va_G} {cI : ClassId} {o : Nat} {a : Nat → Nat} {mm : q_Mem} {H : Heap} {k i : Nat} {v : Int32} (hk : 20 ≤ k) (h : mo_H D cI o a mm H) : mo_H D cI o a (up2 mm k i v) H := by
  refine ⟨?_, fun j hj => ?_⟩
  · have e : mo_fs a (up2 mm k i v) = mo_fs a mm := by
      unfold mo_fs
      rw [up2_k (by omega : (1 : Nat) ≠ k), up2_k (by omega : (10 : Nat) ≠ k), up2_k (by omega : (19 : Nat) ≠ k)]
    rw [e]; exact h.1
  · have hjk : j ≠ k := fun q => by
      subst q
      simp only [mo_ar, Bool.and_eq_true, decide_eq_true_eq] at hj
      omega
    rw [up2_k hjk]; exact h.2 j hj
end
section
/-! ===== a boolean answer: 'if P then 1 else 0' ===== -/
section
variable {p : Program} {l : Launch} {e : Env} {R : Room} {s : State} {m : MethodId} {args : Array Value} {below : List Frame} {meth : Method} {c : Code} {H : Heap} {locs : List Loc} {cells slots : Nat} {Q : State → Prop}
variable {cc : ByteArray} {pc : Nat} {ls : Array Slot} {rest : List Value}
theorem bo_eq {P : Prop} [Decidable P] {r : Int32} (h : r = if P then 1 else 0) (hexec : p.tables.exec = Jvm.exec) (hb : c.code = cc) {off : Int} {tgt : Nat} (hdg : decode cc pc = .ok (.ifCond .eq off, 3)) (ht : (pc : Int) + off = (tgt : Int))
    (kt : ¬ P → W p l e R s m args below meth c H locs cells slots Q (F0 m tgt ls rest)) (kf : P → W p l e R s m args below meth c H locs cells slots Q (F0 m (pc + 3) ls rest)) : W p l e R s m args below meth c H locs cells slots Q (F0 m pc ls (.int r :: rest)) := by
  refine lv_if_eq hexec hb hdg ht (fun q => kt fun hp => ?_) (fun q => kf ?_)
  · rw [h, if_pos hp] at q; exact absurd q (by decide)
  · by_cases hp : P
    · exact hp
    · exact absurd (by rw [h, if_neg hp]) q
theorem bo_ne {P : Prop} [Decidable P] {r : Int32} (h : r = if P then 1 else 0) (hexec : p.tables.exec = Jvm.exec) (hb : c.code = cc) {off : Int} {tgt : Nat} (hdg : decode cc pc = .ok (.ifCond .ne off, 3)) (ht : (pc : Int) + off = (tgt : Int))
    (kt : P → W p l e R s m args below meth c H locs cells slots Q (F0 m tgt ls rest)) (kf : ¬ P → W p l e R s m args below meth c H locs cells slots Q (F0 m (pc + 3) ls rest)) : W p l e R s m args below meth c H locs cells slots Q (F0 m pc ls (.int r :: rest)) := by
  refine lv_if_ne hexec hb hdg ht (fun q => kt ?_) (fun q => kf fun hp => ?_)
  · by_cases hp : P
    · exact hp
    · exact absurd (by rw [h, if_neg hp]) q
  · rw [h, if_pos hp] at q; exact absurd q (by decide)
theorem bo_cut {E : Int32} {tgt : Nat} {g : JFrame} (k : ∀ v : Int32, v = E → W p l e R s m args below meth c H locs cells slots Q (F0 m tgt ls (.int v :: rest))) (j : (∀ v : Int32, v = E → W p l e R s m args below meth c H locs cells slots Q (F0 m tgt ls (.int v :: rest))) → W p l e R s m args below meth c H locs cells slots Q g) : W p l e R s m args below meth c H locs cells slots Q g := j k
theorem bo_to {v x : Int32} (h : x = v) (k : W p l e R s m args below meth c H locs cells slots Q (F0 m pc ls (.int v :: rest))) : W p l e R s m args below meth c H locs cells slots Q (F0 m pc ls (.int x :: rest)) := by rw [h]; exact k
/-- a loop: x tells how far it is, I what holds at its head -/
theorem bo_loop {σ : Type} (μ : σ → Nat) (I : σ → Heap → List Loc → Array Slot → Prop) (x0 : σ) (h0 : I x0 H locs ls)
    (step : ∀ (x : σ) (H : Heap) (locs : List Loc) (ls : Array Slot), I x H locs ls → (∀ (y : σ) (H1 : Heap) (locs1 : List Loc) (ls1 : Array Slot), μ y < μ x → I y H1 locs1 ls1 → W p l e R s m args below meth c H1 locs1 cells slots Q (F0 m pc ls1 rest)) → W p l e R s m args below meth c H locs cells slots Q (F0 m pc ls rest)) : W p l e R s m args below meth c H locs cells slots Q (F0 m pc ls rest) := by
  have key : ∀ (n : Nat) (x : σ) (H : Heap) (locs : List Loc) (ls : Array Slot), μ x < n → I x H locs ls → W p l e R s m args below meth c H locs cells slots Q (F0 m pc ls rest) := by
    intro n
    induction n with
    | zero => intro x H locs ls h; exact absurd h (Nat.not_lt_zero _)
    | succ n ih => intro x H locs ls h hI; exact step x H locs ls hI (fun y H1 locs1 ls1 hy hI1 => ih y H1 locs1 ls1 (by omega) hI1)
  exact key (μ x0 + 1) x0 H locs ls (Nat.lt_succ_self _) h0
end
theorem bo_y {P Q : Prop} [Decidable P] [Decidable Q] (h1 : P) (h2 : Q) : (1 : Int32) = if P ∧ Q then 1 else 0 := (if_pos ⟨h1, h2⟩).symm
theorem bo_n1 {P Q : Prop} [Decidable P] [Decidable Q] (h1 : ¬ P) : (0 : Int32) = if P ∧ Q then 1 else 0 := (if_neg (fun h => h1 h.1)).symm
theorem bo_n2 {P Q : Prop} [Decidable P] [Decidable Q] (h2 : ¬ Q) : (0 : Int32) = if P ∧ Q then 1 else 0 := (if_neg (fun h => h2 h.2)).symm
theorem bo_p {P : Prop} [Decidable P] (h : P) : (1 : Int32) = if P then 1 else 0 := (if_pos h).symm
theorem bo_n {P : Prop} [Decidable P] (h : ¬ P) : (0 : Int32) = if P then 1 else 0 := (if_neg h).symm
theorem bo_bit {P : Prop} [Decidable P] {r : Int32} (h : r = if P then 1 else 0) : r = 0 ∨ r = 1 := by
  by_cases q : P
  · exact Or.inr (by rw [h, if_pos q])
  · exact Or.inl (by rw [h, if_neg q])
theorem bo_le {x y : Int32} (h : ¬ x ≤ y) : y < x := by
  rw [Int32.lt_iff_toInt_lt]; rw [Int32.le_iff_toInt_le] at h; omega
theorem bo_lt {x y : Int32} (h : ¬ x < y) : y ≤ x := by
  rw [Int32.le_iff_toInt_le]; rw [Int32.lt_iff_toInt_lt] at h; omega
theorem bo_nle {x y : Int32} (h : x < y) : ¬ y ≤ x := by
  rw [Int32.lt_iff_toInt_lt] at h; rw [Int32.le_iff_toInt_le]; omega
theorem bo_nlt {x y : Int32} (h : x ≤ y) : ¬ y < x := by
  rw [Int32.le_iff_toInt_le] at h; rw [Int32.lt_iff_toInt_lt]; omega
end
section
/-! ===== what a state of the map is, and what each call does to it: numbers mm k i (k 0 to 19 as the reference's fields; 20, at 9 w + 3 car + direction: the doubts, -1 for none; 21: a version's number) ===== -/
def sp_vk (v : Int32) : Int32 := (v - v / 1000 * 1000) / 100
def sp_vd (v : Int32) : Int32 := (v - v / 100 * 100) / 10
def sp_ve (v : Int32) : Int32 := v - v / 10 * 10 - 1
def sp_W (mm : q_Mem) : Nat := (mm 1 0).toNatClampNeg
def sp_K (mm : q_Mem) : Nat := (mm 10 0).toNatClampNeg
def sp_L (mm : q_Mem) (w : Nat) : Nat := (mm 8 w).toNatClampNeg
def sp_A (mm : q_Mem) (j : Nat) : Nat := (mm 12 j).toNatClampNeg
/-- a version's number: its way, kind, direction, and the editor and 1 -/
def sp_V (n : Nat) (v : Int32) : Prop := ∃ w k d e : Nat, w < n ∧ k < 4 ∧ d < 3 ∧ e < 7 ∧ v = nI (1000 * w + 100 * k + 10 * d + e)
/-- what waits: nothing, or a kind, a direction, and the editor and 1 -/
def sp_Q (v : Int32) : Prop := v = -1 ∨ ∃ k d e : Nat, k < 4 ∧ d < 3 ∧ 0 < e ∧ e < 7 ∧ v = nI (100 * k + 10 * d + e)
/-- a sighting as the reference keeps it -/
def sp_S (c d q : Nat) : Int32 := nI (c + 4 * d + 16 * q)
/-- the reference's sightings of a way are those that the doubts tell -/
def sp_N (mm : q_Mem) (w : Nat) : Prop := ∃ (n : Nat) (f g h : Nat → Nat), n ≤ 9 ∧ mm 17 w = nI n ∧ (∀ i, i < n → f i < 3 ∧ g i < 3 ∧ h i < 100 ∧ mm 18 (9 * w + i) = sp_S (f i) (g i) (h i) ∧ mm 20 (9 * w + (3 * f i + g i)) = nI (h i)) ∧
  (∀ c d, c < 3 → d < 3 → mm 20 (9 * w + (3 * c + d)) = -1 ∨ ∃ i, i < n ∧ f i = c ∧ g i = d) ∧ ∀ i j, i < n → j < n → f i = f j → g i = g j → i = j
def iv_1 (mm : q_Mem) : Prop := mm 1 0 = nI (sp_W mm) ∧ sp_W mm ≤ 40
def iv_2 (mm : q_Mem) : Prop := mm 10 0 = nI (sp_K mm) ∧ sp_K mm ≤ 512
def iv_3 (mm : q_Mem) : Prop := ∀ w, w < sp_W mm → mm 8 w = nI (sp_L mm w) ∧ sp_L mm w < sp_K mm ∧ ∃ k d e : Nat, k < 4 ∧ d < 3 ∧ e < 7 ∧ mm 11 (sp_L mm w) = nI (1000 * w + 100 * k + 10 * d + e)
def iv_4 (mm : q_Mem) : Prop := ∀ j, j < sp_K mm → sp_V (sp_W mm) (mm 11 j)
def iv_5 (mm : q_Mem) : Prop := ∀ j, j < sp_K mm → (mm 12 j = -1 ∧ mm 21 j = nI 0) ∨ (mm 12 j = nI (sp_A mm j) ∧ sp_A mm j < j ∧ mm 11 (sp_A mm j) / 1000 = mm 11 j / 1000 ∧ ∃ n, n < j ∧ mm 21 (sp_A mm j) = nI n ∧ mm 21 j = nI (n + 1))
def iv_6 (mm : q_Mem) : Prop := ∀ w, w < sp_W mm → ∃ n, n < sp_K mm ∧ mm 21 (sp_L mm w) = nI n ∧ mm 7 w = nI (n + 1)
def iv_7 (mm : q_Mem) : Prop := ∀ w, w < sp_W mm → sp_Q (mm 9 w)
def iv_8 (mm : q_Mem) : Prop := ∀ w, w < sp_W mm → ∃ x y z u : Nat, x ≤ 16 ∧ y ≤ 16 ∧ z ≤ 16 ∧ u ≤ 16 ∧ mm 2 w = nI x ∧ mm 3 w = nI y ∧ mm 4 w = nI z ∧ mm 5 w = nI u
def iv_9 (mm : q_Mem) : Prop := ∀ c, c < 3 → ∃ x y : Nat, x ≤ 16 ∧ y ≤ 16 ∧ mm 15 c = nI x ∧ mm 16 c = nI y
def iv_10 (mm : q_Mem) : Prop := ∀ t, t < 341 → ∃ n, n ≤ sp_K mm + 1 ∧ mm 13 t = nI n
/-- every version of a way is its latest one, or ahead of another one of it -/
def iv_11 (mm : q_Mem) : Prop := ∀ j, j < sp_K mm → ∀ w, w < sp_W mm → mm 11 j / 1000 = nI w → j = sp_L mm w ∨ ∃ i, i < sp_K mm ∧ j < i ∧ mm 11 i / 1000 = nI w ∧ mm 12 i = nI j
def iv_12 (mm : q_Mem) : Prop := ∀ w, w < sp_W mm → ∀ c d, c < 3 → d < 3 → mm 20 (9 * w + (3 * c + d)) = -1 ∨ ∃ q, q < 100 ∧ mm 20 (9 * w + (3 * c + d)) = nI q
/-- ways that aren't there yet -/
def iv_13 (mm : q_Mem) : Prop := ∀ w, sp_W mm ≤ w → mm 7 w = 0 ∧ mm 6 w = 0 ∧ ∀ i, i < 9 → mm 20 (9 * w + i) = -1
def Inv (mm : q_Mem) : Prop := iv_1 mm ∧ iv_2 mm ∧ iv_3 mm ∧ iv_4 mm ∧ iv_5 mm ∧ iv_6 mm ∧ iv_7 mm ∧ iv_8 mm ∧ iv_9 mm ∧ iv_10 mm ∧ iv_11 mm ∧ iv_12 mm ∧ iv_13 mm
/-! the calls -/
abbrev sp_ed (x : Int32) : Prop := 0 ≤ x ∧ x < 6
abbrev sp_cr (x y : Int32) : Prop := (0 ≤ x ∧ x ≤ 16) ∧ (0 ≤ y ∧ y ≤ 16)
abbrev sp_wy (mm : q_Mem) (x : Int32) : Prop := 0 ≤ x ∧ x < mm 1 0
abbrev sp_car (x : Int32) : Prop := 0 ≤ x ∧ x < 3
/-- what waits, or a version without its way, as a number -/
def sp_co (k d f : Int32) : Int32 := 100 * k + 10 * d + f + 1
/-- a new version of a way -/
def sp_make (mm : q_Mem) (w : Nat) (k d f : Int32) : q_Mem :=
  up2 (up2 (up2 (up2 (up2 (up2 (up2 mm 11 (sp_K mm) (1000 * nI w + 100 * k + 10 * d + f + 1)) 12 (sp_K mm) (if mm 7 w = 0 then -1 else mm 8 w)) 8 w (mm 10 0)) 7 w (mm 7 w + 1)) 9 w (-1)) 10 0 (mm 10 0 + 1)) 21 (sp_K mm) (if mm 7 w = 0 then 0 else mm 21 (sp_L mm w) + 1)
/-- an editor's trust, more by x -/
def sp_lim (x : Int32) : Int32 := if x < 0 then 0 else if 100 < x then 100 else x
def sp_tru (mm : q_Mem) (f : Nat) (x : Int32) : q_Mem := up2 mm 0 f (sp_lim (mm 0 f + x))
/-! addWay: a length in its range; where the way ends -/
abbrev sp_len (n : Int32) : Prop := ¬ n = 0 ∧ (-16 ≤ n ∧ n ≤ 16)
def sp_tx (x n : Int32) : Int32 := if 0 < n then x + n else x
def sp_ty (y n : Int32) : Int32 := if n < 0 then y - n else y
abbrev sp_may (f x y n : Int32) : Prop := sp_ed f ∧ sp_cr x y ∧ (sp_len n → sp_cr (sp_tx x n) (sp_ty y n))
def sp_add0 (mm : q_Mem) (f x y tx ty k : Int32) : q_Mem :=
  up2 (sp_make (up2 (up2 (up2 (up2 mm 2 (sp_W mm) x) 3 (sp_W mm) y) 4 (sp_W mm) tx) 5 (sp_W mm) ty) (sp_W mm) k 0 f) 1 0 (mm 1 0 + 1)
def sp_add (mm : q_Mem) (f x y n k : Int32) : Int32 × q_Mem :=
  if sp_may f x y n then
    if sp_len n ∧ (0 ≤ k ∧ k ≤ 3) then
      if mm 1 0 = 40 then (0, up2 mm 19 0 3) else (mm 1 0, sp_add0 (up2 mm 19 0 0) f x y (sp_tx x n) (sp_ty y n) k)
    else (0, up2 mm 19 0 2)
  else (0, up2 mm 19 0 1)
def sp_edit0 (mm : q_Mem) (f w : Nat) (k d : Int32) : Int32 × q_Mem :=
  if (0 ≤ k ∧ k ≤ 3) ∧ (0 ≤ d ∧ d ≤ 2) then
    if k = sp_vk (mm 11 (sp_L mm w)) ∧ d = sp_vd (mm 11 (sp_L mm w)) then (0, up2 mm 19 0 3)
    else if mm 6 w ≤ mm 0 f then (1, sp_make mm w k d (nI f)) else (0, up2 mm 9 w (sp_co k d (nI f)))
  else (0, up2 mm 19 0 2)
def sp_edit (mm : q_Mem) (x y k d : Int32) : Int32 × q_Mem :=
  if sp_ed x ∧ sp_wy mm y then sp_edit0 (up2 mm 19 0 0) x.toNatClampNeg y.toNatClampNeg k d else (0, up2 mm 19 0 1)
/-- judge: the change that waits, by its number v -/
def sp_judge0 (mm : q_Mem) (f w : Nat) (ref : Prop) [Decidable ref] : Int32 × q_Mem :=
  if ¬ mm 9 w = -1 ∧ ¬ sp_ve (mm 9 w) = nI f ∧ mm 6 w ≤ mm 0 f then
    (let m1 := if ref then sp_tru (up2 mm 9 w (-1)) (sp_ve (mm 9 w)).toNatClampNeg (-5) else sp_tru (sp_make mm w (mm 9 w / 100) (sp_vd (mm 9 w)) (sp_ve (mm 9 w))) (sp_ve (mm 9 w)).toNatClampNeg 5
     (m1 0 (sp_ve (mm 9 w)).toNatClampNeg, m1))
  else (0, up2 mm 19 0 2)
def sp_judge (mm : q_Mem) (x y : Int32) (ref : Prop) [Decidable ref] : Int32 × q_Mem :=
  if sp_ed x ∧ sp_wy mm y then sp_judge0 (up2 mm 19 0 0) x.toNatClampNeg y.toNatClampNeg ref else (0, up2 mm 19 0 1)
/-- revert: u the latest version's number, b the one's ahead of it -/
def sp_rev0 (mm : q_Mem) (f w : Nat) : Int32 × q_Mem :=
  if ¬ mm 7 w < 2 ∧ ¬ sp_ve (mm 11 (sp_L mm w)) = -1 ∧ ¬ sp_ve (mm 11 (sp_L mm w)) = nI f ∧ mm 0 (sp_ve (mm 11 (sp_L mm w))).toNatClampNeg < mm 0 f then
    (let g := (sp_ve (mm 11 (sp_L mm w))).toNatClampNeg
     let b := mm 11 (sp_A mm (sp_L mm w))
     let m1 := sp_tru (sp_make mm w (sp_vk b) (sp_vd b) (nI f)) g (-10)
     (m1 0 g, m1))
  else (0, up2 mm 19 0 2)
def sp_rev (mm : q_Mem) (x y : Int32) : Int32 × q_Mem :=
  if sp_ed x ∧ sp_wy mm y then sp_rev0 (up2 mm 19 0 0) x.toNatClampNeg y.toNatClampNeg else (0, up2 mm 19 0 1)
def sp_guard (mm : q_Mem) (x y : Int32) : Int32 × q_Mem :=
  if sp_wy mm x then
    if 0 ≤ y ∧ y ≤ 100 then (mm 6 x.toNatClampNeg, up2 (up2 mm 19 0 0) 6 x.toNatClampNeg y) else (0, up2 mm 19 0 2)
  else (0, up2 mm 19 0 1)
def sp_trust (mm : q_Mem) (x : Int32) : Int32 × q_Mem := if sp_ed x then (mm 0 x.toNatClampNeg, up2 mm 19 0 0) else (0, up2 mm 19 0 1)
/-- a number of a way: k which -/
def sp_ofway (k : Nat) (mm : q_Mem) (x : Int32) : Int32 × q_Mem := if sp_wy mm x then (mm k x.toNatClampNeg, up2 mm 19 0 0) else (0, up2 mm 19 0 1)
/-- n versions back from j -/
def sp_back (mm : q_Mem) : Nat → Nat → Nat
  | 0, j => j
  | n + 1, j => sp_back mm n (sp_A mm j)
abbrev sp_isv (mm : q_Mem) (x y : Int32) : Prop := sp_wy mm x ∧ 0 ≤ y ∧ y < mm 7 x.toNatClampNeg
/-- which version -/
def sp_at (mm : q_Mem) (x y : Int32) : Nat := sp_back mm ((mm 7 x.toNatClampNeg).toNatClampNeg - 1 - y.toNatClampNeg) (sp_L mm x.toNatClampNeg)
def sp_ver (mm : q_Mem) (x y : Int32) : Int32 × q_Mem := if sp_isv mm x y then (mm 11 (sp_at mm x y) - mm 11 (sp_at mm x y) / 1000 * 1000, up2 mm 19 0 0) else (0, up2 mm 19 0 1)
def sp_sta (mm : q_Mem) (x y : Int32) : Int32 × q_Mem := if sp_isv mm x y then (nI (sp_at mm x y) + 1, up2 mm 19 0 0) else (0, up2 mm 19 0 1)
/-! what follows out of the invariant -/
theorem Inv.W {mm : q_Mem} (h : Inv mm) : mm 1 0 = nI (sp_W mm) := h.1.1
theorem Inv.W40 {mm : q_Mem} (h : Inv mm) : sp_W mm ≤ 40 := h.1.2
theorem Inv.K {mm : q_Mem} (h : Inv mm) : mm 10 0 = nI (sp_K mm) := h.2.1.1
theorem Inv.K512 {mm : q_Mem} (h : Inv mm) : sp_K mm ≤ 512 := h.2.1.2
theorem Inv.K4200 {mm : q_Mem} (h : Inv mm) : sp_K mm < 4200 := by have := h.K512; omega
theorem Inv.L {mm : q_Mem} (h : Inv mm) {w : Nat} (hw : w < sp_W mm) : mm 8 w = nI (sp_L mm w) := (h.2.2.1 w hw).1
theorem Inv.LK {mm : q_Mem} (h : Inv mm) {w : Nat} (hw : w < sp_W mm) : sp_L mm w < sp_K mm := (h.2.2.1 w hw).2.1
theorem Inv.L4200 {mm : q_Mem} (h : Inv mm) {w : Nat} (hw : w < sp_W mm) : sp_L mm w < 4200 := Nat.lt_trans (h.LK hw) h.K4200
theorem Inv.V {mm : q_Mem} (h : Inv mm) {j : Nat} (hj : j < sp_K mm) : sp_V (sp_W mm) (mm 11 j) := h.2.2.2.1 j hj
theorem Inv.A {mm : q_Mem} (h : Inv mm) {j : Nat} (hj : j < sp_K mm) : (mm 12 j = -1 ∧ mm 21 j = nI 0) ∨ (mm 12 j = nI (sp_A mm j) ∧ sp_A mm j < j ∧ mm 11 (sp_A mm j) / 1000 = mm 11 j / 1000 ∧ ∃ n, n < j ∧ mm 21 (sp_A mm j) = nI n ∧ mm 21 j = nI (n + 1)) := h.2.2.2.2.1 j hj
theorem Inv.N {mm : q_Mem} (h : Inv mm) {w : Nat} (hw : w < sp_W mm) : ∃ n, n < sp_K mm ∧ mm 21 (sp_L mm w) = nI n ∧ mm 7 w = nI (n + 1) := h.2.2.2.2.2.1 w hw
theorem Inv.Q {mm : q_Mem} (h : Inv mm) {w : Nat} (hw : w < sp_W mm) : sp_Q (mm 9 w) := h.2.2.2.2.2.2.1 w hw
theorem nt_lt {x : Int32} {n : Nat} (hn : n < 2 ^ 31) (h : 0 ≤ x ∧ x < nI n) : ∃ j : Nat, j < n ∧ x = nI j := by
  obtain ⟨j, hj, rfl⟩ := nI_of (x := x) (by intro q; exact (bo_nlt h.1) q)
  exact ⟨j, (nI_ltI hj hn).mp h.2, rfl⟩
theorem nt_le {x : Int32} {n : Nat} (hn : n < 2 ^ 31) (h : 0 ≤ x ∧ x ≤ nI n) : ∃ j : Nat, j ≤ n ∧ x = nI j := by
  obtain ⟨j, hj, rfl⟩ := nI_of (x := x) (by intro q; exact (bo_nlt h.1) q)
  exact ⟨j, (nI_leI hj hn).mp h.2, rfl⟩
theorem nt_ed {x : Int32} (h : sp_ed x) : ∃ j : Nat, j < 6 ∧ x = nI j := nt_lt (n := 6) (by decide) h
theorem nt_car {x : Int32} (h : sp_car x) : ∃ j : Nat, j < 3 ∧ x = nI j := nt_lt (n := 3) (by decide) h
theorem nt_wy {mm : q_Mem} (hI : Inv mm) {x : Int32} (h : sp_wy mm x) : ∃ j : Nat, j < sp_W mm ∧ x = nI j := by
  have h2 : 0 ≤ x ∧ x < nI (sp_W mm) := by rw [← hI.W]; exact h
  exact nt_lt (by have := hI.W40; omega) h2
theorem nt_c {n : Nat} (h : n ≤ 100000) : (nI n).toNatClampNeg = n := nI_clamp (by omega)
end
section
/-! ===== numbers ===== -/
theorem i_pm (x : Int32) : x + 1 - 1 = x := by
  rw [Int32.sub_eq_add_neg, Int32.add_assoc]
  have : (1 : Int32) + -1 = 0 := by decide
  rw [this, Int32.add_zero]
theorem i_div {a d : Nat} (ha : a < 2 ^ 31) (h0 : 0 < d) (hd : d < 2 ^ 31) : nI a / nI d = nI (a / d) := pk_div ha h0 hd
theorem vk_nI {n : Nat} (h : n < 2 ^ 31) : sp_vk (nI n) = nI (n % 1000 / 100) := by
  show (nI n - nI n / nI 1000 * nI 1000) / nI 100 = _
  rw [pk_rem h (by decide) (by decide), pk_div (by omega) (by decide) (by decide)]
theorem vd_nI {n : Nat} (h : n < 2 ^ 31) : sp_vd (nI n) = nI (n % 100 / 10) := by
  show (nI n - nI n / nI 100 * nI 100) / nI 10 = _
  rw [pk_rem h (by decide) (by decide), pk_div (by omega) (by decide) (by decide)]
theorem ve_nI {n : Nat} (h : n < 2 ^ 31) : sp_ve (nI n) = nI (n % 10) - 1 := by
  show (nI n - nI n / nI 10 * nI 10) - 1 = _
  rw [pk_rem h (by decide) (by decide)]
theorem vw_nI {n : Nat} (h : n < 2 ^ 31) : nI n / 1000 = nI (n / 1000) := pk_div (d := 1000) h (by decide) (by decide)
theorem nI_m1 {n : Nat} (h : 0 < n) : nI n - 1 = nI (n - 1) := by
  obtain ⟨k, rfl⟩ : ∃ k, n = k + 1 := ⟨n - 1, by omega⟩
  exact nI_pred k
theorem nI_nm1 {n : Nat} (h : n < 2 ^ 31) : ¬ nI n = -1 := by
  intro q
  have := congrArg Int32.toInt q
  rw [nI_toInt h] at this
  have h2 : (-1 : Int32).toInt = -1 := by decide
  omega
theorem nI_inj {a b : Nat} (ha : a < 2 ^ 31) (hb : b < 2 ^ 31) (h : nI a = nI b) : a = b := (nI_eq ha hb).mp h
theorem nt_w40 {mm : q_Mem} (hI : Inv mm) (h : ¬ mm 1 0 = 40) : sp_W mm < 40 := by
  rcases Nat.lt_or_ge (sp_W mm) 40 with q | q
  · exact q
  · have : sp_W mm = 40 := Nat.le_antisymm hI.W40 q
    exact absurd (by rw [hI.W, this]; rfl) h
theorem nt_q {v : Int32} (h : sp_Q v) (h1 : ¬ v = -1) : ∃ g : Nat, g < 6 ∧ sp_ve v = nI g := by
  rcases h with h | ⟨k, d, e, hk, hd, he0, he, rfl⟩
  · exact absurd h h1
  · refine ⟨e - 1, by omega, ?_⟩
    rw [ve_nI (by omega), show (100 * k + 10 * d + e) % 10 = e by omega]
    exact nI_m1 he0
theorem nt_v {n : Nat} {v : Int32} (h : sp_V n v) (hn : n ≤ 40) (h1 : ¬ sp_ve v = -1) : ∃ g : Nat, g < 6 ∧ sp_ve v = nI g := by
  obtain ⟨w, k, d, e, hw, hk, hd, he, rfl⟩ := h
  have e1 : sp_ve (nI (1000 * w + 100 * k + 10 * d + e)) = nI e - 1 := by
    rw [ve_nI (by omega), show (1000 * w + 100 * k + 10 * d + e) % 10 = e by omega]
  rcases Nat.eq_zero_or_pos e with q | q
  · subst q
    exact absurd (by rw [e1]; decide) h1
  · exact ⟨e - 1, by omega, by rw [e1]; exact nI_m1 q⟩
theorem sp_judge_no {mm : q_Mem} {f w : Nat} {ref : Prop} [Decidable ref] (hC : ¬ (¬ mm 9 w = -1 ∧ ¬ sp_ve (mm 9 w) = nI f ∧ mm 6 w ≤ mm 0 f)) : sp_judge0 (up2 mm 19 0 0) f w ref = (0, up2 (up2 mm 19 0 0) 19 0 2) := if_neg hC
theorem sp_judge_ref {mm : q_Mem} {f w g : Nat} {ref : Prop} [Decidable ref] (hC : ¬ mm 9 w = -1 ∧ ¬ sp_ve (mm 9 w) = nI f ∧ mm 6 w ≤ mm 0 f) (hr : ref) (hg : (sp_ve (mm 9 w)).toNatClampNeg = g) : sp_judge0 (up2 mm 19 0 0) f w ref = (sp_tru (up2 (up2 mm 19 0 0) 9 w (-1)) g (-5) 0 g, sp_tru (up2 (up2 mm 19 0 0) 9 w (-1)) g (-5)) := by
  subst hg
  refine (if_pos hC).trans ?_
  simp only [if_pos hr]
  rfl
theorem sp_judge_con {mm : q_Mem} {f w g : Nat} {ref : Prop} [Decidable ref] (hC : ¬ mm 9 w = -1 ∧ ¬ sp_ve (mm 9 w) = nI f ∧ mm 6 w ≤ mm 0 f) (hr : ¬ ref) (hg : (sp_ve (mm 9 w)).toNatClampNeg = g) : sp_judge0 (up2 mm 19 0 0) f w ref = (sp_tru (sp_make (up2 mm 19 0 0) w (mm 9 w / 100) (sp_vd (mm 9 w)) (sp_ve (mm 9 w))) g 5 0 g, sp_tru (sp_make (up2 mm 19 0 0) w (mm 9 w / 100) (sp_vd (mm 9 w)) (sp_ve (mm 9 w))) g 5) := by
  subst hg
  refine (if_pos hC).trans ?_
  simp only [if_neg hr]
  rfl
theorem sp_rev_no {mm : q_Mem} {f w : Nat} (hC : ¬ (¬ mm 7 w < 2 ∧ ¬ sp_ve (mm 11 (sp_L mm w)) = -1 ∧ ¬ sp_ve (mm 11 (sp_L mm w)) = nI f ∧ mm 0 (sp_ve (mm 11 (sp_L mm w))).toNatClampNeg < mm 0 f)) : sp_rev0 (up2 mm 19 0 0) f w = (0, up2 (up2 mm 19 0 0) 19 0 2) := if_neg hC
theorem sp_rev_yes {mm : q_Mem} {f w g : Nat} (hC : ¬ mm 7 w < 2 ∧ ¬ sp_ve (mm 11 (sp_L mm w)) = -1 ∧ ¬ sp_ve (mm 11 (sp_L mm w)) = nI f ∧ mm 0 (sp_ve (mm 11 (sp_L mm w))).toNatClampNeg < mm 0 f) (hg : (sp_ve (mm 11 (sp_L mm w))).toNatClampNeg = g) : sp_rev0 (up2 mm 19 0 0) f w =
    (sp_tru (sp_make (up2 mm 19 0 0) w (sp_vk (mm 11 (sp_A mm (sp_L mm w)))) (sp_vd (mm 11 (sp_A mm (sp_L mm w)))) (nI f)) g (-10) 0 g, sp_tru (sp_make (up2 mm 19 0 0) w (sp_vk (mm 11 (sp_A mm (sp_L mm w)))) (sp_vd (mm 11 (sp_A mm (sp_L mm w)))) (nI f)) g (-10)) := by
  subst hg
  exact if_pos hC
/-- the one ahead of a latest version, where there is one -/
theorem Inv.AL {mm : q_Mem} (h : Inv mm) {w : Nat} (hw : w < sp_W mm) (h2 : ¬ mm 7 w < 2) : mm 12 (sp_L mm w) = nI (sp_A mm (sp_L mm w)) ∧ sp_A mm (sp_L mm w) < 4200 := by
  obtain ⟨n, hn, e1, e2⟩ := h.N hw
  have hK := h.K512
  have hLK := h.LK hw
  rcases h.A hLK with ⟨-, a2⟩ | ⟨a1, a2, -⟩
  · exfalso
    rw [e1] at a2
    have : n = 0 := nI_inj (by omega) (by decide) a2
    subst this
    exact h2 (by rw [e2]; decide)
  · exact ⟨a1, by omega⟩
/-! ===== versions back ===== -/
theorem sp_back_succ (mm : q_Mem) : ∀ (n j : Nat), sp_back mm (n + 1) j = sp_A mm (sp_back mm n j)
  | 0, _ => rfl
  | n + 1, j => by
    show sp_back mm (n + 1) (sp_A mm j) = _
    rw [sp_back_succ mm n]
    rfl
/-- from a version of number n one may go back n times -/
theorem Inv.back {mm : q_Mem} (h : Inv mm) {j n : Nat} (hj : j < sp_K mm) (hn : mm 21 j = nI n) (hn2 : n < 2 ^ 31) : ∀ t, t ≤ n → sp_back mm t j < sp_K mm ∧ mm 21 (sp_back mm t j) = nI (n - t) ∧ (t < n → mm 12 (sp_back mm t j) = nI (sp_back mm (t + 1) j)) := by
  intro t
  induction t with
  | zero =>
    intro _
    refine ⟨hj, hn, fun h0 => ?_⟩
    rcases h.A hj with ⟨-, a2⟩ | ⟨a1, -⟩
    · rw [hn] at a2
      have := nI_inj hn2 (by decide) a2
      omega
    · exact a1
  | succ t ih =>
    intro ht
    obtain ⟨i1, i2, -⟩ := ih (by omega)
    have e := sp_back_succ mm t j
    rcases h.A i1 with ⟨-, a2⟩ | ⟨a1, a2, -, k, hk, a3, a4⟩
    · rw [i2] at a2
      have := nI_inj (by omega) (by decide) a2
      omega
    · have hk1 : n - t = k + 1 := nI_inj (by omega) (by have := h.K512; omega) (i2.symm.trans a4)
      have hlt : sp_back mm (t + 1) j < sp_K mm := by rw [e]; omega
      have hnum : mm 21 (sp_back mm (t + 1) j) = nI (n - (t + 1)) := by rw [e, a3]; congr 1; omega
      refine ⟨hlt, hnum, fun h0 => ?_⟩
      rcases h.A hlt with ⟨-, b2⟩ | ⟨b1, -⟩
      · rw [hnum] at b2
        have := nI_inj (by omega) (by decide) b2
        omega
      · rw [b1, sp_back_succ mm (t + 1) j]
end
section
/-! ===== tiles ===== -/
/-- 0 to n - 1, one behind the other -/
def it_n {α : Type} (f : Nat → α → α) : Nat → α → α
  | 0, x => x
  | n + 1, x => f n (it_n f n x)
/-- .. from b on -/
def it_b {α : Type} (f : Nat → α → α) (b : Nat) : Nat → α → α
  | 0, x => x
  | n + 1, x => f (b + n) (it_b f b n x)
def an_y (p : Nat → Bool) : Nat → Bool
  | 0 => false
  | n + 1 => an_y p n || p n
theorem an_y_iff {p : Nat → Bool} : ∀ {n : Nat}, an_y p n = true ↔ ∃ k, k < n ∧ p k = true
  | 0 => ⟨fun h => absurd h Bool.false_ne_true, fun ⟨k, h, _⟩ => absurd h (Nat.not_lt_zero k)⟩
  | n + 1 => by
    unfold an_y
    rw [Bool.or_eq_true, an_y_iff]
    constructor
    · rintro (⟨k, h1, h2⟩ | h)
      · exact ⟨k, by omega, h2⟩
      · exact ⟨n, by omega, h⟩
    · rintro ⟨k, h1, h2⟩
      by_cases q : k = n
      · subst q; exact Or.inr h2
      · exact Or.inl ⟨k, by omega, h2⟩
def sp_sd (z : Int32) : Int32 := 16 >>> (z &&& 31)
abbrev sp_isin (mm : q_Mem) (w : Nat) (z x y : Int32) : Prop := mm 2 w ≤ sp_sd z * (x + 1) ∧ sp_sd z * x ≤ mm 4 w ∧ mm 3 w ≤ sp_sd z * (y + 1) ∧ sp_sd z * y ≤ mm 5 w
abbrev sp_sh (v z : Int32) : Prop := 3 - z ≤ sp_vk v
def sp_mn (z : Int32) : Int32 := 1 <<< (z &&& 31)
abbrev sp_zm (z : Int32) : Prop := 0 ≤ z ∧ z < 5
abbrev sp_tl (z x y : Int32) : Prop := sp_zm z ∧ (0 ≤ x ∧ x ≤ sp_mn z - 1) ∧ (0 ≤ y ∧ y ≤ sp_mn z - 1)
/-- where the tiles of a zoom begin, and a tile's place -/
def tb_z (z : Nat) : Nat := (2 ^ z * 2 ^ z - 1) / 3
def tb_i (z x y : Nat) : Nat := tb_z z + 2 ^ z * y + x
/-- a place's zoom, and its x and y -/
def tz_t (t : Nat) : Nat := if t < 1 then 0 else if t < 5 then 1 else if t < 21 then 2 else if t < 85 then 3 else 4
def tx_t (t : Nat) : Nat := (t - tb_z (tz_t t)) % 2 ^ tz_t t
def ty_t (t : Nat) : Nat := (t - tb_z (tz_t t)) / 2 ^ tz_t t
theorem sp_mn_nI : ∀ z, z < 5 → sp_mn (nI z) = nI (2 ^ z) := by decide +kernel
theorem sp_sd_nI : ∀ z, z < 5 → sp_sd (nI z) = nI (16 / 2 ^ z) := by decide +kernel
theorem pw_le : ∀ z, z < 5 → 2 ^ z ≤ 16 := by decide +kernel
theorem tb_all : ∀ z, z < 5 → ∀ x, x < 2 ^ z → ∀ y, y < 2 ^ z → tb_i z x y < 341 ∧ tz_t (tb_i z x y) = z ∧ tx_t (tb_i z x y) = x ∧ ty_t (tb_i z x y) = y := by decide +kernel
theorem tt_all : ∀ t, t < 341 → tz_t t < 5 ∧ tx_t t < 2 ^ tz_t t ∧ ty_t t < 2 ^ tz_t t ∧ tb_i (tz_t t) (tx_t t) (ty_t t) = t := by decide +kernel
theorem nt_zm {z : Int32} (h : sp_zm z) : ∃ j : Nat, j < 5 ∧ z = nI j := nt_lt (n := 5) (by decide) h
theorem nt_pm {j : Nat} (hj : j < 5) {x : Int32} (h : 0 ≤ x ∧ x ≤ sp_mn (nI j) - 1) : ∃ i : Nat, i < 2 ^ j ∧ x = nI i := by
  have h1 := pw_le j hj
  have h0 : 0 < 2 ^ j := Nat.pow_pos (by decide)
  rw [sp_mn_nI j hj, nI_m1 h0] at h
  obtain ⟨i, hi, e⟩ := nt_le (n := 2 ^ j - 1) (by omega) h
  exact ⟨i, by omega, e⟩
theorem nt_tl {z x y : Int32} (h : sp_tl z x y) : ∃ zi xi yi : Nat, zi < 5 ∧ xi < 2 ^ zi ∧ yi < 2 ^ zi ∧ z = nI zi ∧ x = nI xi ∧ y = nI yi := by
  obtain ⟨zi, hz, rfl⟩ := nt_zm h.1
  obtain ⟨xi, hx, rfl⟩ := nt_pm hz h.2.1
  obtain ⟨yi, hy, rfl⟩ := nt_pm hz h.2.2
  exact ⟨zi, xi, yi, hz, hx, hy, rfl, rfl, rfl⟩
theorem tb_raw {z x y : Nat} (hz : z < 5) (hx : x < 2 ^ z) (hy : y < 2 ^ z) : (sp_mn (nI z) * sp_mn (nI z) - 1) / 3 + sp_mn (nI z) * nI y + nI x = nI (tb_i z x y) := by
  have h1 := pw_le z hz
  have h0 : 0 < 2 ^ z := Nat.pow_pos (by decide)
  have h2 : 2 ^ z * 2 ^ z ≤ 256 := Nat.mul_le_mul h1 h1
  have h3 : 0 < 2 ^ z * 2 ^ z := Nat.mul_pos h0 h0
  rw [sp_mn_nI z hz, pk_mul, nI_m1 h3]
  rw [show (3 : Int32) = nI 3 from rfl, pk_div (by omega) (by decide) (by decide), pk_mul, nI_add, nI_add]
  rfl
/-- the latest version of a way with a stamp up to u (its place below u): n steps at the most -/
def sp_seek (mm : q_Mem) (u : Nat) : Nat → Int32 → Int32
  | 0, v => v
  | n + 1, v => if v = -1 then v else if v.toNatClampNeg < u then v else sp_seek mm u n (mm 12 v.toNatClampNeg)
def sp_vis (mm : q_Mem) (w u : Nat) : Int32 := sp_seek mm u 600 (mm 8 w)
/-- is the way in the picture that is drawn by the versions below u -/
abbrev sp_pin (mm : q_Mem) (z x y : Int32) (u w : Nat) : Prop := ¬ sp_vis mm w u = -1 ∧ sp_sh (mm 11 (sp_vis mm w u).toNatClampNeg) z ∧ sp_isin mm w z x y
def sp_pic1 (mm : q_Mem) (z x y : Int32) (u w : Nat) (q : Int32) : Int32 :=
  if sp_pin mm z x y u w then 31 * q + 16 * nI w + 4 * sp_vk (mm 11 (sp_vis mm w u).toNatClampNeg) + sp_vd (mm 11 (sp_vis mm w u).toNatClampNeg) else q
def sp_pic (mm : q_Mem) (z x y : Int32) (u : Nat) : Int32 := it_n (sp_pic1 mm z x y u) (sp_W mm) 17
def sp_draws (mm : q_Mem) (t : Nat) (z x y : Int32) : q_Mem := up2 (up2 mm 14 t (sp_pic mm z x y (sp_K mm))) 13 t (mm 10 0 + 1)
def sp_cnt1 (mm : q_Mem) (z x y : Int32) (w : Nat) (q : Int32) : Int32 := q + (if sp_sh (mm 11 (sp_L mm w)) z ∧ sp_isin mm w z x y then 1 else 0)
def sp_draw0 (mm : q_Mem) (t : Nat) (z x y : Int32) : Int32 × q_Mem := (it_n (sp_cnt1 mm z x y) (sp_W mm) 0, sp_draws mm t z x y)
abbrev sp_t (z x y : Int32) : Nat := tb_i z.toNatClampNeg x.toNatClampNeg y.toNatClampNeg
def sp_draw (mm : q_Mem) (z x y : Int32) : Int32 × q_Mem := if sp_tl z x y then sp_draw0 (up2 mm 19 0 0) (sp_t z x y) z x y else (0, up2 mm 19 0 1)
def sp_ptr (mm : q_Mem) (z x y : Int32) : Int32 × q_Mem := if sp_tl z x y then (if mm 13 (sp_t z x y) = 0 then (0, up2 mm 19 0 2) else (mm 14 (sp_t z x y), up2 mm 19 0 0)) else (0, up2 mm 19 0 1)
def sp_anew (mm : q_Mem) (z x y : Int32) : Int32 × q_Mem := if sp_tl z x y then (if mm 13 (sp_t z x y) = 0 then (0, up2 mm 19 0 2) else (sp_pic mm z x y ((mm 13 (sp_t z x y)).toNatClampNeg - 1), up2 mm 19 0 0)) else (0, up2 mm 19 0 1)
def sp_tst (mm : q_Mem) (z x y : Int32) : Int32 × q_Mem := if sp_tl z x y then (mm 13 (sp_t z x y) - 1, up2 mm 19 0 0) else (0, up2 mm 19 0 1)
/-- is a tile stale -/
def sp_old1 (mm : q_Mem) (z x y : Int32) (k : Nat) : Bool := decide ((sp_sh (mm 11 k) z ∨ (¬ mm 12 k = -1 ∧ sp_sh (mm 11 (sp_A mm k)) z)) ∧ sp_isin mm (mm 11 k / 1000).toNatClampNeg z x y)
def sp_old (mm : q_Mem) (t : Nat) (z x y : Int32) : Bool := decide (0 < (mm 13 t).toNatClampNeg) && an_y (fun k => decide ((mm 13 t).toNatClampNeg - 1 ≤ k) && sp_old1 mm z x y k) (sp_K mm)
def sp_isst (mm : q_Mem) (z x y : Int32) : Int32 × q_Mem := if sp_tl z x y then (if sp_old mm (sp_t z x y) z x y = true then 1 else 0, up2 mm 19 0 0) else (0, up2 mm 19 0 1)
/-- the tile at the place t -/
def sp_oldp (mm : q_Mem) (z x y : Int32) (n k : Nat) : Bool := decide (n - 1 ≤ k) && sp_old1 mm z x y k
abbrev sp_oldt (mm : q_Mem) (t : Nat) : Bool := sp_old mm t (nI (tz_t t)) (nI (tx_t t)) (nI (ty_t t))
/-- a tile's turn when a zoom's tiles are gone through: it is counted and, if told, drawn, if it is stale -/
def sp_ste (dr : Bool) (t : Nat) (q : Int32 × q_Mem) : Int32 × q_Mem := if sp_oldt q.2 t = true then (q.1 + 1, if dr = true then sp_draws q.2 t (nI (tz_t t)) (nI (tx_t t)) (nI (ty_t t)) else q.2) else (q.1 + 0, q.2)
abbrev sp_z4 (z : Int32) : Prop := 0 ≤ z ∧ z ≤ 4
def sp_stl (mm : q_Mem) (z : Int32) : Int32 × q_Mem := if sp_z4 z then ((it_b (sp_ste false) (tb_z z.toNatClampNeg) (2 ^ z.toNatClampNeg * 2 ^ z.toNatClampNeg) (0, up2 mm 19 0 0)).1, up2 mm 19 0 0) else (0, up2 mm 19 0 1)
def sp_refr (mm : q_Mem) : Int32 × q_Mem := it_n (sp_ste true) 341 (0, up2 mm 19 0 0)
/-! cars -/
def sp_far (mm : q_Mem) (c : Nat) (x y : Int32) : Int32 := (if x < mm 15 c then mm 15 c - x else x - mm 15 c) + (if y < mm 16 c then mm 16 c - y else y - mm 16 c)
def sp_goes (mm : q_Mem) (c : Nat) (x y : Int32) : q_Mem := up2 (up2 mm 15 c x) 16 c y
def sp_drive (mm : q_Mem) (c x y : Int32) : Int32 × q_Mem := if sp_car c ∧ sp_cr x y then (sp_far mm c.toNatClampNeg x y, sp_goes (up2 mm 19 0 0) c.toNatClampNeg x y) else (0, up2 mm 19 0 1)
def sp_cat (mm : q_Mem) (c : Int32) : Int32 × q_Mem := if sp_car c then (100 * mm 15 c.toNatClampNeg + mm 16 c.toNatClampNeg, up2 mm 19 0 0) else (0, up2 mm 19 0 1)
theorem nI_dec {k : Nat} (h : 0 < k) : nI k + Int32.ofInt (-1) = nI (k - 1) := by
  obtain ⟨j, rfl⟩ : ∃ j, k = j + 1 := ⟨k - 1, by omega⟩
  exact pk_m1 j
theorem nI_nle2 {a b : Nat} (h : a < b) (hb : b < 2 ^ 31) : ¬ nI b ≤ nI a := nI_ge h hb
end
section
theorem W_end {mm : q_Mem} (hI : Inv mm) {i : Nat} (h : i ≤ sp_W mm) (c : mm 1 0 ≤ nI i) : i = sp_W mm := by
  have h40 := hI.W40
  rw [hI.W] at c
  have := (nI_leI (by omega) (by omega)).mp c
  omega
theorem W_in {mm : q_Mem} (hI : Inv mm) {i : Nat} (h : i ≤ sp_W mm) (c : ¬ mm 1 0 ≤ nI i) : i < sp_W mm := by
  have h40 := hI.W40
  rw [hI.W] at c
  have : ¬ sp_W mm ≤ i := fun q => c ((nI_leI (by omega) (by omega)).mpr q)
  omega
theorem seek_nil {mm : q_Mem} {u : Nat} : ∀ {n : Nat} {v : Int32}, v = -1 → sp_seek mm u n v = v
  | 0, _, _ => rfl
  | n + 1, v, h => by unfold sp_seek; rw [if_pos h]
theorem seek_lt {mm : q_Mem} {u j : Nat} (hj : j < 2 ^ 31) (h : j < u) : ∀ {n : Nat}, sp_seek mm u n (nI j) = nI j
  | 0 => rfl
  | n + 1 => by unfold sp_seek; rw [if_neg (nI_nm1 hj), nI_clamp hj, if_pos h]
theorem seek_step {mm : q_Mem} {u j n : Nat} (hj : j < 2 ^ 31) (h : ¬ j < u) : sp_seek mm u (n + 1) (nI j) = sp_seek mm u n (mm 12 j) := by
  show (if nI j = -1 then nI j else if (nI j).toNatClampNeg < u then nI j else sp_seek mm u n (mm 12 (nI j).toNatClampNeg)) = _
  rw [if_neg (nI_nm1 hj), nI_clamp hj, if_neg h]
theorem pic_no {mm : q_Mem} {z x y : Int32} {u i : Nat} {q : Int32} (h : ¬ sp_pin mm z x y u i) : it_n (sp_pic1 mm z x y u) i q = it_n (sp_pic1 mm z x y u) (i + 1) q := (if_neg h).symm
theorem pic_yes {mm : q_Mem} {z x y : Int32} {u i j : Nat} {q : Int32} (hj : j < 2 ^ 31) (hv : nI j = sp_vis mm i u) (h1 : sp_sh (mm 11 j) z) (h2 : sp_isin mm i z x y) : 31 * it_n (sp_pic1 mm z x y u) i q + 16 * nI i + 4 * sp_vk (mm 11 j) + sp_vd (mm 11 j) = it_n (sp_pic1 mm z x y u) (i + 1) q := by
  have hc : (sp_vis mm i u).toNatClampNeg = j := by rw [← hv]; exact nI_clamp hj
  have h : sp_pin mm z x y u i := ⟨by rw [← hv]; exact nI_nm1 hj, by rw [hc]; exact h1, h2⟩
  show _ = sp_pic1 mm z x y u i (it_n (sp_pic1 mm z x y u) i q)
  unfold sp_pic1
  rw [if_pos h, hc]
/-- the numbers' facts hold on when tiles are drawn, or what was thrown is noted -/
theorem Inv.T {mm : q_Mem} (h : Inv mm) (x : Int32) : Inv (up2 mm 19 0 x) := h
theorem Inv.dr {mm : q_Mem} (h : Inv mm) {t : Nat} (z x y : Int32) : Inv (sp_draws mm t z x y) := by
  obtain ⟨h1, h2, h3, h4, h5, h6, h7, h8, h9, h10, h11, h12, h13⟩ := h
  refine ⟨h1, h2, h3, h4, h5, h6, h7, h8, h9, ?_, h11, h12, h13⟩
  intro t2 ht2
  by_cases e : t2 = t
  · subst e
    refine ⟨sp_K mm + 1, Nat.le_refl _, ?_⟩
    show (up2 _ 13 t2 (mm 10 0 + 1)) 13 t2 = _
    rw [up2_s, h2.1, nI_1]
  · obtain ⟨n, hn, e2⟩ := h10 t2 ht2
    refine ⟨n, hn, ?_⟩
    show (up2 (up2 mm 14 t (sp_pic mm z x y (sp_K mm))) 13 t (mm 10 0 + 1)) 13 t2 = _
    rw [up2_i e, up2_c (by decide)]
    exact e2
theorem Inv.S {mm : q_Mem} (h : Inv mm) {t : Nat} (ht : t < 341) : ∃ n, n ≤ sp_K mm + 1 ∧ mm 13 t = nI n := h.2.2.2.2.2.2.2.2.2.1 t ht
theorem old_eq {mm : q_Mem} {t n : Nat} {z x y : Int32} (hn : mm 13 t = nI n) (hn2 : n < 2 ^ 31) : sp_old mm t z x y = (decide (0 < n) && an_y (sp_oldp mm z x y n) (sp_K mm)) := by
  unfold sp_old
  rw [hn, nI_clamp hn2]
  rfl
theorem an_y_mono {p : Nat → Bool} {a b : Nat} (h : a ≤ b) (ha : an_y p a = true) : an_y p b = true := by
  obtain ⟨k, h1, h2⟩ := an_y_iff.mp ha
  exact an_y_iff.mpr ⟨k, by omega, h2⟩
/-- a version's way -/
theorem Inv.VW {mm : q_Mem} (h : Inv mm) {j : Nat} (hj : j < sp_K mm) : ∃ w, w < sp_W mm ∧ mm 11 j / 1000 = nI w := by
  obtain ⟨w, k, d, e, hw, hk, hd, he, e1⟩ := h.V hj
  have h40 := h.W40
  refine ⟨w, hw, ?_⟩
  rw [e1, vw_nI (by omega)]
  congr 1
  omega
theorem tt_of : ∀ z, z < 5 → ∀ k, k < 2 ^ z * 2 ^ z → tb_z z + k < 341 ∧ tz_t (tb_z z + k) = z ∧ tx_t (tb_z z + k) = k % 2 ^ z ∧ ty_t (tb_z z + k) = k / 2 ^ z := by decide +kernel
theorem it_n_add {α : Type} (f : Nat → α → α) (a : Nat) (x : α) : ∀ b, it_n f (a + b) x = it_b f a b (it_n f a x)
  | 0 => rfl
  | b + 1 => by
    show f (a + b) (it_n f (a + b) x) = f (a + b) (it_b f a b (it_n f a x))
    rw [it_n_add f a x b]
theorem tb_next : ∀ z, z < 5 → tb_z (z + 1) = tb_z z + 2 ^ z * 2 ^ z := by decide +kernel
theorem ste_keep1 (t : Nat) (q : Int32 × q_Mem) : (sp_ste false t q).2 = q.2 := by
  unfold sp_ste
  split <;> rfl
theorem ste_keep (b : Nat) (mm : q_Mem) : ∀ n, (it_b (sp_ste false) b n (0, mm)).2 = mm
  | 0 => rfl
  | n + 1 => (ste_keep1 (b + n) _).trans (ste_keep b mm n)
theorem sp_t_lt {z x y : Int32} (h : sp_tl z x y) : sp_t z x y < 341 := by
  obtain ⟨zi, xi, yi, hz, hx, hy, rfl, rfl, rfl⟩ := nt_tl h
  have h1 := pw_le zi hz
  show tb_i (nI zi).toNatClampNeg (nI xi).toNatClampNeg (nI yi).toNatClampNeg < 341
  rw [nt_c (by omega), nt_c (by omega), nt_c (by omega)]
  exact (tb_all zi hz xi hx yi hy).1
end
section
theorem an_y_none {mm : q_Mem} {z x y : Int32} {n : Nat} : ¬ an_y (sp_oldp mm z x y n) (n - 1) = true := by
  intro h
  obtain ⟨k, h1, h2⟩ := an_y_iff.mp h
  unfold sp_oldp at h2
  rw [Bool.and_eq_true, decide_eq_true_eq] at h2
  omega
theorem nI_nlem1 {n : Nat} (h : n < 2 ^ 31) : ¬ nI n ≤ -1 := by
  rw [Int32.le_iff_toInt_le, nI_toInt h]
  have : (-1 : Int32).toInt = -1 := by decide
  omega
theorem old_s1 {mm : q_Mem} {z x y : Int32} {n k w : Nat} (hz : 0 < n) (h : ¬ an_y (sp_oldp mm z x y n) k = true) (hk : n - 1 ≤ k) (hv : mm 11 k / 1000 = nI w) (hw : w < 2 ^ 31) (hc : (sp_sh (mm 11 k) z ∨ (¬ mm 12 k = -1 ∧ sp_sh (mm 11 (sp_A mm k)) z)) ∧ sp_isin mm w z x y) : (1 : Int32) = if an_y (sp_oldp mm z x y n) (k + 1) = true then 1 else 0 := by
  refine bo_p ?_
  show (an_y (sp_oldp mm z x y n) k || sp_oldp mm z x y n k) = true
  rw [Bool.or_eq_true]
  refine Or.inr ?_
  unfold sp_oldp sp_old1
  rw [hv, nI_clamp hw, Bool.and_eq_true, decide_eq_true_eq, decide_eq_true_eq]
  exact ⟨hk, hc⟩
theorem old_s0 {mm : q_Mem} {z x y : Int32} {n k w : Nat} (h : ¬ an_y (sp_oldp mm z x y n) k = true) (hv : mm 11 k / 1000 = nI w) (hw : w < 2 ^ 31) (hc : ¬ ((sp_sh (mm 11 k) z ∨ (¬ mm 12 k = -1 ∧ sp_sh (mm 11 (sp_A mm k)) z)) ∧ sp_isin mm w z x y)) : (0 : Int32) = if an_y (sp_oldp mm z x y n) (k + 1) = true then 1 else 0 := by
  refine bo_n ?_
  show ¬ (an_y (sp_oldp mm z x y n) k || sp_oldp mm z x y n k) = true
  rw [Bool.or_eq_true]
  rintro (q | q)
  · exact h q
  · unfold sp_oldp sp_old1 at q
    rw [hv, nI_clamp hw, Bool.and_eq_true, decide_eq_true_eq, decide_eq_true_eq] at q
    exact hc q.2
theorem Inv.T0 {mm : q_Mem} (h : Inv mm) : Inv (up2 mm 19 0 0) := h
theorem nt_z4 {z : Int32} (h : sp_z4 z) : ∃ j : Nat, j < 5 ∧ z = nI j := by
  obtain ⟨j, hj, e⟩ := nt_le (n := 4) (by decide) h
  exact ⟨j, by omega, e⟩
section
variable {dr : Bool} {zi k : Nat} {q1 q2 : Int32} {mm m2 : q_Mem}
theorem ste_yes (hq : (q1, m2) = it_b (sp_ste dr) (tb_z zi) k (0, mm)) (t2 : tz_t (tb_z zi + k) = zi) (t3 : tx_t (tb_z zi + k) = k % 2 ^ zi) (t4 : ty_t (tb_z zi + k) = k / 2 ^ zi) (c4 : sp_old m2 (tb_z zi + k) (nI zi) (nI (k % 2 ^ zi)) (nI (k / 2 ^ zi)) = true) (e : q2 = q1 + if sp_old m2 (tb_z zi + k) (nI zi) (nI (k % 2 ^ zi)) (nI (k / 2 ^ zi)) = true then 1 else 0) (c5 : dr = true) :
    (q2, sp_draws m2 (tb_z zi + k) (nI zi) (nI (k % 2 ^ zi)) (nI (k / 2 ^ zi))) = it_b (sp_ste dr) (tb_z zi) (k + 1) (0, mm) := by
  show _ = sp_ste dr (tb_z zi + k) (it_b (sp_ste dr) (tb_z zi) k (0, mm))
  rw [← hq]
  have h : sp_oldt m2 (tb_z zi + k) = true := by show sp_old m2 _ (nI (tz_t _)) (nI (tx_t _)) (nI (ty_t _)) = true; rw [t2, t3, t4]; exact c4
  unfold sp_ste
  rw [if_pos h, if_pos c5, e, if_pos c4, t2, t3, t4]
theorem ste_yes0 (hq : (q1, m2) = it_b (sp_ste dr) (tb_z zi) k (0, mm)) (t2 : tz_t (tb_z zi + k) = zi) (t3 : tx_t (tb_z zi + k) = k % 2 ^ zi) (t4 : ty_t (tb_z zi + k) = k / 2 ^ zi) (c4 : sp_old m2 (tb_z zi + k) (nI zi) (nI (k % 2 ^ zi)) (nI (k / 2 ^ zi)) = true) (e : q2 = q1 + if sp_old m2 (tb_z zi + k) (nI zi) (nI (k % 2 ^ zi)) (nI (k / 2 ^ zi)) = true then 1 else 0) (c5 : ¬ dr = true) :
    (q2, m2) = it_b (sp_ste dr) (tb_z zi) (k + 1) (0, mm) := by
  show _ = sp_ste dr (tb_z zi + k) (it_b (sp_ste dr) (tb_z zi) k (0, mm))
  rw [← hq]
  have h : sp_oldt m2 (tb_z zi + k) = true := by show sp_old m2 _ (nI (tz_t _)) (nI (tx_t _)) (nI (ty_t _)) = true; rw [t2, t3, t4]; exact c4
  unfold sp_ste
  rw [if_pos h, if_neg c5, e, if_pos c4]
theorem ste_no (hq : (q1, m2) = it_b (sp_ste dr) (tb_z zi) k (0, mm)) (t2 : tz_t (tb_z zi + k) = zi) (t3 : tx_t (tb_z zi + k) = k % 2 ^ zi) (t4 : ty_t (tb_z zi + k) = k / 2 ^ zi) (c4 : ¬ sp_old m2 (tb_z zi + k) (nI zi) (nI (k % 2 ^ zi)) (nI (k / 2 ^ zi)) = true) (e : q2 = q1 + if sp_old m2 (tb_z zi + k) (nI zi) (nI (k % 2 ^ zi)) (nI (k / 2 ^ zi)) = true then 1 else 0) :
    (q2, m2) = it_b (sp_ste dr) (tb_z zi) (k + 1) (0, mm) := by
  show _ = sp_ste dr (tb_z zi + k) (it_b (sp_ste dr) (tb_z zi) k (0, mm))
  rw [← hq]
  have h : ¬ sp_oldt m2 (tb_z zi + k) = true := by show ¬ sp_old m2 _ (nI (tz_t _)) (nI (tx_t _)) (nI (ty_t _)) = true; rw [t2, t3, t4]; exact c4
  unfold sp_ste
  rw [if_neg h, e, if_neg c4]
/-- the count begun with another number -/
theorem ste_shift (b : Nat) (r q0 : Int32) (m3 : q_Mem) : ∀ n, it_b (sp_ste dr) b n (r + q0, m3) = (r + (it_b (sp_ste dr) b n (q0, m3)).1, (it_b (sp_ste dr) b n (q0, m3)).2)
  | 0 => rfl
  | n + 1 => by
    show sp_ste dr (b + n) (it_b (sp_ste dr) b n (r + q0, m3)) = (r + (sp_ste dr (b + n) (it_b (sp_ste dr) b n (q0, m3))).1, (sp_ste dr (b + n) (it_b (sp_ste dr) b n (q0, m3))).2)
    rw [ste_shift b r q0 m3 n]
    generalize it_b (sp_ste dr) b n (q0, m3) = x
    unfold sp_ste
    dsimp only
    split
    · rw [Int32.add_assoc]
    · rw [Int32.add_assoc]
theorem ste_sum {r : Int32} {m3 : q_Mem} {b n : Nat} (h : (r, m3) = it_b (sp_ste dr) b n (0, m2)) : (q1 + r, m3) = it_b (sp_ste dr) b n (q1, m2) := by
  have e := ste_shift (dr := dr) b q1 0 m2 n
  rw [Int32.add_zero] at e
  rw [e, ← h]
theorem ste_inv1 {b : Nat} {q0 : Int32} (hb : ∀ i, i < k → b + i < 341) (hJ : Inv m2) : ∀ n, n ≤ k → Inv (it_b (sp_ste dr) b n (q0, m2)).2
  | 0, _ => hJ
  | n + 1, h => by
    have ih := ste_inv1 (q0 := q0) hb hJ n (by omega)
    show Inv (sp_ste dr (b + n) (it_b (sp_ste dr) b n (q0, m2))).2
    generalize it_b (sp_ste dr) b n (q0, m2) = x at ih
    unfold sp_ste
    split
    · dsimp only
      split
      · exact ih.dr _ _ _
      · exact ih
    · exact ih
theorem ste_inv {r : Int32} {m3 : q_Mem} (hJ : Inv m2) (hz : zi < 5) (h : (r, m3) = it_b (sp_ste dr) (tb_z zi) (2 ^ zi * 2 ^ zi) (0, m2)) : Inv m3 := by
  have e := ste_inv1 (dr := dr) (q0 := 0) (b := tb_z zi) (k := 2 ^ zi * 2 ^ zi) (fun i hi => (tt_of zi hz i hi).1) hJ _ (Nat.le_refl _)
  rw [← h] at e
  exact e
end
end
section
/-! ===== sightings: by the doubts, and as the reference keeps them ===== -/
/-- the doubts behind a seen sign -/
def sp_keep (mm : q_Mem) (w c d : Nat) (q : Int32) : q_Mem := fun k j =>
  if k = 20 ∧ 9 * w ≤ j ∧ j < 9 * w + 9 then (if j - 9 * w = 3 * c + d then q else if ¬ (j - 9 * w) % 3 = d ∧ q < mm 20 j then -1 else mm 20 j) else mm k j
def sp_forg (mm : q_Mem) (w : Nat) : q_Mem := fun k j => if k = 20 ∧ 9 * w ≤ j ∧ j < 9 * w + 9 then -1 else mm k j
abbrev sp_ag2 (mm : q_Mem) (w d a b : Nat) : Prop := ¬ mm 20 (9 * w + (3 * a + d)) = -1 ∧ ¬ mm 20 (9 * w + (3 * b + d)) = -1 ∧ mm 20 (9 * w + (3 * a + d)) * mm 20 (9 * w + (3 * b + d)) / 100 ≤ 20
abbrev sp_agr (mm : q_Mem) (w d : Nat) : Prop := sp_ag2 mm w d 0 1 ∨ sp_ag2 mm w d 0 2 ∨ sp_ag2 mm w d 1 2
abbrev sp_rng (d q : Int32) : Prop := (0 ≤ d ∧ d ≤ 2) ∧ (0 ≤ q ∧ q ≤ 99)
/-- may the car see the way -/
abbrev sp_nr (mm : q_Mem) (c w : Nat) : Prop := ¬ (0 < sp_far mm c (mm 2 w) (mm 3 w) ∧ 0 < sp_far mm c (mm 4 w) (mm 5 w))
def sp_see0 (mm : q_Mem) (c w d : Nat) (q : Int32) : Int32 × q_Mem :=
  if ¬ sp_vd (mm 11 (sp_L mm w)) = nI d ∧ sp_agr (sp_keep mm w c d q) w d then (1, sp_forg (sp_make (sp_keep mm w c d q) w (sp_vk (mm 11 (sp_L mm w))) (nI d) (-1)) w) else (0, sp_keep mm w c d q)
def sp_see (mm : q_Mem) (c w d q : Int32) : Int32 × q_Mem :=
  if sp_car c ∧ sp_wy mm w then
    if sp_rng d q then
      if sp_nr mm c.toNatClampNeg w.toNatClampNeg then sp_see0 (up2 mm 19 0 0) c.toNatClampNeg w.toNatClampNeg d.toNatClampNeg q else (0, up2 mm 19 0 3)
    else (0, up2 mm 19 0 2)
  else (0, up2 mm 19 0 1)
def sp_dc1 (mm : q_Mem) (w i : Nat) (q : Int32) : Int32 := if ¬ mm 20 (9 * w + i) = -1 then q + 1 else q
def sp_dc (mm : q_Mem) (w : Nat) : Int32 := it_n (sp_dc1 mm w) 9 0
def sp_sgt (mm : q_Mem) (x : Int32) : Int32 × q_Mem := if sp_wy mm x then (sp_dc mm x.toNatClampNeg, up2 mm 19 0 0) else (0, up2 mm 19 0 1)
def sp_ls1 (mm : q_Mem) (w : Nat) (i : Nat) (q : Int32) : Int32 := if ¬ nI (i % 3) = sp_vd (mm 11 (sp_L mm w)) ∧ ¬ mm 20 (9 * w + i) = -1 ∧ (q = -1 ∨ mm 20 (9 * w + i) < q) then mm 20 (9 * w + i) else q
def sp_ls (mm : q_Mem) (w : Nat) : Int32 := it_n (sp_ls1 mm w) 9 (-1)
def sp_dv (mm : q_Mem) (w : Nat) : Int32 := if sp_ls mm w = -1 then 0 else (100 - sp_ls mm w) * (sp_vk (mm 11 (sp_L mm w)) + 1)
def sp_dear (mm : q_Mem) (x : Int32) : Int32 × q_Mem := if sp_wy mm x then (sp_dv mm x.toNatClampNeg, up2 mm 19 0 0) else (0, up2 mm 19 0 1)
def sp_nst (mm : q_Mem) (c w : Nat) : Int32 := if sp_far mm c (mm 2 w) (mm 3 w) < sp_far mm c (mm 4 w) (mm 5 w) then sp_far mm c (mm 2 w) (mm 3 w) else sp_far mm c (mm 4 w) (mm 5 w)
def sp_wth (mm : q_Mem) (c w : Nat) : Int32 := sp_dv mm w * 100 / (1 + sp_nst mm c w)
/-- the best way so far, and what it is worth -/
def sp_tg1 (mm : q_Mem) (c w : Nat) (q : Int32 × Int32) : Int32 × Int32 := if q.2 < sp_wth mm c w then (nI w, sp_wth mm c w) else q
def sp_tg (mm : q_Mem) (c : Nat) : Int32 := (it_n (sp_tg1 mm c) (sp_W mm) (-1, 0)).1
def sp_tar (mm : q_Mem) (x : Int32) : Int32 × q_Mem := if sp_car x then (sp_tg mm x.toNatClampNeg, up2 mm 19 0 0) else (0, up2 mm 19 0 1)
def sp_snd0 (mm : q_Mem) (c w : Nat) : Int32 × q_Mem :=
  if sp_far mm c (mm 2 w) (mm 3 w) ≤ sp_far mm c (mm 4 w) (mm 5 w) then (sp_far mm c (mm 2 w) (mm 3 w), sp_goes mm c (mm 2 w) (mm 3 w)) else (sp_far mm c (mm 4 w) (mm 5 w), sp_goes mm c (mm 4 w) (mm 5 w))
def sp_snd (mm : q_Mem) (x : Int32) : Int32 × q_Mem :=
  if sp_car x then (if sp_tg mm x.toNatClampNeg = -1 then (0, up2 mm 19 0 2) else sp_snd0 (up2 mm 19 0 0) x.toNatClampNeg (sp_tg mm x.toNatClampNeg).toNatClampNeg) else (0, up2 mm 19 0 1)
/-! a sighting's parts -/
theorem sS_lt {c d q : Nat} (hc : c < 3) (hd : d < 3) (hq : q < 100) : c + 4 * d + 16 * q < 2 ^ 31 := by omega
theorem sS_d {c d q : Nat} (hc : c < 3) (hd : d < 3) (hq : q < 100) : sp_S c d q / 4 - sp_S c d q / 4 / 4 * 4 = nI d := by
  show nI (c + 4 * d + 16 * q) / nI 4 - nI (c + 4 * d + 16 * q) / nI 4 / nI 4 * nI 4 = _
  rw [pk_div (by omega) (by decide) (by decide), pk_rem (by omega) (by decide) (by decide)]
  congr 1
  omega
theorem sS_c {c d q : Nat} (hc : c < 3) (hd : d < 3) (hq : q < 100) : sp_S c d q - sp_S c d q / 4 * 4 = nI c := by
  show nI (c + 4 * d + 16 * q) - nI (c + 4 * d + 16 * q) / nI 4 * nI 4 = _
  rw [pk_rem (by omega) (by decide) (by decide)]
  congr 1
  omega
theorem sS_q {c d q : Nat} (hc : c < 3) (hd : d < 3) (hq : q < 100) : sp_S c d q / 16 = nI q := by
  show nI (c + 4 * d + 16 * q) / nI 16 = _
  rw [pk_div (by omega) (by decide) (by decide)]
  congr 1
  omega
/-- what a list of sightings holds: n of them, by their parts -/
def sn_L (mm : q_Mem) (w n : Nat) (f g h : Nat → Nat) : Prop := n ≤ 9 ∧ mm 17 w = nI n ∧ ∀ i, i < n → f i < 3 ∧ g i < 3 ∧ h i < 100 ∧ mm 18 (9 * w + i) = sp_S (f i) (g i) (h i)
/-- does a new sighting of car c, direction d, doubt q take it away -/
abbrev sn_goes (c d q : Nat) (f g h : Nat → Nat) (i : Nat) : Prop := if g i = d then f i = c else q < h i
/-- the list is gone through up to i: those kept stand first; e tells which they were -/
def sn_K (mm m2 : q_Mem) (w c d q : Nat) (f g h : Nat → Nat) (n i kp : Nat) (e : Nat → Nat) : Prop :=
  kp ≤ i ∧ (∀ k, k ≠ 18 → m2 k = mm k) ∧ (∀ j, (j < 9 * w ∨ 9 * w + kp ≤ j) → m2 18 j = mm 18 j) ∧ (∀ j, j < kp → e j < i ∧ ¬ sn_goes c d q f g h (e j) ∧ m2 18 (9 * w + j) = mm 18 (9 * w + e j)) ∧
  (∀ i0, i0 < i → ¬ sn_goes c d q f g h i0 → ∃ j, j < kp ∧ e j = i0) ∧ ∀ j j2, j < j2 → j2 < kp → e j < e j2
theorem sn_K0 {mm : q_Mem} {w c d q n : Nat} {f g h : Nat → Nat} : sn_K mm mm w c d q f g h n 0 0 (fun _ => 0) :=
  ⟨Nat.le_refl _, fun _ _ => rfl, fun _ _ => rfl, fun j hj => absurd hj (Nat.not_lt_zero _), fun i0 hi => absurd hi (Nat.not_lt_zero _), fun j j2 _ h2 => absurd h2 (Nat.not_lt_zero _)⟩
theorem sn_Kgo {mm m2 : q_Mem} {w c d q n i kp : Nat} {f g h e : Nat → Nat} (hK : sn_K mm m2 w c d q f g h n i kp e) (hg : sn_goes c d q f g h i) : sn_K mm m2 w c d q f g h n (i + 1) kp e := by
  obtain ⟨h1, h2, h3, h4, h5, h6⟩ := hK
  refine ⟨by omega, h2, h3, fun j hj => ?_, fun i0 hi hn => ?_, h6⟩
  · obtain ⟨a1, a2, a3⟩ := h4 j hj
    exact ⟨by omega, a2, a3⟩
  · by_cases q0 : i0 = i
    · subst q0; exact absurd hg hn
    · exact h5 i0 (by omega) hn
theorem sn_Kst {mm m2 : q_Mem} {w c d q n i kp : Nat} {f g h e : Nat → Nat} (hK : sn_K mm m2 w c d q f g h n i kp e) (hg : ¬ sn_goes c d q f g h i) : sn_K mm (up2 m2 18 (9 * w + kp) (mm 18 (9 * w + i))) w c d q f g h n (i + 1) (kp + 1) (fun j => if j = kp then i else e j) := by
  obtain ⟨h1, h2, h3, h4, h5, h6⟩ := hK
  refine ⟨by omega, fun k hk => ?_, fun j hj => ?_, fun j hj => ?_, fun i0 hi hn => ?_, fun j j2 hj hj2 => ?_⟩
  · rw [up2_k hk]; exact h2 k hk
  · rw [up2_i (by omega)]; exact h3 j (by omega)
  · by_cases q0 : j = kp
    · subst q0
      dsimp only
      rw [if_pos rfl]
      exact ⟨by omega, hg, up2_s⟩
    · obtain ⟨a1, a2, a3⟩ := h4 j (by omega)
      dsimp only
      rw [if_neg q0]
      exact ⟨by omega, a2, by rw [up2_i (by omega)]; exact a3⟩
  · by_cases q0 : i0 = i
    · subst q0; exact ⟨kp, by omega, if_pos rfl⟩
    · obtain ⟨j, a1, a2⟩ := h5 i0 (by omega) hn
      exact ⟨j, by omega, by dsimp only; rw [if_neg (by omega)]; exact a2⟩
  · by_cases q0 : j2 = kp
    · subst q0
      dsimp only
      rw [if_pos rfl, if_neg (by omega)]
      exact (h4 j hj).1
    · dsimp only
      rw [if_neg q0, if_neg (by omega)]
      exact h6 j j2 hj (by omega)
/-- what is read at i is still the old list's -/
theorem sn_Krd {mm m2 : q_Mem} {w c d q n i kp : Nat} {f g h e : Nat → Nat} (hK : sn_K mm m2 w c d q f g h n i kp e) : m2 18 (9 * w + i) = mm 18 (9 * w + i) := by
  obtain ⟨h1, h2, h3, -⟩ := hK
  exact h3 _ (by omega)
/-! do two agree -/
def sn_ag (d : Nat) (f g h : Nat → Nat) (i j : Nat) : Bool := decide ((g i = d ∧ g j = d ∧ ¬ f i = f j) ∧ h i * h j / 100 ≤ 20)
def sn_agk (d n : Nat) (f g h : Nat → Nat) (k : Nat) : Bool := sn_ag d f g h (k / n) (k % n)
def sn_sure (D : Int32) (g h : Nat → Nat) (i : Nat) : Int32 := if nI (g i) = D then 0 else 100 - nI (h i)
def sn_d1 (D : Int32) (g h : Nat → Nat) (i : Nat) (q : Int32) : Int32 := if q < sn_sure D g h i then sn_sure D g h i else q
theorem mo_ext {D : va_G} {cI : ClassId} {o : Nat} {a : Nat → Nat} {mm m2 : q_Mem} {H : Heap} (h : mo_H D cI o a mm H) (he : ∀ k, k < 20 → m2 k = mm k) : mo_H D cI o a m2 H := by
  refine ⟨?_, fun j hj => ?_⟩
  · have e : mo_fs a m2 = mo_fs a mm := by
      unfold mo_fs
      rw [he 1 (by decide), he 10 (by decide), he 19 (by decide)]
    rw [e]; exact h.1
  · have hjk : j < 20 := by
      simp only [mo_ar, Bool.and_eq_true, decide_eq_true_eq] at hj
      omega
    rw [he j hjk]; exact h.2 j hj
theorem nn_div {n k : Nat} (h : k < n * n) : 0 < n ∧ k / n < n ∧ k % n < n := by
  have h0 : 0 < n := by
    rcases Nat.eq_zero_or_pos n with q | q
    · subst q; exact absurd h (Nat.not_lt_zero _)
    · exact q
  exact ⟨h0, (Nat.div_lt_iff_lt_mul h0).mpr h, Nat.mod_lt _ h0⟩
section
variable {c d q i : Nat} {f g h : Nat → Nat}
theorem sn_g1 (c4 : g i = d) (c6 : f i = c) : sn_goes c d q f g h i := by show (if g i = d then f i = c else q < h i); rw [if_pos c4]; exact c6
theorem sn_g2 (c4 : g i = d) (c6 : ¬ f i = c) : ¬ sn_goes c d q f g h i := by show ¬ (if g i = d then f i = c else q < h i); rw [if_pos c4]; exact c6
theorem sn_g3 (c4 : ¬ g i = d) (c6 : q < h i) : sn_goes c d q f g h i := by show (if g i = d then f i = c else q < h i); rw [if_neg c4]; exact c6
theorem sn_g4 (c4 : ¬ g i = d) (c6 : ¬ q < h i) : ¬ sn_goes c d q f g h i := by show ¬ (if g i = d then f i = c else q < h i); rw [if_neg c4]; exact c6
end
section
variable {d n k : Nat} {f g h : Nat → Nat}
theorem ag_1 (c5 : an_y (sn_agk d n f g h) k = true) : (1 : Int32) = if an_y (sn_agk d n f g h) (k + 1) = true then 1 else 0 := by
  refine bo_p ?_
  show (an_y (sn_agk d n f g h) k || sn_agk d n f g h k) = true
  rw [c5]; rfl
theorem ag_2 (c6 : g (k / n) = d ∧ g (k % n) = d ∧ ¬ f (k / n) = f (k % n)) (c7 : h (k / n) * h (k % n) / 100 ≤ 20) : (1 : Int32) = if an_y (sn_agk d n f g h) (k + 1) = true then 1 else 0 := by
  refine bo_p ?_
  show (an_y (sn_agk d n f g h) k || sn_agk d n f g h k) = true
  have : sn_agk d n f g h k = true := decide_eq_true ⟨c6, c7⟩
  rw [this, Bool.or_true]
theorem ag_0 (c5 : ¬ an_y (sn_agk d n f g h) k = true) (c6 : ¬ (g (k / n) = d ∧ g (k % n) = d ∧ ¬ f (k / n) = f (k % n))) : (0 : Int32) = if an_y (sn_agk d n f g h) (k + 1) = true then 1 else 0 := by
  refine bo_n ?_
  show ¬ (an_y (sn_agk d n f g h) k || sn_agk d n f g h k) = true
  rw [Bool.or_eq_true]
  rintro (z | z)
  · exact c5 z
  · exact c6 (of_decide_eq_true z).1
theorem ag_3 (c5 : ¬ an_y (sn_agk d n f g h) k = true) (c7 : ¬ h (k / n) * h (k % n) / 100 ≤ 20) : (0 : Int32) = if an_y (sn_agk d n f g h) (k + 1) = true then 1 else 0 := by
  refine bo_n ?_
  show ¬ (an_y (sn_agk d n f g h) k || sn_agk d n f g h k) = true
  rw [Bool.or_eq_true]
  rintro (z | z)
  · exact c5 z
  · exact c7 (of_decide_eq_true z).2
end
end
section
def fb_ct (p : Nat → Bool) : Nat → Nat
  | 0 => 0
  | n + 1 => fb_ct p n + (if p n then 1 else 0)
theorem fb_ct_succ (p : Nat → Bool) (n : Nat) : fb_ct p (n + 1) = fb_ct p n + (if p n then 1 else 0) := rfl
theorem fb_ct_le (p : Nat → Bool) : ∀ n, fb_ct p n ≤ n
  | 0 => Nat.le_refl _
  | n + 1 => by
    have h := fb_ct_le p n
    rw [fb_ct_succ]
    split <;> omega
theorem fb_ct_step (p : Nat → Bool) (m : Nat) : ∀ n, fb_ct p m ≤ fb_ct p (m + n)
  | 0 => Nat.le_refl _
  | n + 1 => by
    have h := fb_ct_step p m n
    show fb_ct p m ≤ fb_ct p (m + n + 1)
    rw [fb_ct_succ]
    omega
theorem fb_ct_mono (p : Nat → Bool) {m n : Nat} (h : m ≤ n) : fb_ct p m ≤ fb_ct p n := by
  have := fb_ct_step p m (n - m)
  rwa [Nat.add_sub_cancel' h] at this
theorem fb_ct_cong {p q : Nat → Bool} : ∀ {n : Nat}, (∀ k, k < n → p k = q k) → fb_ct p n = fb_ct q n
  | 0, _ => rfl
  | n + 1, h => by
    rw [fb_ct_succ, fb_ct_succ, fb_ct_cong (fun k hk => h k (by omega)), h n (by omega)]
/-- one place changed -/
theorem fb_ct_out (p : Nat → Bool) (b : Bool) {i n : Nat} (h : n ≤ i) : fb_ct (fun k => if k = i then b else p k) n = fb_ct p n :=
  fb_ct_cong fun k hk => if_neg (by omega)
theorem fb_ct_upd (p : Nat → Bool) (b : Bool) {i : Nat} : ∀ {n : Nat}, i < n → fb_ct (fun k => if k = i then b else p k) n + (if p i then 1 else 0) = fb_ct p n + (if b then 1 else 0)
  | 0, h => absurd h (Nat.not_lt_zero i)
  | n + 1, h => by
    rw [fb_ct_succ, fb_ct_succ]
    rcases Nat.lt_or_ge i n with q | q
    · have := fb_ct_upd p b q
      have e : (if n = i then b else p n) = p n := if_neg (by omega)
      rw [e]
      omega
    · have e : i = n := by omega
      subst e
      rw [fb_ct_out p b (Nat.le_refl _)]
      simp only [if_true]
      omega
/-! ===== how many are there: places hit once each ===== -/
theorem fb_ct_none {p : Nat → Bool} : ∀ {n : Nat}, (∀ k, k < n → p k = false) → fb_ct p n = 0
  | 0, _ => rfl
  | n + 1, h => by rw [fb_ct_succ, fb_ct_none (fun k hk => h k (by omega)), h n (by omega)]; rfl
theorem ct_hit {N : Nat} : ∀ (n : Nat) (p : Nat → Bool) (e : Nat → Nat), (∀ i, i < n → e i < N ∧ p (e i) = true) → (∀ i j, i < n → j < n → e i = e j → i = j) → (∀ k, k < N → p k = true → ∃ i, i < n ∧ e i = k) → fb_ct p N = n
  | 0, p, e, _, _, h3 => fb_ct_none fun k hk => by
    cases hp : p k with
    | false => rfl
    | true => obtain ⟨i, hi, -⟩ := h3 k hk hp; exact absurd hi (Nat.not_lt_zero i)
  | n + 1, p, e, h1, h2, h3 => by
    have ih := ct_hit n (fun k => if k = e n then false else p k) e (fun i hi => ⟨(h1 i (by omega)).1, by
        show (if e i = e n then false else p (e i)) = true
        rw [if_neg (fun q => by have := h2 i n (by omega) (by omega) q; omega)]
        exact (h1 i (by omega)).2⟩) (fun i j hi hj => h2 i j (by omega) (by omega)) (fun k hk hp => by
        by_cases q : k = e n
        · exact absurd (show (if k = e n then false else p k) = true from hp) (by rw [if_pos q]; exact Bool.false_ne_true)
        · have hp2 : p k = true := by
            have : (if k = e n then false else p k) = true := hp
            rw [if_neg q] at this; exact this
          obtain ⟨i, hi, e1⟩ := h3 k hk hp2
          refine ⟨i, ?_, e1⟩
          rcases Nat.lt_or_ge i n with z | z
          · exact z
          · exact absurd (by rw [← e1, show i = n by omega]) q)
    have hu := fb_ct_upd p false (i := e n) (n := N) (h1 n (by omega)).1
    rw [(h1 n (by omega)).2, ih] at hu
    simp only [if_true] at hu
    have hf : (if false = true then 1 else 0 : Nat) = 0 := rfl
    omega
theorem dc_ct (mm : q_Mem) (w : Nat) : ∀ n, n < 1000 → it_n (sp_dc1 mm w) n 0 = nI (fb_ct (fun i => decide (¬ mm 20 (9 * w + i) = -1)) n)
  | 0, _ => rfl
  | n + 1, h => by
    show sp_dc1 mm w n (it_n (sp_dc1 mm w) n 0) = _
    rw [dc_ct mm w n (by omega), fb_ct_succ]
    unfold sp_dc1
    by_cases q : ¬ mm 20 (9 * w + n) = -1
    · rw [if_pos q, nI_1, decide_eq_true q]; rfl
    · rw [if_neg q, decide_eq_false q]; rfl
theorem pl_inj {a b a2 b2 : Nat} (hb : b < 3) (hb2 : b2 < 3) (h : 3 * a + b = 3 * a2 + b2) : a = a2 ∧ b = b2 := by omega
/-- the reference's number of sightings is that of the doubts -/
theorem sn_cnt {mm : q_Mem} {w : Nat} (h : sp_N mm w) : mm 17 w = sp_dc mm w := by
  obtain ⟨n, f, g, q, hn9, hn, hen, hall, hinj⟩ := h
  unfold sp_dc
  rw [dc_ct mm w 9 (by decide), hn]
  congr 1
  refine (ct_hit n _ (fun i => 3 * f i + g i) (fun i hi => ?_) (fun i j hi hj e => ?_) (fun k hk hp => ?_)).symm
  · obtain ⟨a1, a2, a3, -, a5⟩ := hen i hi
    refine ⟨by show 3 * f i + g i < 9; omega, decide_eq_true ?_⟩
    show ¬ mm 20 (9 * w + (3 * f i + g i)) = -1
    rw [a5]; exact nI_nm1 (by omega)
  · obtain ⟨a1, a2, -⟩ := hen i hi
    obtain ⟨b1, b2, -⟩ := hen j hj
    obtain ⟨c1, c2⟩ := pl_inj a2 b2 e
    exact hinj i j hi hj c1 c2
  · have hk2 : k = 3 * (k / 3) + k % 3 := by omega
    have hp2 : ¬ mm 20 (9 * w + k) = -1 := of_decide_eq_true hp
    rcases hall (k / 3) (k % 3) (by omega) (by omega) with z | ⟨i, hi, e1, e2⟩
    · rw [← hk2] at z; exact absurd z hp2
    · exact ⟨i, hi, by show 3 * f i + g i = k; rw [e1, e2]; omega⟩
/-! agreement -/
theorem pr_le {a b : Nat} (ha : a < 100) (hb : b < 100) : (nI a * nI b / 100 ≤ 20) ↔ a * b / 100 ≤ 20 := by
  have h : a * b ≤ 9801 := Nat.mul_le_mul (by omega : a ≤ 99) (by omega : b ≤ 99)
  rw [pk_mul, show (100 : Int32) = nI 100 from rfl, pk_div (by omega) (by decide) (by decide)]
  exact nI_leI (b := 20) (by omega) (by decide)
theorem sn_agr {mm : q_Mem} {w d n : Nat} {f g q : Nat → Nat} (hd : d < 3) (hen : ∀ i, i < n → f i < 3 ∧ g i < 3 ∧ q i < 100 ∧ mm 20 (9 * w + (3 * f i + g i)) = nI (q i)) (hall : ∀ c d, c < 3 → d < 3 → mm 20 (9 * w + (3 * c + d)) = -1 ∨ ∃ i, i < n ∧ f i = c ∧ g i = d) :
    an_y (sn_agk d n f g q) (n * n) = true ↔ sp_agr mm w d := by
  have ag : ∀ i j, i < n → j < n → g i = d → g j = d → q i * q j / 100 ≤ 20 → ∀ a b, f i = a → f j = b → sp_ag2 mm w d a b ∧ sp_ag2 mm w d b a := by
    intro i j hi hj h1 h2 h3 a b ea eb
    obtain ⟨-, -, p3, p4⟩ := hen i hi
    obtain ⟨-, -, r3, r4⟩ := hen j hj
    rw [h1, ea] at p4
    rw [h2, eb] at r4
    refine ⟨⟨by rw [p4]; exact nI_nm1 (by omega), by rw [r4]; exact nI_nm1 (by omega), ?_⟩, ⟨by rw [r4]; exact nI_nm1 (by omega), by rw [p4]; exact nI_nm1 (by omega), ?_⟩⟩
    · rw [p4, r4]; exact (pr_le p3 r3).mpr h3
    · rw [p4, r4]; rw [Nat.mul_comm] at h3; exact (pr_le r3 p3).mpr h3
  have back : ∀ a b, a < 3 → b < 3 → a ≠ b → sp_ag2 mm w d a b → an_y (sn_agk d n f g q) (n * n) = true := by
    intro a b ha hb hab ⟨h1, h2, h3⟩
    rcases hall a d ha hd with z | ⟨i, hi, i1, i2⟩
    · exact absurd z h1
    rcases hall b d hb hd with z | ⟨j, hj, j1, j2⟩
    · exact absurd z h2
    obtain ⟨-, -, p3, p4⟩ := hen i hi
    obtain ⟨-, -, r3, r4⟩ := hen j hj
    rw [i1, i2] at p4
    rw [j1, j2] at r4
    rw [p4, r4] at h3
    have hn0 : 0 < n := by omega
    have hk : n * i + j < n * n := by
      have : n * i + n ≤ n * n := by rw [← Nat.mul_succ]; exact Nat.mul_le_mul_left n hi
      omega
    refine an_y_iff.mpr ⟨n * i + j, hk, ?_⟩
    have e1 : (n * i + j) / n = i := by rw [Nat.mul_add_div hn0, Nat.div_eq_of_lt hj]; rfl
    have e2 : (n * i + j) % n = j := by rw [Nat.mul_add_mod]; exact Nat.mod_eq_of_lt hj
    unfold sn_agk sn_ag
    rw [e1, e2]
    exact decide_eq_true ⟨⟨i2, j2, by rw [i1, j1]; exact hab⟩, (pr_le p3 r3).mp h3⟩
  constructor
  · intro h
    obtain ⟨k, hk, hp⟩ := an_y_iff.mp h
    obtain ⟨hn0, hkd, hkm⟩ := nn_div hk
    unfold sn_agk sn_ag at hp
    obtain ⟨⟨h1, h2, h3⟩, h4⟩ := of_decide_eq_true hp
    have p := (hen _ hkd).1
    have r := (hen _ hkm).1
    have key := ag _ _ hkd hkm h1 h2 h4 _ _ rfl rfl
    generalize f (k / n) = a at p key h3
    generalize f (k % n) = b at r key h3
    have cs : (a = 0 ∧ b = 1) ∨ (a = 0 ∧ b = 2) ∨ (a = 1 ∧ b = 2) ∨ (a = 1 ∧ b = 0) ∨ (a = 2 ∧ b = 0) ∨ (a = 2 ∧ b = 1) := by omega
    rcases cs with ⟨rfl, rfl⟩ | ⟨rfl, rfl⟩ | ⟨rfl, rfl⟩ | ⟨rfl, rfl⟩ | ⟨rfl, rfl⟩ | ⟨rfl, rfl⟩
    · exact Or.inl key.1
    · exact Or.inr (Or.inl key.1)
    · exact Or.inr (Or.inr key.1)
    · exact Or.inl key.2
    · exact Or.inr (Or.inl key.2)
    · exact Or.inr (Or.inr key.2)
  · rintro (h | h | h)
    · exact back 0 1 (by decide) (by decide) (by decide) h
    · exact back 0 2 (by decide) (by decide) (by decide) h
    · exact back 1 2 (by decide) (by decide) (by decide) h
/-! how dear -/
theorem sn_mx {D n : Nat} {g h : Nat → Nat} (hD : D < 3) (hen : ∀ i, i < n → g i < 3 ∧ h i < 100) : ∀ m, m ≤ n → ∃ M : Nat, M ≤ 100 ∧ it_n (sn_d1 (nI D) g h) m 0 = nI M ∧ (∀ i, i < m → ¬ g i = D → 100 - h i ≤ M) ∧ (M = 0 ∨ ∃ i, i < m ∧ ¬ g i = D ∧ M = 100 - h i)
  | 0, _ => ⟨0, by decide, rfl, fun i hi => absurd hi (Nat.not_lt_zero i), Or.inl rfl⟩
  | m + 1, hm => by
    obtain ⟨M, h1, h2, h3, h4⟩ := sn_mx hD hen m (by omega)
    obtain ⟨g3, h100⟩ := hen m (by omega)
    show ∃ M2 : Nat, M2 ≤ 100 ∧ sn_d1 (nI D) g h m (it_n (sn_d1 (nI D) g h) m 0) = nI M2 ∧ _
    rw [h2]
    by_cases e : g m = D
    · have hs : sn_sure (nI D) g h m = nI 0 := by unfold sn_sure; rw [e, if_pos rfl]; rfl
      have hn : ¬ nI M < nI 0 := nI_nlt (by omega) (by omega)
      refine ⟨M, h1, ?_, fun i hi hg => ?_, ?_⟩
      · unfold sn_d1; rw [hs, if_neg hn]
      · by_cases q : i = m
        · subst q; exact absurd e hg
        · exact h3 i (by omega) hg
      · rcases h4 with z | ⟨i, a1, a2, a3⟩
        · exact Or.inl z
        · exact Or.inr ⟨i, by omega, a2, a3⟩
    · have hs : sn_sure (nI D) g h m = nI (100 - h m) := by
        unfold sn_sure
        rw [if_neg (fun q => e (nI_inj (by omega) (by omega) q))]
        exact pk_sub (a := 100) (by omega)
      by_cases q : M < 100 - h m
      · refine ⟨100 - h m, by omega, ?_, fun i hi hg => ?_, Or.inr ⟨m, by omega, e, rfl⟩⟩
        · unfold sn_d1; rw [hs, if_pos (nI_lt q (by omega))]
        · by_cases z : i = m
          · subst z; exact Nat.le_refl _
          · have := h3 i (by omega) hg; omega
      · refine ⟨M, h1, ?_, fun i hi hg => ?_, ?_⟩
        · unfold sn_d1; rw [hs, if_neg (nI_nlt (by omega) (by omega))]
        · by_cases z : i = m
          · subst z; omega
          · exact h3 i (by omega) hg
        · rcases h4 with z | ⟨i, a1, a2, a3⟩
          · exact Or.inl z
          · exact Or.inr ⟨i, by omega, a2, a3⟩
theorem ls_ls {mm : q_Mem} {w D : Nat} (hD : D < 3) (hv : sp_vd (mm 11 (sp_L mm w)) = nI D) (hq : ∀ i, i < 9 → mm 20 (9 * w + i) = -1 ∨ ∃ q, q < 100 ∧ mm 20 (9 * w + i) = nI q) : ∀ m, m ≤ 9 → (it_n (sp_ls1 mm w) m (-1) = -1 ∧ ∀ i, i < m → ¬ i % 3 = D → mm 20 (9 * w + i) = -1) ∨ ∃ L i0 : Nat, it_n (sp_ls1 mm w) m (-1) = nI L ∧ L < 100 ∧ i0 < m ∧ ¬ i0 % 3 = D ∧ mm 20 (9 * w + i0) = nI L ∧ ∀ i q, i < m → ¬ i % 3 = D → q < 100 → mm 20 (9 * w + i) = nI q → L ≤ q
  | 0, _ => Or.inl ⟨rfl, fun i hi => absurd hi (Nat.not_lt_zero i)⟩
  | m + 1, hm => by
    have ih := ls_ls hD hv hq m (by omega)
    show (sp_ls1 mm w m (it_n (sp_ls1 mm w) m (-1)) = -1 ∧ _) ∨ ∃ L i0 : Nat, sp_ls1 mm w m (it_n (sp_ls1 mm w) m (-1)) = nI L ∧ _
    have dd : (nI (m % 3) = sp_vd (mm 11 (sp_L mm w))) ↔ m % 3 = D := by rw [hv]; exact nI_eq (by omega) (by omega)
    by_cases e : m % 3 = D
    · have hs : ∀ x, sp_ls1 mm w m x = x := fun x => by unfold sp_ls1; rw [if_neg (fun z => z.1 (dd.mpr e))]
      rw [hs]
      rcases ih with ⟨a1, a2⟩ | ⟨L, i0, a1, a2, a3, a4, a5, a6⟩
      · refine Or.inl ⟨a1, fun i hi hi3 => ?_⟩
        by_cases z : i = m
        · subst z; exact absurd e hi3
        · exact a2 i (by omega) hi3
      · refine Or.inr ⟨L, i0, a1, a2, by omega, a4, a5, fun i q hi hi3 hq2 hm2 => ?_⟩
        by_cases z : i = m
        · subst z; exact absurd e hi3
        · exact a6 i q (by omega) hi3 hq2 hm2
    · rcases hq m (by omega) with q0 | ⟨q, hq1, hq2⟩
      · have hs : ∀ x, sp_ls1 mm w m x = x := fun x => by unfold sp_ls1; rw [if_neg (fun z => z.2.1 q0)]
        rw [hs]
        rcases ih with ⟨a1, a2⟩ | ⟨L, i0, a1, a2, a3, a4, a5, a6⟩
        · refine Or.inl ⟨a1, fun i hi hi3 => ?_⟩
          by_cases z : i = m
          · subst z; exact q0
          · exact a2 i (by omega) hi3
        · refine Or.inr ⟨L, i0, a1, a2, by omega, a4, a5, fun i r hi hi3 hr hr2 => ?_⟩
          by_cases z : i = m
          · subst z; rw [q0] at hr2; exact absurd hr2.symm (nI_nm1 (by omega))
          · exact a6 i r (by omega) hi3 hr hr2
      · rcases ih with ⟨a1, a2⟩ | ⟨L, i0, a1, a2, a3, a4, a5, a6⟩
        · refine Or.inr ⟨q, m, ?_, hq1, by omega, e, hq2, fun i r hi hi3 hr hr2 => ?_⟩
          · unfold sp_ls1
            rw [if_pos ⟨fun z => e (dd.mp z), by rw [hq2]; exact nI_nm1 (by omega), Or.inl a1⟩, hq2]
          · by_cases z : i = m
            · subst z; rw [hq2] at hr2; exact Nat.le_of_eq (nI_inj (by omega) (by omega) hr2)
            · rw [a2 i (by omega) hi3] at hr2; exact absurd hr2.symm (nI_nm1 (by omega))
        · by_cases z : q < L
          · refine Or.inr ⟨q, m, ?_, hq1, by omega, e, hq2, fun i r hi hi3 hr hr2 => ?_⟩
            · rw [a1]
              unfold sp_ls1
              rw [if_pos ⟨fun z => e (dd.mp z), by rw [hq2]; exact nI_nm1 (by omega), Or.inr (by rw [hq2]; exact nI_lt z (by omega))⟩, hq2]
            · by_cases z2 : i = m
              · subst z2; rw [hq2] at hr2; exact Nat.le_of_eq (nI_inj (by omega) (by omega) hr2)
              · have := a6 i r (by omega) hi3 hr hr2; omega
          · refine Or.inr ⟨L, i0, ?_, a2, by omega, a4, a5, fun i r hi hi3 hr hr2 => ?_⟩
            · rw [a1]
              unfold sp_ls1
              rw [if_neg (fun z2 => ?_)]
              rcases z2.2.2 with z3 | z3
              · exact nI_nm1 (by omega) z3
              · rw [hq2] at z3; exact z ((nI_ltI (by omega) (by omega)).mp z3)
            · by_cases z2 : i = m
              · subst z2; rw [hq2] at hr2; have := nI_inj (by omega) (by omega) hr2; omega
              · exact a6 i r (by omega) hi3 hr hr2
/-- the reference's way to tell how dear a way is comes to the same -/
theorem sn_dear {mm : q_Mem} {w n D : Nat} {f g h : Nat → Nat} (hD : D < 3) (hv : sp_vd (mm 11 (sp_L mm w)) = nI D) (hq : ∀ i, i < 9 → mm 20 (9 * w + i) = -1 ∨ ∃ q, q < 100 ∧ mm 20 (9 * w + i) = nI q)
    (hen : ∀ i, i < n → f i < 3 ∧ g i < 3 ∧ h i < 100 ∧ mm 20 (9 * w + (3 * f i + g i)) = nI (h i)) (hall : ∀ c d, c < 3 → d < 3 → mm 20 (9 * w + (3 * c + d)) = -1 ∨ ∃ i, i < n ∧ f i = c ∧ g i = d) :
    it_n (sn_d1 (sp_vd (mm 11 (sp_L mm w))) g h) n 0 * (sp_vk (mm 11 (sp_L mm w)) + 1) = sp_dv mm w := by
  obtain ⟨M, m1, m2, m3, m4⟩ := sn_mx (D := D) (g := g) (h := h) hD (fun i hi => ⟨(hen i hi).2.1, (hen i hi).2.2.1⟩) n (Nat.le_refl n)
  unfold sp_dv sp_ls
  rw [hv, m2]
  rcases ls_ls hD hv hq 9 (Nat.le_refl 9) with ⟨a1, a2⟩ | ⟨L, i0, a1, a2, a3, a4, a5, a6⟩
  · rw [if_pos a1]
    have hM : M = 0 := by
      rcases m4 with z | ⟨i, b1, b2, b3⟩
      · exact z
      · obtain ⟨c1, c2, c3, c4⟩ := hen i b1
        have := a2 (3 * f i + g i) (by omega) (by omega)
        rw [c4] at this
        exact absurd this (nI_nm1 (by omega))
    subst hM
    show (0 : Int32) * _ = 0
    exact Int32.zero_mul
  · rw [a1, if_neg (nI_nm1 (by omega))]
    congr 1
    have e1 : (100 : Int32) - nI L = nI (100 - L) := pk_sub (a := 100) (by omega)
    rw [e1]
    congr 1
    have hi0 : i0 = 3 * (i0 / 3) + i0 % 3 := by omega
    rcases hall (i0 / 3) (i0 % 3) (by omega) (by omega) with z | ⟨i, b1, b2, b3⟩
    · rw [← hi0, a5] at z; exact absurd z (nI_nm1 (by omega))
    · obtain ⟨c1, c2, c3, c4⟩ := hen i b1
      rw [b2, b3, ← hi0, a5] at c4
      have hL : L = h i := nI_inj (by omega) (by omega) c4
      have h1 := m3 i b1 (by rw [b3]; exact a4)
      rcases m4 with z | ⟨j, d1, d2, d3⟩
      · omega
      · obtain ⟨p1, p2, p3, p4⟩ := hen j d1
        have := a6 (3 * f j + g j) (h j) (by omega) (by omega) p3 p4
        omega
end
section
theorem iv_D {mm : q_Mem} (hI : Inv mm) {w : Nat} (hw : w < sp_W mm) : ∃ k d e : Nat, k < 4 ∧ d < 3 ∧ e < 7 ∧ mm 11 (sp_L mm w) = nI (1000 * w + 100 * k + 10 * d + e) := (hI.2.2.1 w hw).2.2
theorem iv_vd {mm : q_Mem} (hI : Inv mm) {w : Nat} (hw : w < sp_W mm) : ∃ d, d < 3 ∧ sp_vd (mm 11 (sp_L mm w)) = nI d := by
  obtain ⟨k, d, e, hk, hd, he, h⟩ := iv_D hI hw
  have := hI.W40
  refine ⟨d, hd, ?_⟩
  rw [h, vd_nI (by omega)]; congr 1; omega
theorem iv_vk {mm : q_Mem} (hI : Inv mm) {w : Nat} (hw : w < sp_W mm) : ∃ k, k < 4 ∧ sp_vk (mm 11 (sp_L mm w)) = nI k := by
  obtain ⟨k, d, e, hk, hd, he, h⟩ := iv_D hI hw
  have := hI.W40
  refine ⟨k, hk, ?_⟩
  rw [h, vk_nI (by omega)]; congr 1; omega
theorem iv_q {mm : q_Mem} (hI : Inv mm) {w : Nat} (hw : w < sp_W mm) : ∀ i, i < 9 → mm 20 (9 * w + i) = -1 ∨ ∃ q, q < 100 ∧ mm 20 (9 * w + i) = nI q := by
  intro i hi
  have h := hI.2.2.2.2.2.2.2.2.2.2.2.1 w hw (i / 3) (i % 3) (by omega) (by omega)
  rwa [show 3 * (i / 3) + i % 3 = i by omega] at h
theorem sn_of {mm : q_Mem} {w : Nat} (hI : Inv mm) (hN : sp_N mm w) (hw : w < sp_W mm) : ∃ (n : Nat) (f g h : Nat → Nat), sn_L mm w n f g h ∧ it_n (sn_d1 (sp_vd (mm 11 (sp_L mm w))) g h) n 0 * (sp_vk (mm 11 (sp_L mm w)) + 1) = sp_dv mm w := by
  obtain ⟨n, f, g, h, h1, h2, h3, h4, h5⟩ := hN
  obtain ⟨d, hd, hv⟩ := iv_vd hI hw
  exact ⟨n, f, g, h, ⟨h1, h2, fun i hi => ⟨(h3 i hi).1, (h3 i hi).2.1, (h3 i hi).2.2.1, (h3 i hi).2.2.2.1⟩⟩, sn_dear hd hv (iv_q hI hw) (fun i hi => ⟨(h3 i hi).1, (h3 i hi).2.1, (h3 i hi).2.2.1, (h3 i hi).2.2.2.2⟩) h4⟩
/-! distances -/
theorem ab_nI {x c : Nat} (hx : x ≤ 16) (hc : c ≤ 16) : ∃ n, n ≤ 16 ∧ (if nI x < nI c then nI c - nI x else nI x - nI c) = nI n := by
  by_cases h : x < c
  · refine ⟨c - x, by omega, ?_⟩
    rw [if_pos (nI_lt h (by omega))]; exact pk_sub (by omega)
  · refine ⟨x - c, by omega, ?_⟩
    rw [if_neg (nI_nlt (by omega) (by omega))]; exact pk_sub (by omega)
theorem far_nI {mm : q_Mem} (hI : Inv mm) {c x y : Nat} (hc : c < 3) (hx : x ≤ 16) (hy : y ≤ 16) : ∃ n, n ≤ 32 ∧ sp_far mm c (nI x) (nI y) = nI n := by
  obtain ⟨cx, cy, h1, h2, h3, h4⟩ := hI.2.2.2.2.2.2.2.2.1 c hc
  obtain ⟨n, hn, e1⟩ := ab_nI hx h1
  obtain ⟨m, hm, e2⟩ := ab_nI hy h2
  refine ⟨n + m, by omega, ?_⟩
  unfold sp_far
  rw [h3, h4, e1, e2, nI_add]
theorem iv_xy {mm : q_Mem} (hI : Inv mm) {w : Nat} (hw : w < sp_W mm) : ∃ x y z u : Nat, x ≤ 16 ∧ y ≤ 16 ∧ z ≤ 16 ∧ u ≤ 16 ∧ mm 2 w = nI x ∧ mm 3 w = nI y ∧ mm 4 w = nI z ∧ mm 5 w = nI u := hI.2.2.2.2.2.2.2.1 w hw
theorem nst_nI {mm : q_Mem} (hI : Inv mm) {c w : Nat} (hc : c < 3) (hw : w < sp_W mm) : ∃ n, n ≤ 32 ∧ sp_nst mm c w = nI n := by
  obtain ⟨x, y, z, u, hx, hy, hz, hu, e1, e2, e3, e4⟩ := iv_xy hI hw
  obtain ⟨n, hn, f1⟩ := far_nI hI hc hx hy
  obtain ⟨m, hm, f2⟩ := far_nI hI hc hz hu
  unfold sp_nst
  rw [e1, e2, e3, e4, f1, f2]
  by_cases h : nI n < nI m
  · rw [if_pos h]; exact ⟨n, hn, rfl⟩
  · rw [if_neg h]; exact ⟨m, hm, rfl⟩
theorem nst_ne {mm : q_Mem} (hI : Inv mm) {c w : Nat} (hc : c < 3) (hw : w < sp_W mm) : 1 + sp_nst mm c w ≠ 0 := by
  obtain ⟨n, hn, e⟩ := nst_nI hI hc hw
  rw [e, show (1 : Int32) = nI 1 from rfl, nI_add]
  exact nI_ne0 (by omega) (by omega)
/-! the best way -/
section
variable {mm : q_Mem} {c w : Nat}
abbrev tgn (mm : q_Mem) (c w : Nat) : Int32 × Int32 := it_n (sp_tg1 mm c) w (-1, 0)
theorem tg_y1 (h : (tgn mm c w).2 < sp_wth mm c w) : nI w = (tgn mm c (w + 1)).1 := by
  show nI w = (sp_tg1 mm c w (tgn mm c w)).1
  unfold sp_tg1; rw [if_pos h]
theorem tg_n1 (h : ¬ (tgn mm c w).2 < sp_wth mm c w) : (tgn mm c w).1 = (tgn mm c (w + 1)).1 := by
  show _ = (sp_tg1 mm c w (tgn mm c w)).1
  unfold sp_tg1; rw [if_neg h]
theorem tg_y2 (h : (tgn mm c w).2 < sp_wth mm c w) : sp_wth mm c w = (tgn mm c (w + 1)).2 := by
  show _ = (sp_tg1 mm c w (tgn mm c w)).2
  unfold sp_tg1; rw [if_pos h]
theorem tg_n2 (h : ¬ (tgn mm c w).2 < sp_wth mm c w) : (tgn mm c w).2 = (tgn mm c (w + 1)).2 := by
  show _ = (sp_tg1 mm c w (tgn mm c w)).2
  unfold sp_tg1; rw [if_neg h]
theorem tg_orn (mm : q_Mem) (c : Nat) : ∀ n, (tgn mm c n).1 = -1 ∨ ∃ w, w < n ∧ (tgn mm c n).1 = nI w
  | 0 => Or.inl rfl
  | n + 1 => by
    by_cases h : (tgn mm c n).2 < sp_wth mm c n
    · exact Or.inr ⟨n, by omega, (tg_y1 h).symm⟩
    · rw [← tg_n1 h]
      rcases tg_orn mm c n with h1 | ⟨w, h1, h2⟩
      · exact Or.inl h1
      · exact Or.inr ⟨w, by omega, h2⟩
theorem tg_or (mm : q_Mem) (c : Nat) : sp_tg mm c = -1 ∨ ∃ w, w < sp_W mm ∧ sp_tg mm c = nI w := tg_orn mm c _
end
/-! states that differ in the reference's lists of sightings alone -/
def eqx (A B : q_Mem) : Prop := ∀ k, k ≠ 17 → k ≠ 18 → A k = B k
theorem eqx.rf (A : q_Mem) : eqx A A := fun _ _ _ => rfl
theorem eqx.sm {A B : q_Mem} (h : eqx A B) : eqx B A := fun k h1 h2 => (h k h1 h2).symm
theorem eqx.tr {A B C : q_Mem} (h : eqx A B) (h2 : eqx B C) : eqx A C := fun k a b => (h k a b).trans (h2 k a b)
theorem Inv_ext {A B : q_Mem} (h : eqx A B) (hI : Inv A) : Inv B := by
  have e1 := h 1 (by decide) (by decide); have e2 := h 2 (by decide) (by decide); have e3 := h 3 (by decide) (by decide); have e4 := h 4 (by decide) (by decide)
  have e5 := h 5 (by decide) (by decide); have e6 := h 6 (by decide) (by decide); have e7 := h 7 (by decide) (by decide); have e8 := h 8 (by decide) (by decide)
  have e9 := h 9 (by decide) (by decide); have e10 := h 10 (by decide) (by decide); have e11 := h 11 (by decide) (by decide); have e12 := h 12 (by decide) (by decide)
  have e13 := h 13 (by decide) (by decide); have e15 := h 15 (by decide) (by decide); have e16 := h 16 (by decide) (by decide); have e20 := h 20 (by decide) (by decide); have e21 := h 21 (by decide) (by decide)
  unfold Inv iv_1 iv_2 iv_3 iv_4 iv_5 iv_6 iv_7 iv_8 iv_9 iv_10 iv_11 iv_12 iv_13 sp_W sp_K sp_L sp_A at hI ⊢
  rw [← e1, ← e2, ← e3, ← e4, ← e5, ← e6, ← e7, ← e8, ← e9, ← e10, ← e11, ← e12, ← e13, ← e15, ← e16, ← e20, ← e21]
  exact hI
theorem sp_N_ext {A B : q_Mem} (h17 : B 17 = A 17) (h18 : B 18 = A 18) (h20 : B 20 = A 20) {w : Nat} (hN : sp_N A w) : sp_N B w := by
  unfold sp_N at hN ⊢
  rw [h17, h18, h20]; exact hN
theorem make_x {A B : q_Mem} (h : eqx A B) {w : Nat} {k d f : Int32} : eqx (sp_make A w k d f) (sp_make B w k d f) := by
  intro j h1 h2
  funext i
  unfold sp_make up2 sp_K sp_L
  rw [h j h1 h2, h 7 (by decide) (by decide), h 8 (by decide) (by decide), h 10 (by decide) (by decide), h 21 (by decide) (by decide)]
theorem agr_x {A B : q_Mem} (h : A 20 = B 20) {w d : Nat} : sp_agr A w d ↔ sp_agr B w d := by
  unfold sp_agr sp_ag2
  rw [h]
theorem Inv_keep {mm : q_Mem} (hI : Inv mm) {w c d q : Nat} (hw : w < sp_W mm) (hc : c < 3) (hd : d < 3) (hq : q < 100) : Inv (sp_keep mm w c d (nI q)) := by
  obtain ⟨i1, i2, i3, i4, i5, i6, i7, i8, i9, i10, i11, i12, i13⟩ := hI
  have hk : ∀ k, k ≠ 20 → sp_keep mm w c d (nI q) k = mm k := fun k hk => by funext j; exact if_neg (fun z => hk z.1)
  refine ⟨i1, i2, i3, i4, i5, i6, i7, i8, i9, i10, i11, fun v hv c2 d2 hc2 hd2 => ?_, fun v hv => ?_⟩
  · have := i12 v hv c2 d2 hc2 hd2
    show (if 20 = 20 ∧ 9 * w ≤ 9 * v + (3 * c2 + d2) ∧ 9 * v + (3 * c2 + d2) < 9 * w + 9 then _ else _) = _ ∨ ∃ r, _ ∧ (if 20 = 20 ∧ 9 * w ≤ 9 * v + (3 * c2 + d2) ∧ 9 * v + (3 * c2 + d2) < 9 * w + 9 then _ else _) = _
    by_cases h : 20 = 20 ∧ 9 * w ≤ 9 * v + (3 * c2 + d2) ∧ 9 * v + (3 * c2 + d2) < 9 * w + 9
    · rw [if_pos h]
      by_cases h2 : 9 * v + (3 * c2 + d2) - 9 * w = 3 * c + d
      · rw [if_pos h2]; exact Or.inr ⟨q, hq, rfl⟩
      · rw [if_neg h2]
        by_cases h3 : ¬ (9 * v + (3 * c2 + d2) - 9 * w) % 3 = d ∧ nI q < mm 20 (9 * v + (3 * c2 + d2))
        · rw [if_pos h3]; exact Or.inl rfl
        · rw [if_neg h3]; exact this
    · rw [if_neg h]; exact this
  · obtain ⟨a1, a2, a3⟩ := i13 v hv
    refine ⟨a1, a2, fun i hi => ?_⟩
    have hv2 : sp_W mm ≤ v := hv
    show (if 20 = 20 ∧ 9 * w ≤ 9 * v + i ∧ 9 * v + i < 9 * w + 9 then _ else _) = _
    rw [if_neg (fun z => by omega)]
    exact a3 i hi
/-! a sighting more -/
theorem ph_le {n N : Nat} {e : Nat → Nat} (h1 : ∀ i, i < n → e i < N) (h2 : ∀ i j, i < n → j < n → e i = e j → i = j) : n ≤ N := by
  have h := ct_hit (N := N) n (fun k => an_y (fun i => decide (e i = k)) n) e (fun i hi => ⟨h1 i hi, an_y_iff.mpr ⟨i, hi, decide_eq_true rfl⟩⟩) h2 (fun k _ hp => by
    obtain ⟨i, hi, e1⟩ := an_y_iff.mp hp
    exact ⟨i, hi, of_decide_eq_true e1⟩)
  rw [← h]; exact fb_ct_le _ N
section
variable {mm m2 : q_Mem} {w c d q n kp : Nat} {f g h e : Nat → Nat}
theorem sn_Kinj (hK : sn_K mm m2 w c d q f g h n n kp e) (hinj : ∀ i j, i < n → j < n → f i = f j → g i = g j → i = j) (hd : d < 3) (hc : c < 3) (hen : ∀ i, i < n → f i < 3 ∧ g i < 3) :
    ∀ i j, i < kp + 1 → j < kp + 1 → (if i < kp then f (e i) else c) = (if j < kp then f (e j) else c) → (if i < kp then g (e i) else d) = (if j < kp then g (e j) else d) → i = j := by
  obtain ⟨k1, k2, k3, k4, k5, k6⟩ := hK
  intro i j hi hj h1 h2
  have go : ∀ i, i < kp → ¬ (f (e i) = c ∧ g (e i) = d) := fun i hi z => (k4 i hi).2.1 (sn_g1 z.2 z.1)
  by_cases a : i < kp
  · by_cases b : j < kp
    · rw [if_pos a, if_pos b] at h1 h2
      have := hinj _ _ (k4 i a).1 (k4 j b).1 h1 h2
      rcases Nat.lt_trichotomy i j with z | z | z
      · have := k6 i j z b; omega
      · exact z
      · have := k6 j i z a; omega
    · rw [if_pos a, if_neg b] at h1 h2
      exact absurd ⟨h1, h2⟩ (go i a)
  · by_cases b : j < kp
    · rw [if_neg a, if_pos b] at h1 h2
      exact absurd ⟨h1.symm, h2.symm⟩ (go j b)
    · omega
theorem sn_K8 (hK : sn_K mm m2 w c d q f g h n n kp e) (hinj : ∀ i j, i < n → j < n → f i = f j → g i = g j → i = j) (hd : d < 3) (hc : c < 3) (hen : ∀ i, i < n → f i < 3 ∧ g i < 3) : kp ≤ 8 := by
  have hi := sn_Kinj hK hinj hd hc hen
  obtain ⟨k1, k2, k3, k4, k5, k6⟩ := hK
  have h3 : ∀ i, i < kp + 1 → (if i < kp then f (e i) else c) < 3 ∧ (if i < kp then g (e i) else d) < 3 := by
    intro i _
    by_cases a : i < kp
    · rw [if_pos a, if_pos a]; exact hen _ (k4 i a).1
    · rw [if_neg a, if_neg a]; exact ⟨hc, hd⟩
  have := ph_le (n := kp + 1) (N := 9) (e := fun i => 3 * (if i < kp then f (e i) else c) + (if i < kp then g (e i) else d)) (fun i hi => by have := h3 i hi; show 3 * _ + _ < 9; omega) (fun i j a b z => by
    obtain ⟨z1, z2⟩ := pl_inj (h3 i a).2 (h3 j b).2 z
    exact hi i j a b z1 z2)
  omega
/-- the numbers behind a sighting that is kept -/
def sn_see (mm m2 : q_Mem) (w c d q kp : Nat) : q_Mem := fun k => if k = 20 then sp_keep mm w c d (nI q) 20 else (up2 (up2 (up2 m2 17 w (nI kp)) 18 (9 * w + kp) (sp_S c d q)) 17 w (nI (kp + 1))) k
theorem sn_see20 : sn_see mm m2 w c d q kp 20 = sp_keep mm w c d (nI q) 20 := rfl
theorem sn_see18 {j : Nat} : sn_see mm m2 w c d q kp 18 j = if j = 9 * w + kp then sp_S c d q else m2 18 j := by
  show (if 18 = 17 ∧ j = w then nI (kp + 1) else if 18 = 18 ∧ j = 9 * w + kp then sp_S c d q else if 18 = 17 ∧ j = w then nI kp else m2 18 j) = _
  rw [if_neg (fun z => absurd z.1 (by decide)), if_neg (c := 18 = 17 ∧ j = w) (fun z => absurd z.1 (by decide))]
  by_cases z : j = 9 * w + kp
  · rw [if_pos ⟨rfl, z⟩, if_pos z]
  · rw [if_neg (fun y => z y.2), if_neg z]
theorem sn_see17 {j : Nat} (hK : sn_K mm m2 w c d q f g h n n kp e) : sn_see mm m2 w c d q kp 17 j = if j = w then nI (kp + 1) else mm 17 j := by
  show (if 17 = 17 ∧ j = w then nI (kp + 1) else if 17 = 18 ∧ j = 9 * w + kp then sp_S c d q else if 17 = 17 ∧ j = w then nI kp else m2 17 j) = _
  by_cases z : j = w
  · rw [if_pos ⟨rfl, z⟩, if_pos z]
  · rw [if_neg (fun y => z y.2), if_neg (fun y => absurd y.1 (by decide)), if_neg (fun y => z y.2), if_neg z, hK.2.1 17 (by decide)]
theorem sn_seex (hK : sn_K mm m2 w c d q f g h n n kp e) : eqx (sn_see mm m2 w c d q kp) (sp_keep mm w c d (nI q)) := by
  intro k h1 h2
  by_cases z : k = 20
  · subst z; rfl
  · funext j
    unfold sn_see
    rw [if_neg z, up2_k h1, up2_k h2, up2_k h1, hK.2.1 k h2]
    exact (if_neg (fun y => z y.1)).symm
theorem kp_20 {v i : Nat} (hi : i < 9) : sp_keep mm w c d (nI q) 20 (9 * v + i) = if v = w then (if i = 3 * c + d then nI q else if ¬ i % 3 = d ∧ nI q < mm 20 (9 * w + i) then -1 else mm 20 (9 * w + i)) else mm 20 (9 * v + i) := by
  show (if 20 = 20 ∧ 9 * w ≤ 9 * v + i ∧ 9 * v + i < 9 * w + 9 then (if 9 * v + i - 9 * w = 3 * c + d then _ else if ¬ (9 * v + i - 9 * w) % 3 = d ∧ _ < mm 20 (9 * v + i) then _ else mm 20 (9 * v + i)) else mm 20 (9 * v + i)) = _
  by_cases z : v = w
  · subst z
    rw [if_pos ⟨rfl, by omega, by omega⟩, if_pos rfl, show 9 * v + i - 9 * v = i by omega]
  · rw [if_neg (fun y => by omega), if_neg z]
theorem sn_seeN (hK : sn_K mm m2 w c d q f g h n n kp e) (hc : c < 3) (hd : d < 3) (hq : q < 100) (hen : ∀ i, i < n → f i < 3 ∧ g i < 3 ∧ h i < 100 ∧ mm 18 (9 * w + i) = sp_S (f i) (g i) (h i) ∧ mm 20 (9 * w + (3 * f i + g i)) = nI (h i))
    (hall : ∀ c d, c < 3 → d < 3 → mm 20 (9 * w + (3 * c + d)) = -1 ∨ ∃ i, i < n ∧ f i = c ∧ g i = d) (hinj : ∀ i j, i < n → j < n → f i = f j → g i = g j → i = j) : sp_N (sn_see mm m2 w c d q kp) w := by
  have hk8 := sn_K8 hK hinj hd hc (fun i hi => ⟨(hen i hi).1, (hen i hi).2.1⟩)
  have hij := sn_Kinj hK hinj hd hc (fun i hi => ⟨(hen i hi).1, (hen i hi).2.1⟩)
  have h17 := sn_see17 (j := w) hK
  rw [if_pos rfl] at h17
  obtain ⟨k1, k2, k3, k4, k5, k6⟩ := hK
  refine ⟨kp + 1, fun i => if i < kp then f (e i) else c, fun i => if i < kp then g (e i) else d, fun i => if i < kp then h (e i) else q, by omega, h17, fun i hi => ?_, fun c2 d2 hc2 hd2 => ?_, hij⟩
  · dsimp only
    by_cases a : i < kp
    · rw [if_pos a, if_pos a, if_pos a]
      obtain ⟨b1, b2, b3⟩ := k4 i a
      obtain ⟨e1, e2, e3, e4, e5⟩ := hen _ b1
      refine ⟨e1, e2, e3, ?_, ?_⟩
      · rw [sn_see18, if_neg (by omega), b3, e4]
      · rw [sn_see20, kp_20 (by omega), if_pos rfl]
        have hne : ¬ 3 * f (e i) + g (e i) = 3 * c + d := fun z => by
          obtain ⟨z1, z2⟩ := pl_inj e2 hd z
          exact b2 (sn_g1 z2 z1)
        rw [if_neg hne, if_neg (fun z => ?_), e5]
        rw [show (3 * f (e i) + g (e i)) % 3 = g (e i) by omega, e5] at z
        exact b2 (sn_g3 z.1 ((nI_ltI (by omega) (by omega)).mp z.2))
    · rw [if_neg a, if_neg a, if_neg a]
      have : i = kp := by omega
      subst this
      exact ⟨hc, hd, hq, by rw [sn_see18, if_pos rfl], by rw [sn_see20, kp_20 (by omega), if_pos rfl, if_pos rfl]⟩
  · rw [sn_see20, kp_20 (by omega), if_pos rfl]
    by_cases z : 3 * c2 + d2 = 3 * c + d
    · obtain ⟨z1, z2⟩ := pl_inj hd2 hd z
      exact Or.inr ⟨kp, by omega, by dsimp only; rw [if_neg (by omega)]; exact z1.symm, by dsimp only; rw [if_neg (by omega)]; exact z2.symm⟩
    · rw [if_neg z]
      by_cases y : ¬ (3 * c2 + d2) % 3 = d ∧ nI q < mm 20 (9 * w + (3 * c2 + d2))
      · rw [if_pos y]; exact Or.inl rfl
      · rw [if_neg y]
        rcases hall c2 d2 hc2 hd2 with x | ⟨i, hi, x1, x2⟩
        · exact Or.inl x
        · refine Or.inr ?_
          obtain ⟨e1, e2, e3, e4, e5⟩ := hen i hi
          have hng : ¬ sn_goes c d q f g h i := by
            by_cases u : g i = d
            · exact sn_g2 u (fun t => z (by rw [← x1, ← x2, t, u]))
            · refine sn_g4 u (fun t => y ⟨by omega, ?_⟩)
              rw [← x1, ← x2, e5]
              exact nI_lt t (by omega)
          obtain ⟨j, hj, e6⟩ := k5 i hi hng
          exact ⟨j, by omega, by dsimp only; rw [if_pos hj, e6]; exact x1, by dsimp only; rw [if_pos hj, e6]; exact x2⟩
theorem sn_seeO (hK : sn_K mm m2 w c d q f g h n n kp e) (hk8 : kp ≤ 8) {v : Nat} (hv : v ≠ w) (hN : sp_N mm v) : sp_N (sn_see mm m2 w c d q kp) v := by
  have h17 := sn_see17 (j := v) hK
  rw [if_neg hv] at h17
  obtain ⟨n2, f2, g2, h2, q1, q2, q3, q4, q5⟩ := hN
  obtain ⟨k1, k2, k3, k4, k5, k6⟩ := hK
  refine ⟨n2, f2, g2, h2, q1, h17.trans q2, fun i hi => ?_, fun c2 d2 hc2 hd2 => ?_, q5⟩
  · obtain ⟨a1, a2, a3, a4, a5⟩ := q3 i hi
    refine ⟨a1, a2, a3, ?_, ?_⟩
    · rw [sn_see18, if_neg (by omega), k3 _ (by omega), a4]
    · rw [sn_see20, kp_20 (by omega), if_neg hv, a5]
  · rw [sn_see20, kp_20 (by omega), if_neg hv]; exact q4 c2 d2 hc2 hd2
end
/-- the numbers behind a sign that two cars agree on -/
def sn_fg (mm : q_Mem) (w : Nat) : q_Mem := fun k => if k = 20 then sp_forg mm w 20 else up2 mm 17 w 0 k
theorem fg_20 {mm : q_Mem} {w v i : Nat} (hi : i < 9) : sp_forg mm w 20 (9 * v + i) = if v = w then -1 else mm 20 (9 * v + i) := by
  show (if 20 = 20 ∧ 9 * w ≤ 9 * v + i ∧ 9 * v + i < 9 * w + 9 then _ else _) = _
  by_cases z : v = w
  · subst z; rw [if_pos ⟨rfl, by omega, by omega⟩, if_pos rfl]
  · rw [if_neg (fun y => by omega), if_neg z]
theorem sn_fgN {mm : q_Mem} {w v : Nat} (hN : v ≠ w → sp_N mm v) : sp_N (sn_fg mm w) v := by
  by_cases z : v = w
  · subst z
    refine ⟨0, id, id, id, by decide, ?_, fun i hi => absurd hi (Nat.not_lt_zero i), fun c d hc hd => Or.inl ?_, fun i j hi => absurd hi (Nat.not_lt_zero i)⟩
    · show up2 mm 17 v 0 17 v = nI 0
      rw [up2_s]; rfl
    · show sp_forg mm v 20 _ = _
      rw [fg_20 (by omega), if_pos rfl]
  · obtain ⟨n2, f2, g2, h2, q1, q2, q3, q4, q5⟩ := hN z
    refine ⟨n2, f2, g2, h2, q1, ?_, fun i hi => ?_, fun c2 d2 hc2 hd2 => ?_, q5⟩
    · show up2 mm 17 w 0 17 v = _
      rw [up2_i z]; exact q2
    · obtain ⟨a1, a2, a3, a4, a5⟩ := q3 i hi
      refine ⟨a1, a2, a3, a4, ?_⟩
      show sp_forg mm w 20 _ = _
      rw [fg_20 (by omega), if_neg z, a5]
    · have e : sn_fg mm w 20 (9 * v + (3 * c2 + d2)) = mm 20 (9 * v + (3 * c2 + d2)) := by
        show sp_forg mm w 20 _ = _
        rw [fg_20 (by omega), if_neg z]
      rw [e]; exact q4 c2 d2 hc2 hd2
theorem sS_mk {c d q : Nat} : nI c + 4 * nI d + 16 * nI q = sp_S c d q := by
  rw [show (4 : Int32) = nI 4 from rfl, show (16 : Int32) = nI 16 from rfl, pk_mul, pk_mul, nI_add, nI_add]; rfl
section
variable {mm m5 : q_Mem} {x y z q : Int32} {c w d qi : Nat} {r v : Int32}
theorem see_no (h : sp_see mm x y z q = (r, up2 mm 19 0 v)) (hN : ∀ w, w < 40 → sp_N mm w) : r = (sp_see mm x y z q).1 ∧ eqx (up2 mm 19 0 v) (sp_see mm x y z q).2 ∧ ∀ w, w < 40 → sp_N (up2 mm 19 0 v) w := by
  rw [h]; exact ⟨rfl, eqx.rf _, fun w hw => sp_N_ext (up2_k (by decide)) (up2_k (by decide)) (up2_k (by decide)) (hN w hw)⟩
theorem see_cd (hx : eqx m5 (sp_keep (up2 mm 19 0 0) w c d (nI qi))) : (¬ sp_vd (m5 11 (sp_L m5 w)) = nI d ∧ sp_agr m5 w d) ↔ (¬ sp_vd ((up2 mm 19 0 0) 11 (sp_L (up2 mm 19 0 0) w)) = nI d ∧ sp_agr (sp_keep (up2 mm 19 0 0) w c d (nI qi)) w d) := by
  have e11 : m5 11 = mm 11 := (hx 11 (by decide) (by decide)).trans (by funext j; rfl)
  have eL : sp_L m5 w = sp_L mm w := by unfold sp_L; rw [hx 8 (by decide) (by decide)]; rfl
  rw [agr_x (hx 20 (by decide) (by decide)), e11, eL]
  rfl
theorem see_yes (hE : sp_see mm x y z q = sp_see0 (up2 mm 19 0 0) c w d (nI qi)) (hx : eqx m5 (sp_keep (up2 mm 19 0 0) w c d (nI qi))) (hN : ∀ w, w < 40 → sp_N m5 w) (hC : ¬ sp_vd (m5 11 (sp_L m5 w)) = nI d ∧ sp_agr m5 w d) :
    1 = (sp_see mm x y z q).1 ∧ eqx (sn_fg (sp_make m5 w (sp_vk (m5 11 (sp_L m5 w))) (nI d) (-1)) w) (sp_see mm x y z q).2 ∧ ∀ v, v < 40 → sp_N (sn_fg (sp_make m5 w (sp_vk (m5 11 (sp_L m5 w))) (nI d) (-1)) w) v := by
  have hC2 := (see_cd hx).mp hC
  have e11 : m5 11 = mm 11 := (hx 11 (by decide) (by decide)).trans (by funext j; rfl)
  have eL : sp_L m5 w = sp_L mm w := by unfold sp_L; rw [hx 8 (by decide) (by decide)]; rfl
  rw [hE, sp_see0, if_pos hC2, e11, eL]
  refine ⟨rfl, fun k h1 h2 => ?_, fun v hv => sn_fgN (fun _ => sp_N_ext rfl rfl rfl (hN v hv))⟩
  have hm := make_x (w := w) (k := sp_vk (mm 11 (sp_L mm w))) (d := nI d) (f := -1) hx
  by_cases z : k = 20
  · subst z
    show sp_forg _ w 20 = sp_forg _ w 20
    funext j
    unfold sp_forg
    rw [hm 20 (by decide) (by decide)]
    rfl
  · funext j
    unfold sn_fg
    rw [if_neg z, up2_k h1, hm k h1 h2]
    exact (if_neg (fun y => z y.1)).symm
theorem see_not (hE : sp_see mm x y z q = sp_see0 (up2 mm 19 0 0) c w d (nI qi)) (hx : eqx m5 (sp_keep (up2 mm 19 0 0) w c d (nI qi))) (hN : ∀ w, w < 40 → sp_N m5 w) (hC : ¬ (¬ sp_vd (m5 11 (sp_L m5 w)) = nI d ∧ sp_agr m5 w d)) :
    0 = (sp_see mm x y z q).1 ∧ eqx m5 (sp_see mm x y z q).2 ∧ ∀ v, v < 40 → sp_N m5 v := by
  rw [hE, sp_see0, if_neg (fun h => hC ((see_cd hx).mpr h))]
  exact ⟨rfl, hx, hN⟩
end
end
section
/-! ===== the class's objects: ad k i where they lie (k 0: the map itself, its list, trusts, cars' places, tiles, the list's row; 1 ways, 2 their doubts, 3 versions, 4 their changes, 5 changes that wait, 6 tiles); what they hold, by the same numbers mm ===== -/
abbrev k_Ad : Type := Nat → Nat → Nat
abbrev k_Ct : Type := Nat → Nat → Option va_E
/-- the tables: classes and slots; the array classes of ints, tiles, objects; where the empty row lies; where the zooms' first tiles lie; texts; the class object of rows of objects -/
abbrev k_G : Type := va_G × ClassId × ClassId × ClassId × Nat × Nat × (Nat → Nat) × Nat
def k_ty (G : k_G) : List (ClassId × FieldType) := [(G.2.1, .int), (G.2.2.1, .object "SignTiles$Tile"), (G.2.2.2.1, .object "java/lang/Object")]
def k_rf (b : Prop) [Decidable b] (a : Nat) : Value := if b then .null else .ref a
def k_cp (n : Nat) : Nat := if n ≤ 10 then 10 else if n ≤ 15 then 15 else if n ≤ 22 then 22 else if n ≤ 33 then 33 else 49
def k_mp (ad : k_Ad) (mm : q_Mem) : List Value := [.ref (ad 0 1), .ref (ad 0 2), .ref (ad 0 3), .ref (ad 0 4), .ref (ad 0 5), .int (mm 10 0)]
def k_li (G : k_G) (ad : k_Ad) (mm : q_Mem) : List Value := [.int (mm 1 0), .ref (if sp_W mm = 0 then G.2.2.2.2.1 else ad 0 6), .int (mm 1 0)]
def k_wy (ad : k_Ad) (mm : q_Mem) (i : Nat) : List Value := [.int (mm 2 i), .int (mm 3 i), .int (mm 4 i), .int (mm 5 i), .int (mm 6 i), .ref (ad 3 (sp_L mm i)), k_rf (mm 9 i = -1) (ad 5 i), .ref (ad 2 i)]
def k_vs (ad : k_Ad) (mm : q_Mem) (j : Nat) : List Value := [.ref (ad 4 j), .int (nI (j + 1)), .int (mm 21 j), k_rf (mm 12 j = -1) (ad 3 (sp_A mm j))]
def k_ch (v : Int32) : List Value := [.int (sp_vk v), .int (sp_vd v), .int (sp_ve v)]
def k_wc (v : Int32) : List Value := [.int (v / 100), .int (sp_vd v), .int (sp_ve v)]
def k_tl (mm : q_Mem) (t : Nat) : List Value := [.int (nI (tz_t t)), .int (sp_sd (nI (tz_t t)) * nI (tx_t t)), .int (sp_sd (nI (tz_t t)) * (nI (tx_t t) + 1)), .int (sp_sd (nI (tz_t t)) * nI (ty_t t)), .int (sp_sd (nI (tz_t t)) * (nI (ty_t t) + 1)), .int (mm 13 t - 1), .int (mm 14 t)]
def k_tr (ad : k_Ad) (mm : q_Mem) (t : Nat) : Option Nat := if mm 13 t = 0 then none else some (ad 6 t)
def k_er (ad : k_Ad) (mm : q_Mem) (i : Nat) : Option Nat := if i < sp_W mm then some (ad 1 i) else none
def k_db (mm : q_Mem) (i : Nat) (j : Nat) : Int32 := if j < 9 then mm 20 (9 * i + j) else 0
def k_C (G : k_G) (ad : k_Ad) (mm : q_Mem) : k_Ct := fun k i => match k with
  | 0 => (match i with
    | 0 => some (.inr (5, k_mp ad mm))
    | 1 => some (.inr (0, k_li G ad mm))
    | 2 => some (.inl (G.2.1, 6, .inl (mm 0)))
    | 3 => some (.inl (G.2.1, 3, .inl (mm 15)))
    | 4 => some (.inl (G.2.1, 3, .inl (mm 16)))
    | 5 => some (.inl (G.2.2.1, 341, .inr (.inr (.inr (.inr (k_tr ad mm))))))
    | 6 => if sp_W mm = 0 then none else some (.inl (G.2.2.2.1, k_cp (sp_W mm), .inr (.inr (.inr (.inr (k_er ad mm))))))
    | _ => none)
  | 1 => if i < sp_W mm then some (.inr (4, k_wy ad mm i)) else none
  | 2 => if i < sp_W mm then some (.inl (G.2.1, 9, .inl (k_db mm i))) else none
  | 3 => if i < sp_K mm then some (.inr (3, k_vs ad mm i)) else none
  | 4 => if i < sp_K mm then some (.inr (1, k_ch (mm 11 i))) else none
  | 5 => if i < sp_W mm ∧ ¬ mm 9 i = -1 then some (.inr (1, k_wc (mm 9 i))) else none
  | 6 => if i < 341 ∧ ¬ mm 13 i = 0 then some (.inr (2, k_tl mm i)) else none
  | _ => none
section
variable {G : k_G} {ad : k_Ad} {mm : q_Mem} {i : Nat}
theorem kc_w (h : i < sp_W mm) : k_C G ad mm 1 i = some (.inr (4, k_wy ad mm i)) := if_pos h
theorem kc_d (h : i < sp_W mm) : k_C G ad mm 2 i = some (.inl (G.2.1, 9, .inl (k_db mm i))) := if_pos h
theorem kc_v (h : i < sp_K mm) : k_C G ad mm 3 i = some (.inr (3, k_vs ad mm i)) := if_pos h
theorem kc_c (h : i < sp_K mm) : k_C G ad mm 4 i = some (.inr (1, k_ch (mm 11 i))) := if_pos h
theorem kc_q (h : i < sp_W mm) (h2 : ¬ mm 9 i = -1) : k_C G ad mm 5 i = some (.inr (1, k_wc (mm 9 i))) := if_pos ⟨h, h2⟩
theorem kc_t (h : i < 341) (h2 : ¬ mm 13 i = 0) : k_C G ad mm 6 i = some (.inr (2, k_tl mm i)) := if_pos ⟨h, h2⟩
theorem kc_e (h : ¬ sp_W mm = 0) : k_C G ad mm 0 6 = some (.inl (G.2.2.2.1, k_cp (sp_W mm), .inr (.inr (.inr (.inr (k_er ad mm)))))) := if_neg h
end
def k_H (G : k_G) (ad : k_Ad) (ct : k_Ct) (H : Heap) : Prop := ∀ k i e, ct k i = some e → va_at G.1 vwCl (ad k i, e) H
/-- the cells are apart, and in Z -/
def k_N (Z : Nat → Prop) (ad : k_Ad) (ct : k_Ct) : Prop := (∀ k i k2 i2 e e2, ct k i = some e → ct k2 i2 = some e2 → ad k i = ad k2 i2 → k = k2 ∧ i = i2) ∧ ∀ k i e, ct k i = some e → Z (ad k i)
def k_up (ct : k_Ct) (k i : Nat) (e : va_E) : k_Ct := fun a b => if a = k ∧ b = i then some e else ct a b
/-- the texts of exceptions -/
def k_strs : List (Nat × String) := [(60, "length or kind is out of range"), (75, "there is no room for a way"), (103, "kind or direction is out of range"), (111, "there is nothing to change"), (127, "this editor has nothing to judge here"), (142, "there is nothing to revert"), (147, "this editor can't revert it"), (153, "guard is out of range"), (214, "direction or doubt is out of range"), (219, "the car sees no sign of this way"), (239, "the car has no target"), (261, "there is no such editor"), (264, "there is no such crossing"), (266, "there is no such car"), (268, "there is no such zoom"), (270, "there is no such way"), (279, "there is no such version"), (292, "there is no such tile"), (294, "the tile was not drawn")]
def k_ngs : List Cond := [.castable "java/lang/IllegalArgumentException" "java/lang/IllegalArgumentException", .castable "java/lang/IllegalStateException" "java/lang/IllegalStateException", .castable "java/lang/IndexOutOfBoundsException" "java/lang/IndexOutOfBoundsException", .declares (Bundle.initS "java/lang/RuntimeException"), .declares (Bundle.initS "java/lang/Exception"), .declares (Bundle.initS Bundle.tN)]
theorem k_ng_t : ∀ w ∈ k_ngs, w.onTables = true := by decide +kernel
theorem k_ng_warm {s U : State} (hW : s.WarmedH U.vm) : ∀ w ∈ k_ngs, va_Nw w s → va_Nw w U := by
  intro w hw h
  unfold k_ngs at hw
  simp only [List.mem_cons, List.not_mem_nil, or_false] at hw
  rcases hw with rfl | rfl | rfl | rfl | rfl | rfl
  · exact va_Nw.warmC hW h
  · exact va_Nw.warmC hW h
  · exact va_Nw.warmC hW h
  · exact va_Nw.warmD hW h
  · exact va_Nw.warmD hW h
  · exact va_Nw.warmD hW h
/-- what the tables say beside the words -/
def k_P (G : k_G) (U : State) : Prop := va_Nw (.methodLinkNest RX3 61 yX4_distance RX4) U ∧ (∀ q ∈ k_strs, vk_R RX4 q.1 q.2 (G.2.2.2.2.2.2.1 q.1) U) ∧ va_Mi "[Ljava/lang/Object;" G.2.2.2.2.2.2.2 U ∧ va_Dc U ∧ va_AO "java/lang/Object" U ∧ va_AO "SignTiles$Tile" U ∧ ∀ w ∈ k_ngs, va_Nw w U
theorem k_P.warm {G : k_G} {s U : State} (hW : s.WarmedH U.vm) (h : k_P G s) : k_P G U := ⟨va_Nw.warmM hW h.1, fun q hq => vk_R.warm hW (h.2.1 q hq), h.2.2.1.moved hW.alike, h.2.2.2.1.moved hW.alike, h.2.2.2.2.1.moved hW.alike, h.2.2.2.2.2.1.moved hW.alike, fun w hw => k_ng_warm hW w hw (h.2.2.2.2.2.2 w hw)⟩
def k_first (j : Nat) : Int32 := nI (tb_z j)
/-- statics and what they hold -/
def k_T (G : k_G) (Z : Nat → Prop) (U : State) (H : Heap) : Prop := vx_Zq Bundle.tN "UNASSIGNED_STACK" Bundle.steD Z U H ∧ vx_Zq Bundle.tN "SUPPRESSED_SENTINEL" Bundle.listD Z U H ∧
  (va_Z RX4 "FIRST_TILES" "[I" (.ref G.2.2.2.2.2.1) Z U H ∧ va_at G.1 vwCl (G.2.2.2.2.2.1, .inl (G.2.1, 5, .inl k_first)) H ∧ ¬ Z G.2.2.2.2.2.1) ∧
  (va_Z RJx4a65c "DEFAULTCAPACITY_EMPTY_ELEMENTDATA" "[Ljava/lang/Object;" (.ref G.2.2.2.2.1) Z U H ∧ va_at G.1 vwCl (G.2.2.2.2.1, .inl (G.2.2.2.1, 0, .inr (.inr (.inr (.inr (fun _ => none)))))) H ∧ ¬ Z G.2.2.2.2.1) ∧ ∀ q, H.size ≤ q → Z q
theorem k_T.moved {G : k_G} {Z : Nat → Prop} {u U : State} {H : Heap} (hvm : u.vm.Alike U.vm) (h : k_T G Z u H) : k_T G Z U H := ⟨h.1.moved hvm, h.2.1.moved hvm, ⟨h.2.2.1.1.moved hvm, h.2.2.1.2⟩, ⟨h.2.2.2.1.1.moved hvm, h.2.2.2.1.2⟩, h.2.2.2.2⟩
theorem k_T.kept {G : k_G} {Z : Nat → Prop} {U : State} {H H1 : Heap} (h : k_T G Z U H) (hz : H.size ≤ H1.size) (hq : ∀ a : Nat, a < H.size → ¬ Z a → H1[a]? = H[a]?) : k_T G Z U H1 :=
  ⟨h.1.kept hq, h.2.1.kept hq, ⟨h.2.2.1.1.kept hq, h.2.2.1.2.1.kept (hq _ h.2.2.1.2.1.lt h.2.2.1.2.2), h.2.2.1.2.2⟩, ⟨h.2.2.2.1.1.kept hq, h.2.2.2.1.2.1.kept (hq _ h.2.2.2.1.2.1.lt h.2.2.2.1.2.2), h.2.2.2.1.2.2⟩, fun q h3 => h.2.2.2.2 q (Nat.le_trans hz h3)⟩
/-- what is read; Z, where the class may have its cells -/
def k_R (G : k_G) (Z : Nat → Prop) (ad : k_Ad) (mm : q_Mem) : State → Prop := fun U => k_H G ad (k_C G ad mm) U.heap ∧ va_K G.1 vwCl (k_ty G) U ∧ k_P G U ∧ k_T G Z U U.heap
/-- the same where it is changed, and whatever the cells hold -/
def k_M (G : k_G) (Z : Nat → Prop) (ad : k_Ad) (ct : k_Ct) : State → Prop := fun U => (k_H G ad ct U.heap ∧ k_N Z ad ct) ∧ va_K G.1 vwCl (k_ty G) U ∧ k_P G U ∧ k_T G Z U U.heap
/-- what is left behind -/
def k_B (G : k_G) (Z : Nat → Prop) (u : k_Ad × k_Ct) : State → Prop := fun U => k_H G u.1 u.2 U.heap ∧ k_N Z u.1 u.2 ∧ va_K G.1 vwCl (k_ty G) U
def bl_V (B : State → Prop) : Prop := ∀ (U V : State), U.heap = V.heap → U.vm = V.vm → B U → B V
theorem bl_blindV {As : List Value} {B : State → Prop} (h : bl_V B) : FrameBlind (va_Pc As B) := fun a U g mk q => ⟨q.1, h U (U.calling g mk a) rfl rfl q.2⟩
theorem k_P.same {G : k_G} {u U : State} (hv : u.vm = U.vm) (h : k_P G u) : k_P G U := ⟨h.1.same rfl hv, fun q hq => vk_R.same hv.symm (h.2.1 q hq), h.2.2.1.moved (by rw [hv]; exact Vm.Alike.refl _), h.2.2.2.1.moved (by rw [hv]; exact Vm.Alike.refl _), h.2.2.2.2.1.moved (by rw [hv]; exact Vm.Alike.refl _), h.2.2.2.2.2.1.moved (by rw [hv]; exact Vm.Alike.refl _), fun w hw => (h.2.2.2.2.2.2 w hw).same (k_ng_t w hw) hv⟩
theorem k_R.bl {G : k_G} {Z : Nat → Prop} {ad : k_Ad} {mm : q_Mem} : bl_V (k_R G Z ad mm) := fun U V hh hv h => ⟨by rw [← hh]; exact h.1, h.2.1.moved (by rw [hv]; exact Vm.Alike.refl _), h.2.2.1.same hv, by rw [← hh]; exact h.2.2.2.moved (by rw [hv]; exact Vm.Alike.refl _)⟩
theorem k_M.bl {G : k_G} {Z : Nat → Prop} {ad : k_Ad} {ct : k_Ct} : bl_V (k_M G Z ad ct) := fun U V hh hv h => ⟨by rw [← hh]; exact h.1, h.2.1.moved (by rw [hv]; exact Vm.Alike.refl _), h.2.2.1.same hv, by rw [← hh]; exact h.2.2.2.moved (by rw [hv]; exact Vm.Alike.refl _)⟩
theorem k_M.call {G : k_G} {Z : Nat → Prop} {ad : k_Ad} {ct : k_Ct} {s U : State} {H : Heap} {locs : List Loc} (hM : k_H G ad ct H) (hN : k_N Z ad ct) (hK : va_K G.1 vwCl (k_ty G) s) (hP : k_P G s) (hT : k_T G Z s s.heap) (hS : va_S Z s.heap H locs) (hU : U.heap = H) (hW : s.WarmedH U.vm) : k_M G Z ad ct U :=
  ⟨⟨by rw [hU]; exact hM, hN⟩, hK.moved hW.alike, hP.warm hW, by rw [hU]; exact (hT.kept hS.1 hS.2.1).moved hW.alike⟩
theorem k_H.kept {G : k_G} {ad : k_Ad} {ct : k_Ct} {H H1 : Heap} (h : k_H G ad ct H) (hq : ∀ q : Nat, q < H.size → H1[q]? = H[q]?) : k_H G ad ct H1 := fun k i e he => (h k i e he).kept (hq _ (h k i e he).lt)
theorem k_R.call {G : k_G} {Z : Nat → Prop} {ad : k_Ad} {mm : q_Mem} {s U : State} {H : Heap} {locs : List Loc} (hM : k_H G ad (k_C G ad mm) H) (hK : va_K G.1 vwCl (k_ty G) s) (hP : k_P G s) (hT : k_T G Z s s.heap) (hS : va_S Z s.heap H locs) (hU : U.heap = H) (hW : s.WarmedH U.vm) : k_R G Z ad mm U :=
  ⟨by rw [hU]; exact hM, hK.moved hW.alike, hP.warm hW, by rw [hU]; exact (hT.kept hS.1 hS.2.1).moved hW.alike⟩
theorem k_one {D : va_G} {q : Nat × va_E} {H : Heap} (h : va_at D vwCl q H) : va_P D vwCl [q] H := mo_one h
section
variable {p : Program} {l : Launch} {e : Env} {R : Room} {s : State} {m : MethodId} {args : Array Value} {below : List Frame} {meth : Method} {c : Code} {H : Heap} {locs : List Loc} {cells slots : Nat} {Q : State → Prop}
variable {cc : ByteArray} {pc nL : Nat} {ls : Array Slot} {rest st0 : List Value} {D : va_G} {A : Nat → Prop} {H0 : Heap} {own : String} {a : Nat} {tys : List (ClassId × FieldType)}
variable {G : k_G} {ad : k_Ad} {ct : k_Ct}
/-- one cell's field -/
theorem g_get (hF : CallFix p m c cc nL s args wsL_law own) (hK : va_K D vwCl tys s) {idx ci N : Nat} {C ref : String} {T : u_T} {fs : List Value} (hM : va_at D vwCl (a, .inr (ci, fs)) H) (hc : vwCl[ci]? = some (C, T, N)) (hin : ∀ w ∈ u_ws C T N, w ∈ wsL_law) (k : Nat) (hk : k < N) (hT : (T k).1 = ref) (hlink : Cond.fieldLink own idx ref (T k).2.1 (T k).2.2.1 ∈ wsL_law) {v : Value} (hv : fs[k]? = some v) (hdg : decode cc pc = .ok (.getfield idx, 3))
    (kk : W p l e R s m args below meth c H locs cells slots Q (F0 m (pc + 3) ls (v :: rest))) : W p l e R s m args below meth c H locs cells slots Q (F0 m pc ls (.ref a :: rest)) :=
  va_get hF.1 hF.2.1 hF.2.2.2.2 hin hF.2.2.2.1 hK (mo_one hM) 0 rfl hc k hk (hF.2.2.2.2 _ hlink) (fun x h => by rw [hT] at h; exact h) hv hdg kk
theorem g_put (hF : CallFix p m c cc nL s args wsL_law own) (hK : va_K D vwCl tys s) {idx ci N : Nat} {C ref : String} {T : u_T} {fs : List Value} (hM : va_at D vwCl (a, .inr (ci, fs)) H) (hc : vwCl[ci]? = some (C, T, N)) (hin : ∀ w ∈ u_ws C T N, w ∈ wsL_law) (ty0 : Nat → FieldType) (hty : ∀ k, k < N → parseFieldDescriptor (T k).2.2.1 = some (ty0 k)) (hnm : ∀ a, a < N → ∀ b, b < N → a ≠ b → (T a).2.1 ≠ (T b).2.1)
    (k : Nat) (hk : k < N) (hT : (T k).1 = ref) (hlink : Cond.fieldLink own idx ref (T k).2.1 (T k).2.2.1 ∈ wsL_law) (hfin : (T k).2.2.2 = false) {v : Value} (hn : narrow (ty0 k) v = v) (hfit : fits (ty0 k) v = true) (hl : k < fs.length) (hdg : decode cc pc = .ok (.putfield idx, 3))
    (kk : ∀ (H1 : Heap) (j : Nat), va_at D vwCl (a, .inr (ci, fs.set k v)) H1 → H1.size = H.size → (∀ q : Nat, q ≠ a → H1[q]? = H[q]?) → W p l e R s m args below meth c H1 (locs ++ [⟨a, j⟩]) cells slots Q (F0 m (pc + 3) ls rest)) : W p l e R s m args below meth c H locs cells slots Q (F0 m pc ls (v :: .ref a :: rest)) := by
  obtain ⟨hx, hb, -, hown, hw⟩ := hF
  have hap := va_apart (own := own) hw hin ty0 hty hnm hK hc
  obtain ⟨r, h1, cell, q1, q2, q3, q4⟩ := hM
  have hr : r = (C, T, N) := Option.some.inj (h1.symm.trans hc)
  subst hr
  obtain ⟨hSl, hfc, kC, hkC, hkind⟩ := hK.1 ci _ hc
  obtain ⟨cf, kf, fi, f, hi, hsl⟩ := hSl k hk
  have hlay := hw _ (hin _ (u_in_lay hk))
  unfold u_lay at hlay
  rw [if_neg (by rw [hfin]; decide)] at hlay
  have hst := (u_facts hfc hkC (u_lays hw hin hk) hi).1
  have h6 := u_store hfc hkC hkind hlay hi (hty k hk) hn hfit
  refine W.putK hx hb (f := f) ⟨hown, hw _ hlink, ⟨_, _, _, by rw [← hT]; exact hi⟩, hst⟩ (by rw [q2]; exact h6) q1 q3 (by rw [hsl]; exact k2_hasslot (q4 k hk)) rfl rfl hdg fun H' e1 e2 e3 => ?_
  rw [hsl] at e1 ⊢
  exact kk H' _ ⟨_, hc, t_OB.to (V := updV (vp_V fs) k v) ⟨_, e1, q2, q3, t_set q4 hap hk v⟩ (fun j _ => vp_updV_set hl v j)⟩ e2 e3
/-- an int array's place -/
theorem g_ald (hF : CallFix p m c cc nL s args wsL_law own) (hK : va_K D vwCl tys s) {cA : ClassId} {n i t0 : Nat} {f : Nat → Int32} (hM : va_at D vwCl (a, .inl (cA, n, .inl f)) H) (ht : tys[t0]? = some (cA, .int)) {x : Int32} (hx : x = nI i) (hi : i < n) (hn : n < 2 ^ 31) (hdg : decode cc pc = .ok (.iaload, 1))
    (kk : W p l e R s m args below meth c H locs cells slots Q (F0 m (pc + 1) ls (.int (f i) :: rest))) : W p l e R s m args below meth c H locs cells slots Q (F0 m pc ls (.int x :: .ref a :: rest)) := by
  subst hx
  have hcl : (nI i).toNatClampNeg = i := nI_clamp (Nat.lt_trans hi hn)
  refine va_iald hF.1 hF.2.1 hK (mo_one hM) 0 t0 rfl ht (vp_in_nI hi hn) hdg ?_
  rw [hcl]; exact kk
theorem g_ast (hF : CallFix p m c cc nL s args wsL_law own) (hK : va_K D vwCl tys s) {cA : ClassId} {n i t0 : Nat} {f : Nat → Int32} (hM : va_at D vwCl (a, .inl (cA, n, .inl f)) H) (ht : tys[t0]? = some (cA, .int)) {x v : Int32} (hx : x = nI i) (hi : i < n) (hn : n < 2 ^ 31) (hdg : decode cc pc = .ok (.iastore, 1))
    (kk : ∀ (H1 : Heap) (j : Nat), va_at D vwCl (a, .inl (cA, n, .inl (upd f i v))) H1 → H1.size = H.size → (∀ q : Nat, q ≠ a → H1[q]? = H[q]?) → W p l e R s m args below meth c H1 (locs ++ [⟨a, j⟩]) cells slots Q (F0 m (pc + 1) ls rest)) : W p l e R s m args below meth c H locs cells slots Q (F0 m pc ls (.int v :: .int x :: .ref a :: rest)) := by
  subst hx
  have hcl : (nI i).toNatClampNeg = i := nI_clamp (Nat.lt_trans hi hn)
  refine W.iast hF.1 hF.2.1 hM ((hK.2 t0 _ ht).1 n (fun j => .int (f j))) (fun q => by cases q) (by show ¬ (nI i < 0 ∨ (arrV _ _ _).slots.size ≤ _); rw [arrV_size]; exact vp_in_nI hi hn) rfl rfl hdg fun H1 e1 z oq => ?_
  refine kk H1 _ ?_ z oq
  show H1[a]? = some (vp_cell _ _)
  rw [e1, vp_cell_i, vp_cell_i, arrV_store, hcl]
  congr 2
  funext q
  by_cases hq : q = i
  · subst hq
    simp [updV, upd]
  · simp [updV, upd, hq]
theorem g_aldq (hF : CallFix p m c cc nL s args wsL_law own) (hK : va_K D vwCl tys s) {cA : ClassId} {C : String} {n i t0 : Nat} {f : Nat → Option Nat} (hM : va_at D vwCl (a, .inl (cA, n, .inr (.inr (.inr (.inr f))))) H) (ht : tys[t0]? = some (cA, .object C)) {x : Int32} (hx : x = nI i) (hi : i < n) (hn : n < 2 ^ 31) (hdg : decode cc pc = .ok (.aaload, 1))
    (kk : W p l e R s m args below meth c H locs cells slots Q (F0 m (pc + 1) ls (va_rf (f i) :: rest))) : W p l e R s m args below meth c H locs cells slots Q (F0 m pc ls (.int x :: .ref a :: rest)) := by
  subst hx
  have hcl : (nI i).toNatClampNeg = i := nI_clamp (Nat.lt_trans hi hn)
  refine va_aldq hF.1 hF.2.1 hK (mo_one hM) 0 t0 rfl ht (vp_in_nI hi hn) hdg ?_
  rw [hcl]; exact kk
theorem g_alen (hF : CallFix p m c cc nL s args wsL_law own) (hK : va_K D vwCl tys s) {cA : ClassId} {x : vp_A} {t0 : Nat} {ty : FieldType} (hM : va_at D vwCl (a, .inl (cA, x)) H) (ht : tys[t0]? = some (cA, ty)) (hdg : decode cc pc = .ok (.arraylength, 1))
    (kk : W p l e R s m args below meth c H locs cells slots Q (F0 m (pc + 1) ls (.int (nI x.1) :: rest))) : W p l e R s m args below meth c H locs cells slots Q (F0 m pc ls (.ref a :: rest)) :=
  va_alen hF.1 hF.2.1 hK (mo_one hM) 0 t0 rfl ht rfl hdg kk
theorem g_recv {ci N : Nat} {C : String} {T : u_T} {fs : List Value} (hK : va_K D vwCl tys s) (hM : va_at D vwCl (a, .inr (ci, fs)) H) (hc : vwCl[ci]? = some (C, T, N)) : ∃ cell : Cell, H[a]? = some cell ∧ cell.vm.isStatics = false ∧ s.vm.findClass C = some cell.cls :=
  va_recv hK (mo_one hM) (q := (C, T, N)) (ci := ci) (q0 := 0) hc rfl
theorem bo_toV {v x : Value} (h : x = v) (k : W p l e R s m args below meth c H locs cells slots Q (F0 m pc ls (v :: rest))) : W p l e R s m args below meth c H locs cells slots Q (F0 m pc ls (x :: rest)) := by rw [h]; exact k
end
theorem k_rf_tr (ad : k_Ad) (mm : q_Mem) (t : Nat) : va_rf (k_tr ad mm t) = k_rf (mm 13 t = 0) (ad 6 t) := by
  unfold k_tr k_rf
  by_cases h : mm 13 t = 0
  · rw [if_pos h, if_pos h]; rfl
  · rw [if_neg h, if_neg h]; rfl
theorem k_er_w {ad : k_Ad} {mm : q_Mem} {i : Nat} (h : i < sp_W mm) : va_rf (k_er ad mm i) = .ref (ad 1 i) := by
  unfold k_er
  rw [if_pos h]; rfl
/-- a chain of versions: v tells which, -1 none -/
theorem k_rf_L {ad : k_Ad} {mm : q_Mem} {w : Nat} (h : ¬ mm 8 w = -1) : Value.ref (ad 3 (sp_L mm w)) = k_rf (mm 8 w = -1) (ad 3 (mm 8 w).toNatClampNeg) := (if_neg h).symm
end
section
section
variable {p : Program} {l : Launch} {e : Env} {R : Room} {s : State} {m : MethodId} {args : Array Value} {below : List Frame} {meth : Method} {c : Code} {H : Heap} {locs : List Loc} {cells slots : Nat} {Q : State → Prop}
variable {cc : ByteArray} {pc nL : Nat} {ls : Array Slot} {rest st0 : List Value} {own : String} {G : k_G} {Z : Nat → Prop} {ad : k_Ad} {mm : q_Mem}
/-- a call of a method that only reads -/
theorem kr_V {index n fr lo maxL : Nat} {C : String} {y : MethodName} {bytes : ByteArray} {ret : Option FieldType} {b : Nat} {As : List Value} {post : Int32 → Prop} (hF : CallFix p m c cc nL s args wsL_law own) (hM : rc_C l y bytes maxL ret fr lo (.ref b :: As) (k_R G Z ad mm) post) (hk : wl_V C y bytes maxL ret n) (hl : Cond.methodLink own index y ∈ wsL_law) (hR : fr + 1 ≤ R.frames ∧ 8 + (maxL + 11) + lo ≤ R.locals)
    (hH : k_H G ad (k_C G ad mm) H) (hK : va_K G.1 vwCl (k_ty G) s) (hP : k_P G s) (hT : k_T G Z s s.heap) (hS : va_S Z s.heap H locs)
    (hrv : ∃ cellB : Cell, H[b]? = some cellB ∧ cellB.vm.isStatics = false ∧ s.vm.findClass C = some cellB.cls)
    (hn : As.length = n) (hsz : ls.size = nL) (hst : st0 = As.reverse ++ .ref b :: rest) (hro : (rest.map fun v => v.category).sum ≤ 8) (hdg : decode cc pc = .ok (.invokevirtual index, 3)) (hf : cells ≤ R.cells ∧ slots ≤ R.slots)
    (kk : ∀ r : Int32, post r → W p l e R s m args below meth c H locs cells slots Q (F0 m (pc + 3) ls (.int r :: rest))) : W p l e R s m args below meth c H locs cells slots Q (F0 m pc ls st0) :=
  vp_callSi (W.runV hF hM (wl_callW hF.2.2.2.2 hk hl hR) ⟨bl_blindV k_R.bl, hrv, fun U hU hW => ⟨rfl, k_R.call hH hK hP hT hS hU hW⟩⟩ rfl hn hsz hst (lv_room hro) hdg ⟨hf.1, hf.2⟩) kk
theorem kq_V {index n fr lo maxL : Nat} {C : String} {y : MethodName} {bytes : ByteArray} {ret : Option FieldType} {b : Nat} {As : List Value} {post : Option Nat → Prop} (hF : CallFix p m c cc nL s args wsL_law own) (hM : rq_C l y bytes maxL ret fr lo (.ref b :: As) (k_R G Z ad mm) post) (hk : wl_V C y bytes maxL ret n) (hl : Cond.methodLink own index y ∈ wsL_law) (hR : fr + 1 ≤ R.frames ∧ 8 + (maxL + 11) + lo ≤ R.locals)
    (hH : k_H G ad (k_C G ad mm) H) (hK : va_K G.1 vwCl (k_ty G) s) (hP : k_P G s) (hT : k_T G Z s s.heap) (hS : va_S Z s.heap H locs)
    (hrv : ∃ cellB : Cell, H[b]? = some cellB ∧ cellB.vm.isStatics = false ∧ s.vm.findClass C = some cellB.cls)
    (hn : As.length = n) (hsz : ls.size = nL) (hst : st0 = As.reverse ++ .ref b :: rest) (hro : (rest.map fun v => v.category).sum ≤ 8) (hdg : decode cc pc = .ok (.invokevirtual index, 3)) (hf : cells ≤ R.cells ∧ slots ≤ R.slots)
    (kk : ∀ r : Option Nat, post r → W p l e R s m args below meth c H locs cells slots Q (F0 m (pc + 3) ls (va_rf r :: rest))) : W p l e R s m args below meth c H locs cells slots Q (F0 m pc ls st0) :=
  va_csq (W.runV hF hM (wl_callW hF.2.2.2.2 hk hl hR) ⟨bl_blindV k_R.bl, hrv, fun U hU hW => ⟨rfl, k_R.call hH hK hP hT hS hU hW⟩⟩ rfl hn hsz hst (lv_room hro) hdg ⟨hf.1, hf.2⟩) kk
/-- a nest mate's static method, of numbers alone -/
theorem kr_SN {index n fr lo maxL : Nat} {host : String} {y : MethodName} {bytes : ByteArray} {ret : Option FieldType} {As : List Value} {post : Int32 → Prop} (hF : CallFix p m c cc nL s args wsL_law own) (hM : rc_C l y bytes maxL ret fr lo As (fun _ => True) post) (hk : wl_S y bytes maxL ret n) (hl : va_Nw (.methodLinkNest own index y host) s) (hR : fr + 1 ≤ R.frames ∧ 8 + (maxL + 11) + lo ≤ R.locals)
    (hn : As.length = n) (hsz : ls.size = nL) (hst : st0 = As.reverse ++ rest) (hro : (rest.map fun v => v.category).sum ≤ 8) (hdg : decode cc pc = .ok (.invokestatic index, 3)) (hf : cells ≤ R.cells ∧ slots ≤ R.slots)
    (kk : ∀ r : Int32, post r → W p l e R s m args below meth c H locs cells slots Q (F0 m (pc + 3) ls (.int r :: rest))) : W p l e R s m args below meth c H locs cells slots Q (F0 m pc ls st0) := by
  obtain ⟨h1, h2, h4, h5, h6⟩ := hk
  have hw := hF.2.2.2.2
  have hws : ∀ w ∈ (Cond.code y bytes maxL ret :: wsL_law), ∀ (a' : Array Value) (U : State), s.WarmedH U.vm → w.before a' U = true := by
    intro w h
    rcases List.mem_cons.mp h with h | h
    · rw [h]; exact wl_pay hw _ h1
    · exact wl_pay hw _ h
  have cw : va_CN R s args own index y host bytes maxL ret (Cond.code y bytes maxL ret :: wsL_law) { frames := fr, cells := 0, slots := 0, locals := lo } 0 0 n := by
    refine ⟨⟨rfl, rfl, hR.1, hR.2, hws, List.mem_cons_self⟩, hw _ h1, hw _ h4, h5, fun sig h => ?_, va_Nw.use rfl hl⟩
    rw [h] at h6
    exact (Option.some.inj h6).symm
  have hr := va_runSN (e := e) (below := below) (meth := meth) (g := F0 m pc ls st0) (rest := rest) (H := H) (locs := locs) (cells := cells) (slots := slots) hF hM ⟨cw, hw _ h2, trivial⟩ ⟨bl_blindV (B := fun _ => True) (fun _ _ _ _ _ => trivial), fun U _ _ => ⟨rfl, trivial⟩⟩ rfl hn hsz hst (lv_room hro) hdg ⟨hf.1, hf.2⟩
  intro T hT X
  obtain ⟨v, st₀, t, T', L, h0, X', hL, e1, e2, ⟨r, hv, hp, hh⟩, st⟩ := hr T hT X
  cases hv
  obtain ⟨t2, a1, b1⟩ := kk r hp T' (by rw [e1, hh, h0]) (Stand.forget X' (fun q h => (hL q h).elim))
  exact ⟨t2, st t2 a1, b1⟩
theorem g_cast {D : va_G} {tys : List (ClassId × FieldType)} {a index ci N : Nat} {C : String} {T : u_T} {fs : List Value} (hF : CallFix p m c cc nL s args wsL_law own) (hK : va_K D vwCl tys s) (hM : va_at D vwCl (a, .inr (ci, fs)) H) (hc : vwCl[ci]? = some (C, T, N)) (hlink : Cond.classLink own index C ∈ wsL_law) (hdg : decode cc pc = .ok (.checkcast index, 3))
    (k : W p l e R s m args below meth c H locs cells slots Q (F0 m (pc + 3) ls (.ref a :: rest))) : W p l e R s m args below meth c H locs cells slots Q (F0 m pc ls (.ref a :: rest)) :=
  va_castS hF.1 hF.2.1 hF.2.2.2.1 (hF.2.2.2.2 _ hlink) (hK.1 ci (C, T, N) hc).2 (g_recv hK hM hc) hdg k
/-- a value that is null or an address -/
theorem k_split {b : Prop} [Decidable b] {a : Nat} (h1 : b → W p l e R s m args below meth c H locs cells slots Q (F0 m pc ls (.null :: rest))) (h2 : ¬ b → W p l e R s m args below meth c H locs cells slots Q (F0 m pc ls (.ref a :: rest))) : W p l e R s m args below meth c H locs cells slots Q (F0 m pc ls (k_rf b a :: rest)) := by
  unfold k_rf
  by_cases h : b
  · rw [if_pos h]; exact h1 h
  · rw [if_neg h]; exact h2 h
theorem lv_aload_nV (hx : p.tables.exec = Jvm.exec) (hb : c.code = cc) {k : Fin 4} {i : Nat} {b : Prop} [Decidable b] {x : Nat} (hdg : decode cc pc = .ok (.aload_n k, 1)) (hi : (k : Nat) = i) (hl : ls[i]? = some (.val (k_rf b x)))
    (kk : W p l e R s m args below meth c H locs cells slots Q (F0 m (pc + 1) ls (k_rf b x :: rest))) : W p l e R s m args below meth c H locs cells slots Q (F0 m pc ls rest) := by
  unfold k_rf at hl kk
  by_cases h : b
  · rw [if_pos h] at hl kk; exact lv_aload_nN hx hb hdg hi hl kk
  · rw [if_neg h] at hl kk; exact lv_aload_n hx hb hdg hi hl kk
theorem lv_aloadV (hx : p.tables.exec = Jvm.exec) (hb : c.code = cc) {i : Nat} {b : Prop} [Decidable b] {x : Nat} (hdg : decode cc pc = .ok (.aload i, 2)) (hl : ls[i]? = some (.val (k_rf b x)))
    (kk : W p l e R s m args below meth c H locs cells slots Q (F0 m (pc + 2) ls (k_rf b x :: rest))) : W p l e R s m args below meth c H locs cells slots Q (F0 m pc ls rest) := by
  unfold k_rf at hl kk
  by_cases h : b
  · rw [if_pos h] at hl kk; exact lv_aloadN hx hb hdg hl kk
  · rw [if_neg h] at hl kk; exact lv_aload hx hb hdg hl kk
theorem lv_astore_nV (hx : p.tables.exec = Jvm.exec) (hb : c.code = cc) {k : Fin 4} {i nL : Nat} {b : Prop} [Decidable b] {x : Nat} {lv lv' : List (Nat × Value)} (hdg : decode cc pc = .ok (.astore_n k, 1)) (hi : (k : Nat) = i) (h : lv_has ls nL lv) (hn : i < nL) (hl : (i, k_rf b x) :: lv.filter (fun q => !(q.1 == i) && !(q.1 + 1 == i && q.2.category == 2)) = lv')
    (kk : ∀ ls' : Array Slot, lv_has ls' nL lv' → W p l e R s m args below meth c H locs cells slots Q (F0 m (pc + 1) ls' rest)) : W p l e R s m args below meth c H locs cells slots Q (F0 m pc ls (k_rf b x :: rest)) := by
  unfold k_rf at hl ⊢
  by_cases hq : b
  · rw [if_pos hq] at hl ⊢; exact lv_astore_nN hx hb hdg hi h hn hl kk
  · rw [if_neg hq] at hl ⊢; exact lv_astore_n hx hb hdg hi h hn hl kk
theorem lv_astoreV (hx : p.tables.exec = Jvm.exec) (hb : c.code = cc) {i nL : Nat} {b : Prop} [Decidable b] {x : Nat} {lv lv' : List (Nat × Value)} (hdg : decode cc pc = .ok (.astore i, 2)) (h : lv_has ls nL lv) (hn : i < nL) (hl : (i, k_rf b x) :: lv.filter (fun q => !(q.1 == i) && !(q.1 + 1 == i && q.2.category == 2)) = lv')
    (kk : ∀ ls' : Array Slot, lv_has ls' nL lv' → W p l e R s m args below meth c H locs cells slots Q (F0 m (pc + 2) ls' rest)) : W p l e R s m args below meth c H locs cells slots Q (F0 m pc ls (k_rf b x :: rest)) := by
  unfold k_rf at hl ⊢
  by_cases hq : b
  · rw [if_pos hq] at hl ⊢; exact lv_astoreN hx hb hdg h hn hl kk
  · rw [if_neg hq] at hl ⊢; exact lv_astore hx hb hdg h hn hl kk
/-- a reference or null is answered -/
theorem rq_ret {post : Option Nat → Prop} {o : Option Nat} {cls : String} (hx : p.tables.exec = Jvm.exec) (hb : c.code = cc) (hr : meth.sig.returnType = some (.object cls)) (hlocks : meth.locks = false) (hp : post o) (hdg : decode cc pc = .ok (.areturn, 1)) : W p l e R s m args below meth c s.heap [] cells slots (MQ below (va_Sq post) args s cells slots (fun _ => False)) (F0 m pc ls [va_rf o]) :=
  W.aret hx hb hr (Or.inl ⟨_, rfl⟩) (va_rf_or o) (fun t ht _ => ⟨o, rfl, hp, ht⟩) (fun _ h => by cases h) hdg hlocks
/-- tests of null -/
theorem k_ifnull {b : Prop} [Decidable b] {a : Nat} (hx : p.tables.exec = Jvm.exec) (hb : c.code = cc) {off : Int} {tgt : Nat} (hdg : decode cc pc = .ok (.ifnull off, 3)) (ht : (pc : Int) + off = (tgt : Int)) (h1 : b → W p l e R s m args below meth c H locs cells slots Q (F0 m tgt ls rest)) (h2 : ¬ b → W p l e R s m args below meth c H locs cells slots Q (F0 m (pc + 3) ls rest)) : W p l e R s m args below meth c H locs cells slots Q (F0 m pc ls (k_rf b a :: rest)) :=
  k_split (fun h => lv_ifnullN hx hb hdg ht (h1 h)) (fun h => lv_ifnull hx hb hdg (h2 h))
theorem k_ifnonnull {b : Prop} [Decidable b] {a : Nat} (hx : p.tables.exec = Jvm.exec) (hb : c.code = cc) {off : Int} {tgt : Nat} (hdg : decode cc pc = .ok (.ifnonnull off, 3)) (ht : (pc : Int) + off = (tgt : Int)) (h1 : b → W p l e R s m args below meth c H locs cells slots Q (F0 m (pc + 3) ls rest)) (h2 : ¬ b → W p l e R s m args below meth c H locs cells slots Q (F0 m tgt ls rest)) : W p l e R s m args below meth c H locs cells slots Q (F0 m pc ls (k_rf b a :: rest)) :=
  k_split (fun h => lv_ifnonnullN hx hb hdg (h1 h)) (fun h => lv_ifnonnull hx hb hdg ht (h2 h))
end
theorem cp_le {n : Nat} (h : n ≤ 40) : n ≤ k_cp n := by
  unfold k_cp
  split
  · omega
  · split
    · omega
    · split
      · omega
      · split <;> omega
theorem cp_lt (n : Nat) : k_cp n < 2 ^ 31 := by
  unfold k_cp
  split
  · decide
  · split
    · decide
    · split
      · decide
      · split <;> decide
end
section
theorem dJ15_checkIndex_7cf53_0 : decode cJ15_checkIndex_7cf53 0 = .ok (.iload_n 0, 1) := by decide +kernel
theorem dJ15_checkIndex_7cf53_1 : decode cJ15_checkIndex_7cf53 1 = .ok (.iload_n 1, 1) := by decide +kernel
theorem dJ15_checkIndex_7cf53_2 : decode cJ15_checkIndex_7cf53 2 = .ok (.aconst_null, 1) := by decide +kernel
theorem dJ15_checkIndex_7cf53_3 : decode cJ15_checkIndex_7cf53 3 = .ok (.invokestatic 105, 3) := by decide +kernel
theorem dJ15_checkIndex_7cf53_6 : decode cJ15_checkIndex_7cf53 6 = .ok (.ireturn, 1) := by decide +kernel
theorem dJ3_checkIndex_8e157_0 : decode cJ3_checkIndex_8e157 0 = .ok (.iload_n 0, 1) := by decide +kernel
theorem dJ3_checkIndex_8e157_1 : decode cJ3_checkIndex_8e157 1 = .ok (.ifCond .lt 8, 3) := by decide +kernel
theorem dJ3_checkIndex_8e157_4 : decode cJ3_checkIndex_8e157 4 = .ok (.iload_n 0, 1) := by decide +kernel
theorem dJ3_checkIndex_8e157_5 : decode cJ3_checkIndex_8e157 5 = .ok (.iload_n 1, 1) := by decide +kernel
theorem dJ3_checkIndex_8e157_6 : decode cJ3_checkIndex_8e157 6 = .ok (.if_icmp .lt 10, 3) := by decide +kernel
theorem dJ3_checkIndex_8e157_16 : decode cJ3_checkIndex_8e157 16 = .ok (.iload_n 0, 1) := by decide +kernel
theorem dJ3_checkIndex_8e157_17 : decode cJ3_checkIndex_8e157 17 = .ok (.ireturn, 1) := by decide +kernel
theorem dJx4a65c_elementData_915e3_0 : decode cJx4a65c_elementData_915e3 0 = .ok (.aload_n 0, 1) := by decide +kernel
theorem dJx4a65c_elementData_915e3_1 : decode cJx4a65c_elementData_915e3 1 = .ok (.getfield 9, 3) := by decide +kernel
theorem dJx4a65c_elementData_915e3_4 : decode cJx4a65c_elementData_915e3 4 = .ok (.iload_n 1, 1) := by decide +kernel
theorem dJx4a65c_elementData_915e3_5 : decode cJx4a65c_elementData_915e3 5 = .ok (.aaload, 1) := by decide +kernel
theorem dJx4a65c_elementData_915e3_6 : decode cJx4a65c_elementData_915e3 6 = .ok (.areturn, 1) := by decide +kernel
theorem dJx4a65c_get_915e3_0 : decode cJx4a65c_get_915e3 0 = .ok (.iload_n 1, 1) := by decide +kernel
theorem dJx4a65c_get_915e3_1 : decode cJx4a65c_get_915e3 1 = .ok (.aload_n 0, 1) := by decide +kernel
theorem dJx4a65c_get_915e3_2 : decode cJx4a65c_get_915e3 2 = .ok (.getfield 48, 3) := by decide +kernel
theorem dJx4a65c_get_915e3_5 : decode cJx4a65c_get_915e3 5 = .ok (.invokestatic 118, 3) := by decide +kernel
theorem dJx4a65c_get_915e3_8 : decode cJx4a65c_get_915e3 8 = .ok (.pop, 1) := by decide +kernel
theorem dJx4a65c_get_915e3_9 : decode cJx4a65c_get_915e3 9 = .ok (.aload_n 0, 1) := by decide +kernel
theorem dJx4a65c_get_915e3_10 : decode cJx4a65c_get_915e3 10 = .ok (.iload_n 1, 1) := by decide +kernel
theorem dJx4a65c_get_915e3_11 : decode cJx4a65c_get_915e3 11 = .ok (.invokevirtual 123, 3) := by decide +kernel
theorem dJx4a65c_get_915e3_14 : decode cJx4a65c_get_915e3 14 = .ok (.areturn, 1) := by decide +kernel
theorem dJx4a65c_size_8abf5_0 : decode cJx4a65c_size_8abf5 0 = .ok (.aload_n 0, 1) := by decide +kernel
theorem dJx4a65c_size_8abf5_1 : decode cJx4a65c_size_8abf5 1 = .ok (.getfield 48, 3) := by decide +kernel
theorem dJx4a65c_size_8abf5_4 : decode cJx4a65c_size_8abf5 4 = .ok (.ireturn, 1) := by decide +kernel
theorem dX0_coded_0 : decode cX0_coded 0 = .ok (.bipush 100, 2) := by decide +kernel
theorem dX0_coded_2 : decode cX0_coded 2 = .ok (.aload_n 0, 1) := by decide +kernel
theorem dX0_coded_3 : decode cX0_coded 3 = .ok (.getfield 7, 3) := by decide +kernel
theorem dX0_coded_6 : decode cX0_coded 6 = .ok (.imul, 1) := by decide +kernel
theorem dX0_coded_7 : decode cX0_coded 7 = .ok (.bipush 10, 2) := by decide +kernel
theorem dX0_coded_9 : decode cX0_coded 9 = .ok (.aload_n 0, 1) := by decide +kernel
theorem dX0_coded_10 : decode cX0_coded 10 = .ok (.getfield 13, 3) := by decide +kernel
theorem dX0_coded_13 : decode cX0_coded 13 = .ok (.imul, 1) := by decide +kernel
theorem dX0_coded_14 : decode cX0_coded 14 = .ok (.iadd, 1) := by decide +kernel
theorem dX0_coded_15 : decode cX0_coded 15 = .ok (.aload_n 0, 1) := by decide +kernel
theorem dX0_coded_16 : decode cX0_coded 16 = .ok (.getfield 16, 3) := by decide +kernel
theorem dX0_coded_19 : decode cX0_coded 19 = .ok (.iadd, 1) := by decide +kernel
theorem dX0_coded_20 : decode cX0_coded 20 = .ok (.iconst 1, 1) := by decide +kernel
theorem dX0_coded_21 : decode cX0_coded 21 = .ok (.iadd, 1) := by decide +kernel
theorem dX0_coded_22 : decode cX0_coded 22 = .ok (.ireturn, 1) := by decide +kernel
theorem dX1_shows_0 : decode cX1_shows 0 = .ok (.aload_n 1, 1) := by decide +kernel
theorem dX1_shows_1 : decode cX1_shows 1 = .ok (.ifnull 23, 3) := by decide +kernel
theorem dX1_shows_4 : decode cX1_shows 4 = .ok (.aload_n 1, 1) := by decide +kernel
theorem dX1_shows_5 : decode cX1_shows 5 = .ok (.getfield 33, 3) := by decide +kernel
theorem dX1_shows_8 : decode cX1_shows 8 = .ok (.getfield 39, 3) := by decide +kernel
theorem dX1_shows_11 : decode cX1_shows 11 = .ok (.iconst 3, 1) := by decide +kernel
theorem dX1_shows_12 : decode cX1_shows 12 = .ok (.aload_n 0, 1) := by decide +kernel
theorem dX1_shows_13 : decode cX1_shows 13 = .ok (.getfield 18, 3) := by decide +kernel
theorem dX1_shows_16 : decode cX1_shows 16 = .ok (.isub, 1) := by decide +kernel
theorem dX1_shows_17 : decode cX1_shows 17 = .ok (.if_icmp .lt 7, 3) := by decide +kernel
theorem dX1_shows_20 : decode cX1_shows 20 = .ok (.iconst 1, 1) := by decide +kernel
theorem dX1_shows_21 : decode cX1_shows 21 = .ok (.goto 4, 3) := by decide +kernel
theorem dX1_shows_24 : decode cX1_shows 24 = .ok (.iconst 0, 1) := by decide +kernel
theorem dX1_shows_25 : decode cX1_shows 25 = .ok (.ireturn, 1) := by decide +kernel
theorem dX3_direction_0 : decode cX3_direction 0 = .ok (.aload_n 0, 1) := by decide +kernel
theorem dX3_direction_1 : decode cX3_direction 1 = .ok (.getfield 35, 3) := by decide +kernel
theorem dX3_direction_4 : decode cX3_direction 4 = .ok (.getfield 45, 3) := by decide +kernel
theorem dX3_direction_7 : decode cX3_direction 7 = .ok (.getfield 55, 3) := by decide +kernel
theorem dX3_direction_10 : decode cX3_direction 10 = .ok (.ireturn, 1) := by decide +kernel
theorem dX3_distanceFrom_0 : decode cX3_distanceFrom 0 = .ok (.aload_n 0, 1) := by decide +kernel
theorem dX3_distanceFrom_1 : decode cX3_distanceFrom 1 = .ok (.iload_n 1, 1) := by decide +kernel
theorem dX3_distanceFrom_2 : decode cX3_distanceFrom 2 = .ok (.iload_n 2, 1) := by decide +kernel
theorem dX3_distanceFrom_3 : decode cX3_distanceFrom 3 = .ok (.invokevirtual 65, 3) := by decide +kernel
theorem dX3_distanceFrom_6 : decode cX3_distanceFrom 6 = .ok (.aload_n 0, 1) := by decide +kernel
theorem dX3_distanceFrom_7 : decode cX3_distanceFrom 7 = .ok (.iload_n 1, 1) := by decide +kernel
theorem dX3_distanceFrom_8 : decode cX3_distanceFrom 8 = .ok (.iload_n 2, 1) := by decide +kernel
theorem dX3_distanceFrom_9 : decode cX3_distanceFrom 9 = .ok (.invokevirtual 69, 3) := by decide +kernel
theorem dX3_distanceFrom_12 : decode cX3_distanceFrom 12 = .ok (.invokestatic 72, 3) := by decide +kernel
theorem dX3_distanceFrom_15 : decode cX3_distanceFrom 15 = .ok (.ireturn, 1) := by decide +kernel
theorem dX3_distanceFromBegin_0 : decode cX3_distanceFromBegin 0 = .ok (.iload_n 1, 1) := by decide +kernel
theorem dX3_distanceFromBegin_1 : decode cX3_distanceFromBegin 1 = .ok (.iload_n 2, 1) := by decide +kernel
theorem dX3_distanceFromBegin_2 : decode cX3_distanceFromBegin 2 = .ok (.aload_n 0, 1) := by decide +kernel
theorem dX3_distanceFromBegin_3 : decode cX3_distanceFromBegin 3 = .ok (.getfield 23, 3) := by decide +kernel
theorem dX3_distanceFromBegin_6 : decode cX3_distanceFromBegin 6 = .ok (.aload_n 0, 1) := by decide +kernel
theorem dX3_distanceFromBegin_7 : decode cX3_distanceFromBegin 7 = .ok (.getfield 26, 3) := by decide +kernel
theorem dX3_distanceFromBegin_10 : decode cX3_distanceFromBegin 10 = .ok (.invokestatic 61, 3) := by decide +kernel
theorem dX3_distanceFromBegin_13 : decode cX3_distanceFromBegin 13 = .ok (.ireturn, 1) := by decide +kernel
theorem dX3_distanceFromEnd_0 : decode cX3_distanceFromEnd 0 = .ok (.iload_n 1, 1) := by decide +kernel
theorem dX3_distanceFromEnd_1 : decode cX3_distanceFromEnd 1 = .ok (.iload_n 2, 1) := by decide +kernel
theorem dX3_distanceFromEnd_2 : decode cX3_distanceFromEnd 2 = .ok (.aload_n 0, 1) := by decide +kernel
theorem dX3_distanceFromEnd_3 : decode cX3_distanceFromEnd 3 = .ok (.getfield 29, 3) := by decide +kernel
theorem dX3_distanceFromEnd_6 : decode cX3_distanceFromEnd 6 = .ok (.aload_n 0, 1) := by decide +kernel
theorem dX3_distanceFromEnd_7 : decode cX3_distanceFromEnd 7 = .ok (.getfield 32, 3) := by decide +kernel
theorem dX3_distanceFromEnd_10 : decode cX3_distanceFromEnd 10 = .ok (.invokestatic 61, 3) := by decide +kernel
theorem dX3_distanceFromEnd_13 : decode cX3_distanceFromEnd 13 = .ok (.ireturn, 1) := by decide +kernel
theorem dX3_hasPartIn_0 : decode cX3_hasPartIn 0 = .ok (.aload_n 0, 1) := by decide +kernel
theorem dX3_hasPartIn_1 : decode cX3_hasPartIn 1 = .ok (.getfield 23, 3) := by decide +kernel
theorem dX3_hasPartIn_4 : decode cX3_hasPartIn 4 = .ok (.aload_n 1, 1) := by decide +kernel
theorem dX3_hasPartIn_5 : decode cX3_hasPartIn 5 = .ok (.getfield 77, 3) := by decide +kernel
theorem dX3_hasPartIn_8 : decode cX3_hasPartIn 8 = .ok (.if_icmp .gt 40, 3) := by decide +kernel
theorem dX3_hasPartIn_11 : decode cX3_hasPartIn 11 = .ok (.aload_n 0, 1) := by decide +kernel
theorem dX3_hasPartIn_12 : decode cX3_hasPartIn 12 = .ok (.getfield 29, 3) := by decide +kernel
theorem dX3_hasPartIn_15 : decode cX3_hasPartIn 15 = .ok (.aload_n 1, 1) := by decide +kernel
theorem dX3_hasPartIn_16 : decode cX3_hasPartIn 16 = .ok (.getfield 82, 3) := by decide +kernel
theorem dX3_hasPartIn_19 : decode cX3_hasPartIn 19 = .ok (.if_icmp .lt 29, 3) := by decide +kernel
theorem dX3_hasPartIn_22 : decode cX3_hasPartIn 22 = .ok (.aload_n 0, 1) := by decide +kernel
theorem dX3_hasPartIn_23 : decode cX3_hasPartIn 23 = .ok (.getfield 26, 3) := by decide +kernel
theorem dX3_hasPartIn_26 : decode cX3_hasPartIn 26 = .ok (.aload_n 1, 1) := by decide +kernel
theorem dX3_hasPartIn_27 : decode cX3_hasPartIn 27 = .ok (.getfield 85, 3) := by decide +kernel
theorem dX3_hasPartIn_30 : decode cX3_hasPartIn 30 = .ok (.if_icmp .gt 18, 3) := by decide +kernel
theorem dX3_hasPartIn_33 : decode cX3_hasPartIn 33 = .ok (.aload_n 0, 1) := by decide +kernel
theorem dX3_hasPartIn_34 : decode cX3_hasPartIn 34 = .ok (.getfield 32, 3) := by decide +kernel
theorem dX3_hasPartIn_37 : decode cX3_hasPartIn 37 = .ok (.aload_n 1, 1) := by decide +kernel
theorem dX3_hasPartIn_38 : decode cX3_hasPartIn 38 = .ok (.getfield 88, 3) := by decide +kernel
theorem dX3_hasPartIn_41 : decode cX3_hasPartIn 41 = .ok (.if_icmp .lt 7, 3) := by decide +kernel
theorem dX3_hasPartIn_44 : decode cX3_hasPartIn 44 = .ok (.iconst 1, 1) := by decide +kernel
theorem dX3_hasPartIn_45 : decode cX3_hasPartIn 45 = .ok (.goto 4, 3) := by decide +kernel
theorem dX3_hasPartIn_48 : decode cX3_hasPartIn 48 = .ok (.iconst 0, 1) := by decide +kernel
theorem dX3_hasPartIn_49 : decode cX3_hasPartIn 49 = .ok (.ireturn, 1) := by decide +kernel
theorem dX3_kind_0 : decode cX3_kind 0 = .ok (.aload_n 0, 1) := by decide +kernel
theorem dX3_kind_1 : decode cX3_kind 1 = .ok (.getfield 35, 3) := by decide +kernel
theorem dX3_kind_4 : decode cX3_kind 4 = .ok (.getfield 45, 3) := by decide +kernel
theorem dX3_kind_7 : decode cX3_kind 7 = .ok (.getfield 50, 3) := by decide +kernel
theorem dX3_kind_10 : decode cX3_kind 10 = .ok (.ireturn, 1) := by decide +kernel
theorem dX3_versionCount_0 : decode cX3_versionCount 0 = .ok (.aload_n 0, 1) := by decide +kernel
theorem dX3_versionCount_1 : decode cX3_versionCount 1 = .ok (.getfield 35, 3) := by decide +kernel
theorem dX3_versionCount_4 : decode cX3_versionCount 4 = .ok (.getfield 58, 3) := by decide +kernel
theorem dX3_versionCount_7 : decode cX3_versionCount 7 = .ok (.iconst 1, 1) := by decide +kernel
theorem dX3_versionCount_8 : decode cX3_versionCount 8 = .ok (.iadd, 1) := by decide +kernel
theorem dX3_versionCount_9 : decode cX3_versionCount 9 = .ok (.ireturn, 1) := by decide +kernel
theorem dX4_distance_0 : decode cX4_distance 0 = .ok (.iload_n 0, 1) := by decide +kernel
theorem dX4_distance_1 : decode cX4_distance 1 = .ok (.iload_n 2, 1) := by decide +kernel
theorem dX4_distance_2 : decode cX4_distance 2 = .ok (.isub, 1) := by decide +kernel
theorem dX4_distance_3 : decode cX4_distance 3 = .ok (.invokestatic 303, 3) := by decide +kernel
theorem dX4_distance_6 : decode cX4_distance 6 = .ok (.iload_n 1, 1) := by decide +kernel
theorem dX4_distance_7 : decode cX4_distance 7 = .ok (.iload_n 3, 1) := by decide +kernel
theorem dX4_distance_8 : decode cX4_distance 8 = .ok (.isub, 1) := by decide +kernel
theorem dX4_distance_9 : decode cX4_distance 9 = .ok (.invokestatic 303, 3) := by decide +kernel
theorem dX4_distance_12 : decode cX4_distance 12 = .ok (.iadd, 1) := by decide +kernel
theorem dX4_distance_13 : decode cX4_distance 13 = .ok (.ireturn, 1) := by decide +kernel
theorem dX4_isDirection_0 : decode cX4_isDirection 0 = .ok (.iload_n 0, 1) := by decide +kernel
theorem dX4_isDirection_1 : decode cX4_isDirection 1 = .ok (.iconst 0, 1) := by decide +kernel
theorem dX4_isDirection_2 : decode cX4_isDirection 2 = .ok (.iconst 2, 1) := by decide +kernel
theorem dX4_isDirection_3 : decode cX4_isDirection 3 = .ok (.invokestatic 50, 3) := by decide +kernel
theorem dX4_isDirection_6 : decode cX4_isDirection 6 = .ok (.ireturn, 1) := by decide +kernel
theorem dX4_isFull_0 : decode cX4_isFull 0 = .ok (.aload_n 0, 1) := by decide +kernel
theorem dX4_isFull_1 : decode cX4_isFull 1 = .ok (.getfield 32, 3) := by decide +kernel
theorem dX4_isFull_4 : decode cX4_isFull 4 = .ok (.sipush 512, 3) := by decide +kernel
theorem dX4_isFull_7 : decode cX4_isFull 7 = .ok (.if_icmp .lt 7, 3) := by decide +kernel
theorem dX4_isFull_10 : decode cX4_isFull 10 = .ok (.iconst 1, 1) := by decide +kernel
theorem dX4_isFull_11 : decode cX4_isFull 11 = .ok (.goto 4, 3) := by decide +kernel
theorem dX4_isFull_14 : decode cX4_isFull 14 = .ok (.iconst 0, 1) := by decide +kernel
theorem dX4_isFull_15 : decode cX4_isFull 15 = .ok (.ireturn, 1) := by decide +kernel
theorem dX4_isIn_0 : decode cX4_isIn 0 = .ok (.iload_n 0, 1) := by decide +kernel
theorem dX4_isIn_1 : decode cX4_isIn 1 = .ok (.iload_n 1, 1) := by decide +kernel
theorem dX4_isIn_2 : decode cX4_isIn 2 = .ok (.if_icmp .lt 12, 3) := by decide +kernel
theorem dX4_isIn_5 : decode cX4_isIn 5 = .ok (.iload_n 0, 1) := by decide +kernel
theorem dX4_isIn_6 : decode cX4_isIn 6 = .ok (.iload_n 2, 1) := by decide +kernel
theorem dX4_isIn_7 : decode cX4_isIn 7 = .ok (.if_icmp .gt 7, 3) := by decide +kernel
theorem dX4_isIn_10 : decode cX4_isIn 10 = .ok (.iconst 1, 1) := by decide +kernel
theorem dX4_isIn_11 : decode cX4_isIn 11 = .ok (.goto 4, 3) := by decide +kernel
theorem dX4_isIn_14 : decode cX4_isIn 14 = .ok (.iconst 0, 1) := by decide +kernel
theorem dX4_isIn_15 : decode cX4_isIn 15 = .ok (.ireturn, 1) := by decide +kernel
theorem dX4_isKind_0 : decode cX4_isKind 0 = .ok (.iload_n 0, 1) := by decide +kernel
theorem dX4_isKind_1 : decode cX4_isKind 1 = .ok (.iconst 0, 1) := by decide +kernel
theorem dX4_isKind_2 : decode cX4_isKind 2 = .ok (.iconst 3, 1) := by decide +kernel
theorem dX4_isKind_3 : decode cX4_isKind 3 = .ok (.invokestatic 50, 3) := by decide +kernel
theorem dX4_isKind_6 : decode cX4_isKind 6 = .ok (.ireturn, 1) := by decide +kernel
theorem dX4_tilesAcross_0 : decode cX4_tilesAcross 0 = .ok (.iconst 1, 1) := by decide +kernel
theorem dX4_tilesAcross_1 : decode cX4_tilesAcross 1 = .ok (.iload_n 0, 1) := by decide +kernel
theorem dX4_tilesAcross_2 : decode cX4_tilesAcross 2 = .ok (.ishl, 1) := by decide +kernel
theorem dX4_tilesAcross_3 : decode cX4_tilesAcross 3 = .ok (.ireturn, 1) := by decide +kernel
/-- how far it is -/
def k_dst (a b c d : Int32) : Int32 := (if 0 ≤ a - c then a - c else 0 - (a - c)) + (if 0 ≤ b - d then b - d else 0 - (b - d))
theorem ke_J3_checkIndex_8e157 : wl_S yJ3_checkIndex_8e157 cJ3_checkIndex_8e157 3 (some .int) 3 := ⟨wd_c_J3_checkIndex_8e157, wd_t_J3_checkIndex_8e157, wd_n_J3, by decide, by decide +kernel⟩
set_option maxHeartbeats 4000000 in
set_option maxRecDepth 100000 in
theorem m_J3_checkIndex_8e157 (l : Launch) (i n : Nat) (hi : i < n) (hn : n < 2 ^ 31) : rc_C l yJ3_checkIndex_8e157 cJ3_checkIndex_8e157 3 (some .int) 0 0 [.int (nI i), .int (nI n), .null] (fun _ => True) (fun r => r = nI i) := by
  refine rc_of (by decide) (Nat.le_of_ble_eq_true rfl) ?_
  intro p e s m args below meth c hx hb hr hF hlk hB ls hl
  have hl : lv_has ls 3 [(0, .int (nI i)), (1, .int (nI n)), (2, .null)] := hl
  have hf : (0 : Nat) ≤ 0 ∧ (0 : Nat) ≤ 0 := ⟨Nat.le_refl 0, Nat.le_refl 0⟩
  refine lv_iload_n hx hb dJ3_checkIndex_8e157_0 rfl (lv_at hl 0 rfl) ?_
  refine lv_if_lt (tgt := 9) hx hb dJ3_checkIndex_8e157_1 (by decide) (fun c1 => ?_) (fun c1 => ?_)
  · skip
    exact absurd c1 (nI_pos (by omega))
  · skip
    refine lv_iload_n hx hb dJ3_checkIndex_8e157_4 rfl (lv_at hl 0 rfl) ?_
    refine lv_iload_n hx hb dJ3_checkIndex_8e157_5 rfl (lv_at hl 1 rfl) ?_
    refine lv_icmp_lt (tgt := 16) hx hb dJ3_checkIndex_8e157_6 (by decide) (fun c2 => ?_) (fun c2 => ?_)
    · skip
      refine lv_iload_n hx hb dJ3_checkIndex_8e157_16 rfl (lv_at hl 0 rfl) ?_
      exact rc_iret hx hb hr hlk (rfl) dJ3_checkIndex_8e157_17
    · skip
      exact absurd (nI_lt hi hn) c2
theorem ke_J15_checkIndex_7cf53 : wl_S yJ15_checkIndex_7cf53 cJ15_checkIndex_7cf53 2 (some .int) 2 := ⟨wd_c_J15_checkIndex_7cf53, wd_t_J15_checkIndex_7cf53, wd_n_J15, by decide, by decide +kernel⟩
set_option maxHeartbeats 4000000 in
set_option maxRecDepth 100000 in
theorem m_J15_checkIndex_7cf53 (l : Launch) (i n : Nat) (hi : i < n) (hn : n < 2 ^ 31) : rc_C l yJ15_checkIndex_7cf53 cJ15_checkIndex_7cf53 2 (some .int) 1 22 [.int (nI i), .int (nI n)] (fun _ => True) (fun r => r = nI i) := by
  refine rc_of (by decide) (Nat.le_of_ble_eq_true rfl) ?_
  intro p e s m args below meth c hx hb hr hF hlk hB ls hl
  have hl : lv_has ls 2 [(0, .int (nI i)), (1, .int (nI n))] := hl
  have hf : (0 : Nat) ≤ 0 ∧ (0 : Nat) ≤ 0 := ⟨Nat.le_refl 0, Nat.le_refl 0⟩
  refine lv_iload_n hx hb dJ15_checkIndex_7cf53_0 rfl (lv_at hl 0 rfl) ?_
  refine lv_iload_n hx hb dJ15_checkIndex_7cf53_1 rfl (lv_at hl 1 rfl) ?_
  refine lv_null hx hb dJ15_checkIndex_7cf53_2 ?_
  refine rc_S (fr := 0) (lo := 0) (As := [.int (nI i), .int (nI n), .null]) (rest := []) hF (m_J3_checkIndex_8e157 l i n hi hn) ke_J3_checkIndex_8e157 wd_l_J15_105 (by decide) bl_true (fun _ _ _ => trivial) rfl hl.1 rfl (Nat.le_of_ble_eq_true rfl) dJ15_checkIndex_7cf53_3 hf (fun r1 hr1 => ?_)
  replace hr1 : r1 = nI i := hr1
  subst hr1
  exact rc_iret hx hb hr hlk (rfl) dJ15_checkIndex_7cf53_6
theorem ke_Jx4a65c_size_8abf5 : wl_V RJx4a65c yJx4a65c_size_8abf5 cJx4a65c_size_8abf5 1 (some .int) 0 := ⟨wd_c_Jx4a65c_size_8abf5, wd_i_Jx4a65c_size_8abf5, wd_s_Jx4a65c_size_8abf5, wd_n_Jx4a65c, by decide, by decide +kernel⟩
set_option maxHeartbeats 4000000 in
set_option maxRecDepth 100000 in
theorem m_Jx4a65c_size_8abf5 (l : Launch) (G : k_G) (Z : Nat → Prop) (ad : k_Ad) (mm : q_Mem)  : rc_C l yJx4a65c_size_8abf5 cJx4a65c_size_8abf5 1 (some .int) 0 0 [.ref (ad 0 1)] (k_R G Z ad mm) (fun r => r = mm 1 0) := by
  refine rc_of (by decide) (Nat.le_of_ble_eq_true rfl) ?_
  intro p e s m args below meth c hx hb hr hF hlk hB ls hl
  obtain ⟨hM, hK, hP, hT⟩ := hB
  have hS : va_S Z s.heap s.heap [] := va_S.rf
  have hl : lv_has ls 1 [(0, .ref (ad 0 1))] := hl
  have hf : (0 : Nat) ≤ 0 ∧ (0 : Nat) ≤ 0 := ⟨Nat.le_refl 0, Nat.le_refl 0⟩
  refine lv_aload_n hx hb dJx4a65c_size_8abf5_0 rfl (lv_at hl 0 rfl) ?_
  refine g_get (C := RJx4a65c) (T := TJx4a65c) (N := 3) (v := .int (mm 1 0)) hF hK (hM 0 1 _ rfl) rfl inlJx4a65c 2 (by decide) rfl wd_f_Jx4a65c_48 rfl dJx4a65c_size_8abf5_1 ?_
  exact rc_iret hx hb hr hlk (rfl) dJx4a65c_size_8abf5_4
theorem ke_Jx4a65c_elementData_915e3 : wl_V RJx4a65c yJx4a65c_elementData_915e3 cJx4a65c_elementData_915e3 2 (some (.object "java/lang/Object")) 1 := ⟨wd_c_Jx4a65c_elementData_915e3, wd_i_Jx4a65c_elementData_915e3, wd_s_Jx4a65c_elementData_915e3, wd_n_Jx4a65c, by decide, by decide +kernel⟩
set_option maxHeartbeats 4000000 in
set_option maxRecDepth 100000 in
theorem m_Jx4a65c_elementData_915e3 (l : Launch) (G : k_G) (Z : Nat → Prop) (ad : k_Ad) (mm : q_Mem) (i : Nat) (hI : Inv mm) (hi : i < sp_W mm) : rq_C l yJx4a65c_elementData_915e3 cJx4a65c_elementData_915e3 2 (some (.object "java/lang/Object")) 0 0 [.ref (ad 0 1), .int (nI i)] (k_R G Z ad mm) (fun r => r = some (ad 1 i)) := by
  refine rq_of (by decide) (Nat.le_of_ble_eq_true rfl) ?_
  intro p e s m args below meth c hx hb hr hF hlk hB ls hl
  obtain ⟨hM, hK, hP, hT⟩ := hB
  have hS : va_S Z s.heap s.heap [] := va_S.rf
  have hl : lv_has ls 2 [(0, .ref (ad 0 1)), (1, .int (nI i))] := hl
  have hf : (0 : Nat) ≤ 0 ∧ (0 : Nat) ≤ 0 := ⟨Nat.le_refl 0, Nat.le_refl 0⟩
  refine lv_aload_n hx hb dJx4a65c_elementData_915e3_0 rfl (lv_at hl 0 rfl) ?_
  refine g_get (C := RJx4a65c) (T := TJx4a65c) (N := 3) (v := .ref (if sp_W mm = 0 then G.2.2.2.2.1 else ad 0 6)) hF hK (hM 0 1 _ rfl) rfl inlJx4a65c 1 (by decide) rfl wd_f_Jx4a65c_9 rfl dJx4a65c_elementData_915e3_1 ?_
  refine bo_toV (v := .ref (ad 0 6)) (by rw [if_neg (by omega : ¬ sp_W mm = 0)]) ?_
  refine lv_iload_n hx hb dJx4a65c_elementData_915e3_4 rfl (lv_at hl 1 rfl) ?_
  refine g_aldq (t0 := 2) (i := i) hF hK (hM 0 6 _ (kc_e (by omega))) rfl rfl (Nat.lt_of_lt_of_le hi (cp_le hI.W40)) (cp_lt _) dJx4a65c_elementData_915e3_5 ?_
  refine bo_toV (v := .ref (ad 1 i)) (k_er_w hi) ?_
  exact rq_ret (o := (some (ad 1 i))) hx hb hr hlk (rfl) dJx4a65c_elementData_915e3_6
theorem ke_Jx4a65c_get_915e3 : wl_V RJx4a65c yJx4a65c_get_915e3 cJx4a65c_get_915e3 2 (some (.object "java/lang/Object")) 1 := ⟨wd_c_Jx4a65c_get_915e3, wd_i_Jx4a65c_get_915e3, wd_s_Jx4a65c_get_915e3, wd_n_Jx4a65c, by decide, by decide +kernel⟩
set_option maxHeartbeats 4000000 in
set_option maxRecDepth 100000 in
theorem m_Jx4a65c_get_915e3 (l : Launch) (G : k_G) (Z : Nat → Prop) (ad : k_Ad) (mm : q_Mem) (i : Nat) (hI : Inv mm) (hi : i < sp_W mm) : rq_C l yJx4a65c_get_915e3 cJx4a65c_get_915e3 2 (some (.object "java/lang/Object")) 2 43 [.ref (ad 0 1), .int (nI i)] (k_R G Z ad mm) (fun r => r = some (ad 1 i)) := by
  refine rq_of (by decide) (Nat.le_of_ble_eq_true rfl) ?_
  intro p e s m args below meth c hx hb hr hF hlk hB ls hl
  obtain ⟨hM, hK, hP, hT⟩ := hB
  have hS : va_S Z s.heap s.heap [] := va_S.rf
  have hl : lv_has ls 2 [(0, .ref (ad 0 1)), (1, .int (nI i))] := hl
  have hf : (0 : Nat) ≤ 0 ∧ (0 : Nat) ≤ 0 := ⟨Nat.le_refl 0, Nat.le_refl 0⟩
  refine lv_iload_n hx hb dJx4a65c_get_915e3_0 rfl (lv_at hl 1 rfl) ?_
  refine lv_aload_n hx hb dJx4a65c_get_915e3_1 rfl (lv_at hl 0 rfl) ?_
  refine g_get (C := RJx4a65c) (T := TJx4a65c) (N := 3) (v := .int (mm 1 0)) hF hK (hM 0 1 _ rfl) rfl inlJx4a65c 2 (by decide) rfl wd_f_Jx4a65c_48 rfl dJx4a65c_get_915e3_2 ?_
  refine bo_to (v := (nI (sp_W mm))) (hI.W) ?_
  refine rc_S (fr := 1) (lo := 22) (As := [.int (nI i), .int (nI (sp_W mm))]) (rest := []) hF (m_J15_checkIndex_7cf53 l i (sp_W mm) hi (by have := hI.W40; omega)) ke_J15_checkIndex_7cf53 wd_l_Jx4a65c_118 (by decide) bl_true (fun _ _ _ => trivial) rfl hl.1 rfl (Nat.le_of_ble_eq_true rfl) dJx4a65c_get_915e3_5 hf (fun r1 hr1 => ?_)
  replace hr1 : r1 = nI i := hr1
  subst hr1
  refine lv_pop hx hb dJx4a65c_get_915e3_8 rfl ?_
  refine lv_aload_n hx hb dJx4a65c_get_915e3_9 rfl (lv_at hl 0 rfl) ?_
  refine lv_iload_n hx hb dJx4a65c_get_915e3_10 rfl (lv_at hl 1 rfl) ?_
  refine kq_V (fr := 0) (lo := 0) (As := [.int (nI i)]) (rest := []) hF (m_Jx4a65c_elementData_915e3 l G Z ad mm i hI hi) ke_Jx4a65c_elementData_915e3 wd_l_Jx4a65c_123 (by decide) hM hK hP hT hS (g_recv hK (hM 0 1 _ rfl) rfl) rfl hl.1 rfl (Nat.le_of_ble_eq_true rfl) dJx4a65c_get_915e3_11 hf (fun r2 hr2 => ?_)
  obtain rfl := hr2
  refine bo_toV (v := .ref (ad 1 i)) rfl ?_
  exact rq_ret (o := (some (ad 1 i))) hx hb hr hlk (rfl) dJx4a65c_get_915e3_14
theorem ke_X4_isIn : wl_S yX4_isIn cX4_isIn 3 (some .boolean) 3 := ⟨wd_c_X4_isIn, wd_t_X4_isIn, wd_n_X4, by decide, by decide +kernel⟩
set_option maxHeartbeats 4000000 in
set_option maxRecDepth 100000 in
theorem m_X4_isIn (l : Launch) (x y z : Int32)  : rc_C l yX4_isIn cX4_isIn 3 (some .boolean) 0 0 [.int x, .int y, .int z] (fun _ => True) (fun r => r = if y ≤ x ∧ x ≤ z then 1 else 0) := by
  refine rc_of (by decide) (Nat.le_of_ble_eq_true rfl) ?_
  intro p e s m args below meth c hx hb hr hF hlk hB ls hl
  have hl : lv_has ls 3 [(0, .int x), (1, .int y), (2, .int z)] := hl
  have hf : (0 : Nat) ≤ 0 ∧ (0 : Nat) ≤ 0 := ⟨Nat.le_refl 0, Nat.le_refl 0⟩
  refine lv_iload_n hx hb dX4_isIn_0 rfl (lv_at hl 0 rfl) ?_
  refine lv_iload_n hx hb dX4_isIn_1 rfl (lv_at hl 1 rfl) ?_
  refine lv_icmp_lt (tgt := 14) hx hb dX4_isIn_2 (by decide) (fun c1 => ?_) (fun c1 => ?_)
  · skip
    refine lv_iconst (v := 0) hx hb dX4_isIn_14 (by decide) ?_
    exact rc_zret hx hb hr hlk (by first | exact Or.inl rfl | exact Or.inr rfl) (by first | exact bo_y (bo_lt c1) (bo_lt c2) | exact bo_n1 (bo_nle c1) | exact bo_n2 (bo_nle c2)) dX4_isIn_15
  · skip
    refine lv_iload_n hx hb dX4_isIn_5 rfl (lv_at hl 0 rfl) ?_
    refine lv_iload_n hx hb dX4_isIn_6 rfl (lv_at hl 2 rfl) ?_
    refine lv_icmp_gt (tgt := 14) hx hb dX4_isIn_7 (by decide) (fun c2 => ?_) (fun c2 => ?_)
    · skip
      refine lv_iconst (v := 0) hx hb dX4_isIn_14 (by decide) ?_
      exact rc_zret hx hb hr hlk (by first | exact Or.inl rfl | exact Or.inr rfl) (by first | exact bo_y (bo_lt c1) (bo_lt c2) | exact bo_n1 (bo_nle c1) | exact bo_n2 (bo_nle c2)) dX4_isIn_15
    · skip
      refine lv_iconst (v := 1) hx hb dX4_isIn_10 (by decide) ?_
      refine lv_goto (tgt := 15) hx hb dX4_isIn_11 (by decide) ?_
      exact rc_zret hx hb hr hlk (by first | exact Or.inl rfl | exact Or.inr rfl) (by first | exact bo_y (bo_lt c1) (bo_lt c2) | exact bo_n1 (bo_nle c1) | exact bo_n2 (bo_nle c2)) dX4_isIn_15
theorem ke_X4_isKind : wl_S yX4_isKind cX4_isKind 1 (some .boolean) 1 := ⟨wd_c_X4_isKind, wd_t_X4_isKind, wd_n_X4, by decide, by decide +kernel⟩
set_option maxHeartbeats 4000000 in
set_option maxRecDepth 100000 in
theorem m_X4_isKind (l : Launch) (x : Int32)  : rc_C l yX4_isKind cX4_isKind 1 (some .boolean) 1 22 [.int x] (fun _ => True) (fun r => r = if 0 ≤ x ∧ x ≤ 3 then 1 else 0) := by
  refine rc_of (by decide) (Nat.le_of_ble_eq_true rfl) ?_
  intro p e s m args below meth c hx hb hr hF hlk hB ls hl
  have hl : lv_has ls 1 [(0, .int x)] := hl
  have hf : (0 : Nat) ≤ 0 ∧ (0 : Nat) ≤ 0 := ⟨Nat.le_refl 0, Nat.le_refl 0⟩
  refine lv_iload_n hx hb dX4_isKind_0 rfl (lv_at hl 0 rfl) ?_
  refine lv_iconst (v := 0) hx hb dX4_isKind_1 (by decide) ?_
  refine lv_iconst (v := 3) hx hb dX4_isKind_2 (by decide) ?_
  refine rc_S (fr := 0) (lo := 0) (As := [.int x, .int 0, .int 3]) (rest := []) hF (m_X4_isIn l x 0 3) ke_X4_isIn wd_l_X4_50 (by decide) bl_true (fun _ _ _ => trivial) rfl hl.1 rfl (Nat.le_of_ble_eq_true rfl) dX4_isKind_3 hf (fun r1 hr1 => ?_)
  exact rc_zret hx hb hr hlk (bo_bit hr1) (hr1) dX4_isKind_6
theorem ke_X4_isDirection : wl_S yX4_isDirection cX4_isDirection 1 (some .boolean) 1 := ⟨wd_c_X4_isDirection, wd_t_X4_isDirection, wd_n_X4, by decide, by decide +kernel⟩
set_option maxHeartbeats 4000000 in
set_option maxRecDepth 100000 in
theorem m_X4_isDirection (l : Launch) (x : Int32)  : rc_C l yX4_isDirection cX4_isDirection 1 (some .boolean) 1 22 [.int x] (fun _ => True) (fun r => r = if 0 ≤ x ∧ x ≤ 2 then 1 else 0) := by
  refine rc_of (by decide) (Nat.le_of_ble_eq_true rfl) ?_
  intro p e s m args below meth c hx hb hr hF hlk hB ls hl
  have hl : lv_has ls 1 [(0, .int x)] := hl
  have hf : (0 : Nat) ≤ 0 ∧ (0 : Nat) ≤ 0 := ⟨Nat.le_refl 0, Nat.le_refl 0⟩
  refine lv_iload_n hx hb dX4_isDirection_0 rfl (lv_at hl 0 rfl) ?_
  refine lv_iconst (v := 0) hx hb dX4_isDirection_1 (by decide) ?_
  refine lv_iconst (v := 2) hx hb dX4_isDirection_2 (by decide) ?_
  refine rc_S (fr := 0) (lo := 0) (As := [.int x, .int 0, .int 2]) (rest := []) hF (m_X4_isIn l x 0 2) ke_X4_isIn wd_l_X4_50 (by decide) bl_true (fun _ _ _ => trivial) rfl hl.1 rfl (Nat.le_of_ble_eq_true rfl) dX4_isDirection_3 hf (fun r1 hr1 => ?_)
  exact rc_zret hx hb hr hlk (bo_bit hr1) (hr1) dX4_isDirection_6
theorem ke_X4_tilesAcross : wl_S yX4_tilesAcross cX4_tilesAcross 1 (some .int) 1 := ⟨wd_c_X4_tilesAcross, wd_t_X4_tilesAcross, wd_n_X4, by decide, by decide +kernel⟩
set_option maxHeartbeats 4000000 in
set_option maxRecDepth 100000 in
theorem m_X4_tilesAcross (l : Launch) (z : Int32)  : rc_C l yX4_tilesAcross cX4_tilesAcross 1 (some .int) 0 0 [.int z] (fun _ => True) (fun r => r = sp_mn z) := by
  refine rc_of (by decide) (Nat.le_of_ble_eq_true rfl) ?_
  intro p e s m args below meth c hx hb hr hF hlk hB ls hl
  have hl : lv_has ls 1 [(0, .int z)] := hl
  have hf : (0 : Nat) ≤ 0 ∧ (0 : Nat) ≤ 0 := ⟨Nat.le_refl 0, Nat.le_refl 0⟩
  refine lv_iconst (v := 1) hx hb dX4_tilesAcross_0 (by decide) ?_
  refine lv_iload_n hx hb dX4_tilesAcross_1 rfl (lv_at hl 0 rfl) ?_
  refine lv_ishl hx hb dX4_tilesAcross_2 ?_
  refine bo_to (v := (sp_mn z)) (rfl) ?_
  exact rc_iret hx hb hr hlk (rfl) dX4_tilesAcross_3
theorem ke_X4_distance : wl_S yX4_distance cX4_distance 4 (some .int) 4 := ⟨wd_c_X4_distance, wd_t_X4_distance, wd_n_X4, by decide, by decide +kernel⟩
set_option maxHeartbeats 4000000 in
set_option maxRecDepth 100000 in
theorem m_X4_distance (l : Launch) (a b c1 d : Int32)  : rc_C l yX4_distance cX4_distance 4 (some .int) 1 24 [.int a, .int b, .int c1, .int d] (fun _ => True) (fun r => r = k_dst a b c1 d) := by
  refine rc_of (by decide) (Nat.le_of_ble_eq_true rfl) ?_
  intro p e s m args below meth c hx hb hr hF hlk hB ls hl
  have hl : lv_has ls 4 [(0, .int a), (1, .int b), (2, .int c1), (3, .int d)] := hl
  have hf : (0 : Nat) ≤ 0 ∧ (0 : Nat) ≤ 0 := ⟨Nat.le_refl 0, Nat.le_refl 0⟩
  refine lv_iload_n hx hb dX4_distance_0 rfl (lv_at hl 0 rfl) ?_
  refine lv_iload_n hx hb dX4_distance_1 rfl (lv_at hl 2 rfl) ?_
  refine lv_isub hx hb dX4_distance_2 ?_
  refine va_mabs hF.1 hF.2.1 (hF.2.2.1.trans hl.1.symm) hF.2.2.2.1 (hF.2.2.2.2 _ wd_l_X4_303) (hF.2.2.2.2 _ wd_x20) (hF.2.2.2.2 _ wd_x9) (hF.2.2.2.2 _ wd_x21) (by decide) (Nat.le_of_ble_eq_true rfl) hf.1 hf.2 dX4_distance_3 ?_
  refine lv_iload_n hx hb dX4_distance_6 rfl (lv_at hl 1 rfl) ?_
  refine lv_iload_n hx hb dX4_distance_7 rfl (lv_at hl 3 rfl) ?_
  refine lv_isub hx hb dX4_distance_8 ?_
  refine va_mabs hF.1 hF.2.1 (hF.2.2.1.trans hl.1.symm) hF.2.2.2.1 (hF.2.2.2.2 _ wd_l_X4_303) (hF.2.2.2.2 _ wd_x20) (hF.2.2.2.2 _ wd_x9) (hF.2.2.2.2 _ wd_x21) (by decide) (Nat.le_of_ble_eq_true rfl) hf.1 hf.2 dX4_distance_9 ?_
  refine lv_iadd hx hb dX4_distance_12 ?_
  exact rc_iret hx hb hr hlk (rfl) dX4_distance_13
theorem ke_X4_isFull : wl_V RX4 yX4_isFull cX4_isFull 1 (some .boolean) 0 := ⟨wd_c_X4_isFull, wd_i_X4_isFull, wd_s_X4_isFull, wd_n_X4, by decide, by decide +kernel⟩
set_option maxHeartbeats 4000000 in
set_option maxRecDepth 100000 in
theorem m_X4_isFull (l : Launch) (G : k_G) (Z : Nat → Prop) (ad : k_Ad) (mm : q_Mem)  : rc_C l yX4_isFull cX4_isFull 1 (some .boolean) 0 0 [.ref (ad 0 0)] (k_R G Z ad mm) (fun r => r = if 512 ≤ mm 10 0 then 1 else 0) := by
  refine rc_of (by decide) (Nat.le_of_ble_eq_true rfl) ?_
  intro p e s m args below meth c hx hb hr hF hlk hB ls hl
  obtain ⟨hM, hK, hP, hT⟩ := hB
  have hS : va_S Z s.heap s.heap [] := va_S.rf
  have hl : lv_has ls 1 [(0, .ref (ad 0 0))] := hl
  have hf : (0 : Nat) ≤ 0 ∧ (0 : Nat) ≤ 0 := ⟨Nat.le_refl 0, Nat.le_refl 0⟩
  refine lv_aload_n hx hb dX4_isFull_0 rfl (lv_at hl 0 rfl) ?_
  refine g_get (C := RX4) (T := TX4) (N := 6) (v := .int (mm 10 0)) hF hK (hM 0 0 _ rfl) rfl inlX4 5 (by decide) rfl wd_f_X4_32 rfl dX4_isFull_1 ?_
  refine lv_sipush (v := 512) hx hb dX4_isFull_4 (by decide) ?_
  refine lv_icmp_lt (tgt := 14) hx hb dX4_isFull_7 (by decide) (fun c1 => ?_) (fun c1 => ?_)
  · skip
    refine lv_iconst (v := 0) hx hb dX4_isFull_14 (by decide) ?_
    exact rc_zret hx hb hr hlk (by first | exact Or.inl rfl | exact Or.inr rfl) (by first | exact bo_p (bo_lt c1) | exact bo_n (bo_nle c1)) dX4_isFull_15
  · skip
    refine lv_iconst (v := 1) hx hb dX4_isFull_10 (by decide) ?_
    refine lv_goto (tgt := 15) hx hb dX4_isFull_11 (by decide) ?_
    exact rc_zret hx hb hr hlk (by first | exact Or.inl rfl | exact Or.inr rfl) (by first | exact bo_p (bo_lt c1) | exact bo_n (bo_nle c1)) dX4_isFull_15
theorem ke_X3_kind : wl_V RX3 yX3_kind cX3_kind 1 (some .int) 0 := ⟨wd_c_X3_kind, wd_i_X3_kind, wd_s_X3_kind, wd_n_X3, by decide, by decide +kernel⟩
set_option maxHeartbeats 4000000 in
set_option maxRecDepth 100000 in
theorem m_X3_kind (l : Launch) (G : k_G) (Z : Nat → Prop) (ad : k_Ad) (mm : q_Mem) (w : Nat) (hI : Inv mm) (hw : w < sp_W mm) : rc_C l yX3_kind cX3_kind 1 (some .int) 0 0 [.ref (ad 1 w)] (k_R G Z ad mm) (fun r => r = sp_vk (mm 11 (sp_L mm w))) := by
  refine rc_of (by decide) (Nat.le_of_ble_eq_true rfl) ?_
  intro p e s m args below meth c hx hb hr hF hlk hB ls hl
  obtain ⟨hM, hK, hP, hT⟩ := hB
  have hS : va_S Z s.heap s.heap [] := va_S.rf
  have hl : lv_has ls 1 [(0, .ref (ad 1 w))] := hl
  have hf : (0 : Nat) ≤ 0 ∧ (0 : Nat) ≤ 0 := ⟨Nat.le_refl 0, Nat.le_refl 0⟩
  have hLK := hI.LK hw
  have hW40 := hI.W40
  have hKK := hI.K512
  refine lv_aload_n hx hb dX3_kind_0 rfl (lv_at hl 0 rfl) ?_
  refine g_get (C := RX3) (T := TX3) (N := 8) (v := .ref (ad 3 (sp_L mm w))) hF hK (hM 1 w _ (kc_w (by assumption))) rfl inlX3 5 (by decide) rfl wd_f_X3_35 rfl dX3_kind_1 ?_
  refine g_get (C := RX2) (T := TX2) (N := 4) (v := .ref (ad 4 (sp_L mm w))) hF hK (hM 3 (sp_L mm w) _ (kc_v (by assumption))) rfl inlX2 0 (by decide) rfl wd_f_X3_45 rfl dX3_kind_4 ?_
  refine g_get (C := RX0) (T := TX0) (N := 3) (v := .int (sp_vk (mm 11 (sp_L mm w)))) hF hK (hM 4 (sp_L mm w) _ (kc_c (by assumption))) rfl inlX0 0 (by decide) rfl wd_f_X3_50 rfl dX3_kind_7 ?_
  exact rc_iret hx hb hr hlk (rfl) dX3_kind_10
theorem ke_X3_direction : wl_V RX3 yX3_direction cX3_direction 1 (some .int) 0 := ⟨wd_c_X3_direction, wd_i_X3_direction, wd_s_X3_direction, wd_n_X3, by decide, by decide +kernel⟩
set_option maxHeartbeats 4000000 in
set_option maxRecDepth 100000 in
theorem m_X3_direction (l : Launch) (G : k_G) (Z : Nat → Prop) (ad : k_Ad) (mm : q_Mem) (w : Nat) (hI : Inv mm) (hw : w < sp_W mm) : rc_C l yX3_direction cX3_direction 1 (some .int) 0 0 [.ref (ad 1 w)] (k_R G Z ad mm) (fun r => r = sp_vd (mm 11 (sp_L mm w))) := by
  refine rc_of (by decide) (Nat.le_of_ble_eq_true rfl) ?_
  intro p e s m args below meth c hx hb hr hF hlk hB ls hl
  obtain ⟨hM, hK, hP, hT⟩ := hB
  have hS : va_S Z s.heap s.heap [] := va_S.rf
  have hl : lv_has ls 1 [(0, .ref (ad 1 w))] := hl
  have hf : (0 : Nat) ≤ 0 ∧ (0 : Nat) ≤ 0 := ⟨Nat.le_refl 0, Nat.le_refl 0⟩
  have hLK := hI.LK hw
  have hW40 := hI.W40
  have hKK := hI.K512
  refine lv_aload_n hx hb dX3_direction_0 rfl (lv_at hl 0 rfl) ?_
  refine g_get (C := RX3) (T := TX3) (N := 8) (v := .ref (ad 3 (sp_L mm w))) hF hK (hM 1 w _ (kc_w (by assumption))) rfl inlX3 5 (by decide) rfl wd_f_X3_35 rfl dX3_direction_1 ?_
  refine g_get (C := RX2) (T := TX2) (N := 4) (v := .ref (ad 4 (sp_L mm w))) hF hK (hM 3 (sp_L mm w) _ (kc_v (by assumption))) rfl inlX2 0 (by decide) rfl wd_f_X3_45 rfl dX3_direction_4 ?_
  refine g_get (C := RX0) (T := TX0) (N := 3) (v := .int (sp_vd (mm 11 (sp_L mm w)))) hF hK (hM 4 (sp_L mm w) _ (kc_c (by assumption))) rfl inlX0 1 (by decide) rfl wd_f_X3_55 rfl dX3_direction_7 ?_
  exact rc_iret hx hb hr hlk (rfl) dX3_direction_10
theorem ke_X3_versionCount : wl_V RX3 yX3_versionCount cX3_versionCount 1 (some .int) 0 := ⟨wd_c_X3_versionCount, wd_i_X3_versionCount, wd_s_X3_versionCount, wd_n_X3, by decide, by decide +kernel⟩
set_option maxHeartbeats 4000000 in
set_option maxRecDepth 100000 in
theorem m_X3_versionCount (l : Launch) (G : k_G) (Z : Nat → Prop) (ad : k_Ad) (mm : q_Mem) (w : Nat) (hI : Inv mm) (hw : w < sp_W mm) : rc_C l yX3_versionCount cX3_versionCount 1 (some .int) 0 0 [.ref (ad 1 w)] (k_R G Z ad mm) (fun r => r = mm 7 w) := by
  refine rc_of (by decide) (Nat.le_of_ble_eq_true rfl) ?_
  intro p e s m args below meth c hx hb hr hF hlk hB ls hl
  obtain ⟨hM, hK, hP, hT⟩ := hB
  have hS : va_S Z s.heap s.heap [] := va_S.rf
  have hl : lv_has ls 1 [(0, .ref (ad 1 w))] := hl
  have hf : (0 : Nat) ≤ 0 ∧ (0 : Nat) ≤ 0 := ⟨Nat.le_refl 0, Nat.le_refl 0⟩
  have hLK := hI.LK hw
  have hW40 := hI.W40
  have hKK := hI.K512
  refine lv_aload_n hx hb dX3_versionCount_0 rfl (lv_at hl 0 rfl) ?_
  refine g_get (C := RX3) (T := TX3) (N := 8) (v := .ref (ad 3 (sp_L mm w))) hF hK (hM 1 w _ (kc_w (by assumption))) rfl inlX3 5 (by decide) rfl wd_f_X3_35 rfl dX3_versionCount_1 ?_
  refine g_get (C := RX2) (T := TX2) (N := 4) (v := .int (mm 21 (sp_L mm w))) hF hK (hM 3 (sp_L mm w) _ (kc_v (by assumption))) rfl inlX2 2 (by decide) rfl wd_f_X3_58 rfl dX3_versionCount_4 ?_
  refine lv_iconst (v := 1) hx hb dX3_versionCount_7 (by decide) ?_
  refine lv_iadd hx hb dX3_versionCount_8 ?_
  exact rc_iret hx hb hr hlk (by obtain ⟨n, -, e1, e2⟩ := hI.N hw; rw [e1, e2, nI_1]) dX3_versionCount_9
theorem ke_X0_coded : wl_V RX0 yX0_coded cX0_coded 1 (some .int) 0 := ⟨wd_c_X0_coded, wd_i_X0_coded, wd_s_X0_coded, wd_n_X0, by decide, by decide +kernel⟩
set_option maxHeartbeats 4000000 in
set_option maxRecDepth 100000 in
theorem m_X0_coded (l : Launch) (G : k_G) (Z : Nat → Prop) (ad : k_Ad) (mm : q_Mem) (j : Nat) (hj : j < sp_K mm) : rc_C l yX0_coded cX0_coded 1 (some .int) 0 0 [.ref (ad 4 j)] (k_R G Z ad mm) (fun r => r = sp_co (sp_vk (mm 11 j)) (sp_vd (mm 11 j)) (sp_ve (mm 11 j))) := by
  refine rc_of (by decide) (Nat.le_of_ble_eq_true rfl) ?_
  intro p e s m args below meth c hx hb hr hF hlk hB ls hl
  obtain ⟨hM, hK, hP, hT⟩ := hB
  have hS : va_S Z s.heap s.heap [] := va_S.rf
  have hl : lv_has ls 1 [(0, .ref (ad 4 j))] := hl
  have hf : (0 : Nat) ≤ 0 ∧ (0 : Nat) ≤ 0 := ⟨Nat.le_refl 0, Nat.le_refl 0⟩
  refine lv_bipush (v := 100) hx hb dX0_coded_0 (by decide) ?_
  refine lv_aload_n hx hb dX0_coded_2 rfl (lv_at hl 0 rfl) ?_
  refine g_get (C := RX0) (T := TX0) (N := 3) (v := .int (sp_vk (mm 11 j))) hF hK (hM 4 j _ (kc_c (by assumption))) rfl inlX0 0 (by decide) rfl wd_f_X0_7 rfl dX0_coded_3 ?_
  refine lv_imul hx hb dX0_coded_6 ?_
  refine lv_bipush (v := 10) hx hb dX0_coded_7 (by decide) ?_
  refine lv_aload_n hx hb dX0_coded_9 rfl (lv_at hl 0 rfl) ?_
  refine g_get (C := RX0) (T := TX0) (N := 3) (v := .int (sp_vd (mm 11 j))) hF hK (hM 4 j _ (kc_c (by assumption))) rfl inlX0 1 (by decide) rfl wd_f_X0_13 rfl dX0_coded_10 ?_
  refine lv_imul hx hb dX0_coded_13 ?_
  refine lv_iadd hx hb dX0_coded_14 ?_
  refine lv_aload_n hx hb dX0_coded_15 rfl (lv_at hl 0 rfl) ?_
  refine g_get (C := RX0) (T := TX0) (N := 3) (v := .int (sp_ve (mm 11 j))) hF hK (hM 4 j _ (kc_c (by assumption))) rfl inlX0 2 (by decide) rfl wd_f_X0_16 rfl dX0_coded_16 ?_
  refine lv_iadd hx hb dX0_coded_19 ?_
  refine lv_iconst (v := 1) hx hb dX0_coded_20 (by decide) ?_
  refine lv_iadd hx hb dX0_coded_21 ?_
  exact rc_iret hx hb hr hlk (rfl) dX0_coded_22
theorem ke_X3_distanceFromBegin : wl_V RX3 yX3_distanceFromBegin cX3_distanceFromBegin 3 (some .int) 2 := ⟨wd_c_X3_distanceFromBegin, wd_i_X3_distanceFromBegin, wd_s_X3_distanceFromBegin, wd_n_X3, by decide, by decide +kernel⟩
set_option maxHeartbeats 4000000 in
set_option maxRecDepth 100000 in
theorem m_X3_distanceFromBegin (l : Launch) (G : k_G) (Z : Nat → Prop) (ad : k_Ad) (mm : q_Mem) (w : Nat) (x y : Int32) (hI : Inv mm) (hw : w < sp_W mm) : rc_C l yX3_distanceFromBegin cX3_distanceFromBegin 3 (some .int) 2 47 [.ref (ad 1 w), .int x, .int y] (k_R G Z ad mm) (fun r => r = k_dst x y (mm 2 w) (mm 3 w)) := by
  refine rc_of (by decide) (Nat.le_of_ble_eq_true rfl) ?_
  intro p e s m args below meth c hx hb hr hF hlk hB ls hl
  obtain ⟨hM, hK, hP, hT⟩ := hB
  have hS : va_S Z s.heap s.heap [] := va_S.rf
  have hl : lv_has ls 3 [(0, .ref (ad 1 w)), (1, .int x), (2, .int y)] := hl
  have hf : (0 : Nat) ≤ 0 ∧ (0 : Nat) ≤ 0 := ⟨Nat.le_refl 0, Nat.le_refl 0⟩
  refine lv_iload_n hx hb dX3_distanceFromBegin_0 rfl (lv_at hl 1 rfl) ?_
  refine lv_iload_n hx hb dX3_distanceFromBegin_1 rfl (lv_at hl 2 rfl) ?_
  refine lv_aload_n hx hb dX3_distanceFromBegin_2 rfl (lv_at hl 0 rfl) ?_
  refine g_get (C := RX3) (T := TX3) (N := 8) (v := .int (mm 2 w)) hF hK (hM 1 w _ (kc_w (by assumption))) rfl inlX3 0 (by decide) rfl wd_f_X3_23 rfl dX3_distanceFromBegin_3 ?_
  refine lv_aload_n hx hb dX3_distanceFromBegin_6 rfl (lv_at hl 0 rfl) ?_
  refine g_get (C := RX3) (T := TX3) (N := 8) (v := .int (mm 3 w)) hF hK (hM 1 w _ (kc_w (by assumption))) rfl inlX3 1 (by decide) rfl wd_f_X3_26 rfl dX3_distanceFromBegin_7 ?_
  refine kr_SN (fr := 1) (lo := 24) (As := [.int x, .int y, .int (mm 2 w), .int (mm 3 w)]) (rest := []) hF (m_X4_distance l x y (mm 2 w) (mm 3 w)) ke_X4_distance hP.1 (by decide) rfl hl.1 rfl (Nat.le_of_ble_eq_true rfl) dX3_distanceFromBegin_10 hf (fun r1 hr1 => ?_)
  replace hr1 : r1 = k_dst x y (mm 2 w) (mm 3 w) := hr1
  subst hr1
  exact rc_iret hx hb hr hlk (rfl) dX3_distanceFromBegin_13
theorem ke_X3_distanceFromEnd : wl_V RX3 yX3_distanceFromEnd cX3_distanceFromEnd 3 (some .int) 2 := ⟨wd_c_X3_distanceFromEnd, wd_i_X3_distanceFromEnd, wd_s_X3_distanceFromEnd, wd_n_X3, by decide, by decide +kernel⟩
set_option maxHeartbeats 4000000 in
set_option maxRecDepth 100000 in
theorem m_X3_distanceFromEnd (l : Launch) (G : k_G) (Z : Nat → Prop) (ad : k_Ad) (mm : q_Mem) (w : Nat) (x y : Int32) (hI : Inv mm) (hw : w < sp_W mm) : rc_C l yX3_distanceFromEnd cX3_distanceFromEnd 3 (some .int) 2 47 [.ref (ad 1 w), .int x, .int y] (k_R G Z ad mm) (fun r => r = k_dst x y (mm 4 w) (mm 5 w)) := by
  refine rc_of (by decide) (Nat.le_of_ble_eq_true rfl) ?_
  intro p e s m args below meth c hx hb hr hF hlk hB ls hl
  obtain ⟨hM, hK, hP, hT⟩ := hB
  have hS : va_S Z s.heap s.heap [] := va_S.rf
  have hl : lv_has ls 3 [(0, .ref (ad 1 w)), (1, .int x), (2, .int y)] := hl
  have hf : (0 : Nat) ≤ 0 ∧ (0 : Nat) ≤ 0 := ⟨Nat.le_refl 0, Nat.le_refl 0⟩
  refine lv_iload_n hx hb dX3_distanceFromEnd_0 rfl (lv_at hl 1 rfl) ?_
  refine lv_iload_n hx hb dX3_distanceFromEnd_1 rfl (lv_at hl 2 rfl) ?_
  refine lv_aload_n hx hb dX3_distanceFromEnd_2 rfl (lv_at hl 0 rfl) ?_
  refine g_get (C := RX3) (T := TX3) (N := 8) (v := .int (mm 4 w)) hF hK (hM 1 w _ (kc_w (by assumption))) rfl inlX3 2 (by decide) rfl wd_f_X3_29 rfl dX3_distanceFromEnd_3 ?_
  refine lv_aload_n hx hb dX3_distanceFromEnd_6 rfl (lv_at hl 0 rfl) ?_
  refine g_get (C := RX3) (T := TX3) (N := 8) (v := .int (mm 5 w)) hF hK (hM 1 w _ (kc_w (by assumption))) rfl inlX3 3 (by decide) rfl wd_f_X3_32 rfl dX3_distanceFromEnd_7 ?_
  refine kr_SN (fr := 1) (lo := 24) (As := [.int x, .int y, .int (mm 4 w), .int (mm 5 w)]) (rest := []) hF (m_X4_distance l x y (mm 4 w) (mm 5 w)) ke_X4_distance hP.1 (by decide) rfl hl.1 rfl (Nat.le_of_ble_eq_true rfl) dX3_distanceFromEnd_10 hf (fun r1 hr1 => ?_)
  replace hr1 : r1 = k_dst x y (mm 4 w) (mm 5 w) := hr1
  subst hr1
  exact rc_iret hx hb hr hlk (rfl) dX3_distanceFromEnd_13
theorem ke_X3_distanceFrom : wl_V RX3 yX3_distanceFrom cX3_distanceFrom 3 (some .int) 2 := ⟨wd_c_X3_distanceFrom, wd_i_X3_distanceFrom, wd_s_X3_distanceFrom, wd_n_X3, by decide, by decide +kernel⟩
set_option maxHeartbeats 4000000 in
set_option maxRecDepth 100000 in
theorem m_X3_distanceFrom (l : Launch) (G : k_G) (Z : Nat → Prop) (ad : k_Ad) (mm : q_Mem) (w : Nat) (x y : Int32) (hI : Inv mm) (hw : w < sp_W mm) : rc_C l yX3_distanceFrom cX3_distanceFrom 3 (some .int) 3 69 [.ref (ad 1 w), .int x, .int y] (k_R G Z ad mm) (fun r => r = if k_dst x y (mm 4 w) (mm 5 w) < k_dst x y (mm 2 w) (mm 3 w) then k_dst x y (mm 4 w) (mm 5 w) else k_dst x y (mm 2 w) (mm 3 w)) := by
  refine rc_of (by decide) (Nat.le_of_ble_eq_true rfl) ?_
  intro p e s m args below meth c hx hb hr hF hlk hB ls hl
  obtain ⟨hM, hK, hP, hT⟩ := hB
  have hS : va_S Z s.heap s.heap [] := va_S.rf
  have hl : lv_has ls 3 [(0, .ref (ad 1 w)), (1, .int x), (2, .int y)] := hl
  have hf : (0 : Nat) ≤ 0 ∧ (0 : Nat) ≤ 0 := ⟨Nat.le_refl 0, Nat.le_refl 0⟩
  refine lv_aload_n hx hb dX3_distanceFrom_0 rfl (lv_at hl 0 rfl) ?_
  refine lv_iload_n hx hb dX3_distanceFrom_1 rfl (lv_at hl 1 rfl) ?_
  refine lv_iload_n hx hb dX3_distanceFrom_2 rfl (lv_at hl 2 rfl) ?_
  refine kr_V (fr := 2) (lo := 47) (As := [.int x, .int y]) (rest := []) hF (m_X3_distanceFromBegin l G Z ad mm w x y hI hw) ke_X3_distanceFromBegin wd_l_X3_65 (by decide) hM hK hP hT hS (g_recv hK (hM 1 w _ (kc_w (by assumption))) rfl) rfl hl.1 rfl (Nat.le_of_ble_eq_true rfl) dX3_distanceFrom_3 hf (fun r1 hr1 => ?_)
  replace hr1 : r1 = k_dst x y (mm 2 w) (mm 3 w) := hr1
  subst hr1
  refine lv_aload_n hx hb dX3_distanceFrom_6 rfl (lv_at hl 0 rfl) ?_
  refine lv_iload_n hx hb dX3_distanceFrom_7 rfl (lv_at hl 1 rfl) ?_
  refine lv_iload_n hx hb dX3_distanceFrom_8 rfl (lv_at hl 2 rfl) ?_
  refine kr_V (fr := 2) (lo := 47) (As := [.int x, .int y]) (rest := [.int (k_dst x y (mm 2 w) (mm 3 w))]) hF (m_X3_distanceFromEnd l G Z ad mm w x y hI hw) ke_X3_distanceFromEnd wd_l_X3_69 (by decide) hM hK hP hT hS (g_recv hK (hM 1 w _ (kc_w (by assumption))) rfl) rfl hl.1 rfl (Nat.le_of_ble_eq_true rfl) dX3_distanceFrom_9 hf (fun r2 hr2 => ?_)
  replace hr2 : r2 = k_dst x y (mm 4 w) (mm 5 w) := hr2
  subst hr2
  refine va_mmin hF.1 hF.2.1 (hF.2.2.1.trans hl.1.symm) hF.2.2.2.1 (hF.2.2.2.2 _ wd_l_X3_72) (hF.2.2.2.2 _ wd_x15) (hF.2.2.2.2 _ wd_x9) (hF.2.2.2.2 _ wd_x16) (by decide) (Nat.le_of_ble_eq_true rfl) hf.1 hf.2 dX3_distanceFrom_12 ?_
  exact rc_iret hx hb hr hlk (rfl) dX3_distanceFrom_15
theorem ke_X3_hasPartIn : wl_V RX3 yX3_hasPartIn cX3_hasPartIn 2 (some .boolean) 1 := ⟨wd_c_X3_hasPartIn, wd_i_X3_hasPartIn, wd_s_X3_hasPartIn, wd_n_X3, by decide, by decide +kernel⟩
set_option maxHeartbeats 4000000 in
set_option maxRecDepth 100000 in
theorem m_X3_hasPartIn (l : Launch) (G : k_G) (Z : Nat → Prop) (ad : k_Ad) (mm : q_Mem) (w t : Nat) (hI : Inv mm) (hw : w < sp_W mm) (ht : t < 341) (hs : ¬ mm 13 t = 0) : rc_C l yX3_hasPartIn cX3_hasPartIn 2 (some .boolean) 0 0 [.ref (ad 1 w), .ref (ad 6 t)] (k_R G Z ad mm) (fun r => r = if sp_isin mm w (nI (tz_t t)) (nI (tx_t t)) (nI (ty_t t)) then 1 else 0) := by
  refine rc_of (by decide) (Nat.le_of_ble_eq_true rfl) ?_
  intro p e s m args below meth c hx hb hr hF hlk hB ls hl
  obtain ⟨hM, hK, hP, hT⟩ := hB
  have hS : va_S Z s.heap s.heap [] := va_S.rf
  have hl : lv_has ls 2 [(0, .ref (ad 1 w)), (1, .ref (ad 6 t))] := hl
  have hf : (0 : Nat) ≤ 0 ∧ (0 : Nat) ≤ 0 := ⟨Nat.le_refl 0, Nat.le_refl 0⟩
  refine lv_aload_n hx hb dX3_hasPartIn_0 rfl (lv_at hl 0 rfl) ?_
  refine g_get (C := RX3) (T := TX3) (N := 8) (v := .int (mm 2 w)) hF hK (hM 1 w _ (kc_w (by assumption))) rfl inlX3 0 (by decide) rfl wd_f_X3_23 rfl dX3_hasPartIn_1 ?_
  refine lv_aload_n hx hb dX3_hasPartIn_4 rfl (lv_at hl 1 rfl) ?_
  refine g_get (C := RX1) (T := TX1) (N := 7) (v := .int (sp_sd (nI (tz_t t)) * (nI (tx_t t) + 1))) hF hK (hM 6 t _ (kc_t ht hs)) rfl inlX1 2 (by decide) rfl wd_f_X3_77 rfl dX3_hasPartIn_5 ?_
  refine lv_icmp_gt (tgt := 48) hx hb dX3_hasPartIn_8 (by decide) (fun c1 => ?_) (fun c1 => ?_)
  · skip
    refine lv_iconst (v := 0) hx hb dX3_hasPartIn_48 (by decide) ?_
    exact rc_zret hx hb hr hlk (by first | exact Or.inl rfl | exact Or.inr rfl) (by first | exact bo_p ⟨bo_lt c1, bo_lt c2, bo_lt c3, bo_lt c4⟩ | exact bo_n (fun q => bo_nle c1 q.1) | exact bo_n (fun q => bo_nle c2 q.2.1) | exact bo_n (fun q => bo_nle c3 q.2.2.1) | exact bo_n (fun q => bo_nle c4 q.2.2.2)) dX3_hasPartIn_49
  · skip
    refine lv_aload_n hx hb dX3_hasPartIn_11 rfl (lv_at hl 0 rfl) ?_
    refine g_get (C := RX3) (T := TX3) (N := 8) (v := .int (mm 4 w)) hF hK (hM 1 w _ (kc_w (by assumption))) rfl inlX3 2 (by decide) rfl wd_f_X3_29 rfl dX3_hasPartIn_12 ?_
    refine lv_aload_n hx hb dX3_hasPartIn_15 rfl (lv_at hl 1 rfl) ?_
    refine g_get (C := RX1) (T := TX1) (N := 7) (v := .int (sp_sd (nI (tz_t t)) * nI (tx_t t))) hF hK (hM 6 t _ (kc_t ht hs)) rfl inlX1 1 (by decide) rfl wd_f_X3_82 rfl dX3_hasPartIn_16 ?_
    refine lv_icmp_lt (tgt := 48) hx hb dX3_hasPartIn_19 (by decide) (fun c2 => ?_) (fun c2 => ?_)
    · skip
      refine lv_iconst (v := 0) hx hb dX3_hasPartIn_48 (by decide) ?_
      exact rc_zret hx hb hr hlk (by first | exact Or.inl rfl | exact Or.inr rfl) (by first | exact bo_p ⟨bo_lt c1, bo_lt c2, bo_lt c3, bo_lt c4⟩ | exact bo_n (fun q => bo_nle c1 q.1) | exact bo_n (fun q => bo_nle c2 q.2.1) | exact bo_n (fun q => bo_nle c3 q.2.2.1) | exact bo_n (fun q => bo_nle c4 q.2.2.2)) dX3_hasPartIn_49
    · skip
      refine lv_aload_n hx hb dX3_hasPartIn_22 rfl (lv_at hl 0 rfl) ?_
      refine g_get (C := RX3) (T := TX3) (N := 8) (v := .int (mm 3 w)) hF hK (hM 1 w _ (kc_w (by assumption))) rfl inlX3 1 (by decide) rfl wd_f_X3_26 rfl dX3_hasPartIn_23 ?_
      refine lv_aload_n hx hb dX3_hasPartIn_26 rfl (lv_at hl 1 rfl) ?_
      refine g_get (C := RX1) (T := TX1) (N := 7) (v := .int (sp_sd (nI (tz_t t)) * (nI (ty_t t) + 1))) hF hK (hM 6 t _ (kc_t ht hs)) rfl inlX1 4 (by decide) rfl wd_f_X3_85 rfl dX3_hasPartIn_27 ?_
      refine lv_icmp_gt (tgt := 48) hx hb dX3_hasPartIn_30 (by decide) (fun c3 => ?_) (fun c3 => ?_)
      · skip
        refine lv_iconst (v := 0) hx hb dX3_hasPartIn_48 (by decide) ?_
        exact rc_zret hx hb hr hlk (by first | exact Or.inl rfl | exact Or.inr rfl) (by first | exact bo_p ⟨bo_lt c1, bo_lt c2, bo_lt c3, bo_lt c4⟩ | exact bo_n (fun q => bo_nle c1 q.1) | exact bo_n (fun q => bo_nle c2 q.2.1) | exact bo_n (fun q => bo_nle c3 q.2.2.1) | exact bo_n (fun q => bo_nle c4 q.2.2.2)) dX3_hasPartIn_49
      · skip
        refine lv_aload_n hx hb dX3_hasPartIn_33 rfl (lv_at hl 0 rfl) ?_
        refine g_get (C := RX3) (T := TX3) (N := 8) (v := .int (mm 5 w)) hF hK (hM 1 w _ (kc_w (by assumption))) rfl inlX3 3 (by decide) rfl wd_f_X3_32 rfl dX3_hasPartIn_34 ?_
        refine lv_aload_n hx hb dX3_hasPartIn_37 rfl (lv_at hl 1 rfl) ?_
        refine g_get (C := RX1) (T := TX1) (N := 7) (v := .int (sp_sd (nI (tz_t t)) * nI (ty_t t))) hF hK (hM 6 t _ (kc_t ht hs)) rfl inlX1 3 (by decide) rfl wd_f_X3_88 rfl dX3_hasPartIn_38 ?_
        refine lv_icmp_lt (tgt := 48) hx hb dX3_hasPartIn_41 (by decide) (fun c4 => ?_) (fun c4 => ?_)
        · skip
          refine lv_iconst (v := 0) hx hb dX3_hasPartIn_48 (by decide) ?_
          exact rc_zret hx hb hr hlk (by first | exact Or.inl rfl | exact Or.inr rfl) (by first | exact bo_p ⟨bo_lt c1, bo_lt c2, bo_lt c3, bo_lt c4⟩ | exact bo_n (fun q => bo_nle c1 q.1) | exact bo_n (fun q => bo_nle c2 q.2.1) | exact bo_n (fun q => bo_nle c3 q.2.2.1) | exact bo_n (fun q => bo_nle c4 q.2.2.2)) dX3_hasPartIn_49
        · skip
          refine lv_iconst (v := 1) hx hb dX3_hasPartIn_44 (by decide) ?_
          refine lv_goto (tgt := 49) hx hb dX3_hasPartIn_45 (by decide) ?_
          exact rc_zret hx hb hr hlk (by first | exact Or.inl rfl | exact Or.inr rfl) (by first | exact bo_p ⟨bo_lt c1, bo_lt c2, bo_lt c3, bo_lt c4⟩ | exact bo_n (fun q => bo_nle c1 q.1) | exact bo_n (fun q => bo_nle c2 q.2.1) | exact bo_n (fun q => bo_nle c3 q.2.2.1) | exact bo_n (fun q => bo_nle c4 q.2.2.2)) dX3_hasPartIn_49
theorem ke_X1_shows : wl_V RX1 yX1_shows cX1_shows 2 (some .boolean) 1 := ⟨wd_c_X1_shows, wd_i_X1_shows, wd_s_X1_shows, wd_n_X1, by decide, by decide +kernel⟩
set_option maxHeartbeats 4000000 in
set_option maxRecDepth 100000 in
theorem m_X1_shows (l : Launch) (G : k_G) (Z : Nat → Prop) (ad : k_Ad) (mm : q_Mem) (t j : Nat) (ht : t < 341) (hs : ¬ mm 13 t = 0) (hj : j < sp_K mm) : rc_C l yX1_shows cX1_shows 2 (some .boolean) 0 0 [.ref (ad 6 t), .ref (ad 3 j)] (k_R G Z ad mm) (fun r => r = if sp_sh (mm 11 j) (nI (tz_t t)) then 1 else 0) := by
  refine rc_of (by decide) (Nat.le_of_ble_eq_true rfl) ?_
  intro p e s m args below meth c hx hb hr hF hlk hB ls hl
  obtain ⟨hM, hK, hP, hT⟩ := hB
  have hS : va_S Z s.heap s.heap [] := va_S.rf
  have hl : lv_has ls 2 [(0, .ref (ad 6 t)), (1, .ref (ad 3 j))] := hl
  have hf : (0 : Nat) ≤ 0 ∧ (0 : Nat) ≤ 0 := ⟨Nat.le_refl 0, Nat.le_refl 0⟩
  refine lv_aload_n hx hb dX1_shows_0 rfl (lv_at hl 1 rfl) ?_
  refine lv_ifnull hx hb dX1_shows_1 ?_
  refine lv_aload_n hx hb dX1_shows_4 rfl (lv_at hl 1 rfl) ?_
  refine g_get (C := RX2) (T := TX2) (N := 4) (v := .ref (ad 4 j)) hF hK (hM 3 j _ (kc_v (by assumption))) rfl inlX2 0 (by decide) rfl wd_f_X1_33 rfl dX1_shows_5 ?_
  refine g_get (C := RX0) (T := TX0) (N := 3) (v := .int (sp_vk (mm 11 j))) hF hK (hM 4 j _ (kc_c (by assumption))) rfl inlX0 0 (by decide) rfl wd_f_X1_39 rfl dX1_shows_8 ?_
  refine lv_iconst (v := 3) hx hb dX1_shows_11 (by decide) ?_
  refine lv_aload_n hx hb dX1_shows_12 rfl (lv_at hl 0 rfl) ?_
  refine g_get (C := RX1) (T := TX1) (N := 7) (v := .int (nI (tz_t t))) hF hK (hM 6 t _ (kc_t ht hs)) rfl inlX1 0 (by decide) rfl wd_f_X1_18 rfl dX1_shows_13 ?_
  refine lv_isub hx hb dX1_shows_16 ?_
  refine lv_icmp_lt (tgt := 24) hx hb dX1_shows_17 (by decide) (fun c1 => ?_) (fun c1 => ?_)
  · skip
    refine lv_iconst (v := 0) hx hb dX1_shows_24 (by decide) ?_
    exact rc_zret hx hb hr hlk (by first | exact Or.inl rfl | exact Or.inr rfl) (by first | exact bo_p (bo_lt c1) | exact bo_n (bo_nle c1)) dX1_shows_25
  · skip
    refine lv_iconst (v := 1) hx hb dX1_shows_20 (by decide) ?_
    refine lv_goto (tgt := 25) hx hb dX1_shows_21 (by decide) ?_
    exact rc_zret hx hb hr hlk (by first | exact Or.inl rfl | exact Or.inr rfl) (by first | exact bo_p (bo_lt c1) | exact bo_n (bo_nle c1)) dX1_shows_25
end
section
/-! ===== chains of versions ===== -/
theorem k_io {α : Type} {P : Prop} [Decidable P] {r a b : α} (h : r = if P then a else b) : (P ∧ r = a) ∨ (¬ P ∧ r = b) := by
  by_cases q : P
  · rw [if_pos q] at h; exact Or.inl ⟨q, h⟩
  · rw [if_neg q] at h; exact Or.inr ⟨q, h⟩
section
variable {mm : q_Mem} {w n j t u : Nat} {ad : k_Ad}
theorem back_end (hI : Inv mm) (hw : w < sp_W mm) (hn : mm 21 (sp_L mm w) = nI n) (hn2 : n < 2 ^ 31) : mm 12 (sp_back mm n (sp_L mm w)) = -1 := by
  obtain ⟨h1, h2, -⟩ := hI.back (hI.LK hw) hn hn2 n (Nat.le_refl n)
  rw [Nat.sub_self] at h2
  rcases hI.A h1 with ⟨a, -⟩ | ⟨-, -, -, k, hk, -, e⟩
  · exact a
  · rw [h2] at e
    have := nI_inj (by decide) (by have := hI.K512; omega) e
    omega
theorem kb_step (hI : Inv mm) (hw : w < sp_W mm) (hn : mm 21 (sp_L mm w) = nI n) (hn2 : n < 2 ^ 31) (ht : t ≤ n) : k_rf (mm 12 (sp_back mm t (sp_L mm w)) = -1) (ad 3 (sp_A mm (sp_back mm t (sp_L mm w)))) = k_rf (n < t + 1) (ad 3 (sp_back mm (t + 1) (sp_L mm w))) := by
  by_cases h : t < n
  · obtain ⟨h1, h2, h3⟩ := hI.back (hI.LK hw) hn hn2 t ht
    obtain ⟨h4, -⟩ := hI.back (hI.LK hw) hn hn2 (t + 1) (by omega)
    have h5 : ¬ mm 12 (sp_back mm t (sp_L mm w)) = -1 := by rw [h3 h]; exact nI_nm1 (by have := hI.K512; omega)
    unfold k_rf
    rw [if_neg h5, if_neg (by omega), sp_back_succ]
  · have : t = n := by omega
    subst this
    unfold k_rf
    rw [if_pos (back_end hI hw hn hn2), if_pos (by omega)]
theorem back_dec (hI : Inv mm) (hw : w < sp_W mm) (hn : mm 21 (sp_L mm w) = nI n) (hn2 : n < 2 ^ 31) {s : Nat} : ∀ d, s + d ≤ n → sp_back mm (s + d) (sp_L mm w) + d ≤ sp_back mm s (sp_L mm w)
  | 0, _ => Nat.le_refl _
  | d + 1, h => by
    have ih := back_dec hI hw hn hn2 (s := s) d (by omega)
    obtain ⟨h1, h2, h3⟩ := hI.back (hI.LK hw) hn hn2 (s + d) (by omega)
    have h4 := h3 (by omega)
    have hK := hI.K512
    obtain ⟨h5, -⟩ := hI.back (hI.LK hw) hn hn2 (s + d + 1) (by omega)
    rcases hI.A h1 with ⟨a, -⟩ | ⟨a1, a2, -⟩
    · rw [h4] at a; exact absurd a (nI_nm1 (by omega))
    · have : sp_back mm (s + d + 1) (sp_L mm w) = sp_A mm (sp_back mm (s + d) (sp_L mm w)) := sp_back_succ mm _ _
      show sp_back mm (s + d + 1) (sp_L mm w) + (d + 1) ≤ _
      omega
theorem chain_all (hI : Inv mm) (hw : w < sp_W mm) (hn : mm 21 (sp_L mm w) = nI n) (hn2 : n < 2 ^ 31) : ∀ f j, sp_K mm - j ≤ f → j < sp_K mm → mm 11 j / 1000 = nI w → ∃ s, s ≤ n ∧ j = sp_back mm s (sp_L mm w)
  | 0, j, hf, hj, _ => by omega
  | f + 1, j, hf, hj, hjw => by
    rcases hI.2.2.2.2.2.2.2.2.2.2.1 j hj w hw hjw with h | ⟨i, hi, hji, hiw, hia⟩
    · exact ⟨0, Nat.zero_le _, h⟩
    · obtain ⟨s, hs, e⟩ := chain_all hI hw hn hn2 f i (by omega) hi hiw
      have hK := hI.K512
      have hsn : s < n := by
        rcases Nat.lt_or_ge s n with q | q
        · exact q
        · have : s = n := by omega
          subst this
          have := back_end hI hw hn hn2
          rw [← e, hia] at this
          exact absurd this (nI_nm1 (by omega))
      obtain ⟨-, -, h3⟩ := hI.back (hI.LK hw) hn hn2 s hs
      have h4 := h3 hsn
      rw [← e, hia] at h4
      obtain ⟨h5, -⟩ := hI.back (hI.LK hw) hn hn2 (s + 1) (by omega)
      exact ⟨s + 1, by omega, nI_inj (by omega) (by omega) h4⟩
theorem back_way (hI : Inv mm) (hw : w < sp_W mm) (hn : mm 21 (sp_L mm w) = nI n) (hn2 : n < 2 ^ 31) : ∀ t, t ≤ n → mm 11 (sp_back mm t (sp_L mm w)) / 1000 = nI w
  | 0, _ => by
    obtain ⟨k, d, e, hk, hd, he, h⟩ := iv_D hI hw
    have := hI.W40
    show mm 11 (sp_L mm w) / 1000 = nI w
    rw [h, vw_nI (by omega)]; congr 1; omega
  | t + 1, h => by
    have ih := back_way hI hw hn hn2 t (by omega)
    obtain ⟨h1, h2, h3⟩ := hI.back (hI.LK hw) hn hn2 t (by omega)
    have h4 := h3 (by omega)
    obtain ⟨h5, -⟩ := hI.back (hI.LK hw) hn hn2 (t + 1) (by omega)
    rcases hI.A h1 with ⟨a, -⟩ | ⟨-, -, a3, -⟩
    · rw [h4] at a; exact absurd a (nI_nm1 (by have := hI.K512; omega))
    · rw [sp_back_succ, a3]; exact ih
theorem vis_or (hI : Inv mm) (u : Nat) : ∀ n v, (v = -1 ∨ ∃ j, j < sp_K mm ∧ v = nI j) → sp_seek mm u n v = -1 ∨ ∃ j, j < sp_K mm ∧ sp_seek mm u n v = nI j
  | 0, v, h => h
  | n + 1, v, h => by
    unfold sp_seek
    by_cases h1 : v = -1
    · rw [if_pos h1]; exact h
    · rw [if_neg h1]
      by_cases h2 : v.toNatClampNeg < u
      · rw [if_pos h2]; exact h
      · rw [if_neg h2]
        obtain ⟨j, hj, e⟩ := h.resolve_left h1
        refine vis_or hI u n _ ?_
        have hK := hI.K512
        rw [e, nI_clamp (by omega)]
        rcases hI.A hj with ⟨a, -⟩ | ⟨a1, a2, -⟩
        · exact Or.inl a
        · exact Or.inr ⟨_, by omega, a1⟩
theorem vis_lt (hI : Inv mm) (hw : w < sp_W mm) (h : ¬ sp_vis mm w u = -1) : (sp_vis mm w u).toNatClampNeg < sp_K mm := by
  obtain ⟨j, hj, e⟩ := (vis_or hI u 600 (mm 8 w) (Or.inr ⟨_, hI.LK hw, hI.L hw⟩)).resolve_left h
  have e2 : sp_vis mm w u = nI j := e
  rw [e2, nI_clamp (by have := hI.K512; omega)]
  exact hj
theorem vis_K (hI : Inv mm) (hw : w < sp_W mm) : sp_vis mm w (sp_K mm) = nI (sp_L mm w) := by
  unfold sp_vis
  rw [hI.L hw]
  exact seek_lt (by have := hI.LK hw; have := hI.K512; omega) (hI.LK hw)
theorem pin_K (hI : Inv mm) (hw : w < sp_W mm) {z x y : Int32} : sp_pin mm z x y (sp_K mm) w ↔ sp_sh (mm 11 (sp_L mm w)) z ∧ sp_isin mm w z x y := by
  unfold sp_pin
  rw [vis_K hI hw, nI_clamp (by have := hI.LK hw; have := hI.K512; omega)]
  exact ⟨fun h => h.2, fun h => ⟨nI_nm1 (by have := hI.LK hw; have := hI.K512; omega), h⟩⟩
/-! what a way shows in a tile -/
theorem shn_y {z x y : Int32} (hj : j < 2 ^ 31) (hv : nI j = sp_vis mm w u) (h1 : sp_sh (mm 11 j) z) (h2 : sp_isin mm w z x y) : some (ad 4 j) = if sp_pin mm z x y u w then some (ad 4 (sp_vis mm w u).toNatClampNeg) else none := by
  have e : (sp_vis mm w u).toNatClampNeg = j := by rw [← hv]; exact nI_clamp hj
  rw [if_pos ⟨by rw [← hv]; exact nI_nm1 hj, by rw [e]; exact h1, h2⟩, e]
theorem shn_n {z x y : Int32} (hj : j < 2 ^ 31) (hv : nI j = sp_vis mm w u) (h1 : ¬ sp_sh (mm 11 j) z) : none = if sp_pin mm z x y u w then some (ad 4 (sp_vis mm w u).toNatClampNeg) else none := by
  have e : (sp_vis mm w u).toNatClampNeg = j := by rw [← hv]; exact nI_clamp hj
  rw [if_neg (fun q => h1 (by have := q.2.1; rw [e] at this; exact this))]
theorem shn_0 {z x y v : Int32} (hv : v = sp_vis mm w u) (h1 : v = -1) : none = if sp_pin mm z x y u w then some (ad 4 (sp_vis mm w u).toNatClampNeg) else none := by
  rw [if_neg (fun q => q.1 (hv.symm.trans h1))]
/-! is a tile stale by a way -/
abbrev k_oj (mm : q_Mem) (z : Int32) (j : Nat) : Prop := sp_sh (mm 11 j) z ∨ (¬ mm 12 j = -1 ∧ sp_sh (mm 11 (sp_A mm j)) z)
def k_out (mm : q_Mem) (t w : Nat) : Bool := decide (sp_isin mm w (nI (tz_t t)) (nI (tx_t t)) (nI (ty_t t))) && an_y (fun j => decide ((mm 11 j / 1000 = nI w ∧ (mm 13 t).toNatClampNeg - 1 ≤ j) ∧ k_oj mm (nI (tz_t t)) j)) (sp_K mm)
theorem k_out_iff {t : Nat} : k_out mm t w = true ↔ sp_isin mm w (nI (tz_t t)) (nI (tx_t t)) (nI (ty_t t)) ∧ ∃ j, j < sp_K mm ∧ mm 11 j / 1000 = nI w ∧ (mm 13 t).toNatClampNeg - 1 ≤ j ∧ k_oj mm (nI (tz_t t)) j := by
  unfold k_out
  rw [Bool.and_eq_true, an_y_iff, decide_eq_true_iff]
  constructor
  · rintro ⟨h, j, hj, hp⟩
    obtain ⟨⟨a, b⟩, c⟩ := of_decide_eq_true hp
    exact ⟨h, j, hj, a, b, c⟩
  · rintro ⟨h, j, hj, a, b, c⟩
    exact ⟨h, j, hj, decide_eq_true ⟨⟨a, b⟩, c⟩⟩
/-- the chain is gone through: nothing up to t -/
theorem out_no (hI : Inv mm) (hw : w < sp_W mm) (hn : mm 21 (sp_L mm w) = nI n) (hn2 : n < 2 ^ 31) {t0 : Nat} (hp : ∀ s, s < t → (mm 13 t0).toNatClampNeg - 1 ≤ sp_back mm s (sp_L mm w) → ¬ k_oj mm (nI (tz_t t0)) (sp_back mm s (sp_L mm w))) (hend : n < t ∨ (t ≤ n ∧ sp_back mm t (sp_L mm w) < (mm 13 t0).toNatClampNeg - 1)) : ¬ k_out mm t0 w = true := by
  rw [k_out_iff]
  rintro ⟨-, j, hj, hjw, hju, ho⟩
  obtain ⟨s, hs, e⟩ := chain_all hI hw hn hn2 (sp_K mm) j (by omega) hj hjw
  rcases hend with h | ⟨h1, h2⟩
  · exact hp s (by omega) (by rw [← e]; exact hju) (by rw [← e]; exact ho)
  · rcases Nat.lt_or_ge s t with q | q
    · exact hp s q (by rw [← e]; exact hju) (by rw [← e]; exact ho)
    · have := back_dec hI hw hn hn2 (s := t) (s - t) (by omega)
      rw [show t + (s - t) = s by omega] at this
      omega
theorem out_yes (hI : Inv mm) (hw : w < sp_W mm) (hn : mm 21 (sp_L mm w) = nI n) (hn2 : n < 2 ^ 31) {t0 : Nat} (ht : t ≤ n) (h1 : sp_isin mm w (nI (tz_t t0)) (nI (tx_t t0)) (nI (ty_t t0))) (h2 : (mm 13 t0).toNatClampNeg - 1 ≤ sp_back mm t (sp_L mm w)) (h3 : k_oj mm (nI (tz_t t0)) (sp_back mm t (sp_L mm w))) : k_out mm t0 w = true :=
  k_out_iff.mpr ⟨h1, _, (hI.back (hI.LK hw) hn hn2 t ht).1, back_way hI hw hn hn2 t ht, h2, h3⟩
/-- stale at all: by one of the ways -/
theorem out_all (hI : Inv mm) {t : Nat} (hs : ¬ mm 13 t = 0) (ht : t < 341) : sp_oldt mm t = an_y (k_out mm t) (sp_W mm) := by
  obtain ⟨m, hm, e⟩ := hI.2.2.2.2.2.2.2.2.2.1 t ht
  have hK := hI.K512
  have hm0 : 0 < m := by
    rcases Nat.eq_zero_or_pos m with q | q
    · subst q; exact absurd e hs
    · exact q
  have em : (mm 13 t).toNatClampNeg = m := by rw [e]; exact nI_clamp (by omega)
  rw [Bool.eq_iff_iff]
  unfold sp_oldt sp_old
  rw [Bool.and_eq_true, an_y_iff, an_y_iff, em, decide_eq_true_iff]
  constructor
  · rintro ⟨-, j, hj, hp⟩
    rw [Bool.and_eq_true] at hp
    have h1 := of_decide_eq_true hp.1
    have h2 := of_decide_eq_true hp.2
    obtain ⟨w, k, d, e2, hw, hk, hd, he, ev⟩ := hI.V hj
    have hW := hI.W40
    have ew : mm 11 j / 1000 = nI w := by rw [ev, vw_nI (by omega)]; congr 1; omega
    refine ⟨w, hw, k_out_iff.mpr ⟨?_, j, hj, ew, by rw [em]; exact h1, h2.1⟩⟩
    have := h2.2
    rw [ew, nI_clamp (by omega)] at this
    exact this
  · rintro ⟨w, hw, hp⟩
    obtain ⟨h1, j, hj, ew, h2, h3⟩ := k_out_iff.mp hp
    rw [em] at h2
    have hW := hI.W40
    refine ⟨hm0, j, hj, ?_⟩
    rw [Bool.and_eq_true]
    refine ⟨decide_eq_true h2, decide_eq_true ⟨h3, ?_⟩⟩
    rw [ew, nI_clamp (by omega)]
    exact h1
/-! the least doubt -/
theorem lsx_y {i : Nat} (h : ¬ nI (i % 3) = sp_vd (mm 11 (sp_L mm w)) ∧ ¬ mm 20 (9 * w + i) = -1 ∧ (it_n (sp_ls1 mm w) i (-1) = -1 ∨ mm 20 (9 * w + i) < it_n (sp_ls1 mm w) i (-1))) : mm 20 (9 * w + i) = it_n (sp_ls1 mm w) (i + 1) (-1) := (if_pos h).symm
theorem lsx_n {i : Nat} (h : ¬ (¬ nI (i % 3) = sp_vd (mm 11 (sp_L mm w)) ∧ ¬ mm 20 (9 * w + i) = -1 ∧ (it_n (sp_ls1 mm w) i (-1) = -1 ∨ mm 20 (9 * w + i) < it_n (sp_ls1 mm w) i (-1)))) : it_n (sp_ls1 mm w) i (-1) = it_n (sp_ls1 mm w) (i + 1) (-1) := (if_neg h).symm
theorem dcx_y {i : Nat} (h : ¬ mm 20 (9 * w + i) = -1) : it_n (sp_dc1 mm w) i 0 + 1 = it_n (sp_dc1 mm w) (i + 1) 0 := (if_pos h).symm
theorem dcx_n {i : Nat} (h : mm 20 (9 * w + i) = -1) : it_n (sp_dc1 mm w) i 0 = it_n (sp_dc1 mm w) (i + 1) 0 := (if_neg (fun q => q h)).symm
theorem cnx_y {z x y : Int32} {i : Nat} (h : sp_sh (mm 11 (sp_L mm i)) z ∧ sp_isin mm i z x y) : it_n (sp_cnt1 mm z x y) i 0 + 1 = it_n (sp_cnt1 mm z x y) (i + 1) 0 := by
  show _ = it_n (sp_cnt1 mm z x y) i 0 + (if _ then 1 else 0)
  rw [if_pos h]
theorem cnx_n {z x y : Int32} {i : Nat} (h : ¬ (sp_sh (mm 11 (sp_L mm i)) z ∧ sp_isin mm i z x y)) : it_n (sp_cnt1 mm z x y) i 0 = it_n (sp_cnt1 mm z x y) (i + 1) 0 := by
  show _ = it_n (sp_cnt1 mm z x y) i 0 + (if _ then 1 else 0)
  rw [if_neg h, Int32.add_zero]
theorem pcx_y {z x y : Int32} {i : Nat} {q : Int32} (h : sp_pin mm z x y u i) : 31 * it_n (sp_pic1 mm z x y u) i q + 16 * nI i + 4 * sp_vk (mm 11 (sp_vis mm i u).toNatClampNeg) + sp_vd (mm 11 (sp_vis mm i u).toNatClampNeg) = it_n (sp_pic1 mm z x y u) (i + 1) q := (if_pos h).symm
theorem pcx_n {z x y : Int32} {i : Nat} {q : Int32} (h : ¬ sp_pin mm z x y u i) : it_n (sp_pic1 mm z x y u) i q = it_n (sp_pic1 mm z x y u) (i + 1) q := (if_neg h).symm
/-! agreement, by pairs -/
theorem agr_of {d a b : Nat} (hab : a < b) (hb : b < 3) (h : sp_ag2 mm w d a b) : sp_agr mm w d := by
  have cs : (a = 0 ∧ b = 1) ∨ (a = 0 ∧ b = 2) ∨ (a = 1 ∧ b = 2) := by omega
  rcases cs with ⟨rfl, rfl⟩ | ⟨rfl, rfl⟩ | ⟨rfl, rfl⟩
  · exact Or.inl h
  · exact Or.inr (Or.inl h)
  · exact Or.inr (Or.inr h)
theorem agr_no {d : Nat} (h : ∀ a b, a < 3 → a < b → b < 3 → ¬ sp_ag2 mm w d a b) : ¬ sp_agr mm w d := by
  rintro (q | q | q)
  · exact h 0 1 (by decide) (by decide) (by decide) q
  · exact h 0 2 (by decide) (by decide) (by decide) q
  · exact h 1 2 (by decide) (by decide) (by decide) q
/-! distances -/
theorem ab_dst {x c : Nat} (hx : x ≤ 16) (hc : c ≤ 16) : (if 0 ≤ nI c - nI x then nI c - nI x else 0 - (nI c - nI x)) = if nI x < nI c then nI c - nI x else nI x - nI c := by
  have e : ∀ a, a ≤ 16 → ∀ b, b ≤ 16 → (if 0 ≤ nI a - nI b then nI a - nI b else 0 - (nI a - nI b)) = if nI b < nI a then nI a - nI b else nI b - nI a := by decide +kernel
  exact e c hc x hx
theorem dst_far (hI : Inv mm) {c x y : Nat} (hc : c < 3) (hx : x ≤ 16) (hy : y ≤ 16) : k_dst (mm 15 c) (mm 16 c) (nI x) (nI y) = sp_far mm c (nI x) (nI y) := by
  obtain ⟨cx, cy, h1, h2, h3, h4⟩ := hI.2.2.2.2.2.2.2.2.1 c hc
  unfold k_dst sp_far
  rw [h3, h4, ab_dst hx h1, ab_dst hy h2]
theorem dst_b (hI : Inv mm) {c : Nat} (hc : c < 3) (hw : w < sp_W mm) : k_dst (mm 15 c) (mm 16 c) (mm 2 w) (mm 3 w) = sp_far mm c (mm 2 w) (mm 3 w) := by
  obtain ⟨x, y, z, u, hx, hy, hz, hu, e1, e2, e3, e4⟩ := iv_xy hI hw
  rw [e1, e2]; exact dst_far hI hc hx hy
theorem dst_e (hI : Inv mm) {c : Nat} (hc : c < 3) (hw : w < sp_W mm) : k_dst (mm 15 c) (mm 16 c) (mm 4 w) (mm 5 w) = sp_far mm c (mm 4 w) (mm 5 w) := by
  obtain ⟨x, y, z, u, hx, hy, hz, hu, e1, e2, e3, e4⟩ := iv_xy hI hw
  rw [e3, e4]; exact dst_far hI hc hz hu
theorem mn_nst (hI : Inv mm) {c : Nat} (hc : c < 3) (hw : w < sp_W mm) : (if k_dst (mm 15 c) (mm 16 c) (mm 4 w) (mm 5 w) < k_dst (mm 15 c) (mm 16 c) (mm 2 w) (mm 3 w) then k_dst (mm 15 c) (mm 16 c) (mm 4 w) (mm 5 w) else k_dst (mm 15 c) (mm 16 c) (mm 2 w) (mm 3 w)) = sp_nst mm c w := by
  rw [dst_b hI hc hw, dst_e hI hc hw]
  unfold sp_nst
  by_cases h1 : sp_far mm c (mm 4 w) (mm 5 w) < sp_far mm c (mm 2 w) (mm 3 w)
  · rw [if_pos h1, if_neg (bo_nlt (by rw [Int32.lt_iff_toInt_lt] at h1; rw [Int32.le_iff_toInt_le]; omega))]
  · rw [if_neg h1]
    by_cases h2 : sp_far mm c (mm 2 w) (mm 3 w) < sp_far mm c (mm 4 w) (mm 5 w)
    · rw [if_pos h2]
    · rw [if_neg h2]
      have h3 := bo_lt h1
      have h4 := bo_lt h2
      exact Int32.le_antisymm h3 h4
end
end
section
theorem dX3_countSightings_0 : decode cX3_countSightings 0 = .ok (.iconst 0, 1) := by decide +kernel
theorem dX3_countSightings_1 : decode cX3_countSightings 1 = .ok (.istore_n 1, 1) := by decide +kernel
theorem dX3_countSightings_2 : decode cX3_countSightings 2 = .ok (.iconst 0, 1) := by decide +kernel
theorem dX3_countSightings_3 : decode cX3_countSightings 3 = .ok (.istore_n 2, 1) := by decide +kernel
theorem dX3_countSightings_4 : decode cX3_countSightings 4 = .ok (.iload_n 2, 1) := by decide +kernel
theorem dX3_countSightings_5 : decode cX3_countSightings 5 = .ok (.aload_n 0, 1) := by decide +kernel
theorem dX3_countSightings_6 : decode cX3_countSightings 6 = .ok (.getfield 19, 3) := by decide +kernel
theorem dX3_countSightings_9 : decode cX3_countSightings 9 = .ok (.arraylength, 1) := by decide +kernel
theorem dX3_countSightings_10 : decode cX3_countSightings 10 = .ok (.if_icmp .ge 22, 3) := by decide +kernel
theorem dX3_countSightings_13 : decode cX3_countSightings 13 = .ok (.aload_n 0, 1) := by decide +kernel
theorem dX3_countSightings_14 : decode cX3_countSightings 14 = .ok (.getfield 19, 3) := by decide +kernel
theorem dX3_countSightings_17 : decode cX3_countSightings 17 = .ok (.iload_n 2, 1) := by decide +kernel
theorem dX3_countSightings_18 : decode cX3_countSightings 18 = .ok (.iaload, 1) := by decide +kernel
theorem dX3_countSightings_19 : decode cX3_countSightings 19 = .ok (.iconst (-1), 1) := by decide +kernel
theorem dX3_countSightings_20 : decode cX3_countSightings 20 = .ok (.if_icmp .eq 6, 3) := by decide +kernel
theorem dX3_countSightings_23 : decode cX3_countSightings 23 = .ok (.iinc 1 1, 3) := by decide +kernel
theorem dX3_countSightings_26 : decode cX3_countSightings 26 = .ok (.iinc 2 1, 3) := by decide +kernel
theorem dX3_countSightings_29 : decode cX3_countSightings 29 = .ok (.goto (-25), 3) := by decide +kernel
theorem dX3_countSightings_32 : decode cX3_countSightings 32 = .ok (.iload_n 1, 1) := by decide +kernel
theorem dX3_countSightings_33 : decode cX3_countSightings 33 = .ok (.ireturn, 1) := by decide +kernel
theorem dX3_dearness_0 : decode cX3_dearness 0 = .ok (.iconst (-1), 1) := by decide +kernel
theorem dX3_dearness_1 : decode cX3_dearness 1 = .ok (.istore_n 1, 1) := by decide +kernel
theorem dX3_dearness_2 : decode cX3_dearness 2 = .ok (.iconst 0, 1) := by decide +kernel
theorem dX3_dearness_3 : decode cX3_dearness 3 = .ok (.istore_n 2, 1) := by decide +kernel
theorem dX3_dearness_4 : decode cX3_dearness 4 = .ok (.iload_n 2, 1) := by decide +kernel
theorem dX3_dearness_5 : decode cX3_dearness 5 = .ok (.aload_n 0, 1) := by decide +kernel
theorem dX3_dearness_6 : decode cX3_dearness 6 = .ok (.getfield 19, 3) := by decide +kernel
theorem dX3_dearness_9 : decode cX3_dearness 9 = .ok (.arraylength, 1) := by decide +kernel
theorem dX3_dearness_10 : decode cX3_dearness 10 = .ok (.if_icmp .ge 61, 3) := by decide +kernel
theorem dX3_dearness_13 : decode cX3_dearness 13 = .ok (.iload_n 2, 1) := by decide +kernel
theorem dX3_dearness_14 : decode cX3_dearness 14 = .ok (.iconst 3, 1) := by decide +kernel
theorem dX3_dearness_15 : decode cX3_dearness 15 = .ok (.irem, 1) := by decide +kernel
theorem dX3_dearness_16 : decode cX3_dearness 16 = .ok (.aload_n 0, 1) := by decide +kernel
theorem dX3_dearness_17 : decode cX3_dearness 17 = .ok (.invokevirtual 106, 3) := by decide +kernel
theorem dX3_dearness_20 : decode cX3_dearness 20 = .ok (.if_icmp .eq 7, 3) := by decide +kernel
theorem dX3_dearness_23 : decode cX3_dearness 23 = .ok (.iconst 1, 1) := by decide +kernel
theorem dX3_dearness_24 : decode cX3_dearness 24 = .ok (.goto 4, 3) := by decide +kernel
theorem dX3_dearness_27 : decode cX3_dearness 27 = .ok (.iconst 0, 1) := by decide +kernel
theorem dX3_dearness_28 : decode cX3_dearness 28 = .ok (.istore_n 3, 1) := by decide +kernel
theorem dX3_dearness_29 : decode cX3_dearness 29 = .ok (.iload_n 3, 1) := by decide +kernel
theorem dX3_dearness_30 : decode cX3_dearness 30 = .ok (.ifCond .eq 35, 3) := by decide +kernel
theorem dX3_dearness_33 : decode cX3_dearness 33 = .ok (.aload_n 0, 1) := by decide +kernel
theorem dX3_dearness_34 : decode cX3_dearness 34 = .ok (.getfield 19, 3) := by decide +kernel
theorem dX3_dearness_37 : decode cX3_dearness 37 = .ok (.iload_n 2, 1) := by decide +kernel
theorem dX3_dearness_38 : decode cX3_dearness 38 = .ok (.iaload, 1) := by decide +kernel
theorem dX3_dearness_39 : decode cX3_dearness 39 = .ok (.iconst (-1), 1) := by decide +kernel
theorem dX3_dearness_40 : decode cX3_dearness 40 = .ok (.if_icmp .eq 25, 3) := by decide +kernel
theorem dX3_dearness_43 : decode cX3_dearness 43 = .ok (.iload_n 1, 1) := by decide +kernel
theorem dX3_dearness_44 : decode cX3_dearness 44 = .ok (.iconst (-1), 1) := by decide +kernel
theorem dX3_dearness_45 : decode cX3_dearness 45 = .ok (.if_icmp .eq 13, 3) := by decide +kernel
theorem dX3_dearness_48 : decode cX3_dearness 48 = .ok (.aload_n 0, 1) := by decide +kernel
theorem dX3_dearness_49 : decode cX3_dearness 49 = .ok (.getfield 19, 3) := by decide +kernel
theorem dX3_dearness_52 : decode cX3_dearness 52 = .ok (.iload_n 2, 1) := by decide +kernel
theorem dX3_dearness_53 : decode cX3_dearness 53 = .ok (.iaload, 1) := by decide +kernel
theorem dX3_dearness_54 : decode cX3_dearness 54 = .ok (.iload_n 1, 1) := by decide +kernel
theorem dX3_dearness_55 : decode cX3_dearness 55 = .ok (.if_icmp .ge 10, 3) := by decide +kernel
theorem dX3_dearness_58 : decode cX3_dearness 58 = .ok (.aload_n 0, 1) := by decide +kernel
theorem dX3_dearness_59 : decode cX3_dearness 59 = .ok (.getfield 19, 3) := by decide +kernel
theorem dX3_dearness_62 : decode cX3_dearness 62 = .ok (.iload_n 2, 1) := by decide +kernel
theorem dX3_dearness_63 : decode cX3_dearness 63 = .ok (.iaload, 1) := by decide +kernel
theorem dX3_dearness_64 : decode cX3_dearness 64 = .ok (.istore_n 1, 1) := by decide +kernel
theorem dX3_dearness_65 : decode cX3_dearness 65 = .ok (.iinc 2 1, 3) := by decide +kernel
theorem dX3_dearness_68 : decode cX3_dearness 68 = .ok (.goto (-64), 3) := by decide +kernel
theorem dX3_dearness_71 : decode cX3_dearness 71 = .ok (.iload_n 1, 1) := by decide +kernel
theorem dX3_dearness_72 : decode cX3_dearness 72 = .ok (.iconst (-1), 1) := by decide +kernel
theorem dX3_dearness_73 : decode cX3_dearness 73 = .ok (.if_icmp .ne 7, 3) := by decide +kernel
theorem dX3_dearness_76 : decode cX3_dearness 76 = .ok (.iconst 0, 1) := by decide +kernel
theorem dX3_dearness_77 : decode cX3_dearness 77 = .ok (.goto 14, 3) := by decide +kernel
theorem dX3_dearness_80 : decode cX3_dearness 80 = .ok (.bipush 100, 2) := by decide +kernel
theorem dX3_dearness_82 : decode cX3_dearness 82 = .ok (.iload_n 1, 1) := by decide +kernel
theorem dX3_dearness_83 : decode cX3_dearness 83 = .ok (.isub, 1) := by decide +kernel
theorem dX3_dearness_84 : decode cX3_dearness 84 = .ok (.aload_n 0, 1) := by decide +kernel
theorem dX3_dearness_85 : decode cX3_dearness 85 = .ok (.invokevirtual 109, 3) := by decide +kernel
theorem dX3_dearness_88 : decode cX3_dearness 88 = .ok (.iconst 1, 1) := by decide +kernel
theorem dX3_dearness_89 : decode cX3_dearness 89 = .ok (.iadd, 1) := by decide +kernel
theorem dX3_dearness_90 : decode cX3_dearness 90 = .ok (.imul, 1) := by decide +kernel
theorem dX3_dearness_91 : decode cX3_dearness 91 = .ok (.ireturn, 1) := by decide +kernel
theorem dX3_hasAgreementOn_0 : decode cX3_hasAgreementOn 0 = .ok (.iload_n 1, 1) := by decide +kernel
theorem dX3_hasAgreementOn_1 : decode cX3_hasAgreementOn 1 = .ok (.istore_n 2, 1) := by decide +kernel
theorem dX3_hasAgreementOn_2 : decode cX3_hasAgreementOn 2 = .ok (.iload_n 2, 1) := by decide +kernel
theorem dX3_hasAgreementOn_3 : decode cX3_hasAgreementOn 3 = .ok (.aload_n 0, 1) := by decide +kernel
theorem dX3_hasAgreementOn_4 : decode cX3_hasAgreementOn 4 = .ok (.getfield 19, 3) := by decide +kernel
theorem dX3_hasAgreementOn_7 : decode cX3_hasAgreementOn 7 = .ok (.arraylength, 1) := by decide +kernel
theorem dX3_hasAgreementOn_8 : decode cX3_hasAgreementOn 8 = .ok (.if_icmp .ge 71, 3) := by decide +kernel
theorem dX3_hasAgreementOn_11 : decode cX3_hasAgreementOn 11 = .ok (.iload_n 2, 1) := by decide +kernel
theorem dX3_hasAgreementOn_12 : decode cX3_hasAgreementOn 12 = .ok (.iconst 3, 1) := by decide +kernel
theorem dX3_hasAgreementOn_13 : decode cX3_hasAgreementOn 13 = .ok (.iadd, 1) := by decide +kernel
theorem dX3_hasAgreementOn_14 : decode cX3_hasAgreementOn 14 = .ok (.istore_n 3, 1) := by decide +kernel
theorem dX3_hasAgreementOn_15 : decode cX3_hasAgreementOn 15 = .ok (.iload_n 3, 1) := by decide +kernel
theorem dX3_hasAgreementOn_16 : decode cX3_hasAgreementOn 16 = .ok (.aload_n 0, 1) := by decide +kernel
theorem dX3_hasAgreementOn_17 : decode cX3_hasAgreementOn 17 = .ok (.getfield 19, 3) := by decide +kernel
theorem dX3_hasAgreementOn_20 : decode cX3_hasAgreementOn 20 = .ok (.arraylength, 1) := by decide +kernel
theorem dX3_hasAgreementOn_21 : decode cX3_hasAgreementOn 21 = .ok (.if_icmp .ge 52, 3) := by decide +kernel
theorem dX3_hasAgreementOn_24 : decode cX3_hasAgreementOn 24 = .ok (.aload_n 0, 1) := by decide +kernel
theorem dX3_hasAgreementOn_25 : decode cX3_hasAgreementOn 25 = .ok (.getfield 19, 3) := by decide +kernel
theorem dX3_hasAgreementOn_28 : decode cX3_hasAgreementOn 28 = .ok (.iload_n 2, 1) := by decide +kernel
theorem dX3_hasAgreementOn_29 : decode cX3_hasAgreementOn 29 = .ok (.iaload, 1) := by decide +kernel
theorem dX3_hasAgreementOn_30 : decode cX3_hasAgreementOn 30 = .ok (.iconst (-1), 1) := by decide +kernel
theorem dX3_hasAgreementOn_31 : decode cX3_hasAgreementOn 31 = .ok (.if_icmp .eq 36, 3) := by decide +kernel
theorem dX3_hasAgreementOn_34 : decode cX3_hasAgreementOn 34 = .ok (.aload_n 0, 1) := by decide +kernel
theorem dX3_hasAgreementOn_35 : decode cX3_hasAgreementOn 35 = .ok (.getfield 19, 3) := by decide +kernel
theorem dX3_hasAgreementOn_38 : decode cX3_hasAgreementOn 38 = .ok (.iload_n 3, 1) := by decide +kernel
theorem dX3_hasAgreementOn_39 : decode cX3_hasAgreementOn 39 = .ok (.iaload, 1) := by decide +kernel
theorem dX3_hasAgreementOn_40 : decode cX3_hasAgreementOn 40 = .ok (.iconst (-1), 1) := by decide +kernel
theorem dX3_hasAgreementOn_41 : decode cX3_hasAgreementOn 41 = .ok (.if_icmp .eq 26, 3) := by decide +kernel
theorem dX3_hasAgreementOn_44 : decode cX3_hasAgreementOn 44 = .ok (.aload_n 0, 1) := by decide +kernel
theorem dX3_hasAgreementOn_45 : decode cX3_hasAgreementOn 45 = .ok (.getfield 19, 3) := by decide +kernel
theorem dX3_hasAgreementOn_48 : decode cX3_hasAgreementOn 48 = .ok (.iload_n 2, 1) := by decide +kernel
theorem dX3_hasAgreementOn_49 : decode cX3_hasAgreementOn 49 = .ok (.iaload, 1) := by decide +kernel
theorem dX3_hasAgreementOn_50 : decode cX3_hasAgreementOn 50 = .ok (.aload_n 0, 1) := by decide +kernel
theorem dX3_hasAgreementOn_51 : decode cX3_hasAgreementOn 51 = .ok (.getfield 19, 3) := by decide +kernel
theorem dX3_hasAgreementOn_54 : decode cX3_hasAgreementOn 54 = .ok (.iload_n 3, 1) := by decide +kernel
theorem dX3_hasAgreementOn_55 : decode cX3_hasAgreementOn 55 = .ok (.iaload, 1) := by decide +kernel
theorem dX3_hasAgreementOn_56 : decode cX3_hasAgreementOn 56 = .ok (.imul, 1) := by decide +kernel
theorem dX3_hasAgreementOn_57 : decode cX3_hasAgreementOn 57 = .ok (.bipush 100, 2) := by decide +kernel
theorem dX3_hasAgreementOn_59 : decode cX3_hasAgreementOn 59 = .ok (.idiv, 1) := by decide +kernel
theorem dX3_hasAgreementOn_60 : decode cX3_hasAgreementOn 60 = .ok (.bipush 20, 2) := by decide +kernel
theorem dX3_hasAgreementOn_62 : decode cX3_hasAgreementOn 62 = .ok (.if_icmp .gt 5, 3) := by decide +kernel
theorem dX3_hasAgreementOn_65 : decode cX3_hasAgreementOn 65 = .ok (.iconst 1, 1) := by decide +kernel
theorem dX3_hasAgreementOn_66 : decode cX3_hasAgreementOn 66 = .ok (.ireturn, 1) := by decide +kernel
theorem dX3_hasAgreementOn_67 : decode cX3_hasAgreementOn 67 = .ok (.iinc 3 3, 3) := by decide +kernel
theorem dX3_hasAgreementOn_70 : decode cX3_hasAgreementOn 70 = .ok (.goto (-55), 3) := by decide +kernel
theorem dX3_hasAgreementOn_73 : decode cX3_hasAgreementOn 73 = .ok (.iinc 2 3, 3) := by decide +kernel
theorem dX3_hasAgreementOn_76 : decode cX3_hasAgreementOn 76 = .ok (.goto (-74), 3) := by decide +kernel
theorem dX3_hasAgreementOn_79 : decode cX3_hasAgreementOn 79 = .ok (.iconst 0, 1) := by decide +kernel
theorem dX3_hasAgreementOn_80 : decode cX3_hasAgreementOn 80 = .ok (.ireturn, 1) := by decide +kernel
theorem dX3_outdates_0 : decode cX3_outdates 0 = .ok (.aload_n 0, 1) := by decide +kernel
theorem dX3_outdates_1 : decode cX3_outdates 1 = .ok (.aload_n 1, 1) := by decide +kernel
theorem dX3_outdates_2 : decode cX3_outdates 2 = .ok (.invokevirtual 91, 3) := by decide +kernel
theorem dX3_outdates_5 : decode cX3_outdates 5 = .ok (.ifCond .ne 5, 3) := by decide +kernel
theorem dX3_outdates_8 : decode cX3_outdates 8 = .ok (.iconst 0, 1) := by decide +kernel
theorem dX3_outdates_9 : decode cX3_outdates 9 = .ok (.ireturn, 1) := by decide +kernel
theorem dX3_outdates_10 : decode cX3_outdates 10 = .ok (.aload_n 0, 1) := by decide +kernel
theorem dX3_outdates_11 : decode cX3_outdates 11 = .ok (.getfield 35, 3) := by decide +kernel
theorem dX3_outdates_14 : decode cX3_outdates 14 = .ok (.astore_n 2, 1) := by decide +kernel
theorem dX3_outdates_15 : decode cX3_outdates 15 = .ok (.aload_n 2, 1) := by decide +kernel
theorem dX3_outdates_16 : decode cX3_outdates 16 = .ok (.ifnull 43, 3) := by decide +kernel
theorem dX3_outdates_19 : decode cX3_outdates 19 = .ok (.aload_n 2, 1) := by decide +kernel
theorem dX3_outdates_20 : decode cX3_outdates 20 = .ok (.getfield 95, 3) := by decide +kernel
theorem dX3_outdates_23 : decode cX3_outdates 23 = .ok (.aload_n 1, 1) := by decide +kernel
theorem dX3_outdates_24 : decode cX3_outdates 24 = .ok (.getfield 105, 3) := by decide +kernel
theorem dX3_outdates_27 : decode cX3_outdates 27 = .ok (.if_icmp .le 32, 3) := by decide +kernel
theorem dX3_outdates_30 : decode cX3_outdates 30 = .ok (.aload_n 1, 1) := by decide +kernel
theorem dX3_outdates_31 : decode cX3_outdates 31 = .ok (.aload_n 2, 1) := by decide +kernel
theorem dX3_outdates_32 : decode cX3_outdates 32 = .ok (.invokevirtual 101, 3) := by decide +kernel
theorem dX3_outdates_35 : decode cX3_outdates 35 = .ok (.ifCond .ne 14, 3) := by decide +kernel
theorem dX3_outdates_38 : decode cX3_outdates 38 = .ok (.aload_n 1, 1) := by decide +kernel
theorem dX3_outdates_39 : decode cX3_outdates 39 = .ok (.aload_n 2, 1) := by decide +kernel
theorem dX3_outdates_40 : decode cX3_outdates 40 = .ok (.getfield 98, 3) := by decide +kernel
theorem dX3_outdates_43 : decode cX3_outdates 43 = .ok (.invokevirtual 101, 3) := by decide +kernel
theorem dX3_outdates_46 : decode cX3_outdates 46 = .ok (.ifCond .eq 5, 3) := by decide +kernel
theorem dX3_outdates_49 : decode cX3_outdates 49 = .ok (.iconst 1, 1) := by decide +kernel
theorem dX3_outdates_50 : decode cX3_outdates 50 = .ok (.ireturn, 1) := by decide +kernel
theorem dX3_outdates_51 : decode cX3_outdates 51 = .ok (.aload_n 2, 1) := by decide +kernel
theorem dX3_outdates_52 : decode cX3_outdates 52 = .ok (.getfield 98, 3) := by decide +kernel
theorem dX3_outdates_55 : decode cX3_outdates 55 = .ok (.astore_n 2, 1) := by decide +kernel
theorem dX3_outdates_56 : decode cX3_outdates 56 = .ok (.goto (-41), 3) := by decide +kernel
theorem dX3_outdates_59 : decode cX3_outdates 59 = .ok (.iconst 0, 1) := by decide +kernel
theorem dX3_outdates_60 : decode cX3_outdates 60 = .ok (.ireturn, 1) := by decide +kernel
theorem dX3_shownIn_0 : decode cX3_shownIn 0 = .ok (.aload_n 0, 1) := by decide +kernel
theorem dX3_shownIn_1 : decode cX3_shownIn 1 = .ok (.aload_n 1, 1) := by decide +kernel
theorem dX3_shownIn_2 : decode cX3_shownIn 2 = .ok (.invokevirtual 91, 3) := by decide +kernel
theorem dX3_shownIn_5 : decode cX3_shownIn 5 = .ok (.ifCond .ne 5, 3) := by decide +kernel
theorem dX3_shownIn_8 : decode cX3_shownIn 8 = .ok (.aconst_null, 1) := by decide +kernel
theorem dX3_shownIn_9 : decode cX3_shownIn 9 = .ok (.areturn, 1) := by decide +kernel
theorem dX3_shownIn_10 : decode cX3_shownIn 10 = .ok (.aload_n 0, 1) := by decide +kernel
theorem dX3_shownIn_11 : decode cX3_shownIn 11 = .ok (.getfield 35, 3) := by decide +kernel
theorem dX3_shownIn_14 : decode cX3_shownIn 14 = .ok (.astore_n 3, 1) := by decide +kernel
theorem dX3_shownIn_15 : decode cX3_shownIn 15 = .ok (.aload_n 3, 1) := by decide +kernel
theorem dX3_shownIn_16 : decode cX3_shownIn 16 = .ok (.ifnull 19, 3) := by decide +kernel
theorem dX3_shownIn_19 : decode cX3_shownIn 19 = .ok (.aload_n 3, 1) := by decide +kernel
theorem dX3_shownIn_20 : decode cX3_shownIn 20 = .ok (.getfield 95, 3) := by decide +kernel
theorem dX3_shownIn_23 : decode cX3_shownIn 23 = .ok (.iload_n 2, 1) := by decide +kernel
theorem dX3_shownIn_24 : decode cX3_shownIn 24 = .ok (.if_icmp .le 11, 3) := by decide +kernel
theorem dX3_shownIn_27 : decode cX3_shownIn 27 = .ok (.aload_n 3, 1) := by decide +kernel
theorem dX3_shownIn_28 : decode cX3_shownIn 28 = .ok (.getfield 98, 3) := by decide +kernel
theorem dX3_shownIn_31 : decode cX3_shownIn 31 = .ok (.astore_n 3, 1) := by decide +kernel
theorem dX3_shownIn_32 : decode cX3_shownIn 32 = .ok (.goto (-17), 3) := by decide +kernel
theorem dX3_shownIn_35 : decode cX3_shownIn 35 = .ok (.aload_n 3, 1) := by decide +kernel
theorem dX3_shownIn_36 : decode cX3_shownIn 36 = .ok (.ifnull 18, 3) := by decide +kernel
theorem dX3_shownIn_39 : decode cX3_shownIn 39 = .ok (.aload_n 1, 1) := by decide +kernel
theorem dX3_shownIn_40 : decode cX3_shownIn 40 = .ok (.aload_n 3, 1) := by decide +kernel
theorem dX3_shownIn_41 : decode cX3_shownIn 41 = .ok (.invokevirtual 101, 3) := by decide +kernel
theorem dX3_shownIn_44 : decode cX3_shownIn 44 = .ok (.ifCond .eq 10, 3) := by decide +kernel
theorem dX3_shownIn_47 : decode cX3_shownIn 47 = .ok (.aload_n 3, 1) := by decide +kernel
theorem dX3_shownIn_48 : decode cX3_shownIn 48 = .ok (.getfield 45, 3) := by decide +kernel
theorem dX3_shownIn_51 : decode cX3_shownIn 51 = .ok (.goto 4, 3) := by decide +kernel
theorem dX3_shownIn_54 : decode cX3_shownIn 54 = .ok (.aconst_null, 1) := by decide +kernel
theorem dX3_shownIn_55 : decode cX3_shownIn 55 = .ok (.areturn, 1) := by decide +kernel
set_option maxHeartbeats 4000000 in
set_option maxRecDepth 100000 in
theorem m_X1_shows0 (l : Launch) (G : k_G) (Z : Nat → Prop) (ad : k_Ad) (mm : q_Mem) (t : Nat)  : rc_C l yX1_shows cX1_shows 2 (some .boolean) 0 0 [.ref (ad 6 t), .null] (k_R G Z ad mm) (fun r => r = 0) := by
  refine rc_of (by decide) (Nat.le_of_ble_eq_true rfl) ?_
  intro p e s m args below meth c hx hb hr hF hlk hB ls hl
  obtain ⟨hM, hK, hP, hT⟩ := hB
  have hS : va_S Z s.heap s.heap [] := va_S.rf
  have hl : lv_has ls 2 [(0, .ref (ad 6 t)), (1, .null)] := hl
  have hf : (0 : Nat) ≤ 0 ∧ (0 : Nat) ≤ 0 := ⟨Nat.le_refl 0, Nat.le_refl 0⟩
  refine lv_aload_nN hx hb dX1_shows_0 rfl (lv_at hl 1 rfl) ?_
  refine lv_ifnullN (tgt := 24) hx hb dX1_shows_1 (by decide) ?_
  refine lv_iconst (v := 0) hx hb dX1_shows_24 (by decide) ?_
  exact rc_zret hx hb hr hlk (by first | exact Or.inl rfl | exact Or.inr rfl) (rfl) dX1_shows_25
theorem ke_X3_shownIn : wl_V RX3 yX3_shownIn cX3_shownIn 4 (some (.object "SignTiles$Change")) 2 := ⟨wd_c_X3_shownIn, wd_i_X3_shownIn, wd_s_X3_shownIn, wd_n_X3, by decide, by decide +kernel⟩
set_option maxHeartbeats 4000000 in
set_option maxRecDepth 100000 in
theorem m_X3_shownIn (l : Launch) (G : k_G) (Z : Nat → Prop) (ad : k_Ad) (mm : q_Mem) (w t u : Nat) (hI : Inv mm) (hw : w < sp_W mm) (ht : t < 341) (hs : ¬ mm 13 t = 0) (hu : u < 2 ^ 31) : rq_C l yX3_shownIn cX3_shownIn 4 (some (.object "SignTiles$Change")) 1 21 [.ref (ad 1 w), .ref (ad 6 t), .int (nI u)] (k_R G Z ad mm) (fun r => r = if sp_pin mm (nI (tz_t t)) (nI (tx_t t)) (nI (ty_t t)) u w then some (ad 4 (sp_vis mm w u).toNatClampNeg) else none) := by
  refine rq_of (by decide) (Nat.le_of_ble_eq_true rfl) ?_
  intro p e s m args below meth c hx hb hr hF hlk hB ls hl
  obtain ⟨hM, hK, hP, hT⟩ := hB
  have hS : va_S Z s.heap s.heap [] := va_S.rf
  have hl : lv_has ls 4 [(0, .ref (ad 1 w)), (1, .ref (ad 6 t)), (2, .int (nI u))] := hl
  have hf : (0 : Nat) ≤ 0 ∧ (0 : Nat) ≤ 0 := ⟨Nat.le_refl 0, Nat.le_refl 0⟩
  have hLK := hI.LK hw
  have hW40 := hI.W40
  have hKK := hI.K512
  have hL := hI.L hw
  refine lv_aload_n hx hb dX3_shownIn_0 rfl (lv_at hl 0 rfl) ?_
  refine lv_aload_n hx hb dX3_shownIn_1 rfl (lv_at hl 1 rfl) ?_
  refine kr_V (fr := 0) (lo := 0) (As := [.ref (ad 6 t)]) (rest := []) hF (m_X3_hasPartIn l G Z ad mm w t hI hw ht hs) ke_X3_hasPartIn wd_l_X3_91 (by decide) hM hK hP hT hS (g_recv hK (hM 1 w _ (kc_w (by assumption))) rfl) rfl hl.1 rfl (Nat.le_of_ble_eq_true rfl) dX3_shownIn_2 hf (fun r1 hr1 => ?_)
  refine bo_ne (tgt := 10) hr1 hx hb dX3_shownIn_5 (by decide) (fun c1 => ?_) (fun c1 => ?_)
  · skip
    refine lv_aload_n hx hb dX3_shownIn_10 rfl (lv_at hl 0 rfl) ?_
    refine g_get (C := RX3) (T := TX3) (N := 8) (v := .ref (ad 3 (sp_L mm w))) hF hK (hM 1 w _ (kc_w (by assumption))) rfl inlX3 5 (by decide) rfl wd_f_X3_35 rfl dX3_shownIn_11 ?_
    refine bo_toV (v := k_rf (mm 8 w = -1) (ad 3 (mm 8 w).toNatClampNeg)) (k_rf_L (by rw [hL]; exact nI_nm1 (by omega))) ?_
    refine lv_astore_nV (lv' := [(3, k_rf (mm 8 w = -1) (ad 3 (mm 8 w).toNatClampNeg)), (0, .ref (ad 1 w)), (1, .ref (ad 6 t)), (2, .int (nI u))]) hx hb dX3_shownIn_14 rfl hl (by decide) rfl (fun ls hl => ?_)
    refine bo_loop (σ := Nat × Int32) (μ := fun (qx : Nat × Int32) => match qx with | (n, va) => n) (I := fun (qx : Nat × Int32) (H : Heap) (locs : List Loc) (ls : Array Slot) => match qx with | (n, va) => H = s.heap ∧ locs = [] ∧ lv_has ls 4 [(3, k_rf (va = -1) (ad 3 va.toNatClampNeg)), (0, .ref (ad 1 w)), (1, .ref (ad 6 t)), (2, .int (nI u))] ∧ (sp_seek mm u n va = sp_vis mm w u) ∧ (va = -1 ∨ ∃ j, j < sp_K mm ∧ va = nI j ∧ j < n)) ((600, mm 8 w)) ⟨rfl, rfl, lv_sub hl [0, 1, 2, 3] rfl, rfl, Or.inr ⟨sp_L mm w, hLK, hL, by omega⟩⟩ ?_
    intro x15 H locs ls hI15 ih15
    obtain ⟨n, va⟩ := x15
    obtain ⟨rfl, rfl, hl, hp2, hp3⟩ := hI15
    refine lv_aload_nV hx hb dX3_shownIn_15 rfl (lv_at hl 0 rfl) ?_
    refine k_ifnull (tgt := 35) hx hb dX3_shownIn_16 (by decide) (fun c2 => ?_) (fun c2 => ?_)
    · skip
      have hv : va = sp_vis mm w u := by rw [← hp2]; exact (seek_nil c2).symm
      have e3 : k_rf (va = -1) (ad 3 va.toNatClampNeg) = .null := if_pos c2
      rw [e3] at hl
      refine lv_aload_nN hx hb dX3_shownIn_35 rfl (lv_at hl 0 rfl) ?_
      refine lv_ifnullN (tgt := 54) hx hb dX3_shownIn_36 (by decide) ?_
      refine lv_null hx hb dX3_shownIn_54 ?_
      exact rq_ret (o := none) hx hb hr hlk (shn_0 hv c2) dX3_shownIn_55
    · skip
      obtain ⟨j, hj, rfl, hjn⟩ := hp3.resolve_left c2
      have hj31 : j < 2 ^ 31 := by omega
      have e3 : k_rf (nI j = -1) (ad 3 (nI j).toNatClampNeg) = .ref (ad 3 j) := by rw [k_rf, if_neg c2, nI_clamp hj31]
      rw [e3] at hl
      refine lv_aload_n hx hb dX3_shownIn_19 rfl (lv_at hl 0 rfl) ?_
      refine g_get (C := RX2) (T := TX2) (N := 4) (v := .int (nI (j + 1))) hF hK (hM 3 j _ (kc_v (by assumption))) rfl inlX2 1 (by decide) rfl wd_f_X3_95 rfl dX3_shownIn_20 ?_
      refine lv_iload_n hx hb dX3_shownIn_23 rfl (lv_at hl 3 rfl) ?_
      refine lv_icmp_le (tgt := 35) hx hb dX3_shownIn_24 (by decide) (fun c3 => ?_) (fun c3 => ?_)
      · skip
        have hju2 : j < u := by have := (nI_leI (by omega) (by omega)).mp c3; omega
        have hv : nI j = sp_vis mm w u := by rw [← hp2]; exact (seek_lt hj31 hju2).symm
        refine lv_aload_n hx hb dX3_shownIn_35 rfl (lv_at hl 0 rfl) ?_
        refine lv_ifnull hx hb dX3_shownIn_36 ?_
        refine lv_aload_n hx hb dX3_shownIn_39 rfl (lv_at hl 2 rfl) ?_
        refine lv_aload_n hx hb dX3_shownIn_40 rfl (lv_at hl 0 rfl) ?_
        refine kr_V (fr := 0) (lo := 0) (As := [.ref (ad 3 j)]) (rest := []) hF (m_X1_shows l G Z ad mm t j ht hs hj) ke_X1_shows wd_l_X3_101 (by decide) hM hK hP hT hS (g_recv hK (hM 6 t _ (kc_t ht hs)) rfl) rfl hl.1 rfl (Nat.le_of_ble_eq_true rfl) dX3_shownIn_41 hf (fun r4 hr4 => ?_)
        refine bo_eq (tgt := 54) hr4 hx hb dX3_shownIn_44 (by decide) (fun c5 => ?_) (fun c5 => ?_)
        · skip
          refine lv_null hx hb dX3_shownIn_54 ?_
          exact rq_ret (o := none) hx hb hr hlk (shn_n hj31 hv c5) dX3_shownIn_55
        · skip
          refine lv_aload_n hx hb dX3_shownIn_47 rfl (lv_at hl 0 rfl) ?_
          refine g_get (C := RX2) (T := TX2) (N := 4) (v := .ref (ad 4 j)) hF hK (hM 3 j _ (kc_v (by assumption))) rfl inlX2 0 (by decide) rfl wd_f_X3_45 rfl dX3_shownIn_48 ?_
          refine lv_goto (tgt := 55) hx hb dX3_shownIn_51 (by decide) ?_
          exact rq_ret (o := (some (ad 4 j))) hx hb hr hlk (shn_y hj31 hv c5 c1) dX3_shownIn_55
      · skip
        refine lv_aload_n hx hb dX3_shownIn_27 rfl (lv_at hl 0 rfl) ?_
        refine g_get (C := RX2) (T := TX2) (N := 4) (v := k_rf (mm 12 j = -1) (ad 3 (sp_A mm j))) hF hK (hM 3 j _ (kc_v (by assumption))) rfl inlX2 3 (by decide) rfl wd_f_X3_98 rfl dX3_shownIn_28 ?_
        refine lv_astore_nV (lv' := [(3, k_rf (mm 12 j = -1) (ad 3 (sp_A mm j))), (0, .ref (ad 1 w)), (1, .ref (ad 6 t)), (2, .int (nI u))]) hx hb dX3_shownIn_31 rfl hl (by decide) rfl (fun ls hl => ?_)
        refine lv_goto (tgt := 15) hx hb dX3_shownIn_32 (by decide) ?_
        obtain ⟨n', rfl⟩ : ∃ n', n = n' + 1 := ⟨n - 1, by omega⟩
        have hju : ¬ j < u := fun q => c3 (nI_le (by omega) (by omega))
        exact ih15 (n', mm 12 j) _ _ _ (Nat.lt_succ_self _) ⟨rfl, rfl, lv_sub hl [0, 1, 2, 3] rfl, by rw [← hp2, seek_step hj31 hju], by rcases hI.A hj with ⟨a1, -⟩ | ⟨a1, a2, -⟩; exact Or.inl a1; exact Or.inr ⟨_, by omega, a1, by omega⟩⟩
  · skip
    refine lv_null hx hb dX3_shownIn_8 ?_
    exact rq_ret (o := none) hx hb hr hlk (by rw [if_neg (fun q => c1 q.2.2)]) dX3_shownIn_9
theorem ke_X3_outdates : wl_V RX3 yX3_outdates cX3_outdates 3 (some .boolean) 1 := ⟨wd_c_X3_outdates, wd_i_X3_outdates, wd_s_X3_outdates, wd_n_X3, by decide, by decide +kernel⟩
set_option maxHeartbeats 4000000 in
set_option maxRecDepth 100000 in
theorem m_X3_outdates (l : Launch) (G : k_G) (Z : Nat → Prop) (ad : k_Ad) (mm : q_Mem) (w t : Nat) (hI : Inv mm) (hw : w < sp_W mm) (ht : t < 341) (hs : ¬ mm 13 t = 0) : rc_C l yX3_outdates cX3_outdates 3 (some .boolean) 1 21 [.ref (ad 1 w), .ref (ad 6 t)] (k_R G Z ad mm) (fun r => r = if k_out mm t w = true then 1 else 0) := by
  refine rc_of (by decide) (Nat.le_of_ble_eq_true rfl) ?_
  intro p e s m args below meth c hx hb hr hF hlk hB ls hl
  obtain ⟨hM, hK, hP, hT⟩ := hB
  have hS : va_S Z s.heap s.heap [] := va_S.rf
  have hl : lv_has ls 3 [(0, .ref (ad 1 w)), (1, .ref (ad 6 t))] := hl
  have hf : (0 : Nat) ≤ 0 ∧ (0 : Nat) ≤ 0 := ⟨Nat.le_refl 0, Nat.le_refl 0⟩
  have hLK := hI.LK hw
  have hW40 := hI.W40
  have hKK := hI.K512
  obtain ⟨n, hnK, hn, -⟩ := hI.N hw
  have hn31 : n < 2 ^ 31 := by omega
  obtain ⟨v, hv, hv2⟩ := hI.2.2.2.2.2.2.2.2.2.1 t ht
  have hv0 : 0 < v := by
    rcases Nat.eq_zero_or_pos v with q | q
    · subst q; exact absurd hv2 hs
    · exact q
  have hvc : (mm 13 t).toNatClampNeg = v := by rw [hv2]; exact nI_clamp (by omega)
  refine lv_aload_n hx hb dX3_outdates_0 rfl (lv_at hl 0 rfl) ?_
  refine lv_aload_n hx hb dX3_outdates_1 rfl (lv_at hl 1 rfl) ?_
  refine kr_V (fr := 0) (lo := 0) (As := [.ref (ad 6 t)]) (rest := []) hF (m_X3_hasPartIn l G Z ad mm w t hI hw ht hs) ke_X3_hasPartIn wd_l_X3_91 (by decide) hM hK hP hT hS (g_recv hK (hM 1 w _ (kc_w (by assumption))) rfl) rfl hl.1 rfl (Nat.le_of_ble_eq_true rfl) dX3_outdates_2 hf (fun r1 hr1 => ?_)
  refine bo_ne (tgt := 10) hr1 hx hb dX3_outdates_5 (by decide) (fun c1 => ?_) (fun c1 => ?_)
  · skip
    refine lv_aload_n hx hb dX3_outdates_10 rfl (lv_at hl 0 rfl) ?_
    refine g_get (C := RX3) (T := TX3) (N := 8) (v := .ref (ad 3 (sp_L mm w))) hF hK (hM 1 w _ (kc_w (by assumption))) rfl inlX3 5 (by decide) rfl wd_f_X3_35 rfl dX3_outdates_11 ?_
    refine bo_toV (v := k_rf (n < 0) (ad 3 (sp_back mm 0 (sp_L mm w)))) ((if_neg (Nat.not_lt_zero n)).symm) ?_
    refine lv_astore_nV (lv' := [(2, k_rf (n < 0) (ad 3 (sp_back mm 0 (sp_L mm w)))), (0, .ref (ad 1 w)), (1, .ref (ad 6 t))]) hx hb dX3_outdates_14 rfl hl (by decide) rfl (fun ls hl => ?_)
    refine bo_loop (σ := Nat) (μ := fun (t1 : Nat) => n + 1 - t1) (I := fun (t1 : Nat) (H : Heap) (locs : List Loc) (ls : Array Slot) => H = s.heap ∧ locs = [] ∧ lv_has ls 3 [(2, k_rf (n < t1) (ad 3 (sp_back mm t1 (sp_L mm w)))), (0, .ref (ad 1 w)), (1, .ref (ad 6 t))] ∧ (t1 ≤ n + 1) ∧ (∀ s1, s1 < t1 → ((mm 13 t).toNatClampNeg - 1) ≤ sp_back mm s1 (sp_L mm w) → ¬ k_oj mm (nI (tz_t t)) (sp_back mm s1 (sp_L mm w)))) (0) ⟨rfl, rfl, lv_sub hl [0, 1, 2] rfl, Nat.zero_le _, fun s1 q => absurd q (Nat.not_lt_zero s1)⟩ ?_
    intro x15 H locs ls hI15 ih15
    obtain ⟨t1, ex15⟩ : ∃ z, z = x15 := ⟨_, rfl⟩
    subst ex15
    obtain ⟨rfl, rfl, hl, hp1, hp⟩ := hI15
    refine lv_aload_nV hx hb dX3_outdates_15 rfl (lv_at hl 0 rfl) ?_
    refine k_ifnull (tgt := 59) hx hb dX3_outdates_16 (by decide) (fun c2 => ?_) (fun c2 => ?_)
    · skip
      have e3 : k_rf (n < t1) (ad 3 (sp_back mm t1 (sp_L mm w))) = .null := if_pos c2
      rw [e3] at hl
      refine lv_iconst (v := 0) hx hb dX3_outdates_59 (by decide) ?_
      exact rc_zret hx hb hr hlk (by first | exact Or.inl rfl | exact Or.inr rfl) (by first | rw [if_neg (out_no hI hw hn hn31 hp (Or.inr ⟨ht1, hju⟩))] | rw [if_neg (out_no hI hw hn hn31 hp (Or.inl c2))]) dX3_outdates_60
    · skip
      have ht1 : t1 ≤ n := by omega
      have e3 : k_rf (n < t1) (ad 3 (sp_back mm t1 (sp_L mm w))) = .ref (ad 3 (sp_back mm t1 (sp_L mm w))) := if_neg c2
      rw [e3] at hl
      obtain ⟨hbk, -, hbn⟩ := hI.back (hI.LK hw) hn hn31 t1 ht1
      refine lv_aload_n hx hb dX3_outdates_19 rfl (lv_at hl 0 rfl) ?_
      refine g_get (C := RX2) (T := TX2) (N := 4) (v := .int (nI (sp_back mm t1 (sp_L mm w) + 1))) hF hK (hM 3 (sp_back mm t1 (sp_L mm w)) _ (kc_v (by assumption))) rfl inlX2 1 (by decide) rfl wd_f_X3_95 rfl dX3_outdates_20 ?_
      refine lv_aload_n hx hb dX3_outdates_23 rfl (lv_at hl 2 rfl) ?_
      refine g_get (C := RX1) (T := TX1) (N := 7) (v := .int (mm 13 t - 1)) hF hK (hM 6 t _ (kc_t ht hs)) rfl inlX1 5 (by decide) rfl wd_f_X3_105 rfl dX3_outdates_24 ?_
      refine bo_to (v := (nI (v - 1))) (by rw [hv2]; exact nI_m1 hv0) ?_
      refine lv_icmp_le (tgt := 59) hx hb dX3_outdates_27 (by decide) (fun c3 => ?_) (fun c3 => ?_)
      · skip
        have hju : sp_back mm t1 (sp_L mm w) < ((mm 13 t).toNatClampNeg - 1) := by have := (nI_leI (by omega) (by omega)).mp c3; omega
        refine lv_iconst (v := 0) hx hb dX3_outdates_59 (by decide) ?_
        exact rc_zret hx hb hr hlk (by first | exact Or.inl rfl | exact Or.inr rfl) (by first | rw [if_neg (out_no hI hw hn hn31 hp (Or.inr ⟨ht1, hju⟩))] | rw [if_neg (out_no hI hw hn hn31 hp (Or.inl c2))]) dX3_outdates_60
      · skip
        have hju : ((mm 13 t).toNatClampNeg - 1) ≤ sp_back mm t1 (sp_L mm w) := by rw [hvc]; have : ¬ (sp_back mm t1 (sp_L mm w) + 1 ≤ v - 1) := fun q => c3 (nI_le q (by omega)); omega
        refine lv_aload_n hx hb dX3_outdates_30 rfl (lv_at hl 2 rfl) ?_
        refine lv_aload_n hx hb dX3_outdates_31 rfl (lv_at hl 0 rfl) ?_
        refine kr_V (fr := 0) (lo := 0) (As := [.ref (ad 3 (sp_back mm t1 (sp_L mm w)))]) (rest := []) hF (m_X1_shows l G Z ad mm t (sp_back mm t1 (sp_L mm w)) ht hs hbk) ke_X1_shows wd_l_X3_101 (by decide) hM hK hP hT hS (g_recv hK (hM 6 t _ (kc_t ht hs)) rfl) rfl hl.1 rfl (Nat.le_of_ble_eq_true rfl) dX3_outdates_32 hf (fun r2 hr2 => ?_)
        refine bo_ne (tgt := 49) hr2 hx hb dX3_outdates_35 (by decide) (fun c4 => ?_) (fun c4 => ?_)
        · skip
          refine lv_iconst (v := 1) hx hb dX3_outdates_49 (by decide) ?_
          exact rc_zret hx hb hr hlk (by first | exact Or.inl rfl | exact Or.inr rfl) (by rw [if_pos (out_yes hI hw hn hn31 ht1 c1 hju (by first | exact Or.inl c4 | exact Or.inr ⟨c6, c7⟩))]) dX3_outdates_50
        · skip
          refine lv_aload_n hx hb dX3_outdates_38 rfl (lv_at hl 2 rfl) ?_
          refine lv_aload_n hx hb dX3_outdates_39 rfl (lv_at hl 0 rfl) ?_
          refine g_get (C := RX2) (T := TX2) (N := 4) (v := k_rf (mm 12 (sp_back mm t1 (sp_L mm w)) = -1) (ad 3 (sp_A mm (sp_back mm t1 (sp_L mm w))))) hF hK (hM 3 (sp_back mm t1 (sp_L mm w)) _ (kc_v (by assumption))) rfl inlX2 3 (by decide) rfl wd_f_X3_98 rfl dX3_outdates_40 ?_
          refine k_split (fun c6 => ?_) (fun c6 => ?_)
          · skip
            refine kr_V (fr := 0) (lo := 0) (As := [.null]) (rest := []) hF (m_X1_shows0 l G Z ad mm t) ke_X1_shows wd_l_X3_101 (by decide) hM hK hP hT hS (g_recv hK (hM 6 t _ (kc_t ht hs)) rfl) rfl hl.1 rfl (Nat.le_of_ble_eq_true rfl) dX3_outdates_43 hf (fun r3 hr3 => ?_)
            replace hr3 : r3 = 0 := hr3
            subst hr3
            refine lv_if_eq (tgt := 51) hx hb dX3_outdates_46 (by decide) (fun c7 => ?_) (fun c7 => ?_)
            · skip
              refine lv_aload_n hx hb dX3_outdates_51 rfl (lv_at hl 0 rfl) ?_
              refine g_get (C := RX2) (T := TX2) (N := 4) (v := k_rf (mm 12 (sp_back mm t1 (sp_L mm w)) = -1) (ad 3 (sp_A mm (sp_back mm t1 (sp_L mm w))))) hF hK (hM 3 (sp_back mm t1 (sp_L mm w)) _ (kc_v (by assumption))) rfl inlX2 3 (by decide) rfl wd_f_X3_98 rfl dX3_outdates_52 ?_
              refine bo_toV (v := k_rf (n < t1 + 1) (ad 3 (sp_back mm (t1 + 1) (sp_L mm w)))) (kb_step hI hw hn hn31 ht1) ?_
              refine lv_astore_nV (lv' := [(2, k_rf (n < t1 + 1) (ad 3 (sp_back mm (t1 + 1) (sp_L mm w)))), (0, .ref (ad 1 w)), (1, .ref (ad 6 t))]) hx hb dX3_outdates_55 rfl hl (by decide) rfl (fun ls hl => ?_)
              refine lv_goto (tgt := 15) hx hb dX3_outdates_56 (by decide) ?_
              have hno : ¬ k_oj mm (nI (tz_t t)) (sp_back mm t1 (sp_L mm w)) := fun q => q.elim (fun z => c4 z) (fun z => z.1 c6)
              exact ih15 (t1 + 1) _ _ _ (by show n + 1 - (t1 + 1) < n + 1 - t1; omega) ⟨rfl, rfl, lv_sub hl [0, 1, 2] rfl, by omega, fun s1 hs1 hu1 => by
                rcases Nat.lt_or_ge s1 t1 with q | q
                · exact hp s1 q hu1
                · have e5 : s1 = t1 := by omega
                  subst e5; exact fun ho => hno ho⟩
            · skip
              exact absurd rfl c7
          · skip
            have hAK : sp_A mm (sp_back mm t1 (sp_L mm w)) < sp_K mm := by rcases hI.A hbk with ⟨a, -⟩ | ⟨-, a2, -⟩; exact absurd a c6; omega
            refine kr_V (fr := 0) (lo := 0) (As := [.ref (ad 3 (sp_A mm (sp_back mm t1 (sp_L mm w))))]) (rest := []) hF (m_X1_shows l G Z ad mm t (sp_A mm (sp_back mm t1 (sp_L mm w))) ht hs hAK) ke_X1_shows wd_l_X3_101 (by decide) hM hK hP hT hS (g_recv hK (hM 6 t _ (kc_t ht hs)) rfl) rfl hl.1 rfl (Nat.le_of_ble_eq_true rfl) dX3_outdates_43 hf (fun r4 hr4 => ?_)
            refine bo_eq (tgt := 51) hr4 hx hb dX3_outdates_46 (by decide) (fun c7 => ?_) (fun c7 => ?_)
            · skip
              refine lv_aload_n hx hb dX3_outdates_51 rfl (lv_at hl 0 rfl) ?_
              refine g_get (C := RX2) (T := TX2) (N := 4) (v := k_rf (mm 12 (sp_back mm t1 (sp_L mm w)) = -1) (ad 3 (sp_A mm (sp_back mm t1 (sp_L mm w))))) hF hK (hM 3 (sp_back mm t1 (sp_L mm w)) _ (kc_v (by assumption))) rfl inlX2 3 (by decide) rfl wd_f_X3_98 rfl dX3_outdates_52 ?_
              refine bo_toV (v := k_rf (n < t1 + 1) (ad 3 (sp_back mm (t1 + 1) (sp_L mm w)))) (kb_step hI hw hn hn31 ht1) ?_
              refine lv_astore_nV (lv' := [(2, k_rf (n < t1 + 1) (ad 3 (sp_back mm (t1 + 1) (sp_L mm w)))), (0, .ref (ad 1 w)), (1, .ref (ad 6 t))]) hx hb dX3_outdates_55 rfl hl (by decide) rfl (fun ls hl => ?_)
              refine lv_goto (tgt := 15) hx hb dX3_outdates_56 (by decide) ?_
              have hno : ¬ k_oj mm (nI (tz_t t)) (sp_back mm t1 (sp_L mm w)) := fun q => q.elim (fun z => c4 z) (fun z => c7 z.2)
              exact ih15 (t1 + 1) _ _ _ (by show n + 1 - (t1 + 1) < n + 1 - t1; omega) ⟨rfl, rfl, lv_sub hl [0, 1, 2] rfl, by omega, fun s1 hs1 hu1 => by
                rcases Nat.lt_or_ge s1 t1 with q | q
                · exact hp s1 q hu1
                · have e5 : s1 = t1 := by omega
                  subst e5; exact fun ho => hno ho⟩
            · skip
              refine lv_iconst (v := 1) hx hb dX3_outdates_49 (by decide) ?_
              exact rc_zret hx hb hr hlk (by first | exact Or.inl rfl | exact Or.inr rfl) (by rw [if_pos (out_yes hI hw hn hn31 ht1 c1 hju (by first | exact Or.inl c4 | exact Or.inr ⟨c6, c7⟩))]) dX3_outdates_50
  · skip
    refine lv_iconst (v := 0) hx hb dX3_outdates_8 (by decide) ?_
    exact rc_zret hx hb hr hlk (by first | exact Or.inl rfl | exact Or.inr rfl) (by rw [if_neg (fun q => c1 (k_out_iff.mp q).1)]) dX3_outdates_9
theorem ke_X3_countSightings : wl_V RX3 yX3_countSightings cX3_countSightings 3 (some .int) 0 := ⟨wd_c_X3_countSightings, wd_i_X3_countSightings, wd_s_X3_countSightings, wd_n_X3, by decide, by decide +kernel⟩
set_option maxHeartbeats 4000000 in
set_option maxRecDepth 100000 in
theorem m_X3_countSightings (l : Launch) (G : k_G) (Z : Nat → Prop) (ad : k_Ad) (mm : q_Mem) (w : Nat) (hI : Inv mm) (hw : w < sp_W mm) : rc_C l yX3_countSightings cX3_countSightings 3 (some .int) 0 0 [.ref (ad 1 w)] (k_R G Z ad mm) (fun r => r = sp_dc mm w) := by
  refine rc_of (by decide) (Nat.le_of_ble_eq_true rfl) ?_
  intro p e s m args below meth c hx hb hr hF hlk hB ls hl
  obtain ⟨hM, hK, hP, hT⟩ := hB
  have hS : va_S Z s.heap s.heap [] := va_S.rf
  have hl : lv_has ls 3 [(0, .ref (ad 1 w))] := hl
  have hf : (0 : Nat) ≤ 0 ∧ (0 : Nat) ≤ 0 := ⟨Nat.le_refl 0, Nat.le_refl 0⟩
  refine lv_iconst (v := 0) hx hb dX3_countSightings_0 (by decide) ?_
  refine lv_istore_n (lv' := [(1, .int 0), (0, .ref (ad 1 w))]) hx hb dX3_countSightings_1 rfl hl (by decide) rfl (fun ls hl => ?_)
  refine lv_iconst (v := 0) hx hb dX3_countSightings_2 (by decide) ?_
  refine lv_istore_n (lv' := [(2, .int 0), (1, .int 0), (0, .ref (ad 1 w))]) hx hb dX3_countSightings_3 rfl hl (by decide) rfl (fun ls hl => ?_)
  refine bo_loop (σ := Nat) (μ := fun (i : Nat) => 9 - i) (I := fun (i : Nat) (H : Heap) (locs : List Loc) (ls : Array Slot) => H = s.heap ∧ locs = [] ∧ lv_has ls 3 [(1, .int (it_n (sp_dc1 mm w) i 0)), (2, .int (nI i)), (0, .ref (ad 1 w))] ∧ (i ≤ 9)) (0) ⟨rfl, rfl, lv_sub hl [1, 0, 2] rfl, Nat.zero_le _⟩ ?_
  intro x4 H locs ls hI4 ih4
  obtain ⟨i, ex4⟩ : ∃ z, z = x4 := ⟨_, rfl⟩
  subst ex4
  obtain ⟨rfl, rfl, hl, hi⟩ := hI4
  refine lv_iload_n hx hb dX3_countSightings_4 rfl (lv_at hl 1 rfl) ?_
  refine lv_aload_n hx hb dX3_countSightings_5 rfl (lv_at hl 2 rfl) ?_
  refine g_get (C := RX3) (T := TX3) (N := 8) (v := .ref (ad 2 w)) hF hK (hM 1 w _ (kc_w (by assumption))) rfl inlX3 7 (by decide) rfl wd_f_X3_19 rfl dX3_countSightings_6 ?_
  refine g_alen (t0 := 0) hF hK (hM 2 w _ (kc_d (by assumption))) rfl dX3_countSightings_9 ?_
  refine bo_to (v := (nI 9)) rfl ?_
  refine lv_icmp_ge (tgt := 32) hx hb dX3_countSightings_10 (by decide) (fun c1 => ?_) (fun c1 => ?_)
  · skip
    have hin : i = 9 := by have := (nI_leI (by decide) (by omega)).mp c1; omega
    refine lv_iload_n hx hb dX3_countSightings_32 rfl (lv_at hl 0 rfl) ?_
    exact rc_iret hx hb hr hlk (by rw [hin]; rfl) dX3_countSightings_33
  · skip
    have hi9 : i < 9 := by have : ¬ 9 ≤ i := fun z => c1 (nI_le z (by omega)); omega
    refine lv_aload_n hx hb dX3_countSightings_13 rfl (lv_at hl 2 rfl) ?_
    refine g_get (C := RX3) (T := TX3) (N := 8) (v := .ref (ad 2 w)) hF hK (hM 1 w _ (kc_w (by assumption))) rfl inlX3 7 (by decide) rfl wd_f_X3_19 rfl dX3_countSightings_14 ?_
    refine lv_iload_n hx hb dX3_countSightings_17 rfl (lv_at hl 1 rfl) ?_
    refine g_ald (t0 := 0) (i := i) hF hK (hM 2 w _ (kc_d (by assumption))) rfl rfl (by assumption) (by decide) dX3_countSightings_18 ?_
    refine bo_to (v := (mm 20 (9 * w + i))) (if_pos (by assumption)) ?_
    refine lv_iconst (v := (-1)) hx hb dX3_countSightings_19 (by decide) ?_
    refine lv_icmp_eq (tgt := 26) hx hb dX3_countSightings_20 (by decide) (fun c2 => ?_) (fun c2 => ?_)
    · skip
      rw [dcx_n c2] at hl
      refine lv_iinc (v := (nI (i + 1))) (lv' := [(2, .int (nI (i + 1))), (1, .int (it_n (sp_dc1 mm w) (i + 1) 0)), (0, .ref (ad 1 w))]) hx hb dX3_countSightings_26 hl (k := 1) rfl (nI_1 i) (by decide) rfl (fun ls hl => ?_)
      refine lv_goto (tgt := 4) hx hb dX3_countSightings_29 (by decide) ?_
      exact ih4 (i + 1) _ _ _ (by show 9 - (i + 1) < 9 - i; omega) ⟨rfl, rfl, lv_sub hl [1, 0, 2] rfl, by omega⟩
    · skip
      refine lv_iinc (v := (it_n (sp_dc1 mm w) (i + 1) 0)) (lv' := [(1, .int (it_n (sp_dc1 mm w) (i + 1) 0)), (2, .int (nI i)), (0, .ref (ad 1 w))]) hx hb dX3_countSightings_23 hl (k := 0) rfl (dcx_y c2) (by decide) rfl (fun ls hl => ?_)
      refine lv_iinc (v := (nI (i + 1))) (lv' := [(2, .int (nI (i + 1))), (1, .int (it_n (sp_dc1 mm w) (i + 1) 0)), (0, .ref (ad 1 w))]) hx hb dX3_countSightings_26 hl (k := 1) rfl (nI_1 i) (by decide) rfl (fun ls hl => ?_)
      refine lv_goto (tgt := 4) hx hb dX3_countSightings_29 (by decide) ?_
      exact ih4 (i + 1) _ _ _ (by show 9 - (i + 1) < 9 - i; omega) ⟨rfl, rfl, lv_sub hl [1, 0, 2] rfl, by omega⟩
theorem ke_X3_dearness : wl_V RX3 yX3_dearness cX3_dearness 4 (some .int) 0 := ⟨wd_c_X3_dearness, wd_i_X3_dearness, wd_s_X3_dearness, wd_n_X3, by decide, by decide +kernel⟩
set_option maxHeartbeats 4000000 in
set_option maxRecDepth 100000 in
theorem m_X3_dearness (l : Launch) (G : k_G) (Z : Nat → Prop) (ad : k_Ad) (mm : q_Mem) (w : Nat) (hI : Inv mm) (hw : w < sp_W mm) : rc_C l yX3_dearness cX3_dearness 4 (some .int) 1 20 [.ref (ad 1 w)] (k_R G Z ad mm) (fun r => r = sp_dv mm w) := by
  refine rc_of (by decide) (Nat.le_of_ble_eq_true rfl) ?_
  intro p e s m args below meth c hx hb hr hF hlk hB ls hl
  obtain ⟨hM, hK, hP, hT⟩ := hB
  have hS : va_S Z s.heap s.heap [] := va_S.rf
  have hl : lv_has ls 4 [(0, .ref (ad 1 w))] := hl
  have hf : (0 : Nat) ≤ 0 ∧ (0 : Nat) ≤ 0 := ⟨Nat.le_refl 0, Nat.le_refl 0⟩
  refine lv_iconst (v := (-1)) hx hb dX3_dearness_0 (by decide) ?_
  refine lv_istore_n (lv' := [(1, .int (-1)), (0, .ref (ad 1 w))]) hx hb dX3_dearness_1 rfl hl (by decide) rfl (fun ls hl => ?_)
  refine lv_iconst (v := 0) hx hb dX3_dearness_2 (by decide) ?_
  refine lv_istore_n (lv' := [(2, .int 0), (1, .int (-1)), (0, .ref (ad 1 w))]) hx hb dX3_dearness_3 rfl hl (by decide) rfl (fun ls hl => ?_)
  refine bo_loop (σ := Nat) (μ := fun (i : Nat) => 9 - i) (I := fun (i : Nat) (H : Heap) (locs : List Loc) (ls : Array Slot) => H = s.heap ∧ locs = [] ∧ lv_has ls 4 [(1, .int (it_n (sp_ls1 mm w) i (-1))), (2, .int (nI i)), (0, .ref (ad 1 w))] ∧ (i ≤ 9)) (0) ⟨rfl, rfl, lv_sub hl [1, 0, 2] rfl, Nat.zero_le _⟩ ?_
  intro x4 H locs ls hI4 ih4
  obtain ⟨i, ex4⟩ : ∃ z, z = x4 := ⟨_, rfl⟩
  subst ex4
  obtain ⟨rfl, rfl, hl, hi⟩ := hI4
  refine lv_iload_n hx hb dX3_dearness_4 rfl (lv_at hl 1 rfl) ?_
  refine lv_aload_n hx hb dX3_dearness_5 rfl (lv_at hl 2 rfl) ?_
  refine g_get (C := RX3) (T := TX3) (N := 8) (v := .ref (ad 2 w)) hF hK (hM 1 w _ (kc_w (by assumption))) rfl inlX3 7 (by decide) rfl wd_f_X3_19 rfl dX3_dearness_6 ?_
  refine g_alen (t0 := 0) hF hK (hM 2 w _ (kc_d (by assumption))) rfl dX3_dearness_9 ?_
  refine bo_to (v := (nI 9)) rfl ?_
  refine lv_icmp_ge (tgt := 71) hx hb dX3_dearness_10 (by decide) (fun c1 => ?_) (fun c1 => ?_)
  · skip
    have hin : i = 9 := by have := (nI_leI (by decide) (by omega)).mp c1; omega
    refine lv_iload_n hx hb dX3_dearness_71 rfl (lv_at hl 0 rfl) ?_
    refine lv_iconst (v := (-1)) hx hb dX3_dearness_72 (by decide) ?_
    refine lv_icmp_ne (tgt := 80) hx hb dX3_dearness_73 (by decide) (fun c9 => ?_) (fun c9 => ?_)
    · skip
      refine lv_bipush (v := 100) hx hb dX3_dearness_80 (by decide) ?_
      refine lv_iload_n hx hb dX3_dearness_82 rfl (lv_at hl 0 rfl) ?_
      refine lv_isub hx hb dX3_dearness_83 ?_
      refine lv_aload_n hx hb dX3_dearness_84 rfl (lv_at hl 2 rfl) ?_
      refine kr_V (fr := 0) (lo := 0) (As := []) (rest := [.int (100 - (it_n (sp_ls1 mm w) i (-1)))]) hF (m_X3_kind l G Z ad mm w hI hw) ke_X3_kind wd_l_X3_109 (by decide) hM hK hP hT hS (g_recv hK (hM 1 w _ (kc_w (by assumption))) rfl) rfl hl.1 rfl (Nat.le_of_ble_eq_true rfl) dX3_dearness_85 hf (fun r1 hr1 => ?_)
      replace hr1 : r1 = sp_vk (mm 11 (sp_L mm w)) := hr1
      subst hr1
      refine lv_iconst (v := 1) hx hb dX3_dearness_88 (by decide) ?_
      refine lv_iadd hx hb dX3_dearness_89 ?_
      refine lv_imul hx hb dX3_dearness_90 ?_
      exact rc_iret hx hb hr hlk (by subst hin; first | (rw [sp_dv, sp_ls, if_pos c9]; done) | (rw [sp_dv, sp_ls, if_neg c9]; done)) dX3_dearness_91
    · skip
      refine lv_iconst (v := 0) hx hb dX3_dearness_76 (by decide) ?_
      refine lv_goto (tgt := 91) hx hb dX3_dearness_77 (by decide) ?_
      exact rc_iret hx hb hr hlk (by subst hin; first | (rw [sp_dv, sp_ls, if_pos c9]; done) | (rw [sp_dv, sp_ls, if_neg c9]; done)) dX3_dearness_91
  · skip
    have hi9 : i < 9 := by have : ¬ 9 ≤ i := fun z => c1 (nI_le z (by omega)); omega
    refine bo_cut (ls := ls) (tgt := 28) (E := if ¬ nI (i % 3) = sp_vd (mm 11 (sp_L mm w)) then 1 else 0) (rest := []) (fun vo evo => ?_) (fun J28 => ?_)
    · skip
      refine lv_istore_n (lv' := [(3, .int vo), (1, .int (it_n (sp_ls1 mm w) i (-1))), (2, .int (nI i)), (0, .ref (ad 1 w))]) hx hb dX3_dearness_28 rfl hl (by decide) rfl (fun ls hl => ?_)
      refine lv_iload_n hx hb dX3_dearness_29 rfl (lv_at hl 0 rfl) ?_
      refine bo_eq (tgt := 65) evo hx hb dX3_dearness_30 (by decide) (fun c5 => ?_) (fun c5 => ?_)
      · skip
        rw [lsx_n (fun q => by first | exact c5 q.1 | exact q.2.1 c6 | exact q.2.2.elim c7 c8)] at hl
        refine lv_iinc (v := (nI (i + 1))) (lv' := [(2, .int (nI (i + 1))), (3, .int vo), (1, .int (it_n (sp_ls1 mm w) (i + 1) (-1))), (0, .ref (ad 1 w))]) hx hb dX3_dearness_65 hl (k := 2) rfl (nI_1 i) (by decide) rfl (fun ls hl => ?_)
        refine lv_goto (tgt := 4) hx hb dX3_dearness_68 (by decide) ?_
        exact ih4 (i + 1) _ _ _ (by show 9 - (i + 1) < 9 - i; omega) ⟨rfl, rfl, lv_sub hl [2, 0, 3] rfl, by omega⟩
      · skip
        refine lv_aload_n hx hb dX3_dearness_33 rfl (lv_at hl 3 rfl) ?_
        refine g_get (C := RX3) (T := TX3) (N := 8) (v := .ref (ad 2 w)) hF hK (hM 1 w _ (kc_w (by assumption))) rfl inlX3 7 (by decide) rfl wd_f_X3_19 rfl dX3_dearness_34 ?_
        refine lv_iload_n hx hb dX3_dearness_37 rfl (lv_at hl 2 rfl) ?_
        refine g_ald (t0 := 0) (i := i) hF hK (hM 2 w _ (kc_d (by assumption))) rfl rfl (by assumption) (by decide) dX3_dearness_38 ?_
        refine bo_to (v := (mm 20 (9 * w + i))) (if_pos (by assumption)) ?_
        refine lv_iconst (v := (-1)) hx hb dX3_dearness_39 (by decide) ?_
        refine lv_icmp_eq (tgt := 65) hx hb dX3_dearness_40 (by decide) (fun c6 => ?_) (fun c6 => ?_)
        · skip
          rw [lsx_n (fun q => by first | exact c5 q.1 | exact q.2.1 c6 | exact q.2.2.elim c7 c8)] at hl
          refine lv_iinc (v := (nI (i + 1))) (lv' := [(2, .int (nI (i + 1))), (3, .int vo), (1, .int (it_n (sp_ls1 mm w) (i + 1) (-1))), (0, .ref (ad 1 w))]) hx hb dX3_dearness_65 hl (k := 2) rfl (nI_1 i) (by decide) rfl (fun ls hl => ?_)
          refine lv_goto (tgt := 4) hx hb dX3_dearness_68 (by decide) ?_
          exact ih4 (i + 1) _ _ _ (by show 9 - (i + 1) < 9 - i; omega) ⟨rfl, rfl, lv_sub hl [2, 0, 3] rfl, by omega⟩
        · skip
          refine lv_iload_n hx hb dX3_dearness_43 rfl (lv_at hl 1 rfl) ?_
          refine lv_iconst (v := (-1)) hx hb dX3_dearness_44 (by decide) ?_
          refine lv_icmp_eq (tgt := 58) hx hb dX3_dearness_45 (by decide) (fun c7 => ?_) (fun c7 => ?_)
          · skip
            refine lv_aload_n hx hb dX3_dearness_58 rfl (lv_at hl 3 rfl) ?_
            refine g_get (C := RX3) (T := TX3) (N := 8) (v := .ref (ad 2 w)) hF hK (hM 1 w _ (kc_w (by assumption))) rfl inlX3 7 (by decide) rfl wd_f_X3_19 rfl dX3_dearness_59 ?_
            refine lv_iload_n hx hb dX3_dearness_62 rfl (lv_at hl 2 rfl) ?_
            refine g_ald (t0 := 0) (i := i) hF hK (hM 2 w _ (kc_d (by assumption))) rfl rfl (by assumption) (by decide) dX3_dearness_63 ?_
            refine bo_to (v := (mm 20 (9 * w + i))) (if_pos (by assumption)) ?_
            refine bo_to (v := (it_n (sp_ls1 mm w) (i + 1) (-1))) (lsx_y ⟨c5, c6, by first | exact Or.inl c7 | exact Or.inr c8⟩) ?_
            refine lv_istore_n (lv' := [(1, .int (it_n (sp_ls1 mm w) (i + 1) (-1))), (3, .int vo), (2, .int (nI i)), (0, .ref (ad 1 w))]) hx hb dX3_dearness_64 rfl hl (by decide) rfl (fun ls hl => ?_)
            refine lv_iinc (v := (nI (i + 1))) (lv' := [(2, .int (nI (i + 1))), (1, .int (it_n (sp_ls1 mm w) (i + 1) (-1))), (3, .int vo), (0, .ref (ad 1 w))]) hx hb dX3_dearness_65 hl (k := 2) rfl (nI_1 i) (by decide) rfl (fun ls hl => ?_)
            refine lv_goto (tgt := 4) hx hb dX3_dearness_68 (by decide) ?_
            exact ih4 (i + 1) _ _ _ (by show 9 - (i + 1) < 9 - i; omega) ⟨rfl, rfl, lv_sub hl [1, 0, 3] rfl, by omega⟩
          · skip
            refine lv_aload_n hx hb dX3_dearness_48 rfl (lv_at hl 3 rfl) ?_
            refine g_get (C := RX3) (T := TX3) (N := 8) (v := .ref (ad 2 w)) hF hK (hM 1 w _ (kc_w (by assumption))) rfl inlX3 7 (by decide) rfl wd_f_X3_19 rfl dX3_dearness_49 ?_
            refine lv_iload_n hx hb dX3_dearness_52 rfl (lv_at hl 2 rfl) ?_
            refine g_ald (t0 := 0) (i := i) hF hK (hM 2 w _ (kc_d (by assumption))) rfl rfl (by assumption) (by decide) dX3_dearness_53 ?_
            refine bo_to (v := (mm 20 (9 * w + i))) (if_pos (by assumption)) ?_
            refine lv_iload_n hx hb dX3_dearness_54 rfl (lv_at hl 1 rfl) ?_
            refine lv_icmp_ge (tgt := 65) hx hb dX3_dearness_55 (by decide) (fun c8 => ?_) (fun c8 => ?_)
            · skip
              replace c8 := bo_nlt c8
              rw [lsx_n (fun q => by first | exact c5 q.1 | exact q.2.1 c6 | exact q.2.2.elim c7 c8)] at hl
              refine lv_iinc (v := (nI (i + 1))) (lv' := [(2, .int (nI (i + 1))), (3, .int vo), (1, .int (it_n (sp_ls1 mm w) (i + 1) (-1))), (0, .ref (ad 1 w))]) hx hb dX3_dearness_65 hl (k := 2) rfl (nI_1 i) (by decide) rfl (fun ls hl => ?_)
              refine lv_goto (tgt := 4) hx hb dX3_dearness_68 (by decide) ?_
              exact ih4 (i + 1) _ _ _ (by show 9 - (i + 1) < 9 - i; omega) ⟨rfl, rfl, lv_sub hl [2, 0, 3] rfl, by omega⟩
            · skip
              replace c8 := bo_le c8
              refine lv_aload_n hx hb dX3_dearness_58 rfl (lv_at hl 3 rfl) ?_
              refine g_get (C := RX3) (T := TX3) (N := 8) (v := .ref (ad 2 w)) hF hK (hM 1 w _ (kc_w (by assumption))) rfl inlX3 7 (by decide) rfl wd_f_X3_19 rfl dX3_dearness_59 ?_
              refine lv_iload_n hx hb dX3_dearness_62 rfl (lv_at hl 2 rfl) ?_
              refine g_ald (t0 := 0) (i := i) hF hK (hM 2 w _ (kc_d (by assumption))) rfl rfl (by assumption) (by decide) dX3_dearness_63 ?_
              refine bo_to (v := (mm 20 (9 * w + i))) (if_pos (by assumption)) ?_
              refine bo_to (v := (it_n (sp_ls1 mm w) (i + 1) (-1))) (lsx_y ⟨c5, c6, by first | exact Or.inl c7 | exact Or.inr c8⟩) ?_
              refine lv_istore_n (lv' := [(1, .int (it_n (sp_ls1 mm w) (i + 1) (-1))), (3, .int vo), (2, .int (nI i)), (0, .ref (ad 1 w))]) hx hb dX3_dearness_64 rfl hl (by decide) rfl (fun ls hl => ?_)
              refine lv_iinc (v := (nI (i + 1))) (lv' := [(2, .int (nI (i + 1))), (1, .int (it_n (sp_ls1 mm w) (i + 1) (-1))), (3, .int vo), (0, .ref (ad 1 w))]) hx hb dX3_dearness_65 hl (k := 2) rfl (nI_1 i) (by decide) rfl (fun ls hl => ?_)
              refine lv_goto (tgt := 4) hx hb dX3_dearness_68 (by decide) ?_
              exact ih4 (i + 1) _ _ _ (by show 9 - (i + 1) < 9 - i; omega) ⟨rfl, rfl, lv_sub hl [1, 0, 3] rfl, by omega⟩
    · skip
      refine lv_iload_n hx hb dX3_dearness_13 rfl (lv_at hl 1 rfl) ?_
      refine lv_iconst (v := 3) hx hb dX3_dearness_14 (by decide) ?_
      refine lv_irem hx hb dX3_dearness_15 (by decide) ?_
      refine bo_to (v := (nI (i % 3))) (pk_rem (by omega) (by decide) (by decide)) ?_
      refine lv_aload_n hx hb dX3_dearness_16 rfl (lv_at hl 2 rfl) ?_
      refine kr_V (fr := 0) (lo := 0) (As := []) (rest := [.int (nI (i % 3))]) hF (m_X3_direction l G Z ad mm w hI hw) ke_X3_direction wd_l_X3_106 (by decide) hM hK hP hT hS (g_recv hK (hM 1 w _ (kc_w (by assumption))) rfl) rfl hl.1 rfl (Nat.le_of_ble_eq_true rfl) dX3_dearness_17 hf (fun r3 hr3 => ?_)
      replace hr3 : r3 = sp_vd (mm 11 (sp_L mm w)) := hr3
      subst hr3
      refine lv_icmp_eq (tgt := 27) hx hb dX3_dearness_20 (by decide) (fun c4 => ?_) (fun c4 => ?_)
      · skip
        refine lv_iconst (v := 0) hx hb dX3_dearness_27 (by decide) ?_
        exact J28 _ (by first | exact bo_p c4 | exact bo_n (fun q => q c4))
      · skip
        refine lv_iconst (v := 1) hx hb dX3_dearness_23 (by decide) ?_
        refine lv_goto (tgt := 28) hx hb dX3_dearness_24 (by decide) ?_
        exact J28 _ (by first | exact bo_p c4 | exact bo_n (fun q => q c4))
theorem ke_X3_hasAgreementOn : wl_V RX3 yX3_hasAgreementOn cX3_hasAgreementOn 4 (some .boolean) 1 := ⟨wd_c_X3_hasAgreementOn, wd_i_X3_hasAgreementOn, wd_s_X3_hasAgreementOn, wd_n_X3, by decide, by decide +kernel⟩
set_option maxHeartbeats 4000000 in
set_option maxRecDepth 100000 in
theorem m_X3_hasAgreementOn (l : Launch) (G : k_G) (Z : Nat → Prop) (ad : k_Ad) (mm : q_Mem) (w d : Nat) (hI : Inv mm) (hw : w < sp_W mm) (hd : d < 3) : rc_C l yX3_hasAgreementOn cX3_hasAgreementOn 4 (some .boolean) 0 0 [.ref (ad 1 w), .int (nI d)] (k_R G Z ad mm) (fun r => r = if sp_agr mm w d then 1 else 0) := by
  refine rc_of (by decide) (Nat.le_of_ble_eq_true rfl) ?_
  intro p e s m args below meth c hx hb hr hF hlk hB ls hl
  obtain ⟨hM, hK, hP, hT⟩ := hB
  have hS : va_S Z s.heap s.heap [] := va_S.rf
  have hl : lv_has ls 4 [(0, .ref (ad 1 w)), (1, .int (nI d))] := hl
  have hf : (0 : Nat) ≤ 0 ∧ (0 : Nat) ≤ 0 := ⟨Nat.le_refl 0, Nat.le_refl 0⟩
  refine lv_iload_n hx hb dX3_hasAgreementOn_0 rfl (lv_at hl 1 rfl) ?_
  refine bo_to (v := (nI (3 * 0 + d))) (by rw [Nat.mul_zero, Nat.zero_add]) ?_
  refine lv_istore_n (lv' := [(2, .int (nI (3 * 0 + d))), (0, .ref (ad 1 w)), (1, .int (nI d))]) hx hb dX3_hasAgreementOn_1 rfl hl (by decide) rfl (fun ls hl => ?_)
  refine bo_loop (σ := Nat) (μ := fun (a : Nat) => 3 - a) (I := fun (a : Nat) (H : Heap) (locs : List Loc) (ls : Array Slot) => H = s.heap ∧ locs = [] ∧ lv_has ls 4 [(2, .int (nI (3 * a + d))), (0, .ref (ad 1 w)), (1, .int (nI d))] ∧ (a ≤ 3) ∧ (∀ a1 b1, a1 < a → a1 < b1 → b1 < 3 → ¬ sp_ag2 mm w d a1 b1)) (0) ⟨rfl, rfl, lv_sub hl [0, 1, 2] rfl, Nat.zero_le _, fun a1 b1 q => absurd q (Nat.not_lt_zero a1)⟩ ?_
  intro x2 H locs ls hI2 ih2
  obtain ⟨a, ex2⟩ : ∃ z, z = x2 := ⟨_, rfl⟩
  subst ex2
  obtain ⟨rfl, rfl, hl, ha, hp⟩ := hI2
  refine lv_iload_n hx hb dX3_hasAgreementOn_2 rfl (lv_at hl 0 rfl) ?_
  refine lv_aload_n hx hb dX3_hasAgreementOn_3 rfl (lv_at hl 1 rfl) ?_
  refine g_get (C := RX3) (T := TX3) (N := 8) (v := .ref (ad 2 w)) hF hK (hM 1 w _ (kc_w (by assumption))) rfl inlX3 7 (by decide) rfl wd_f_X3_19 rfl dX3_hasAgreementOn_4 ?_
  refine g_alen (t0 := 0) hF hK (hM 2 w _ (kc_d (by assumption))) rfl dX3_hasAgreementOn_7 ?_
  refine bo_to (v := (nI 9)) rfl ?_
  refine lv_icmp_ge (tgt := 79) hx hb dX3_hasAgreementOn_8 (by decide) (fun c1 => ?_) (fun c1 => ?_)
  · skip
    have hae : a = 3 := by have := (nI_leI (by decide) (by omega)).mp c1; omega
    refine lv_iconst (v := 0) hx hb dX3_hasAgreementOn_79 (by decide) ?_
    exact rc_zret hx hb hr hlk (by first | exact Or.inl rfl | exact Or.inr rfl) (by rw [if_neg (agr_no (fun a1 b1 h1 h2 h3 => hp a1 b1 (by omega) h2 h3))]) dX3_hasAgreementOn_80
  · skip
    have ha3 : a < 3 := by have : ¬ 9 ≤ 3 * a + d := fun z => c1 (nI_le z (by omega)); omega
    refine lv_iload_n hx hb dX3_hasAgreementOn_11 rfl (lv_at hl 0 rfl) ?_
    refine lv_iconst (v := 3) hx hb dX3_hasAgreementOn_12 (by decide) ?_
    refine lv_iadd hx hb dX3_hasAgreementOn_13 ?_
    refine bo_to (v := (nI (3 * (a + 1) + d))) (by show nI (3 * a + d) + nI 3 = _; rw [nI_add]; congr 1; omega) ?_
    refine lv_istore_n (lv' := [(3, .int (nI (3 * (a + 1) + d))), (2, .int (nI (3 * a + d))), (0, .ref (ad 1 w)), (1, .int (nI d))]) hx hb dX3_hasAgreementOn_14 rfl hl (by decide) rfl (fun ls hl => ?_)
    refine bo_loop (σ := Nat) (μ := fun (b : Nat) => 3 - b) (I := fun (b : Nat) (H : Heap) (locs : List Loc) (ls : Array Slot) => H = s.heap ∧ locs = [] ∧ lv_has ls 4 [(3, .int (nI (3 * b + d))), (0, .ref (ad 1 w)), (1, .int (nI d)), (2, .int (nI (3 * a + d)))] ∧ (b ≤ 3) ∧ (a < b) ∧ (∀ b1, a < b1 → b1 < b → ¬ sp_ag2 mm w d a b1)) (a + 1) ⟨rfl, rfl, lv_sub hl [0, 2, 3, 1] rfl, by omega, Nat.lt_succ_self a, fun b1 q q2 => by omega⟩ ?_
    intro x15 H locs ls hI15 ih15
    obtain ⟨b, ex15⟩ : ∃ z, z = x15 := ⟨_, rfl⟩
    subst ex15
    obtain ⟨rfl, rfl, hl, hb3, hab, hp5⟩ := hI15
    refine lv_iload_n hx hb dX3_hasAgreementOn_15 rfl (lv_at hl 0 rfl) ?_
    refine lv_aload_n hx hb dX3_hasAgreementOn_16 rfl (lv_at hl 1 rfl) ?_
    refine g_get (C := RX3) (T := TX3) (N := 8) (v := .ref (ad 2 w)) hF hK (hM 1 w _ (kc_w (by assumption))) rfl inlX3 7 (by decide) rfl wd_f_X3_19 rfl dX3_hasAgreementOn_17 ?_
    refine g_alen (t0 := 0) hF hK (hM 2 w _ (kc_d (by assumption))) rfl dX3_hasAgreementOn_20 ?_
    refine bo_to (v := (nI 9)) rfl ?_
    refine lv_icmp_ge (tgt := 73) hx hb dX3_hasAgreementOn_21 (by decide) (fun c2 => ?_) (fun c2 => ?_)
    · skip
      have hbe : b = 3 := by have := (nI_leI (by decide) (by omega)).mp c2; omega
      refine lv_iinc (v := (nI (3 * (a + 1) + d))) (lv' := [(2, .int (nI (3 * (a + 1) + d))), (3, .int (nI (3 * b + d))), (0, .ref (ad 1 w)), (1, .int (nI d))]) hx hb dX3_hasAgreementOn_73 hl (k := 3) rfl (by show nI (3 * a + d) + nI 3 = _; rw [nI_add]; congr 1; omega) (by decide) rfl (fun ls hl => ?_)
      refine lv_goto (tgt := 2) hx hb dX3_hasAgreementOn_76 (by decide) ?_
      exact ih2 (a + 1) _ _ _ (by show 3 - (a + 1) < 3 - a; omega) ⟨rfl, rfl, lv_sub hl [0, 2, 3] rfl, by omega, fun a1 b1 h1 h2 h3 => by
        rcases Nat.lt_or_ge a1 a with q | q
        · exact hp a1 b1 q h2 h3
        · have e5 : a1 = a := by omega
          subst e5; exact hp5 b1 h2 (by omega)⟩
    · skip
      have hb4 : b < 3 := by have : ¬ 9 ≤ 3 * b + d := fun z => c2 (nI_le z (by omega)); omega
      refine lv_aload_n hx hb dX3_hasAgreementOn_24 rfl (lv_at hl 1 rfl) ?_
      refine g_get (C := RX3) (T := TX3) (N := 8) (v := .ref (ad 2 w)) hF hK (hM 1 w _ (kc_w (by assumption))) rfl inlX3 7 (by decide) rfl wd_f_X3_19 rfl dX3_hasAgreementOn_25 ?_
      refine lv_iload_n hx hb dX3_hasAgreementOn_28 rfl (lv_at hl 3 rfl) ?_
      refine g_ald (t0 := 0) (i := 3 * a + d) hF hK (hM 2 w _ (kc_d (by assumption))) rfl rfl (by omega) (by decide) dX3_hasAgreementOn_29 ?_
      refine bo_to (v := (mm 20 (9 * w + (3 * a + d)))) (if_pos (by omega)) ?_
      refine lv_iconst (v := (-1)) hx hb dX3_hasAgreementOn_30 (by decide) ?_
      refine lv_icmp_eq (tgt := 67) hx hb dX3_hasAgreementOn_31 (by decide) (fun c3 => ?_) (fun c3 => ?_)
      · skip
        refine lv_iinc (v := (nI (3 * (b + 1) + d))) (lv' := [(3, .int (nI (3 * (b + 1) + d))), (0, .ref (ad 1 w)), (1, .int (nI d)), (2, .int (nI (3 * a + d)))]) hx hb dX3_hasAgreementOn_67 hl (k := 0) rfl (by show nI (3 * b + d) + nI 3 = _; rw [nI_add]; congr 1; omega) (by decide) rfl (fun ls hl => ?_)
        refine lv_goto (tgt := 15) hx hb dX3_hasAgreementOn_70 (by decide) ?_
        have hno : ¬ sp_ag2 mm w d a b := fun q => by first | exact q.1 c3 | exact q.2.1 c4 | exact c5 q.2.2
        exact ih15 (b + 1) _ _ _ (by show 3 - (b + 1) < 3 - b; omega) ⟨rfl, rfl, lv_sub hl [0, 1, 2, 3] rfl, by omega, by omega, fun b1 h1 h2 => by
          rcases Nat.lt_or_ge b1 b with q | q
          · exact hp5 b1 h1 q
          · have e6 : b1 = b := by omega
            subst e6; exact hno⟩
      · skip
        refine lv_aload_n hx hb dX3_hasAgreementOn_34 rfl (lv_at hl 1 rfl) ?_
        refine g_get (C := RX3) (T := TX3) (N := 8) (v := .ref (ad 2 w)) hF hK (hM 1 w _ (kc_w (by assumption))) rfl inlX3 7 (by decide) rfl wd_f_X3_19 rfl dX3_hasAgreementOn_35 ?_
        refine lv_iload_n hx hb dX3_hasAgreementOn_38 rfl (lv_at hl 0 rfl) ?_
        refine g_ald (t0 := 0) (i := 3 * b + d) hF hK (hM 2 w _ (kc_d (by assumption))) rfl rfl (by omega) (by decide) dX3_hasAgreementOn_39 ?_
        refine bo_to (v := (mm 20 (9 * w + (3 * b + d)))) (if_pos (by omega)) ?_
        refine lv_iconst (v := (-1)) hx hb dX3_hasAgreementOn_40 (by decide) ?_
        refine lv_icmp_eq (tgt := 67) hx hb dX3_hasAgreementOn_41 (by decide) (fun c4 => ?_) (fun c4 => ?_)
        · skip
          refine lv_iinc (v := (nI (3 * (b + 1) + d))) (lv' := [(3, .int (nI (3 * (b + 1) + d))), (0, .ref (ad 1 w)), (1, .int (nI d)), (2, .int (nI (3 * a + d)))]) hx hb dX3_hasAgreementOn_67 hl (k := 0) rfl (by show nI (3 * b + d) + nI 3 = _; rw [nI_add]; congr 1; omega) (by decide) rfl (fun ls hl => ?_)
          refine lv_goto (tgt := 15) hx hb dX3_hasAgreementOn_70 (by decide) ?_
          have hno : ¬ sp_ag2 mm w d a b := fun q => by first | exact q.1 c3 | exact q.2.1 c4 | exact c5 q.2.2
          exact ih15 (b + 1) _ _ _ (by show 3 - (b + 1) < 3 - b; omega) ⟨rfl, rfl, lv_sub hl [0, 1, 2, 3] rfl, by omega, by omega, fun b1 h1 h2 => by
            rcases Nat.lt_or_ge b1 b with q | q
            · exact hp5 b1 h1 q
            · have e6 : b1 = b := by omega
              subst e6; exact hno⟩
        · skip
          refine lv_aload_n hx hb dX3_hasAgreementOn_44 rfl (lv_at hl 1 rfl) ?_
          refine g_get (C := RX3) (T := TX3) (N := 8) (v := .ref (ad 2 w)) hF hK (hM 1 w _ (kc_w (by assumption))) rfl inlX3 7 (by decide) rfl wd_f_X3_19 rfl dX3_hasAgreementOn_45 ?_
          refine lv_iload_n hx hb dX3_hasAgreementOn_48 rfl (lv_at hl 3 rfl) ?_
          refine g_ald (t0 := 0) (i := 3 * a + d) hF hK (hM 2 w _ (kc_d (by assumption))) rfl rfl (by omega) (by decide) dX3_hasAgreementOn_49 ?_
          refine bo_to (v := (mm 20 (9 * w + (3 * a + d)))) (if_pos (by omega)) ?_
          refine lv_aload_n hx hb dX3_hasAgreementOn_50 rfl (lv_at hl 1 rfl) ?_
          refine g_get (C := RX3) (T := TX3) (N := 8) (v := .ref (ad 2 w)) hF hK (hM 1 w _ (kc_w (by assumption))) rfl inlX3 7 (by decide) rfl wd_f_X3_19 rfl dX3_hasAgreementOn_51 ?_
          refine lv_iload_n hx hb dX3_hasAgreementOn_54 rfl (lv_at hl 0 rfl) ?_
          refine g_ald (t0 := 0) (i := 3 * b + d) hF hK (hM 2 w _ (kc_d (by assumption))) rfl rfl (by omega) (by decide) dX3_hasAgreementOn_55 ?_
          refine bo_to (v := (mm 20 (9 * w + (3 * b + d)))) (if_pos (by omega)) ?_
          refine lv_imul hx hb dX3_hasAgreementOn_56 ?_
          refine lv_bipush (v := 100) hx hb dX3_hasAgreementOn_57 (by decide) ?_
          refine lv_idiv hx hb dX3_hasAgreementOn_59 (by decide) ?_
          refine lv_bipush (v := 20) hx hb dX3_hasAgreementOn_60 (by decide) ?_
          refine lv_icmp_gt (tgt := 67) hx hb dX3_hasAgreementOn_62 (by decide) (fun c5 => ?_) (fun c5 => ?_)
          · skip
            replace c5 := bo_nle c5
            refine lv_iinc (v := (nI (3 * (b + 1) + d))) (lv' := [(3, .int (nI (3 * (b + 1) + d))), (0, .ref (ad 1 w)), (1, .int (nI d)), (2, .int (nI (3 * a + d)))]) hx hb dX3_hasAgreementOn_67 hl (k := 0) rfl (by show nI (3 * b + d) + nI 3 = _; rw [nI_add]; congr 1; omega) (by decide) rfl (fun ls hl => ?_)
            refine lv_goto (tgt := 15) hx hb dX3_hasAgreementOn_70 (by decide) ?_
            have hno : ¬ sp_ag2 mm w d a b := fun q => by first | exact q.1 c3 | exact q.2.1 c4 | exact c5 q.2.2
            exact ih15 (b + 1) _ _ _ (by show 3 - (b + 1) < 3 - b; omega) ⟨rfl, rfl, lv_sub hl [0, 1, 2, 3] rfl, by omega, by omega, fun b1 h1 h2 => by
              rcases Nat.lt_or_ge b1 b with q | q
              · exact hp5 b1 h1 q
              · have e6 : b1 = b := by omega
                subst e6; exact hno⟩
          · skip
            replace c5 := bo_lt c5
            refine lv_iconst (v := 1) hx hb dX3_hasAgreementOn_65 (by decide) ?_
            exact rc_zret hx hb hr hlk (by first | exact Or.inl rfl | exact Or.inr rfl) (by rw [if_pos (agr_of hab hb4 ⟨c3, c4, c5⟩)]) dX3_hasAgreementOn_66
end
section
theorem dX4_countWaysIn_0 : decode cX4_countWaysIn 0 = .ok (.iconst 0, 1) := by decide +kernel
theorem dX4_countWaysIn_1 : decode cX4_countWaysIn 1 = .ok (.istore_n 2, 1) := by decide +kernel
theorem dX4_countWaysIn_2 : decode cX4_countWaysIn 2 = .ok (.iconst 0, 1) := by decide +kernel
theorem dX4_countWaysIn_3 : decode cX4_countWaysIn 3 = .ok (.istore_n 3, 1) := by decide +kernel
theorem dX4_countWaysIn_4 : decode cX4_countWaysIn 4 = .ok (.iload_n 3, 1) := by decide +kernel
theorem dX4_countWaysIn_5 : decode cX4_countWaysIn 5 = .ok (.aload_n 0, 1) := by decide +kernel
theorem dX4_countWaysIn_6 : decode cX4_countWaysIn 6 = .ok (.getfield 10, 3) := by decide +kernel
theorem dX4_countWaysIn_9 : decode cX4_countWaysIn 9 = .ok (.invokevirtual 65, 3) := by decide +kernel
theorem dX4_countWaysIn_12 : decode cX4_countWaysIn 12 = .ok (.if_icmp .ge 34, 3) := by decide +kernel
theorem dX4_countWaysIn_15 : decode cX4_countWaysIn 15 = .ok (.aload_n 0, 1) := by decide +kernel
theorem dX4_countWaysIn_16 : decode cX4_countWaysIn 16 = .ok (.getfield 10, 3) := by decide +kernel
theorem dX4_countWaysIn_19 : decode cX4_countWaysIn 19 = .ok (.iload_n 3, 1) := by decide +kernel
theorem dX4_countWaysIn_20 : decode cX4_countWaysIn 20 = .ok (.invokevirtual 272, 3) := by decide +kernel
theorem dX4_countWaysIn_23 : decode cX4_countWaysIn 23 = .ok (.checkcast 78, 3) := by decide +kernel
theorem dX4_countWaysIn_26 : decode cX4_countWaysIn 26 = .ok (.aload_n 1, 1) := by decide +kernel
theorem dX4_countWaysIn_27 : decode cX4_countWaysIn 27 = .ok (.aload_n 1, 1) := by decide +kernel
theorem dX4_countWaysIn_28 : decode cX4_countWaysIn 28 = .ok (.getfield 188, 3) := by decide +kernel
theorem dX4_countWaysIn_31 : decode cX4_countWaysIn 31 = .ok (.invokevirtual 296, 3) := by decide +kernel
theorem dX4_countWaysIn_34 : decode cX4_countWaysIn 34 = .ok (.ifnull 6, 3) := by decide +kernel
theorem dX4_countWaysIn_37 : decode cX4_countWaysIn 37 = .ok (.iinc 2 1, 3) := by decide +kernel
theorem dX4_countWaysIn_40 : decode cX4_countWaysIn 40 = .ok (.iinc 3 1, 3) := by decide +kernel
theorem dX4_countWaysIn_43 : decode cX4_countWaysIn 43 = .ok (.goto (-39), 3) := by decide +kernel
theorem dX4_countWaysIn_46 : decode cX4_countWaysIn 46 = .ok (.iload_n 2, 1) := by decide +kernel
theorem dX4_countWaysIn_47 : decode cX4_countWaysIn 47 = .ok (.ireturn, 1) := by decide +kernel
theorem dX4_isOutdated_0 : decode cX4_isOutdated 0 = .ok (.aload_n 1, 1) := by decide +kernel
theorem dX4_isOutdated_1 : decode cX4_isOutdated 1 = .ok (.ifnonnull 5, 3) := by decide +kernel
theorem dX4_isOutdated_4 : decode cX4_isOutdated 4 = .ok (.iconst 0, 1) := by decide +kernel
theorem dX4_isOutdated_5 : decode cX4_isOutdated 5 = .ok (.ireturn, 1) := by decide +kernel
theorem dX4_isOutdated_6 : decode cX4_isOutdated 6 = .ok (.iconst 0, 1) := by decide +kernel
theorem dX4_isOutdated_7 : decode cX4_isOutdated 7 = .ok (.istore_n 2, 1) := by decide +kernel
theorem dX4_isOutdated_8 : decode cX4_isOutdated 8 = .ok (.iload_n 2, 1) := by decide +kernel
theorem dX4_isOutdated_9 : decode cX4_isOutdated 9 = .ok (.aload_n 0, 1) := by decide +kernel
theorem dX4_isOutdated_10 : decode cX4_isOutdated 10 = .ok (.getfield 10, 3) := by decide +kernel
theorem dX4_isOutdated_13 : decode cX4_isOutdated 13 = .ok (.invokevirtual 65, 3) := by decide +kernel
theorem dX4_isOutdated_16 : decode cX4_isOutdated 16 = .ok (.if_icmp .ge 29, 3) := by decide +kernel
theorem dX4_isOutdated_19 : decode cX4_isOutdated 19 = .ok (.aload_n 0, 1) := by decide +kernel
theorem dX4_isOutdated_20 : decode cX4_isOutdated 20 = .ok (.getfield 10, 3) := by decide +kernel
theorem dX4_isOutdated_23 : decode cX4_isOutdated 23 = .ok (.iload_n 2, 1) := by decide +kernel
theorem dX4_isOutdated_24 : decode cX4_isOutdated 24 = .ok (.invokevirtual 272, 3) := by decide +kernel
theorem dX4_isOutdated_27 : decode cX4_isOutdated 27 = .ok (.checkcast 78, 3) := by decide +kernel
theorem dX4_isOutdated_30 : decode cX4_isOutdated 30 = .ok (.aload_n 1, 1) := by decide +kernel
theorem dX4_isOutdated_31 : decode cX4_isOutdated 31 = .ok (.invokevirtual 300, 3) := by decide +kernel
theorem dX4_isOutdated_34 : decode cX4_isOutdated 34 = .ok (.ifCond .eq 5, 3) := by decide +kernel
theorem dX4_isOutdated_37 : decode cX4_isOutdated 37 = .ok (.iconst 1, 1) := by decide +kernel
theorem dX4_isOutdated_38 : decode cX4_isOutdated 38 = .ok (.ireturn, 1) := by decide +kernel
theorem dX4_isOutdated_39 : decode cX4_isOutdated 39 = .ok (.iinc 2 1, 3) := by decide +kernel
theorem dX4_isOutdated_42 : decode cX4_isOutdated 42 = .ok (.goto (-34), 3) := by decide +kernel
theorem dX4_isOutdated_45 : decode cX4_isOutdated 45 = .ok (.iconst 0, 1) := by decide +kernel
theorem dX4_isOutdated_46 : decode cX4_isOutdated 46 = .ok (.ireturn, 1) := by decide +kernel
theorem dX4_pictureAt_0 : decode cX4_pictureAt 0 = .ok (.bipush 17, 2) := by decide +kernel
theorem dX4_pictureAt_2 : decode cX4_pictureAt 2 = .ok (.istore_n 3, 1) := by decide +kernel
theorem dX4_pictureAt_3 : decode cX4_pictureAt 3 = .ok (.iconst 0, 1) := by decide +kernel
theorem dX4_pictureAt_4 : decode cX4_pictureAt 4 = .ok (.istore 4, 2) := by decide +kernel
theorem dX4_pictureAt_6 : decode cX4_pictureAt 6 = .ok (.iload 4, 2) := by decide +kernel
theorem dX4_pictureAt_8 : decode cX4_pictureAt 8 = .ok (.aload_n 0, 1) := by decide +kernel
theorem dX4_pictureAt_9 : decode cX4_pictureAt 9 = .ok (.getfield 10, 3) := by decide +kernel
theorem dX4_pictureAt_12 : decode cX4_pictureAt 12 = .ok (.invokevirtual 65, 3) := by decide +kernel
theorem dX4_pictureAt_15 : decode cX4_pictureAt 15 = .ok (.if_icmp .ge 58, 3) := by decide +kernel
theorem dX4_pictureAt_18 : decode cX4_pictureAt 18 = .ok (.aload_n 0, 1) := by decide +kernel
theorem dX4_pictureAt_19 : decode cX4_pictureAt 19 = .ok (.getfield 10, 3) := by decide +kernel
theorem dX4_pictureAt_22 : decode cX4_pictureAt 22 = .ok (.iload 4, 2) := by decide +kernel
theorem dX4_pictureAt_24 : decode cX4_pictureAt 24 = .ok (.invokevirtual 272, 3) := by decide +kernel
theorem dX4_pictureAt_27 : decode cX4_pictureAt 27 = .ok (.checkcast 78, 3) := by decide +kernel
theorem dX4_pictureAt_30 : decode cX4_pictureAt 30 = .ok (.aload_n 1, 1) := by decide +kernel
theorem dX4_pictureAt_31 : decode cX4_pictureAt 31 = .ok (.iload_n 2, 1) := by decide +kernel
theorem dX4_pictureAt_32 : decode cX4_pictureAt 32 = .ok (.invokevirtual 296, 3) := by decide +kernel
theorem dX4_pictureAt_35 : decode cX4_pictureAt 35 = .ok (.astore 5, 2) := by decide +kernel
theorem dX4_pictureAt_37 : decode cX4_pictureAt 37 = .ok (.aload 5, 2) := by decide +kernel
theorem dX4_pictureAt_39 : decode cX4_pictureAt 39 = .ok (.ifnull 28, 3) := by decide +kernel
theorem dX4_pictureAt_42 : decode cX4_pictureAt 42 = .ok (.bipush 31, 2) := by decide +kernel
theorem dX4_pictureAt_44 : decode cX4_pictureAt 44 = .ok (.iload_n 3, 1) := by decide +kernel
theorem dX4_pictureAt_45 : decode cX4_pictureAt 45 = .ok (.imul, 1) := by decide +kernel
theorem dX4_pictureAt_46 : decode cX4_pictureAt 46 = .ok (.bipush 16, 2) := by decide +kernel
theorem dX4_pictureAt_48 : decode cX4_pictureAt 48 = .ok (.iload 4, 2) := by decide +kernel
theorem dX4_pictureAt_50 : decode cX4_pictureAt 50 = .ok (.imul, 1) := by decide +kernel
theorem dX4_pictureAt_51 : decode cX4_pictureAt 51 = .ok (.iadd, 1) := by decide +kernel
theorem dX4_pictureAt_52 : decode cX4_pictureAt 52 = .ok (.iconst 4, 1) := by decide +kernel
theorem dX4_pictureAt_53 : decode cX4_pictureAt 53 = .ok (.aload 5, 2) := by decide +kernel
theorem dX4_pictureAt_55 : decode cX4_pictureAt 55 = .ok (.getfield 149, 3) := by decide +kernel
theorem dX4_pictureAt_58 : decode cX4_pictureAt 58 = .ok (.imul, 1) := by decide +kernel
theorem dX4_pictureAt_59 : decode cX4_pictureAt 59 = .ok (.iadd, 1) := by decide +kernel
theorem dX4_pictureAt_60 : decode cX4_pictureAt 60 = .ok (.aload 5, 2) := by decide +kernel
theorem dX4_pictureAt_62 : decode cX4_pictureAt 62 = .ok (.getfield 151, 3) := by decide +kernel
theorem dX4_pictureAt_65 : decode cX4_pictureAt 65 = .ok (.iadd, 1) := by decide +kernel
theorem dX4_pictureAt_66 : decode cX4_pictureAt 66 = .ok (.istore_n 3, 1) := by decide +kernel
theorem dX4_pictureAt_67 : decode cX4_pictureAt 67 = .ok (.iinc 4 1, 3) := by decide +kernel
theorem dX4_pictureAt_70 : decode cX4_pictureAt 70 = .ok (.goto (-64), 3) := by decide +kernel
theorem dX4_pictureAt_73 : decode cX4_pictureAt 73 = .ok (.iload_n 3, 1) := by decide +kernel
theorem dX4_pictureAt_74 : decode cX4_pictureAt 74 = .ok (.ireturn, 1) := by decide +kernel
theorem dX4_targetFrom_0 : decode cX4_targetFrom 0 = .ok (.iconst (-1), 1) := by decide +kernel
theorem dX4_targetFrom_1 : decode cX4_targetFrom 1 = .ok (.istore_n 3, 1) := by decide +kernel
theorem dX4_targetFrom_2 : decode cX4_targetFrom 2 = .ok (.iconst 0, 1) := by decide +kernel
theorem dX4_targetFrom_3 : decode cX4_targetFrom 3 = .ok (.istore 4, 2) := by decide +kernel
theorem dX4_targetFrom_5 : decode cX4_targetFrom 5 = .ok (.iconst 0, 1) := by decide +kernel
theorem dX4_targetFrom_6 : decode cX4_targetFrom 6 = .ok (.istore 5, 2) := by decide +kernel
theorem dX4_targetFrom_8 : decode cX4_targetFrom 8 = .ok (.iload 5, 2) := by decide +kernel
theorem dX4_targetFrom_10 : decode cX4_targetFrom 10 = .ok (.aload_n 0, 1) := by decide +kernel
theorem dX4_targetFrom_11 : decode cX4_targetFrom 11 = .ok (.getfield 10, 3) := by decide +kernel
theorem dX4_targetFrom_14 : decode cX4_targetFrom 14 = .ok (.invokevirtual 65, 3) := by decide +kernel
theorem dX4_targetFrom_17 : decode cX4_targetFrom 17 = .ok (.if_icmp .ge 57, 3) := by decide +kernel
theorem dX4_targetFrom_20 : decode cX4_targetFrom 20 = .ok (.aload_n 0, 1) := by decide +kernel
theorem dX4_targetFrom_21 : decode cX4_targetFrom 21 = .ok (.getfield 10, 3) := by decide +kernel
theorem dX4_targetFrom_24 : decode cX4_targetFrom 24 = .ok (.iload 5, 2) := by decide +kernel
theorem dX4_targetFrom_26 : decode cX4_targetFrom 26 = .ok (.invokevirtual 272, 3) := by decide +kernel
theorem dX4_targetFrom_29 : decode cX4_targetFrom 29 = .ok (.checkcast 78, 3) := by decide +kernel
theorem dX4_targetFrom_32 : decode cX4_targetFrom 32 = .ok (.astore 6, 2) := by decide +kernel
theorem dX4_targetFrom_34 : decode cX4_targetFrom 34 = .ok (.aload 6, 2) := by decide +kernel
theorem dX4_targetFrom_36 : decode cX4_targetFrom 36 = .ok (.invokevirtual 233, 3) := by decide +kernel
theorem dX4_targetFrom_39 : decode cX4_targetFrom 39 = .ok (.bipush 100, 2) := by decide +kernel
theorem dX4_targetFrom_41 : decode cX4_targetFrom 41 = .ok (.imul, 1) := by decide +kernel
theorem dX4_targetFrom_42 : decode cX4_targetFrom 42 = .ok (.iconst 1, 1) := by decide +kernel
theorem dX4_targetFrom_43 : decode cX4_targetFrom 43 = .ok (.aload 6, 2) := by decide +kernel
theorem dX4_targetFrom_45 : decode cX4_targetFrom 45 = .ok (.iload_n 1, 1) := by decide +kernel
theorem dX4_targetFrom_46 : decode cX4_targetFrom 46 = .ok (.iload_n 2, 1) := by decide +kernel
theorem dX4_targetFrom_47 : decode cX4_targetFrom 47 = .ok (.invokevirtual 216, 3) := by decide +kernel
theorem dX4_targetFrom_50 : decode cX4_targetFrom 50 = .ok (.iadd, 1) := by decide +kernel
theorem dX4_targetFrom_51 : decode cX4_targetFrom 51 = .ok (.idiv, 1) := by decide +kernel
theorem dX4_targetFrom_52 : decode cX4_targetFrom 52 = .ok (.istore 7, 2) := by decide +kernel
theorem dX4_targetFrom_54 : decode cX4_targetFrom 54 = .ok (.iload 7, 2) := by decide +kernel
theorem dX4_targetFrom_56 : decode cX4_targetFrom 56 = .ok (.iload 4, 2) := by decide +kernel
theorem dX4_targetFrom_58 : decode cX4_targetFrom 58 = .ok (.if_icmp .le 10, 3) := by decide +kernel
theorem dX4_targetFrom_61 : decode cX4_targetFrom 61 = .ok (.iload 7, 2) := by decide +kernel
theorem dX4_targetFrom_63 : decode cX4_targetFrom 63 = .ok (.istore 4, 2) := by decide +kernel
theorem dX4_targetFrom_65 : decode cX4_targetFrom 65 = .ok (.iload 5, 2) := by decide +kernel
theorem dX4_targetFrom_67 : decode cX4_targetFrom 67 = .ok (.istore_n 3, 1) := by decide +kernel
theorem dX4_targetFrom_68 : decode cX4_targetFrom 68 = .ok (.iinc 5 1, 3) := by decide +kernel
theorem dX4_targetFrom_71 : decode cX4_targetFrom 71 = .ok (.goto (-63), 3) := by decide +kernel
theorem dX4_targetFrom_74 : decode cX4_targetFrom 74 = .ok (.iload_n 3, 1) := by decide +kernel
theorem dX4_targetFrom_75 : decode cX4_targetFrom 75 = .ok (.ireturn, 1) := by decide +kernel
theorem old_0 {mm : q_Mem} {t : Nat} (h : mm 13 t = 0) : sp_oldt mm t = false := by
  unfold sp_oldt sp_old
  rw [h, decide_eq_false (by decide)]
  exact Bool.false_and _
theorem ke_X4_pictureAt : wl_V RX4 yX4_pictureAt cX4_pictureAt 6 (some .int) 2 := ⟨wd_c_X4_pictureAt, wd_i_X4_pictureAt, wd_s_X4_pictureAt, wd_n_X4, by decide, by decide +kernel⟩
set_option maxHeartbeats 4000000 in
set_option maxRecDepth 100000 in
theorem m_X4_pictureAt (l : Launch) (G : k_G) (Z : Nat → Prop) (ad : k_Ad) (mm : q_Mem) (t u : Nat) (hI : Inv mm) (ht : t < 341) (hs : ¬ mm 13 t = 0) (hu : u < 2 ^ 31) : rc_C l yX4_pictureAt cX4_pictureAt 6 (some .int) 3 64 [.ref (ad 0 0), .ref (ad 6 t), .int (nI u)] (k_R G Z ad mm) (fun r => r = sp_pic mm (nI (tz_t t)) (nI (tx_t t)) (nI (ty_t t)) u) := by
  refine rc_of (by decide) (Nat.le_of_ble_eq_true rfl) ?_
  intro p e s m args below meth c hx hb hr hF hlk hB ls hl
  obtain ⟨hM, hK, hP, hT⟩ := hB
  have hS : va_S Z s.heap s.heap [] := va_S.rf
  have hl : lv_has ls 6 [(0, .ref (ad 0 0)), (1, .ref (ad 6 t)), (2, .int (nI u))] := hl
  have hf : (0 : Nat) ≤ 0 ∧ (0 : Nat) ≤ 0 := ⟨Nat.le_refl 0, Nat.le_refl 0⟩
  have hW40 := hI.W40
  have hKK := hI.K512
  refine lv_bipush (v := 17) hx hb dX4_pictureAt_0 (by decide) ?_
  refine lv_istore_n (lv' := [(3, .int 17), (0, .ref (ad 0 0)), (1, .ref (ad 6 t)), (2, .int (nI u))]) hx hb dX4_pictureAt_2 rfl hl (by decide) rfl (fun ls hl => ?_)
  refine lv_iconst (v := 0) hx hb dX4_pictureAt_3 (by decide) ?_
  refine lv_istore (lv' := [(4, .int 0), (3, .int 17), (0, .ref (ad 0 0)), (1, .ref (ad 6 t)), (2, .int (nI u))]) hx hb dX4_pictureAt_4 hl (by decide) rfl (fun ls hl => ?_)
  refine bo_loop (σ := Nat) (μ := fun (i : Nat) => sp_W mm - i) (I := fun (i : Nat) (H : Heap) (locs : List Loc) (ls : Array Slot) => H = s.heap ∧ locs = [] ∧ lv_has ls 6 [(3, .int (it_n (sp_pic1 mm (nI (tz_t t)) (nI (tx_t t)) (nI (ty_t t)) u) i 17)), (4, .int (nI i)), (0, .ref (ad 0 0)), (1, .ref (ad 6 t)), (2, .int (nI u))] ∧ (i ≤ sp_W mm)) (0) ⟨rfl, rfl, lv_sub hl [1, 0, 2, 3, 4] rfl, Nat.zero_le _⟩ ?_
  intro x6 H locs ls hI6 ih6
  obtain ⟨i, ex6⟩ : ∃ z, z = x6 := ⟨_, rfl⟩
  subst ex6
  obtain ⟨rfl, rfl, hl, hp⟩ := hI6
  refine lv_iload hx hb dX4_pictureAt_6 (lv_at hl 1 rfl) ?_
  refine lv_aload_n hx hb dX4_pictureAt_8 rfl (lv_at hl 2 rfl) ?_
  refine g_get (C := RX4) (T := TX4) (N := 6) (v := .ref (ad 0 1)) hF hK (hM 0 0 _ rfl) rfl inlX4 0 (by decide) rfl wd_f_X4_10 rfl dX4_pictureAt_9 ?_
  refine kr_V (fr := 0) (lo := 0) (As := []) (rest := [.int (nI i)]) hF (m_Jx4a65c_size_8abf5 l G Z ad mm) ke_Jx4a65c_size_8abf5 wd_l_X4_65 (by decide) hM hK hP hT hS (g_recv hK (hM 0 1 _ rfl) rfl) rfl hl.1 rfl (Nat.le_of_ble_eq_true rfl) dX4_pictureAt_12 hf (fun r1 hr1 => ?_)
  replace hr1 : r1 = mm 1 0 := hr1
  subst hr1
  refine bo_to (v := (nI (sp_W mm))) (hI.W) ?_
  refine lv_icmp_ge (tgt := 73) hx hb dX4_pictureAt_15 (by decide) (fun c1 => ?_) (fun c1 => ?_)
  · skip
    have hie : i = sp_W mm := by have := (nI_leI (by omega) (by omega)).mp c1; omega
    refine lv_iload_n hx hb dX4_pictureAt_73 rfl (lv_at hl 0 rfl) ?_
    exact rc_iret hx hb hr hlk (by rw [hie]; rfl) dX4_pictureAt_74
  · skip
    have hi : i < sp_W mm := by have : ¬ sp_W mm ≤ i := fun z => c1 (nI_le z (by omega)); omega
    refine lv_aload_n hx hb dX4_pictureAt_18 rfl (lv_at hl 2 rfl) ?_
    refine g_get (C := RX4) (T := TX4) (N := 6) (v := .ref (ad 0 1)) hF hK (hM 0 0 _ rfl) rfl inlX4 0 (by decide) rfl wd_f_X4_10 rfl dX4_pictureAt_19 ?_
    refine lv_iload hx hb dX4_pictureAt_22 (lv_at hl 1 rfl) ?_
    refine kq_V (fr := 2) (lo := 43) (As := [.int (nI i)]) (rest := []) hF (m_Jx4a65c_get_915e3 l G Z ad mm i hI hi) ke_Jx4a65c_get_915e3 wd_l_X4_272 (by decide) hM hK hP hT hS (g_recv hK (hM 0 1 _ rfl) rfl) rfl hl.1 rfl (Nat.le_of_ble_eq_true rfl) dX4_pictureAt_24 hf (fun r2 hr2 => ?_)
    obtain rfl := hr2
    refine bo_toV (v := .ref (ad 1 i)) rfl ?_
    refine g_cast (C := RX3) hF hK (hM 1 i _ (kc_w (by assumption))) rfl wd_k_X4_78 dX4_pictureAt_27 ?_
    refine lv_aload_n hx hb dX4_pictureAt_30 rfl (lv_at hl 3 rfl) ?_
    refine lv_iload_n hx hb dX4_pictureAt_31 rfl (lv_at hl 4 rfl) ?_
    refine kq_V (fr := 1) (lo := 21) (As := [.ref (ad 6 t), .int (nI u)]) (rest := []) hF (m_X3_shownIn l G Z ad mm i t u hI hi ht hs hu) ke_X3_shownIn wd_l_X4_296 (by decide) hM hK hP hT hS (g_recv hK (hM 1 i _ (kc_w (by assumption))) rfl) rfl hl.1 rfl (Nat.le_of_ble_eq_true rfl) dX4_pictureAt_32 hf (fun r3 hr3 => ?_)
    replace hr3 := k_io hr3
    rcases hr3 with ⟨cp, rfl⟩ | ⟨cp, rfl⟩
    · skip
      refine bo_toV (v := .ref (ad 4 (sp_vis mm i u).toNatClampNeg)) rfl ?_
      have hJ := vis_lt hI hi cp.1
      refine lv_astore (lv' := [(5, .ref (ad 4 (sp_vis mm i u).toNatClampNeg)), (3, .int (it_n (sp_pic1 mm (nI (tz_t t)) (nI (tx_t t)) (nI (ty_t t)) u) i 17)), (4, .int (nI i)), (0, .ref (ad 0 0)), (1, .ref (ad 6 t)), (2, .int (nI u))]) hx hb dX4_pictureAt_35 hl (by decide) rfl (fun ls hl => ?_)
      refine lv_aload hx hb dX4_pictureAt_37 (lv_at hl 0 rfl) ?_
      refine lv_ifnull hx hb dX4_pictureAt_39 ?_
      refine lv_bipush (v := 31) hx hb dX4_pictureAt_42 (by decide) ?_
      refine lv_iload_n hx hb dX4_pictureAt_44 rfl (lv_at hl 1 rfl) ?_
      refine lv_imul hx hb dX4_pictureAt_45 ?_
      refine lv_bipush (v := 16) hx hb dX4_pictureAt_46 (by decide) ?_
      refine lv_iload hx hb dX4_pictureAt_48 (lv_at hl 2 rfl) ?_
      refine lv_imul hx hb dX4_pictureAt_50 ?_
      refine lv_iadd hx hb dX4_pictureAt_51 ?_
      refine lv_iconst (v := 4) hx hb dX4_pictureAt_52 (by decide) ?_
      refine lv_aload hx hb dX4_pictureAt_53 (lv_at hl 0 rfl) ?_
      refine g_get (C := RX0) (T := TX0) (N := 3) (v := .int (sp_vk (mm 11 ((sp_vis mm i u).toNatClampNeg)))) hF hK (hM 4 ((sp_vis mm i u).toNatClampNeg) _ (kc_c (by assumption))) rfl inlX0 0 (by decide) rfl wd_f_X4_149 rfl dX4_pictureAt_55 ?_
      refine lv_imul hx hb dX4_pictureAt_58 ?_
      refine lv_iadd hx hb dX4_pictureAt_59 ?_
      refine lv_aload hx hb dX4_pictureAt_60 (lv_at hl 0 rfl) ?_
      refine g_get (C := RX0) (T := TX0) (N := 3) (v := .int (sp_vd (mm 11 ((sp_vis mm i u).toNatClampNeg)))) hF hK (hM 4 ((sp_vis mm i u).toNatClampNeg) _ (kc_c (by assumption))) rfl inlX0 1 (by decide) rfl wd_f_X4_151 rfl dX4_pictureAt_62 ?_
      refine lv_iadd hx hb dX4_pictureAt_65 ?_
      refine bo_to (v := (it_n (sp_pic1 mm (nI (tz_t t)) (nI (tx_t t)) (nI (ty_t t)) u) (i + 1) 17)) (pcx_y cp) ?_
      refine lv_istore_n (lv' := [(3, .int (it_n (sp_pic1 mm (nI (tz_t t)) (nI (tx_t t)) (nI (ty_t t)) u) (i + 1) 17)), (5, .ref (ad 4 (sp_vis mm i u).toNatClampNeg)), (4, .int (nI i)), (0, .ref (ad 0 0)), (1, .ref (ad 6 t)), (2, .int (nI u))]) hx hb dX4_pictureAt_66 rfl hl (by decide) rfl (fun ls hl => ?_)
      refine lv_iinc (v := (nI (i + 1))) (lv' := [(4, .int (nI (i + 1))), (3, .int (it_n (sp_pic1 mm (nI (tz_t t)) (nI (tx_t t)) (nI (ty_t t)) u) (i + 1) 17)), (5, .ref (ad 4 (sp_vis mm i u).toNatClampNeg)), (0, .ref (ad 0 0)), (1, .ref (ad 6 t)), (2, .int (nI u))]) hx hb dX4_pictureAt_67 hl (k := 2) rfl (nI_1 i) (by decide) rfl (fun ls hl => ?_)
      refine lv_goto (tgt := 6) hx hb dX4_pictureAt_70 (by decide) ?_
      exact ih6 (i + 1) _ _ _ (by show sp_W mm - (i + 1) < sp_W mm - i; omega) ⟨rfl, rfl, lv_sub hl [1, 0, 3, 4, 5] rfl, by omega⟩
    · skip
      refine bo_toV (v := .null) rfl ?_
      refine lv_astoreN (lv' := [(5, .null), (3, .int (it_n (sp_pic1 mm (nI (tz_t t)) (nI (tx_t t)) (nI (ty_t t)) u) i 17)), (4, .int (nI i)), (0, .ref (ad 0 0)), (1, .ref (ad 6 t)), (2, .int (nI u))]) hx hb dX4_pictureAt_35 hl (by decide) rfl (fun ls hl => ?_)
      refine lv_aloadN hx hb dX4_pictureAt_37 (lv_at hl 0 rfl) ?_
      refine lv_ifnullN (tgt := 67) hx hb dX4_pictureAt_39 (by decide) ?_
      rw [pcx_n cp] at hl
      refine lv_iinc (v := (nI (i + 1))) (lv' := [(4, .int (nI (i + 1))), (5, .null), (3, .int (it_n (sp_pic1 mm (nI (tz_t t)) (nI (tx_t t)) (nI (ty_t t)) u) (i + 1) 17)), (0, .ref (ad 0 0)), (1, .ref (ad 6 t)), (2, .int (nI u))]) hx hb dX4_pictureAt_67 hl (k := 2) rfl (nI_1 i) (by decide) rfl (fun ls hl => ?_)
      refine lv_goto (tgt := 6) hx hb dX4_pictureAt_70 (by decide) ?_
      exact ih6 (i + 1) _ _ _ (by show sp_W mm - (i + 1) < sp_W mm - i; omega) ⟨rfl, rfl, lv_sub hl [2, 0, 3, 4, 5] rfl, by omega⟩
theorem ke_X4_countWaysIn : wl_V RX4 yX4_countWaysIn cX4_countWaysIn 4 (some .int) 1 := ⟨wd_c_X4_countWaysIn, wd_i_X4_countWaysIn, wd_s_X4_countWaysIn, wd_n_X4, by decide, by decide +kernel⟩
set_option maxHeartbeats 4000000 in
set_option maxRecDepth 100000 in
theorem m_X4_countWaysIn (l : Launch) (G : k_G) (Z : Nat → Prop) (ad : k_Ad) (mm : q_Mem) (t : Nat) (hI : Inv mm) (ht : t < 341) (hs : ¬ mm 13 t = 0) (hst : mm 13 t = nI (sp_K mm + 1)) : rc_C l yX4_countWaysIn cX4_countWaysIn 4 (some .int) 3 64 [.ref (ad 0 0), .ref (ad 6 t)] (k_R G Z ad mm) (fun r => r = it_n (sp_cnt1 mm (nI (tz_t t)) (nI (tx_t t)) (nI (ty_t t))) (sp_W mm) 0) := by
  refine rc_of (by decide) (Nat.le_of_ble_eq_true rfl) ?_
  intro p e s m args below meth c hx hb hr hF hlk hB ls hl
  obtain ⟨hM, hK, hP, hT⟩ := hB
  have hS : va_S Z s.heap s.heap [] := va_S.rf
  have hl : lv_has ls 4 [(0, .ref (ad 0 0)), (1, .ref (ad 6 t))] := hl
  have hf : (0 : Nat) ≤ 0 ∧ (0 : Nat) ≤ 0 := ⟨Nat.le_refl 0, Nat.le_refl 0⟩
  have hW40 := hI.W40
  have hKK := hI.K512
  refine lv_iconst (v := 0) hx hb dX4_countWaysIn_0 (by decide) ?_
  refine lv_istore_n (lv' := [(2, .int 0), (0, .ref (ad 0 0)), (1, .ref (ad 6 t))]) hx hb dX4_countWaysIn_1 rfl hl (by decide) rfl (fun ls hl => ?_)
  refine lv_iconst (v := 0) hx hb dX4_countWaysIn_2 (by decide) ?_
  refine lv_istore_n (lv' := [(3, .int 0), (2, .int 0), (0, .ref (ad 0 0)), (1, .ref (ad 6 t))]) hx hb dX4_countWaysIn_3 rfl hl (by decide) rfl (fun ls hl => ?_)
  refine bo_loop (σ := Nat) (μ := fun (i : Nat) => sp_W mm - i) (I := fun (i : Nat) (H : Heap) (locs : List Loc) (ls : Array Slot) => H = s.heap ∧ locs = [] ∧ lv_has ls 4 [(2, .int (it_n (sp_cnt1 mm (nI (tz_t t)) (nI (tx_t t)) (nI (ty_t t))) i 0)), (3, .int (nI i)), (0, .ref (ad 0 0)), (1, .ref (ad 6 t))] ∧ (i ≤ sp_W mm)) (0) ⟨rfl, rfl, lv_sub hl [1, 0, 2, 3] rfl, Nat.zero_le _⟩ ?_
  intro x4 H locs ls hI4 ih4
  obtain ⟨i, ex4⟩ : ∃ z, z = x4 := ⟨_, rfl⟩
  subst ex4
  obtain ⟨rfl, rfl, hl, hp⟩ := hI4
  refine lv_iload_n hx hb dX4_countWaysIn_4 rfl (lv_at hl 1 rfl) ?_
  refine lv_aload_n hx hb dX4_countWaysIn_5 rfl (lv_at hl 2 rfl) ?_
  refine g_get (C := RX4) (T := TX4) (N := 6) (v := .ref (ad 0 1)) hF hK (hM 0 0 _ rfl) rfl inlX4 0 (by decide) rfl wd_f_X4_10 rfl dX4_countWaysIn_6 ?_
  refine kr_V (fr := 0) (lo := 0) (As := []) (rest := [.int (nI i)]) hF (m_Jx4a65c_size_8abf5 l G Z ad mm) ke_Jx4a65c_size_8abf5 wd_l_X4_65 (by decide) hM hK hP hT hS (g_recv hK (hM 0 1 _ rfl) rfl) rfl hl.1 rfl (Nat.le_of_ble_eq_true rfl) dX4_countWaysIn_9 hf (fun r1 hr1 => ?_)
  replace hr1 : r1 = mm 1 0 := hr1
  subst hr1
  refine bo_to (v := (nI (sp_W mm))) (hI.W) ?_
  refine lv_icmp_ge (tgt := 46) hx hb dX4_countWaysIn_12 (by decide) (fun c1 => ?_) (fun c1 => ?_)
  · skip
    have hie : i = sp_W mm := by have := (nI_leI (by omega) (by omega)).mp c1; omega
    refine lv_iload_n hx hb dX4_countWaysIn_46 rfl (lv_at hl 0 rfl) ?_
    exact rc_iret hx hb hr hlk (by rw [hie]) dX4_countWaysIn_47
  · skip
    have hi : i < sp_W mm := by have : ¬ sp_W mm ≤ i := fun z => c1 (nI_le z (by omega)); omega
    refine lv_aload_n hx hb dX4_countWaysIn_15 rfl (lv_at hl 2 rfl) ?_
    refine g_get (C := RX4) (T := TX4) (N := 6) (v := .ref (ad 0 1)) hF hK (hM 0 0 _ rfl) rfl inlX4 0 (by decide) rfl wd_f_X4_10 rfl dX4_countWaysIn_16 ?_
    refine lv_iload_n hx hb dX4_countWaysIn_19 rfl (lv_at hl 1 rfl) ?_
    refine kq_V (fr := 2) (lo := 43) (As := [.int (nI i)]) (rest := []) hF (m_Jx4a65c_get_915e3 l G Z ad mm i hI hi) ke_Jx4a65c_get_915e3 wd_l_X4_272 (by decide) hM hK hP hT hS (g_recv hK (hM 0 1 _ rfl) rfl) rfl hl.1 rfl (Nat.le_of_ble_eq_true rfl) dX4_countWaysIn_20 hf (fun r2 hr2 => ?_)
    obtain rfl := hr2
    refine bo_toV (v := .ref (ad 1 i)) rfl ?_
    refine g_cast (C := RX3) hF hK (hM 1 i _ (kc_w (by assumption))) rfl wd_k_X4_78 dX4_countWaysIn_23 ?_
    refine lv_aload_n hx hb dX4_countWaysIn_26 rfl (lv_at hl 3 rfl) ?_
    refine lv_aload_n hx hb dX4_countWaysIn_27 rfl (lv_at hl 3 rfl) ?_
    refine g_get (C := RX1) (T := TX1) (N := 7) (v := .int (mm 13 t - 1)) hF hK (hM 6 t _ (kc_t ht hs)) rfl inlX1 5 (by decide) rfl wd_f_X4_188 rfl dX4_countWaysIn_28 ?_
    refine bo_to (v := (nI (sp_K mm))) (by rw [hst]; exact nI_pred _) ?_
    refine kq_V (fr := 1) (lo := 21) (As := [.ref (ad 6 t), .int (nI (sp_K mm))]) (rest := []) hF (m_X3_shownIn l G Z ad mm i t (sp_K mm) hI hi ht hs (by omega)) ke_X3_shownIn wd_l_X4_296 (by decide) hM hK hP hT hS (g_recv hK (hM 1 i _ (kc_w (by assumption))) rfl) rfl hl.1 rfl (Nat.le_of_ble_eq_true rfl) dX4_countWaysIn_31 hf (fun r3 hr3 => ?_)
    replace hr3 := k_io hr3
    rcases hr3 with ⟨cp, rfl⟩ | ⟨cp, rfl⟩
    · skip
      refine bo_toV (v := .ref (ad 4 (sp_vis mm i (sp_K mm)).toNatClampNeg)) rfl ?_
      have cp2 := (pin_K hI hi).mp cp
      refine lv_ifnull hx hb dX4_countWaysIn_34 ?_
      refine lv_iinc (v := (it_n (sp_cnt1 mm (nI (tz_t t)) (nI (tx_t t)) (nI (ty_t t))) (i + 1) 0)) (lv' := [(2, .int (it_n (sp_cnt1 mm (nI (tz_t t)) (nI (tx_t t)) (nI (ty_t t))) (i + 1) 0)), (3, .int (nI i)), (0, .ref (ad 0 0)), (1, .ref (ad 6 t))]) hx hb dX4_countWaysIn_37 hl (k := 0) rfl (cnx_y cp2) (by decide) rfl (fun ls hl => ?_)
      refine lv_iinc (v := (nI (i + 1))) (lv' := [(3, .int (nI (i + 1))), (2, .int (it_n (sp_cnt1 mm (nI (tz_t t)) (nI (tx_t t)) (nI (ty_t t))) (i + 1) 0)), (0, .ref (ad 0 0)), (1, .ref (ad 6 t))]) hx hb dX4_countWaysIn_40 hl (k := 1) rfl (nI_1 i) (by decide) rfl (fun ls hl => ?_)
      refine lv_goto (tgt := 4) hx hb dX4_countWaysIn_43 (by decide) ?_
      exact ih4 (i + 1) _ _ _ (by show sp_W mm - (i + 1) < sp_W mm - i; omega) ⟨rfl, rfl, lv_sub hl [1, 0, 2, 3] rfl, by omega⟩
    · skip
      refine bo_toV (v := .null) rfl ?_
      have cp2 := fun q => cp ((pin_K hI hi).mpr q)
      refine lv_ifnullN (tgt := 40) hx hb dX4_countWaysIn_34 (by decide) ?_
      rw [cnx_n cp2] at hl
      refine lv_iinc (v := (nI (i + 1))) (lv' := [(3, .int (nI (i + 1))), (2, .int (it_n (sp_cnt1 mm (nI (tz_t t)) (nI (tx_t t)) (nI (ty_t t))) (i + 1) 0)), (0, .ref (ad 0 0)), (1, .ref (ad 6 t))]) hx hb dX4_countWaysIn_40 hl (k := 1) rfl (nI_1 i) (by decide) rfl (fun ls hl => ?_)
      refine lv_goto (tgt := 4) hx hb dX4_countWaysIn_43 (by decide) ?_
      exact ih4 (i + 1) _ _ _ (by show sp_W mm - (i + 1) < sp_W mm - i; omega) ⟨rfl, rfl, lv_sub hl [1, 0, 2, 3] rfl, by omega⟩
theorem ke_X4_isOutdated : wl_V RX4 yX4_isOutdated cX4_isOutdated 3 (some .boolean) 1 := ⟨wd_c_X4_isOutdated, wd_i_X4_isOutdated, wd_s_X4_isOutdated, wd_n_X4, by decide, by decide +kernel⟩
set_option maxHeartbeats 4000000 in
set_option maxRecDepth 100000 in
theorem m_X4_isOutdated (l : Launch) (G : k_G) (Z : Nat → Prop) (ad : k_Ad) (mm : q_Mem) (t : Nat) (hI : Inv mm) (ht : t < 341) (hs : ¬ mm 13 t = 0) : rc_C l yX4_isOutdated cX4_isOutdated 3 (some .boolean) 3 64 [.ref (ad 0 0), .ref (ad 6 t)] (k_R G Z ad mm) (fun r => r = if sp_oldt mm t = true then 1 else 0) := by
  refine rc_of (by decide) (Nat.le_of_ble_eq_true rfl) ?_
  intro p e s m args below meth c hx hb hr hF hlk hB ls hl
  obtain ⟨hM, hK, hP, hT⟩ := hB
  have hS : va_S Z s.heap s.heap [] := va_S.rf
  have hl : lv_has ls 3 [(0, .ref (ad 0 0)), (1, .ref (ad 6 t))] := hl
  have hf : (0 : Nat) ≤ 0 ∧ (0 : Nat) ≤ 0 := ⟨Nat.le_refl 0, Nat.le_refl 0⟩
  have hW40 := hI.W40
  have hKK := hI.K512
  refine lv_aload_n hx hb dX4_isOutdated_0 rfl (lv_at hl 1 rfl) ?_
  refine lv_ifnonnull (tgt := 6) hx hb dX4_isOutdated_1 (by decide) ?_
  refine lv_iconst (v := 0) hx hb dX4_isOutdated_6 (by decide) ?_
  refine lv_istore_n (lv' := [(2, .int 0), (0, .ref (ad 0 0)), (1, .ref (ad 6 t))]) hx hb dX4_isOutdated_7 rfl hl (by decide) rfl (fun ls hl => ?_)
  refine bo_loop (σ := Nat) (μ := fun (i : Nat) => sp_W mm - i) (I := fun (i : Nat) (H : Heap) (locs : List Loc) (ls : Array Slot) => H = s.heap ∧ locs = [] ∧ lv_has ls 3 [(2, .int (nI i)), (0, .ref (ad 0 0)), (1, .ref (ad 6 t))] ∧ (i ≤ sp_W mm) ∧ (∀ k, k < i → ¬ k_out mm t k = true)) (0) ⟨rfl, rfl, lv_sub hl [0, 1, 2] rfl, Nat.zero_le _, fun k q => absurd q (Nat.not_lt_zero k)⟩ ?_
  intro x8 H locs ls hI8 ih8
  obtain ⟨i, ex8⟩ : ∃ z, z = x8 := ⟨_, rfl⟩
  subst ex8
  obtain ⟨rfl, rfl, hl, hp, hp2⟩ := hI8
  refine lv_iload_n hx hb dX4_isOutdated_8 rfl (lv_at hl 0 rfl) ?_
  refine lv_aload_n hx hb dX4_isOutdated_9 rfl (lv_at hl 1 rfl) ?_
  refine g_get (C := RX4) (T := TX4) (N := 6) (v := .ref (ad 0 1)) hF hK (hM 0 0 _ rfl) rfl inlX4 0 (by decide) rfl wd_f_X4_10 rfl dX4_isOutdated_10 ?_
  refine kr_V (fr := 0) (lo := 0) (As := []) (rest := [.int (nI i)]) hF (m_Jx4a65c_size_8abf5 l G Z ad mm) ke_Jx4a65c_size_8abf5 wd_l_X4_65 (by decide) hM hK hP hT hS (g_recv hK (hM 0 1 _ rfl) rfl) rfl hl.1 rfl (Nat.le_of_ble_eq_true rfl) dX4_isOutdated_13 hf (fun r2 hr2 => ?_)
  replace hr2 : r2 = mm 1 0 := hr2
  subst hr2
  refine bo_to (v := (nI (sp_W mm))) (hI.W) ?_
  refine lv_icmp_ge (tgt := 45) hx hb dX4_isOutdated_16 (by decide) (fun c1 => ?_) (fun c1 => ?_)
  · skip
    have hie : i = sp_W mm := by have := (nI_leI (by omega) (by omega)).mp c1; omega
    refine lv_iconst (v := 0) hx hb dX4_isOutdated_45 (by decide) ?_
    exact rc_zret hx hb hr hlk (by first | exact Or.inl rfl | exact Or.inr rfl) (by rw [out_all hI hs ht, if_neg (fun q => by obtain ⟨k, hk, q2⟩ := an_y_iff.mp q; exact hp2 k (by omega) q2)]) dX4_isOutdated_46
  · skip
    have hi : i < sp_W mm := by have : ¬ sp_W mm ≤ i := fun z => c1 (nI_le z (by omega)); omega
    refine lv_aload_n hx hb dX4_isOutdated_19 rfl (lv_at hl 1 rfl) ?_
    refine g_get (C := RX4) (T := TX4) (N := 6) (v := .ref (ad 0 1)) hF hK (hM 0 0 _ rfl) rfl inlX4 0 (by decide) rfl wd_f_X4_10 rfl dX4_isOutdated_20 ?_
    refine lv_iload_n hx hb dX4_isOutdated_23 rfl (lv_at hl 0 rfl) ?_
    refine kq_V (fr := 2) (lo := 43) (As := [.int (nI i)]) (rest := []) hF (m_Jx4a65c_get_915e3 l G Z ad mm i hI hi) ke_Jx4a65c_get_915e3 wd_l_X4_272 (by decide) hM hK hP hT hS (g_recv hK (hM 0 1 _ rfl) rfl) rfl hl.1 rfl (Nat.le_of_ble_eq_true rfl) dX4_isOutdated_24 hf (fun r3 hr3 => ?_)
    obtain rfl := hr3
    refine bo_toV (v := .ref (ad 1 i)) rfl ?_
    refine g_cast (C := RX3) hF hK (hM 1 i _ (kc_w (by assumption))) rfl wd_k_X4_78 dX4_isOutdated_27 ?_
    refine lv_aload_n hx hb dX4_isOutdated_30 rfl (lv_at hl 2 rfl) ?_
    refine kr_V (fr := 1) (lo := 21) (As := [.ref (ad 6 t)]) (rest := []) hF (m_X3_outdates l G Z ad mm i t hI hi ht hs) ke_X3_outdates wd_l_X4_300 (by decide) hM hK hP hT hS (g_recv hK (hM 1 i _ (kc_w (by assumption))) rfl) rfl hl.1 rfl (Nat.le_of_ble_eq_true rfl) dX4_isOutdated_31 hf (fun r4 hr4 => ?_)
    refine bo_eq (tgt := 39) hr4 hx hb dX4_isOutdated_34 (by decide) (fun c2 => ?_) (fun c2 => ?_)
    · skip
      refine lv_iinc (v := (nI (i + 1))) (lv' := [(2, .int (nI (i + 1))), (0, .ref (ad 0 0)), (1, .ref (ad 6 t))]) hx hb dX4_isOutdated_39 hl (k := 0) rfl (nI_1 i) (by decide) rfl (fun ls hl => ?_)
      refine lv_goto (tgt := 8) hx hb dX4_isOutdated_42 (by decide) ?_
      exact ih8 (i + 1) _ _ _ (by show sp_W mm - (i + 1) < sp_W mm - i; omega) ⟨rfl, rfl, lv_sub hl [0, 1, 2] rfl, by omega, fun k hk => by
        rcases Nat.lt_or_ge k i with q | q
        · exact hp2 k q
        · have e5 : k = i := by omega
          subst e5; exact c2⟩
    · skip
      refine lv_iconst (v := 1) hx hb dX4_isOutdated_37 (by decide) ?_
      exact rc_zret hx hb hr hlk (by first | exact Or.inl rfl | exact Or.inr rfl) (by rw [out_all hI hs ht, if_pos (an_y_iff.mpr ⟨i, hi, c2⟩)]) dX4_isOutdated_38
set_option maxHeartbeats 4000000 in
set_option maxRecDepth 100000 in
theorem m_X4_isOutdated0 (l : Launch) (G : k_G) (Z : Nat → Prop) (ad : k_Ad) (mm : q_Mem) (t : Nat) (h0 : mm 13 t = 0) : rc_C l yX4_isOutdated cX4_isOutdated 3 (some .boolean) 3 64 [.ref (ad 0 0), .null] (k_R G Z ad mm) (fun r => r = if sp_oldt mm t = true then 1 else 0) := by
  refine rc_of (by decide) (Nat.le_of_ble_eq_true rfl) ?_
  intro p e s m args below meth c hx hb hr hF hlk hB ls hl
  obtain ⟨hM, hK, hP, hT⟩ := hB
  have hS : va_S Z s.heap s.heap [] := va_S.rf
  have hl : lv_has ls 3 [(0, .ref (ad 0 0)), (1, .null)] := hl
  have hf : (0 : Nat) ≤ 0 ∧ (0 : Nat) ≤ 0 := ⟨Nat.le_refl 0, Nat.le_refl 0⟩
  refine lv_aload_nN hx hb dX4_isOutdated_0 rfl (lv_at hl 1 rfl) ?_
  refine lv_ifnonnullN hx hb dX4_isOutdated_1 ?_
  refine lv_iconst (v := 0) hx hb dX4_isOutdated_4 (by decide) ?_
  exact rc_zret hx hb hr hlk (by first | exact Or.inl rfl | exact Or.inr rfl) (by rw [old_0 h0, if_neg Bool.false_ne_true]) dX4_isOutdated_5
theorem m_X4_isOutdatedV (l : Launch) (G : k_G) (Z : Nat → Prop) (ad : k_Ad) (mm : q_Mem) (t : Nat) (hI : Inv mm) (ht : t < 341) : rc_C l yX4_isOutdated cX4_isOutdated 3 (some .boolean) 3 64 [.ref (ad 0 0), k_rf (mm 13 t = 0) (ad 6 t)] (k_R G Z ad mm) (fun r => r = if sp_oldt mm t = true then 1 else 0) := by
  by_cases h : mm 13 t = 0
  · unfold k_rf
    rw [if_pos h]
    exact m_X4_isOutdated0 l G Z ad mm t h
  · unfold k_rf
    rw [if_neg h]
    exact m_X4_isOutdated l G Z ad mm t hI ht h
theorem ke_X4_targetFrom : wl_V RX4 yX4_targetFrom cX4_targetFrom 8 (some .int) 2 := ⟨wd_c_X4_targetFrom, wd_i_X4_targetFrom, wd_s_X4_targetFrom, wd_n_X4, by decide, by decide +kernel⟩
set_option maxHeartbeats 4000000 in
set_option maxRecDepth 100000 in
theorem m_X4_targetFrom (l : Launch) (G : k_G) (Z : Nat → Prop) (ad : k_Ad) (mm : q_Mem) (c1 : Nat) (hc1 : c1 < 3) (hI : Inv mm)  : rc_C l yX4_targetFrom cX4_targetFrom 8 (some .int) 4 91 [.ref (ad 0 0), .int (mm 15 c1), .int (mm 16 c1)] (k_R G Z ad mm) (fun r => r = sp_tg mm c1) := by
  refine rc_of (by decide) (Nat.le_of_ble_eq_true rfl) ?_
  intro p e s m args below meth c hx hb hr hF hlk hB ls hl
  obtain ⟨hM, hK, hP, hT⟩ := hB
  have hS : va_S Z s.heap s.heap [] := va_S.rf
  have hl : lv_has ls 8 [(0, .ref (ad 0 0)), (1, .int (mm 15 c1)), (2, .int (mm 16 c1))] := hl
  have hf : (0 : Nat) ≤ 0 ∧ (0 : Nat) ≤ 0 := ⟨Nat.le_refl 0, Nat.le_refl 0⟩
  have hW40 := hI.W40
  have hKK := hI.K512
  refine lv_iconst (v := (-1)) hx hb dX4_targetFrom_0 (by decide) ?_
  refine lv_istore_n (lv' := [(3, .int (-1)), (0, .ref (ad 0 0)), (1, .int (mm 15 c1)), (2, .int (mm 16 c1))]) hx hb dX4_targetFrom_1 rfl hl (by decide) rfl (fun ls hl => ?_)
  refine lv_iconst (v := 0) hx hb dX4_targetFrom_2 (by decide) ?_
  refine lv_istore (lv' := [(4, .int 0), (3, .int (-1)), (0, .ref (ad 0 0)), (1, .int (mm 15 c1)), (2, .int (mm 16 c1))]) hx hb dX4_targetFrom_3 hl (by decide) rfl (fun ls hl => ?_)
  refine lv_iconst (v := 0) hx hb dX4_targetFrom_5 (by decide) ?_
  refine lv_istore (lv' := [(5, .int 0), (4, .int 0), (3, .int (-1)), (0, .ref (ad 0 0)), (1, .int (mm 15 c1)), (2, .int (mm 16 c1))]) hx hb dX4_targetFrom_6 hl (by decide) rfl (fun ls hl => ?_)
  refine bo_loop (σ := Nat) (μ := fun (i : Nat) => sp_W mm - i) (I := fun (i : Nat) (H : Heap) (locs : List Loc) (ls : Array Slot) => H = s.heap ∧ locs = [] ∧ lv_has ls 8 [(3, .int ((tgn mm c1 i).1)), (4, .int ((tgn mm c1 i).2)), (5, .int (nI i)), (0, .ref (ad 0 0)), (1, .int (mm 15 c1)), (2, .int (mm 16 c1))] ∧ (i ≤ sp_W mm)) (0) ⟨rfl, rfl, lv_sub hl [2, 1, 0, 3, 4, 5] rfl, Nat.zero_le _⟩ ?_
  intro x8 H locs ls hI8 ih8
  obtain ⟨i, ex8⟩ : ∃ z, z = x8 := ⟨_, rfl⟩
  subst ex8
  obtain ⟨rfl, rfl, hl, hp⟩ := hI8
  refine lv_iload hx hb dX4_targetFrom_8 (lv_at hl 2 rfl) ?_
  refine lv_aload_n hx hb dX4_targetFrom_10 rfl (lv_at hl 3 rfl) ?_
  refine g_get (C := RX4) (T := TX4) (N := 6) (v := .ref (ad 0 1)) hF hK (hM 0 0 _ rfl) rfl inlX4 0 (by decide) rfl wd_f_X4_10 rfl dX4_targetFrom_11 ?_
  refine kr_V (fr := 0) (lo := 0) (As := []) (rest := [.int (nI i)]) hF (m_Jx4a65c_size_8abf5 l G Z ad mm) ke_Jx4a65c_size_8abf5 wd_l_X4_65 (by decide) hM hK hP hT hS (g_recv hK (hM 0 1 _ rfl) rfl) rfl hl.1 rfl (Nat.le_of_ble_eq_true rfl) dX4_targetFrom_14 hf (fun r1 hr1 => ?_)
  replace hr1 : r1 = mm 1 0 := hr1
  subst hr1
  refine bo_to (v := (nI (sp_W mm))) (hI.W) ?_
  refine lv_icmp_ge (tgt := 74) hx hb dX4_targetFrom_17 (by decide) (fun ce => ?_) (fun ce => ?_)
  · skip
    have hie : i = sp_W mm := by have := (nI_leI (by omega) (by omega)).mp ce; omega
    refine lv_iload_n hx hb dX4_targetFrom_74 rfl (lv_at hl 0 rfl) ?_
    exact rc_iret hx hb hr hlk (by rw [hie]; rfl) dX4_targetFrom_75
  · skip
    have hi : i < sp_W mm := by have : ¬ sp_W mm ≤ i := fun z => ce (nI_le z (by omega)); omega
    refine lv_aload_n hx hb dX4_targetFrom_20 rfl (lv_at hl 3 rfl) ?_
    refine g_get (C := RX4) (T := TX4) (N := 6) (v := .ref (ad 0 1)) hF hK (hM 0 0 _ rfl) rfl inlX4 0 (by decide) rfl wd_f_X4_10 rfl dX4_targetFrom_21 ?_
    refine lv_iload hx hb dX4_targetFrom_24 (lv_at hl 2 rfl) ?_
    refine kq_V (fr := 2) (lo := 43) (As := [.int (nI i)]) (rest := []) hF (m_Jx4a65c_get_915e3 l G Z ad mm i hI hi) ke_Jx4a65c_get_915e3 wd_l_X4_272 (by decide) hM hK hP hT hS (g_recv hK (hM 0 1 _ rfl) rfl) rfl hl.1 rfl (Nat.le_of_ble_eq_true rfl) dX4_targetFrom_26 hf (fun r2 hr2 => ?_)
    obtain rfl := hr2
    refine bo_toV (v := .ref (ad 1 i)) rfl ?_
    refine g_cast (C := RX3) hF hK (hM 1 i _ (kc_w (by assumption))) rfl wd_k_X4_78 dX4_targetFrom_29 ?_
    refine lv_astore (lv' := [(6, .ref (ad 1 i)), (3, .int ((tgn mm c1 i).1)), (4, .int ((tgn mm c1 i).2)), (5, .int (nI i)), (0, .ref (ad 0 0)), (1, .int (mm 15 c1)), (2, .int (mm 16 c1))]) hx hb dX4_targetFrom_32 hl (by decide) rfl (fun ls hl => ?_)
    refine lv_aload hx hb dX4_targetFrom_34 (lv_at hl 0 rfl) ?_
    refine kr_V (fr := 1) (lo := 20) (As := []) (rest := []) hF (m_X3_dearness l G Z ad mm i hI hi) ke_X3_dearness wd_l_X4_233 (by decide) hM hK hP hT hS (g_recv hK (hM 1 i _ (kc_w (by assumption))) rfl) rfl hl.1 rfl (Nat.le_of_ble_eq_true rfl) dX4_targetFrom_36 hf (fun r3 hr3 => ?_)
    replace hr3 : r3 = sp_dv mm i := hr3
    subst hr3
    refine lv_bipush (v := 100) hx hb dX4_targetFrom_39 (by decide) ?_
    refine lv_imul hx hb dX4_targetFrom_41 ?_
    refine lv_iconst (v := 1) hx hb dX4_targetFrom_42 (by decide) ?_
    refine lv_aload hx hb dX4_targetFrom_43 (lv_at hl 0 rfl) ?_
    refine lv_iload_n hx hb dX4_targetFrom_45 rfl (lv_at hl 5 rfl) ?_
    refine lv_iload_n hx hb dX4_targetFrom_46 rfl (lv_at hl 6 rfl) ?_
    refine kr_V (fr := 3) (lo := 69) (As := [.int (mm 15 c1), .int (mm 16 c1)]) (rest := [.int 1, .int ((sp_dv mm i) * 100)]) hF (m_X3_distanceFrom l G Z ad mm i (mm 15 c1) (mm 16 c1) hI hi) ke_X3_distanceFrom wd_l_X4_216 (by decide) hM hK hP hT hS (g_recv hK (hM 1 i _ (kc_w (by assumption))) rfl) rfl hl.1 rfl (Nat.le_of_ble_eq_true rfl) dX4_targetFrom_47 hf (fun r4 hr4 => ?_)
    rw [mn_nst hI hc1 hi] at hr4
    replace hr4 : r4 = sp_nst mm c1 i := hr4
    subst hr4
    refine lv_iadd hx hb dX4_targetFrom_50 ?_
    refine lv_idiv hx hb dX4_targetFrom_51 (nst_ne hI hc1 hi) ?_
    refine bo_to (v := (sp_wth mm c1 i)) (rfl) ?_
    refine lv_istore (lv' := [(7, .int (sp_wth mm c1 i)), (6, .ref (ad 1 i)), (3, .int ((tgn mm c1 i).1)), (4, .int ((tgn mm c1 i).2)), (5, .int (nI i)), (0, .ref (ad 0 0)), (1, .int (mm 15 c1)), (2, .int (mm 16 c1))]) hx hb dX4_targetFrom_52 hl (by decide) rfl (fun ls hl => ?_)
    refine lv_iload hx hb dX4_targetFrom_54 (lv_at hl 0 rfl) ?_
    refine lv_iload hx hb dX4_targetFrom_56 (lv_at hl 3 rfl) ?_
    refine lv_icmp_le (tgt := 68) hx hb dX4_targetFrom_58 (by decide) (fun c3 => ?_) (fun c3 => ?_)
    · skip
      rw [tg_n1 (bo_nlt c3), tg_n2 (bo_nlt c3)] at hl
      refine lv_iinc (v := (nI (i + 1))) (lv' := [(5, .int (nI (i + 1))), (7, .int (sp_wth mm c1 i)), (6, .ref (ad 1 i)), (3, .int (tgn mm c1 (i + 1)).1), (4, .int (tgn mm c1 (i + 1)).2), (0, .ref (ad 0 0)), (1, .int (mm 15 c1)), (2, .int (mm 16 c1))]) hx hb dX4_targetFrom_68 hl (k := 4) rfl (nI_1 i) (by decide) rfl (fun ls hl => ?_)
      refine lv_goto (tgt := 8) hx hb dX4_targetFrom_71 (by decide) ?_
      exact ih8 (i + 1) _ _ _ (by show sp_W mm - (i + 1) < sp_W mm - i; omega) ⟨rfl, rfl, lv_sub hl [3, 4, 0, 5, 6, 7] rfl, by omega⟩
    · skip
      refine lv_iload hx hb dX4_targetFrom_61 (lv_at hl 0 rfl) ?_
      refine bo_to (v := (tgn mm c1 (i + 1)).2) (tg_y2 (bo_le c3)) ?_
      refine lv_istore (lv' := [(4, .int (tgn mm c1 (i + 1)).2), (7, .int (sp_wth mm c1 i)), (6, .ref (ad 1 i)), (3, .int ((tgn mm c1 i).1)), (5, .int (nI i)), (0, .ref (ad 0 0)), (1, .int (mm 15 c1)), (2, .int (mm 16 c1))]) hx hb dX4_targetFrom_63 hl (by decide) rfl (fun ls hl => ?_)
      refine lv_iload hx hb dX4_targetFrom_65 (lv_at hl 4 rfl) ?_
      refine bo_to (v := (tgn mm c1 (i + 1)).1) (tg_y1 (bo_le c3)) ?_
      refine lv_istore_n (lv' := [(3, .int (tgn mm c1 (i + 1)).1), (4, .int (tgn mm c1 (i + 1)).2), (7, .int (sp_wth mm c1 i)), (6, .ref (ad 1 i)), (5, .int (nI i)), (0, .ref (ad 0 0)), (1, .int (mm 15 c1)), (2, .int (mm 16 c1))]) hx hb dX4_targetFrom_67 rfl hl (by decide) rfl (fun ls hl => ?_)
      refine lv_iinc (v := (nI (i + 1))) (lv' := [(5, .int (nI (i + 1))), (3, .int (tgn mm c1 (i + 1)).1), (4, .int (tgn mm c1 (i + 1)).2), (7, .int (sp_wth mm c1 i)), (6, .ref (ad 1 i)), (0, .ref (ad 0 0)), (1, .int (mm 15 c1)), (2, .int (mm 16 c1))]) hx hb dX4_targetFrom_68 hl (k := 4) rfl (nI_1 i) (by decide) rfl (fun ls hl => ?_)
      refine lv_goto (tgt := 8) hx hb dX4_targetFrom_71 (by decide) ?_
      exact ih8 (i + 1) _ _ _ (by show sp_W mm - (i + 1) < sp_W mm - i; omega) ⟨rfl, rfl, lv_sub hl [1, 2, 0, 5, 6, 7] rfl, by omega⟩
end
section
section VXIA
variable {p : Program} {l : Launch} {e : Env} {R : Room} {s : State} {m : MethodId} {args : Array Value} {below : List Frame} {meth : Method} {c : Code} {T : State} {locs : List Loc} {cells slots : Nat}
theorem vx_callI (X : Stand p l e R s m args below meth c T locs cells slots) (hexec : p.tables.exec = Jvm.exec) {own : String} {index : Nat} {y : MethodName} {bytes : ByteArray} {maxL : Nat}
    (hown : s.vm.findClass own = some m.cls) (hy1 : y.name = "<init>") (hlink : (Cond.methodLink own index y).before args s = true) (hinst : (Cond.instanceMethod y).before args s = true)
    (hcode : (Cond.code y bytes maxL none).before args s = true) (hy : y.cls ≠ "java/lang/invoke/MethodHandle" ∧ y.cls ≠ "java/lang/invoke/VarHandle")
    {W9 : Nat} {Pre : Pt → Array Value → Prop} {Post : Pt → Array Value → Option Value → Pt → Prop} {PostX : Pt → Array Value → Addr → Pt → Prop} (hK : vx_Back l R p e below s args y 3 W9 Pre Post PostX)
    {g : JFrame} (hg : g.method = m) (hsize : g.locals.size = c.maxLocals) {a : Addr} {argsL rest : List Value} (hlen : ∀ sig, parseMethodDescriptor y.desc = some sig → argsL.length = sig.parameters.length)
    (hstack : g.stack = argsL.reverse ++ .ref a :: rest) (hW : 2 * g.monitorRoom + (rest.map fun v => v.category).sum ≤ W9) (hdg : decode c.code g.pc = .ok (.invokespecial index, 3))
    (hpre : ∀ vm₁, s.WarmedH vm₁ → Pre ⟨T.setVm vm₁, locs, cells, slots⟩ (Value.ref a :: argsL).toArray) :
    (∃ (v : Option Value) (vm₁ : Vm) (B : Pt), s.WarmedH vm₁ ∧ Stand p l e R s m args below meth c B.U B.locs B.cells B.slots ∧ Post ⟨T.setVm vm₁, locs, cells, slots⟩ (Value.ref a :: argsL).toArray v B ∧
      ∀ target, Steps p.tables e below (B.U.setTop { g with pc := g.pc + 3, stack := v.toList ++ rest }) target → Steps p.tables e below (T.setTop g) target) ∨
    (∃ (q : Addr) (vm₁ : Vm) (B : Pt), s.WarmedH vm₁ ∧ Stand p l e R s m args below meth c B.U B.locs B.cells B.slots ∧ PostX ⟨T.setVm vm₁, locs, cells, slots⟩ (Value.ref a :: argsL).toArray q B ∧
      Steps p.tables e below (T.setTop g) ((B.U.setTop { g with stack := rest }).pushFrame (.throwing q))) := by
  subst hg
  have hpl : e.platform.magicAccessors = ({} : Platform).magicAccessors := by rw [X.admits.platform]
  obtain ⟨mk, methM, cM, kP, vm₁, hnamed, hmethM, hcodeM, -, hlocalsM, -, hkP, -, hW₁, hstep₁⟩ := Steps.initColdArgs (e := e) X.here hexec X.warmed hpl hown hy1 hy hlink hinst hcode (f := g) rfl hlen hstack hdg
  have X₁ := X.noted hW₁
  rcases hK g.method meth c ⟨T.setVm vm₁, locs, cells, slots⟩ { g with stack := rest } (.invokespecial index) mk (Value.ref a :: argsL).toArray X₁ rfl hsize hdg hW (X₁.named hnamed) (hpre vm₁ X₁.warmed) with ⟨v, B, X', hpost, hsteps⟩ | ⟨q, B, X', hpost, hsteps⟩
  · exact Or.inl ⟨v, vm₁, B, X₁.warmed, X', hpost, fun target h => hstep₁ _ fun acts => by rw [doInvoke_state]; exact hsteps.trans h⟩
  · exact Or.inr ⟨q, vm₁, B, X₁.warmed, X', hpost, hstep₁ _ fun acts => by rw [doInvoke_state]; exact hsteps⟩
end VXIA
section VXIB
variable {p : Program} {l : Launch} {e : Env} {R : Room} {s : State} {m : MethodId} {args : Array Value} {below : List Frame} {meth : Method} {c : Code} {H : Heap} {locs : List Loc} {cells slots : Nat}
variable {y : MethodName} {bytes cc : ByteArray} {maxL nL mc ms n index : Nat} {ret : Option FieldType} {ws : List Cond} {rm : Room} {Pc : Array Value → State → Prop} {Qc : Array Value → State → Outcome → State → Prop} {XC : String → State → State → Prop} {free : Addr → Prop} {Ts : List Cond} {own C : String} {b : Addr} {As rest : List Value} {g : JFrame}
theorem vx_runI (S : CallFix p m c cc nL s args Ts own) (hM : vx_Met l y ws rm Pc Qc XC mc ms free) (cw : CallB R s args own index y bytes maxL none ws rm mc ms n ∧ y.name = "<init>" ∧ (Cond.instanceMethod y).before args s = true) (hp : PreS s H Pc (.ref b :: As))
    (hg : g.method = m) (hn : As.length = n) (hsize : g.locals.size = nL) (hstack : g.stack = As.reverse ++ .ref b :: rest) (hW : 2 * g.monitorRoom + (rest.map fun v => v.category).sum ≤ 8) (hdg : decode cc g.pc = .ok (.invokespecial index, 3)) (hf : cells + mc ≤ R.cells ∧ slots + ms ≤ R.slots) :
    vx_Run p l e R s m args below meth c H locs cells slots mc ms g rest (Qc (Value.ref b :: As).toArray) XC free := by
  have hK : vx_Back l R p e below s args y 3 8 (PreOf R mc ms Pc) (PostOf Qc mc ms free) (vx_Post XC mc ms free) := vx_callBack cw.1 hM hp.1
  obtain ⟨⟨-, -, -, -, -, -, hcode, -, hy, hlen, hl⟩, hy1, hin⟩ := cw
  obtain ⟨hx, hb, hml, ho, -⟩ := S
  have hPc := hp.2
  intro T hT X
  rcases vx_callI X hx (bytes := bytes) (maxL := maxL) ho hy1 hl hin hcode hy hK hg (hsize.trans hml.symm) (a := b) (argsL := As) (rest := rest) (fun sig h => hn.trans (hlen sig h)) hstack hW (by rw [hb]; exact hdg)
    (fun vm₁ hW₁ => ⟨hf.1, hf.2, hPc (T.setVm vm₁) hT hW₁⟩) with ⟨v, vm₁, ⟨U', l2, c2, s2⟩, hW₁, X', ⟨g', mk, t, L, e1, e2, hq, h1, hL, h2, h3⟩, st⟩ | ⟨q, vm₁, ⟨U', l2, c2, s2⟩, hW₁, X', ⟨g', mk, t, L, E, ce, e1, e2, hq, hce, hcv, hcl, h1, hL, h2, h3⟩, st⟩
  · dsimp only [Pt.U, Pt.locs, Pt.cells, Pt.slots] at X' e1 e2 h1 h2 h3 st
    subst h1; subst h2; subst h3
    exact Or.inl ⟨v, (T.setVm vm₁).calling g' mk (Value.ref b :: As).toArray, t, U', L, hT, X', hL, e1, e2, hq, st⟩
  · dsimp only [Pt.U, Pt.locs, Pt.cells, Pt.slots] at X' e1 e2 h1 h2 h3 st hcl
    subst h1; subst h2; subst h3
    exact Or.inr ⟨q, (T.setVm vm₁).calling g' mk (Value.ref b :: As).toArray, t, U', L, E, ce, hT, X', hL, e1, e2, hq, hce, hcv, vx_cls hW₁ hcl, st⟩
end VXIB
section
variable {p : Program} {l : Launch} {e : Env} {R : Room} {s : State} {m : MethodId} {args : Array Value} {below : List Frame} {meth : Method} {c : Code} {H : Heap} {locs : List Loc} {cells slots : Nat} {Q : State → Prop}
variable {mc ms : Nat} {free : Addr → Prop} {A0 A1 : Nat → Prop} {H0 : Heap} {a : Array Value} {pc : Nat} {ls : Array Slot} {st0 rest : List Value}
theorem vx_callq {S SX : Type} {post : Option Nat → S → Prop} {px : SX → Prop} {B : S → State → Prop} {BX : String → SX → State → Prop} {AX : Nat → Prop} (hr : vx_Run p l e R s m args below meth c H locs cells slots mc ms (F0 m pc ls st0) rest (va_Qq post B A1 a) (vx_X px BX AX) free) (hS : va_S A0 H0 H locs) (hA : ∀ q, q < H.size → A1 q → A0 q) (hf : ∀ q, free q → A0 q) (hAX : ∀ q, q < H.size → AX q → A0 q)
    (kx : ∀ (E : String) (ce : Cell) (q9 : Addr) (u : SX) (t : State) (H1 : Heap) (locs1 : List Loc), t.heap = H1 → s.vm.Alike t.vm → px u → BX E u t → H.size ≤ H1.size → (∀ q : Nat, q < H.size → ¬ AX q → H1[q]? = H[q]?) → va_S A0 H0 H1 locs1 → H1[q9]? = some ce → ce.vm = .none → s.vm.findClass E = some ce.cls → vx_W p l e R s m args below meth c H1 locs1 (cells + mc) (slots + ms) Q (F0 m pc ls rest) q9)
    (kk : ∀ (r : Option Nat) (u : S) (t : State) (H1 : Heap) (locs1 : List Loc), t.heap = H1 → s.vm.Alike t.vm → post r u → B u t → H.size ≤ H1.size → (∀ q : Nat, q < H.size → ¬ A1 q → H1[q]? = H[q]?) → va_S A0 H0 H1 locs1 → W p l e R s m args below meth c H1 locs1 (cells + mc) (slots + ms) Q (F0 m (pc + 3) ls (va_rf r :: rest))) : W p l e R s m args below meth c H locs cells slots Q (F0 m pc ls st0) := by
  intro T hT X
  rcases hr T hT X with ⟨v, st₀, t, T', L, h0, X', hL, e1, e2, ⟨⟨r, u, hv, hp, hb⟩, hF⟩, st⟩ | ⟨q, st₀, t, T', L, E, ce, h0, X', hL, e1, e2, ⟨u, hp, hb, hF⟩, hce, hcv, hcl, st⟩
  · cases hv
    obtain ⟨k1, k2, k3⟩ := vx_keep h0 e1 hS hA hf hL hF
    obtain ⟨t2, a1, b1⟩ := kk r u t T'.heap (locs ++ L) e1.symm (by rw [← e2]; exact X'.warmed.alike) hp hb k1 k2 k3 T' rfl X'
    exact ⟨t2, st t2 a1, b1⟩
  · obtain ⟨k1, k2, k3⟩ := vx_keep h0 e1 hS hAX hf hL hF
    obtain ⟨t2, a1, b1⟩ := kx E ce q u t T'.heap (locs ++ L) e1.symm (by rw [← e2]; exact X'.warmed.alike) hp hb k1 k2 k3 (by rw [e1]; exact hce) hcv hcl T' rfl X'
    exact ⟨t2, st.trans a1, b1⟩
end
end
section
/-! ===== methods that throw ===== -/
abbrev k_nms : List String := ["java/lang/RuntimeException", "java/lang/Exception"]
def k_E (X : String) (ic : Nat) : Prop := Bundle.fit X = true ∧ Cond.initialized X ∈ wsL_law ∧ (∀ w ∈ (vx_atS RX4 ic X k_nms).filter goodWord, w ∈ wsL_law) ∧ (∀ w ∈ (vx_atS RX4 ic X k_nms).filter (fun w => !goodWord w), w ∈ k_ngs) ∧ ∀ w ∈ Cond.initialized X :: vx_atS RX4 ic X k_nms, vx_ot w = true
set_option maxRecDepth 100000 in
theorem k_E_IAE : k_E "java/lang/IllegalArgumentException" 62 := ⟨by decide +kernel, wd_x4, fun w h => List.mem_append_left _ (List.mem_append_left _ (List.mem_append_right _ h)), by decide +kernel, by decide +kernel⟩
set_option maxRecDepth 100000 in
theorem k_E_ISE : k_E "java/lang/IllegalStateException" 77 := ⟨by decide +kernel, wd_x5, fun w h => List.mem_append_left _ (List.mem_append_right _ h), by decide +kernel, by decide +kernel⟩
set_option maxRecDepth 100000 in
theorem k_E_IOB : k_E "java/lang/IndexOutOfBoundsException" 263 := ⟨by decide +kernel, wd_x6, fun w h => List.mem_append_right _ h, by decide +kernel, by decide +kernel⟩

/-- such a method's ends -/
def k_XC (G : k_G) (Z : Nat → Prop) (ad : k_Ad) (ct : k_Ct) (pX : String → Prop) : String → State → State → Prop := vx_X (fun u : k_Ad × k_Ct => u = (ad, ct)) (fun E u U => pX E ∧ k_B G Z u U) Z
section
variable {p : Program} {l : Launch} {e : Env} {R : Room} {s : State} {m : MethodId} {args : Array Value} {below : List Frame} {meth : Method} {c : Code} {H : Heap} {locs : List Loc} {cells slots : Nat} {Q : State → Prop}
variable {cc : ByteArray} {pc nL : Nat} {ls : Array Slot} {rest st0 : List Value} {own : String} {G : k_G} {Z : Nat → Prop} {ad : k_Ad} {ct : k_Ct} {Qc : Array Value → State → Outcome → State → Prop}
theorem k_XC.of {pX : String → Prop} {E : String} (hM : k_H G ad ct H) (hN : k_N Z ad ct) (hK : va_K G.1 vwCl (k_ty G) s) (hS : va_S Z s.heap H locs) (hp : pX E) {t : State} (hv : s.vm.Alike t.vm) (hz : H.size ≤ t.heap.size) (hk : ∀ q : Nat, q < H.size → t.heap[q]? = H[q]?) : k_XC G Z ad ct pX E s t :=
  ⟨(ad, ct), rfl, ⟨hp, hM.kept hk, hN, hK.moved hv⟩, Nat.le_trans hS.1 hz, fun q h1 h2 => (hk q (Nat.lt_of_lt_of_le h1 hS.1)).trans (hS.2.1 q h1 h2)⟩
theorem kx_thr {ik is ic mc ms : Nat} {X text : String} {pX : String → Prop} (hF : CallFix p m c cc nL s args wsL_law RX4) (hl : l.stackTraces = false) (hP : k_P G s) (hT : k_T G Z s s.heap) (hE : k_E X ic) (hk : Cond.classLink RX4 ik X ∈ wsL_law) (hst : (is, text) ∈ k_strs) (hM : k_H G ad ct H) (hN : k_N Z ad ct) (hK : va_K G.1 vwCl (k_ty G) s) (hS : va_S Z s.heap H locs) (hsz : ls.size = nL)
    (d0 : decode cc pc = .ok (.new ik, 3)) (d3 : decode cc (pc + 3) = .ok (.dup, 1)) (d4 : decode cc (pc + 4) = .ok (.ldc is, 2)) (d6 : decode cc (pc + 6) = .ok (.invokespecial ic, 3)) (d9 : decode cc (pc + 9) = .ok (.athrow, 1))
    (hout : ∀ x ∈ c.exceptionTable.toList, False) (hRf : 5 < R.frames) (hRl : (rest.map fun v => v.category).sum + 82 ≤ R.locals) (hRc : cells + 1 ≤ R.cells) (hRs : slots + 6 ≤ R.slots) (hlk : meth.locks = false) (hc : cells + 1 ≤ mc) (hs : slots + 6 ≤ ms) (hp : pX X) :
    W p l e R s m args below meth c H locs cells slots (vx_MQ below Qc (k_XC G Z ad ct pX) args s mc ms Z) (F0 m pc ls rest) :=
  vx_throwS (names := k_nms) hF.1 hF.2.1 hl hF.2.2.2.1 hE.1 (by decide +kernel) (hF.2.2.2.2 _ hk) (hF.2.2.2.2 _ hE.2.1) (hP.2.1 _ hst)
    (fun w hw => by
      by_cases hg : goodWord w = true
      · exact hF.2.2.2.2 _ (hE.2.2.1 w (List.mem_filter.mpr ⟨hw, hg⟩))
      · have h1 := hE.2.2.2.1 w (List.mem_filter.mpr ⟨hw, by simp [hg]⟩)
        exact (hP.2.2.2.2.2.2 w h1).use (k_ng_t w h1))
    (fun w hw => by
      rcases List.mem_cons.mp hw with h | h
      · rw [h]; rfl
      · exact hE.2.2.2.2 w h)
    hT.1 hT.2.1 hS (hsz.trans hF.2.2.1.symm) d0 d3 d4 d6 d9 (fun x hx => (hout x hx).elim) hRf hRl hRc hRs hlk (fun t hv hz hk2 => k_XC.of hM hN hK hS hp hv hz hk2) hS.2.2 hc hs
theorem kx_thrW {ik is ic mc ms : Nat} {X text : String} {pX : String → Prop} (hF : CallFix p m c cc nL s args wsL_law RX4) (hl : l.stackTraces = false) (hP : k_P G s) (hT : k_T G Z s s.heap) (hE : k_E X ic) (hk : Cond.classLink RX4 ik X ∈ wsL_law) (hst : (is, text) ∈ k_strs) (hM : k_H G ad ct H) (hN : k_N Z ad ct) (hK : va_K G.1 vwCl (k_ty G) s) (hS : va_S Z s.heap H locs) (hsz : ls.size = nL)
    (d0 : decode cc pc = .ok (.new ik, 3)) (d3 : decode cc (pc + 3) = .ok (.dup, 1)) (d4 : decode cc (pc + 4) = .ok (.ldc_w is, 3)) (d6 : decode cc (pc + 7) = .ok (.invokespecial ic, 3)) (d9 : decode cc (pc + 10) = .ok (.athrow, 1))
    (hout : ∀ x ∈ c.exceptionTable.toList, False) (hRf : 5 < R.frames) (hRl : (rest.map fun v => v.category).sum + 82 ≤ R.locals) (hRc : cells + 1 ≤ R.cells) (hRs : slots + 6 ≤ R.slots) (hlk : meth.locks = false) (hc : cells + 1 ≤ mc) (hs : slots + 6 ≤ ms) (hp : pX X) :
    W p l e R s m args below meth c H locs cells slots (vx_MQ below Qc (k_XC G Z ad ct pX) args s mc ms Z) (F0 m pc ls rest) :=
  vx_throwSW (names := k_nms) hF.1 hF.2.1 hl hF.2.2.2.1 hE.1 (by decide +kernel) (hF.2.2.2.2 _ hk) (hF.2.2.2.2 _ hE.2.1) (hP.2.1 _ hst)
    (fun w hw => by
      by_cases hg : goodWord w = true
      · exact hF.2.2.2.2 _ (hE.2.2.1 w (List.mem_filter.mpr ⟨hw, hg⟩))
      · have h1 := hE.2.2.2.1 w (List.mem_filter.mpr ⟨hw, by simp [hg]⟩)
        exact (hP.2.2.2.2.2.2 w h1).use (k_ng_t w h1))
    (fun w hw => by
      rcases List.mem_cons.mp hw with h | h
      · rw [h]; rfl
      · exact hE.2.2.2.2 w h)
    hT.1 hT.2.1 hS (hsz.trans hF.2.2.1.symm) d0 d3 d4 d6 d9 (fun x hx => (hout x hx).elim) hRf hRl hRc hRs hlk (fun t hv hz hk2 => k_XC.of hM hN hK hS hp hv hz hk2) hS.2.2 hc hs
end
end
section
/-! ===== contracts of methods that change the cells, or throw ===== -/
def kx_v (l : Launch) (y : MethodName) (b : ByteArray) (nL : Nat) (r : Option FieldType) (fr lo mc ms : Nat) (G : k_G) (Z : Nat → Prop) (ad : k_Ad) (ct : k_Ct) (As : List Value) (post : k_Ad × k_Ct → Prop) (pX : String → Prop) : Prop :=
  vx_Met l y (Cond.code y b nL r :: wsL_law) { frames := fr, cells := mc, slots := ms, locals := lo } (va_Pc As (k_M G Z ad ct)) (va_Qv post (k_B G Z) Z) (k_XC G Z ad ct pX) mc ms Z
def kx_i (l : Launch) (y : MethodName) (b : ByteArray) (nL : Nat) (r : Option FieldType) (fr lo mc ms : Nat) (G : k_G) (Z : Nat → Prop) (ad : k_Ad) (ct : k_Ct) (As : List Value) (post : Int32 → k_Ad × k_Ct → Prop) (pX : String → Prop) : Prop :=
  vx_Met l y (Cond.code y b nL r :: wsL_law) { frames := fr, cells := mc, slots := ms, locals := lo } (va_Pc As (k_M G Z ad ct)) (va_Qi post (k_B G Z) Z) (k_XC G Z ad ct pX) mc ms Z
def kx_q (l : Launch) (y : MethodName) (b : ByteArray) (nL : Nat) (r : Option FieldType) (fr lo mc ms : Nat) (G : k_G) (Z : Nat → Prop) (ad : k_Ad) (ct : k_Ct) (As : List Value) (post : Option Nat → k_Ad × k_Ct → Prop) (pX : String → Prop) : Prop :=
  vx_Met l y (Cond.code y b nL r :: wsL_law) { frames := fr, cells := mc, slots := ms, locals := lo } (va_Pc As (k_M G Z ad ct)) (va_Qq post (k_B G Z) Z) (k_XC G Z ad ct pX) mc ms Z
theorem kx_of {l : Launch} {y : MethodName} {b : ByteArray} {nL : Nat} {r : Option FieldType} {fr lo mc ms : Nat} {G : k_G} {Z : Nat → Prop} {ad : k_Ad} {ct : k_Ct} {As : List Value} {Qc : Array Value → State → Outcome → State → Prop} {XC : String → State → State → Prop} (hy : plainName y.cls = true) (hn : (lg_sl As).length ≤ nL)
    (body : ∀ (p : Program) (e : Env) (s : State) (m : MethodId) (args : Array Value) (below : List Frame) (meth : Method) (c : Code), p.tables.exec = Jvm.exec → c.code = b → meth.sig.returnType = r → CallFix p m c b nL s args wsL_law y.cls → meth.locks = false → (∀ x ∈ c.exceptionTable.toList, False) → k_M G Z ad ct s → ∀ ls : Array Slot, lv_has ls nL (lv_args 0 As) →
      W p l e { frames := fr, cells := mc, slots := ms, locals := lo } s m args below meth c s.heap [] 0 0 (vx_MQ below Qc XC args s mc ms Z) (F0 m 0 ls [])) : vx_Met l y (Cond.code y b nL r :: wsL_law) { frames := fr, cells := mc, slots := ms, locals := lo } (va_Pc As (k_M G Z ad ct)) Qc XC mc ms Z := by
  refine vx_ofW (cc := b) (maxL := nL) (ret := r) hy rfl ?_
  intro p e s m args below meth c s₁ B0 hml hnt hv
  obtain ⟨rfl, hB⟩ := hv
  have hts := atoms_spec (ws := Cond.code y b nL r :: wsL_law) B0.pre
  have hl := lv_entry As (n := nL) hn
  rw [lg_entry_eq]
  exact body p e s m _ below meth c B0.exec B0.bytes B0.returns ⟨B0.exec, B0.bytes, hml, findClass_of_methodNamed B0.named, fun w h => hts w (List.mem_cons_of_mem _ h)⟩ B0.notSynchronized hnt hB _ hl
section
variable {p : Program} {l : Launch} {e : Env} {R : Room} {s : State} {m : MethodId} {args : Array Value} {below : List Frame} {meth : Method} {c : Code} {H : Heap} {locs : List Loc} {cells slots : Nat} {Q : State → Prop}
variable {cc : ByteArray} {pc nL : Nat} {ls : Array Slot} {rest st0 : List Value} {own : String} {G : k_G} {Z : Nat → Prop} {ad ad1 : k_Ad} {ct ct1 : k_Ct} {Qc : Array Value → State → Outcome → State → Prop} {XC : String → State → State → Prop} {mc ms : Nat}
theorem kx_vret {post : k_Ad × k_Ct → Prop} (hx : p.tables.exec = Jvm.exec) (hb : c.code = cc) (hr : meth.sig.returnType = none) (hlk : meth.locks = false) (hM : k_H G ad ct H) (hN : k_N Z ad ct) (hK : va_K G.1 vwCl (k_ty G) s) (hS : va_S Z s.heap H locs) (hc : cells ≤ mc) (hs : slots ≤ ms) (hp : post (ad, ct)) (hdg : decode cc pc = .ok (.return_, 1)) : W p l e R s m args below meth c H locs cells slots (vx_MQ below (va_Qv post (k_B G Z) Z) XC args s mc ms Z) (F0 m pc ls []) :=
  W.widen hc hs (vx_ret (W.vret hx hb hr (fun t ht hW => ⟨⟨(ad, ct), rfl, hp, by rw [ht]; exact hM, hN, hK.moved hW.alike⟩, hS.F ht⟩) hS.2.2 hdg hlk))
theorem kx_iret {post : Int32 → k_Ad × k_Ct → Prop} {v : Int32} (hx : p.tables.exec = Jvm.exec) (hb : c.code = cc) (hr : meth.sig.returnType = some .int) (hlk : meth.locks = false) (hM : k_H G ad ct H) (hN : k_N Z ad ct) (hK : va_K G.1 vwCl (k_ty G) s) (hS : va_S Z s.heap H locs) (hc : cells ≤ mc) (hs : slots ≤ ms) (hp : post v (ad, ct)) (hdg : decode cc pc = .ok (.ireturn, 1)) : W p l e R s m args below meth c H locs cells slots (vx_MQ below (va_Qi post (k_B G Z) Z) XC args s mc ms Z) (F0 m pc ls [.int v]) :=
  W.widen hc hs (vx_ret (W.iret hx hb hr (fun t ht hW => ⟨⟨v, (ad, ct), rfl, hp, by rw [ht]; exact hM, hN, hK.moved hW.alike⟩, hS.F ht⟩) hS.2.2 hdg hlk))
theorem kx_zret {post : Int32 → k_Ad × k_Ct → Prop} {v : Int32} (hx : p.tables.exec = Jvm.exec) (hb : c.code = cc) (hr : meth.sig.returnType = some .boolean) (hlk : meth.locks = false) (hM : k_H G ad ct H) (hN : k_N Z ad ct) (hK : va_K G.1 vwCl (k_ty G) s) (hS : va_S Z s.heap H locs) (hc : cells ≤ mc) (hs : slots ≤ ms) (hv : v = 0 ∨ v = 1) (hp : post v (ad, ct)) (hdg : decode cc pc = .ok (.ireturn, 1)) : W p l e R s m args below meth c H locs cells slots (vx_MQ below (va_Qi post (k_B G Z) Z) XC args s mc ms Z) (F0 m pc ls [.int v]) :=
  W.widen hc hs (vx_ret (W.zret hx hb hr (by rcases hv with rfl | rfl <;> decide) (fun t ht hW => ⟨⟨v, (ad, ct), rfl, hp, by rw [ht]; exact hM, hN, hK.moved hW.alike⟩, hS.F ht⟩) hS.2.2 hdg hlk))
theorem kx_qret {post : Option Nat → k_Ad × k_Ct → Prop} {o : Option Nat} {cls : String} (hx : p.tables.exec = Jvm.exec) (hb : c.code = cc) (hr : meth.sig.returnType = some (.object cls)) (hlk : meth.locks = false) (hM : k_H G ad ct H) (hN : k_N Z ad ct) (hK : va_K G.1 vwCl (k_ty G) s) (hS : va_S Z s.heap H locs) (hc : cells ≤ mc) (hs : slots ≤ ms) (hp : post o (ad, ct)) (hdg : decode cc pc = .ok (.areturn, 1)) : W p l e R s m args below meth c H locs cells slots (vx_MQ below (va_Qq post (k_B G Z) Z) XC args s mc ms Z) (F0 m pc ls [va_rf o]) :=
  W.widen hc hs (vx_ret (W.aret hx hb hr (Or.inl ⟨_, rfl⟩) (va_rf_or o) (fun t ht hW => ⟨⟨o, (ad, ct), rfl, hp, by rw [ht]; exact hM, hN, hK.moved hW.alike⟩, hS.F ht⟩) hS.2.2 hdg hlk))
theorem kx_vS {index n fr lo mc1 ms1 maxL : Nat} {y : MethodName} {bytes : ByteArray} {ret : Option FieldType} {As : List Value} {post : k_Ad × k_Ct → Prop} {pX pX1 : String → Prop} (hF : CallFix p m c cc nL s args wsL_law own) (hM : kx_v l y bytes maxL ret fr lo mc1 ms1 G Z ad1 ct1 As post pX1) (hk : wl_S y bytes maxL ret n) (hl : Cond.methodLink own index y ∈ wsL_law) (hR : fr + 1 ≤ R.frames ∧ 8 + (maxL + 11) + lo ≤ R.locals)
    (hH : k_H G ad1 ct1 H) (hN : k_N Z ad1 ct1) (hK : va_K G.1 vwCl (k_ty G) s) (hP : k_P G s) (hT : k_T G Z s s.heap) (hS : va_S Z s.heap H locs) (hn : As.length = n) (hsz : ls.size = nL) (hst : st0 = As.reverse ++ rest) (hro : (rest.map fun v => v.category).sum ≤ 8) (hdg : decode cc pc = .ok (.invokestatic index, 3)) (hf : cells + mc1 ≤ R.cells ∧ slots + ms1 ≤ R.slots)
    (hout : ∀ x ∈ c.exceptionTable.toList, False) (hlk : meth.locks = false) (hpx : ∀ E, pX1 E → pX E ∧ ad1 = ad ∧ ct1 = ct) (hc : cells + mc1 ≤ mc) (hs : slots + ms1 ≤ ms)
    (kk : ∀ (u : k_Ad × k_Ct) (H1 : Heap) (locs1 : List Loc), post u → k_H G u.1 u.2 H1 → k_N Z u.1 u.2 → va_S Z s.heap H1 locs1 → H.size ≤ H1.size → (∀ q : Nat, q < H.size → ¬ Z q → H1[q]? = H[q]?) → W p l e R s m args below meth c H1 locs1 (cells + mc1) (slots + ms1) (vx_MQ below Qc (k_XC G Z ad ct pX) args s mc ms Z) (F0 m (pc + 3) ls (rest))) : W p l e R s m args below meth c H locs cells slots (vx_MQ below Qc (k_XC G Z ad ct pX) args s mc ms Z) (F0 m pc ls st0) := by
  refine vx_callv (A0 := Z) (vx_runS hF hM (wl_callS hF.2.2.2.2 hk hl hR) ⟨bl_blindV k_M.bl, fun U hU hW => ⟨rfl, k_M.call hH hN hK hP hT hS hU hW⟩⟩ rfl hn hsz hst (lv_room hro) hdg hf) hS (fun q _ h => h) (fun q h => h) (fun q _ h => h) ?_ ?_
  · intro E ce q9 u t H1 locs1 ht hvm hu hB hz hk2 hS1 hcell hv hcl
    subst hu
    obtain ⟨hp1, hb1, hb2, hb3⟩ := hB
    obtain ⟨hp2, rfl, rfl⟩ := hpx E hp1
    exact vx_out (fun x hx => (hout x hx).elim) hlk hcell hv hcl (fun t2 ht2 hv2 => ⟨_, rfl, ⟨hp2, by rw [ht2, ← ht]; exact hb1, hb2, hK.moved hv2⟩, hS1.F ht2⟩) hS1.2.2 hc hs
  · intro u t H1 locs1 ht hvm hp hB hz hk2 hS1
    exact kk u H1 locs1 hp (by rw [← ht]; exact hB.1) hB.2.1 hS1 hz hk2
theorem kx_vV {index n fr lo mc1 ms1 maxL : Nat} {C : String} {y : MethodName} {bytes : ByteArray} {ret : Option FieldType} {b : Nat} {As : List Value} {post : k_Ad × k_Ct → Prop} {pX pX1 : String → Prop} (hF : CallFix p m c cc nL s args wsL_law own) (hM : kx_v l y bytes maxL ret fr lo mc1 ms1 G Z ad1 ct1 (.ref b :: As) post pX1) (hk : wl_V C y bytes maxL ret n) (hl : Cond.methodLink own index y ∈ wsL_law) (hR : fr + 1 ≤ R.frames ∧ 8 + (maxL + 11) + lo ≤ R.locals)
    (hH : k_H G ad1 ct1 H) (hN : k_N Z ad1 ct1) (hK : va_K G.1 vwCl (k_ty G) s) (hP : k_P G s) (hT : k_T G Z s s.heap) (hS : va_S Z s.heap H locs) (hrv : ∃ cellB : Cell, H[b]? = some cellB ∧ cellB.vm.isStatics = false ∧ s.vm.findClass C = some cellB.cls) (hn : As.length = n) (hsz : ls.size = nL) (hst : st0 = As.reverse ++ .ref b :: rest) (hro : (rest.map fun v => v.category).sum ≤ 8) (hdg : decode cc pc = .ok (.invokevirtual index, 3)) (hf : cells + mc1 ≤ R.cells ∧ slots + ms1 ≤ R.slots)
    (hout : ∀ x ∈ c.exceptionTable.toList, False) (hlk : meth.locks = false) (hpx : ∀ E, pX1 E → pX E ∧ ad1 = ad ∧ ct1 = ct) (hc : cells + mc1 ≤ mc) (hs : slots + ms1 ≤ ms)
    (kk : ∀ (u : k_Ad × k_Ct) (H1 : Heap) (locs1 : List Loc), post u → k_H G u.1 u.2 H1 → k_N Z u.1 u.2 → va_S Z s.heap H1 locs1 → H.size ≤ H1.size → (∀ q : Nat, q < H.size → ¬ Z q → H1[q]? = H[q]?) → W p l e R s m args below meth c H1 locs1 (cells + mc1) (slots + ms1) (vx_MQ below Qc (k_XC G Z ad ct pX) args s mc ms Z) (F0 m (pc + 3) ls (rest))) : W p l e R s m args below meth c H locs cells slots (vx_MQ below Qc (k_XC G Z ad ct pX) args s mc ms Z) (F0 m pc ls st0) := by
  refine vx_callv (A0 := Z) (vx_runV hF hM (wl_callW hF.2.2.2.2 hk hl hR) ⟨bl_blindV k_M.bl, hrv, fun U hU hW => ⟨rfl, k_M.call hH hN hK hP hT hS hU hW⟩⟩ rfl hn hsz hst (lv_room hro) hdg hf) hS (fun q _ h => h) (fun q h => h) (fun q _ h => h) ?_ ?_
  · intro E ce q9 u t H1 locs1 ht hvm hu hB hz hk2 hS1 hcell hv hcl
    subst hu
    obtain ⟨hp1, hb1, hb2, hb3⟩ := hB
    obtain ⟨hp2, rfl, rfl⟩ := hpx E hp1
    exact vx_out (fun x hx => (hout x hx).elim) hlk hcell hv hcl (fun t2 ht2 hv2 => ⟨_, rfl, ⟨hp2, by rw [ht2, ← ht]; exact hb1, hb2, hK.moved hv2⟩, hS1.F ht2⟩) hS1.2.2 hc hs
  · intro u t H1 locs1 ht hvm hp hB hz hk2 hS1
    exact kk u H1 locs1 hp (by rw [← ht]; exact hB.1) hB.2.1 hS1 hz hk2
theorem kx_vI {index n fr lo mc1 ms1 maxL : Nat} {y : MethodName} {bytes : ByteArray} {b : Nat} {As : List Value} {post : k_Ad × k_Ct → Prop} {pX pX1 : String → Prop} (hF : CallFix p m c cc nL s args wsL_law own) (hM : kx_v l y bytes maxL none fr lo mc1 ms1 G Z ad1 ct1 (.ref b :: As) post pX1) (hk : wl_I y bytes maxL n) (hl : Cond.methodLink own index y ∈ wsL_law) (hR : fr + 1 ≤ R.frames ∧ 8 + (maxL + 11) + lo ≤ R.locals)
    (hH : k_H G ad1 ct1 H) (hN : k_N Z ad1 ct1) (hK : va_K G.1 vwCl (k_ty G) s) (hP : k_P G s) (hT : k_T G Z s s.heap) (hS : va_S Z s.heap H locs) (hn : As.length = n) (hsz : ls.size = nL) (hst : st0 = As.reverse ++ .ref b :: rest) (hro : (rest.map fun v => v.category).sum ≤ 8) (hdg : decode cc pc = .ok (.invokespecial index, 3)) (hf : cells + mc1 ≤ R.cells ∧ slots + ms1 ≤ R.slots)
    (hout : ∀ x ∈ c.exceptionTable.toList, False) (hlk : meth.locks = false) (hpx : ∀ E, pX1 E → pX E ∧ ad1 = ad ∧ ct1 = ct) (hc : cells + mc1 ≤ mc) (hs : slots + ms1 ≤ ms)
    (kk : ∀ (u : k_Ad × k_Ct) (H1 : Heap) (locs1 : List Loc), post u → k_H G u.1 u.2 H1 → k_N Z u.1 u.2 → va_S Z s.heap H1 locs1 → H.size ≤ H1.size → (∀ q : Nat, q < H.size → ¬ Z q → H1[q]? = H[q]?) → W p l e R s m args below meth c H1 locs1 (cells + mc1) (slots + ms1) (vx_MQ below Qc (k_XC G Z ad ct pX) args s mc ms Z) (F0 m (pc + 3) ls (rest))) : W p l e R s m args below meth c H locs cells slots (vx_MQ below Qc (k_XC G Z ad ct pX) args s mc ms Z) (F0 m pc ls st0) := by
  refine vx_callv (A0 := Z) (vx_runI hF hM (wl_callI hF.2.2.2.2 hk hl hR) ⟨bl_blindV k_M.bl, fun U hU hW => ⟨rfl, k_M.call hH hN hK hP hT hS hU hW⟩⟩ rfl hn hsz hst (lv_room hro) hdg hf) hS (fun q _ h => h) (fun q h => h) (fun q _ h => h) ?_ ?_
  · intro E ce q9 u t H1 locs1 ht hvm hu hB hz hk2 hS1 hcell hv hcl
    subst hu
    obtain ⟨hp1, hb1, hb2, hb3⟩ := hB
    obtain ⟨hp2, rfl, rfl⟩ := hpx E hp1
    exact vx_out (fun x hx => (hout x hx).elim) hlk hcell hv hcl (fun t2 ht2 hv2 => ⟨_, rfl, ⟨hp2, by rw [ht2, ← ht]; exact hb1, hb2, hK.moved hv2⟩, hS1.F ht2⟩) hS1.2.2 hc hs
  · intro u t H1 locs1 ht hvm hp hB hz hk2 hS1
    exact kk u H1 locs1 hp (by rw [← ht]; exact hB.1) hB.2.1 hS1 hz hk2
theorem kx_iS {index n fr lo mc1 ms1 maxL : Nat} {y : MethodName} {bytes : ByteArray} {ret : Option FieldType} {As : List Value} {post : Int32 → k_Ad × k_Ct → Prop} {pX pX1 : String → Prop} (hF : CallFix p m c cc nL s args wsL_law own) (hM : kx_i l y bytes maxL ret fr lo mc1 ms1 G Z ad1 ct1 As post pX1) (hk : wl_S y bytes maxL ret n) (hl : Cond.methodLink own index y ∈ wsL_law) (hR : fr + 1 ≤ R.frames ∧ 8 + (maxL + 11) + lo ≤ R.locals)
    (hH : k_H G ad1 ct1 H) (hN : k_N Z ad1 ct1) (hK : va_K G.1 vwCl (k_ty G) s) (hP : k_P G s) (hT : k_T G Z s s.heap) (hS : va_S Z s.heap H locs) (hn : As.length = n) (hsz : ls.size = nL) (hst : st0 = As.reverse ++ rest) (hro : (rest.map fun v => v.category).sum ≤ 8) (hdg : decode cc pc = .ok (.invokestatic index, 3)) (hf : cells + mc1 ≤ R.cells ∧ slots + ms1 ≤ R.slots)
    (hout : ∀ x ∈ c.exceptionTable.toList, False) (hlk : meth.locks = false) (hpx : ∀ E, pX1 E → pX E ∧ ad1 = ad ∧ ct1 = ct) (hc : cells + mc1 ≤ mc) (hs : slots + ms1 ≤ ms)
    (kk : ∀ (r : Int32) (u : k_Ad × k_Ct) (H1 : Heap) (locs1 : List Loc), post r u → k_H G u.1 u.2 H1 → k_N Z u.1 u.2 → va_S Z s.heap H1 locs1 → H.size ≤ H1.size → (∀ q : Nat, q < H.size → ¬ Z q → H1[q]? = H[q]?) → W p l e R s m args below meth c H1 locs1 (cells + mc1) (slots + ms1) (vx_MQ below Qc (k_XC G Z ad ct pX) args s mc ms Z) (F0 m (pc + 3) ls (.int r :: rest))) : W p l e R s m args below meth c H locs cells slots (vx_MQ below Qc (k_XC G Z ad ct pX) args s mc ms Z) (F0 m pc ls st0) := by
  refine vx_calli (A0 := Z) (vx_runS hF hM (wl_callS hF.2.2.2.2 hk hl hR) ⟨bl_blindV k_M.bl, fun U hU hW => ⟨rfl, k_M.call hH hN hK hP hT hS hU hW⟩⟩ rfl hn hsz hst (lv_room hro) hdg hf) hS (fun q _ h => h) (fun q h => h) (fun q _ h => h) ?_ ?_
  · intro E ce q9 u t H1 locs1 ht hvm hu hB hz hk2 hS1 hcell hv hcl
    subst hu
    obtain ⟨hp1, hb1, hb2, hb3⟩ := hB
    obtain ⟨hp2, rfl, rfl⟩ := hpx E hp1
    exact vx_out (fun x hx => (hout x hx).elim) hlk hcell hv hcl (fun t2 ht2 hv2 => ⟨_, rfl, ⟨hp2, by rw [ht2, ← ht]; exact hb1, hb2, hK.moved hv2⟩, hS1.F ht2⟩) hS1.2.2 hc hs
  · intro r u t H1 locs1 ht hvm hp hB hz hk2 hS1
    exact kk r u H1 locs1 hp (by rw [← ht]; exact hB.1) hB.2.1 hS1 hz hk2
theorem kx_iV {index n fr lo mc1 ms1 maxL : Nat} {C : String} {y : MethodName} {bytes : ByteArray} {ret : Option FieldType} {b : Nat} {As : List Value} {post : Int32 → k_Ad × k_Ct → Prop} {pX pX1 : String → Prop} (hF : CallFix p m c cc nL s args wsL_law own) (hM : kx_i l y bytes maxL ret fr lo mc1 ms1 G Z ad1 ct1 (.ref b :: As) post pX1) (hk : wl_V C y bytes maxL ret n) (hl : Cond.methodLink own index y ∈ wsL_law) (hR : fr + 1 ≤ R.frames ∧ 8 + (maxL + 11) + lo ≤ R.locals)
    (hH : k_H G ad1 ct1 H) (hN : k_N Z ad1 ct1) (hK : va_K G.1 vwCl (k_ty G) s) (hP : k_P G s) (hT : k_T G Z s s.heap) (hS : va_S Z s.heap H locs) (hrv : ∃ cellB : Cell, H[b]? = some cellB ∧ cellB.vm.isStatics = false ∧ s.vm.findClass C = some cellB.cls) (hn : As.length = n) (hsz : ls.size = nL) (hst : st0 = As.reverse ++ .ref b :: rest) (hro : (rest.map fun v => v.category).sum ≤ 8) (hdg : decode cc pc = .ok (.invokevirtual index, 3)) (hf : cells + mc1 ≤ R.cells ∧ slots + ms1 ≤ R.slots)
    (hout : ∀ x ∈ c.exceptionTable.toList, False) (hlk : meth.locks = false) (hpx : ∀ E, pX1 E → pX E ∧ ad1 = ad ∧ ct1 = ct) (hc : cells + mc1 ≤ mc) (hs : slots + ms1 ≤ ms)
    (kk : ∀ (r : Int32) (u : k_Ad × k_Ct) (H1 : Heap) (locs1 : List Loc), post r u → k_H G u.1 u.2 H1 → k_N Z u.1 u.2 → va_S Z s.heap H1 locs1 → H.size ≤ H1.size → (∀ q : Nat, q < H.size → ¬ Z q → H1[q]? = H[q]?) → W p l e R s m args below meth c H1 locs1 (cells + mc1) (slots + ms1) (vx_MQ below Qc (k_XC G Z ad ct pX) args s mc ms Z) (F0 m (pc + 3) ls (.int r :: rest))) : W p l e R s m args below meth c H locs cells slots (vx_MQ below Qc (k_XC G Z ad ct pX) args s mc ms Z) (F0 m pc ls st0) := by
  refine vx_calli (A0 := Z) (vx_runV hF hM (wl_callW hF.2.2.2.2 hk hl hR) ⟨bl_blindV k_M.bl, hrv, fun U hU hW => ⟨rfl, k_M.call hH hN hK hP hT hS hU hW⟩⟩ rfl hn hsz hst (lv_room hro) hdg hf) hS (fun q _ h => h) (fun q h => h) (fun q _ h => h) ?_ ?_
  · intro E ce q9 u t H1 locs1 ht hvm hu hB hz hk2 hS1 hcell hv hcl
    subst hu
    obtain ⟨hp1, hb1, hb2, hb3⟩ := hB
    obtain ⟨hp2, rfl, rfl⟩ := hpx E hp1
    exact vx_out (fun x hx => (hout x hx).elim) hlk hcell hv hcl (fun t2 ht2 hv2 => ⟨_, rfl, ⟨hp2, by rw [ht2, ← ht]; exact hb1, hb2, hK.moved hv2⟩, hS1.F ht2⟩) hS1.2.2 hc hs
  · intro r u t H1 locs1 ht hvm hp hB hz hk2 hS1
    exact kk r u H1 locs1 hp (by rw [← ht]; exact hB.1) hB.2.1 hS1 hz hk2
theorem kx_qS {index n fr lo mc1 ms1 maxL : Nat} {y : MethodName} {bytes : ByteArray} {ret : Option FieldType} {As : List Value} {post : Option Nat → k_Ad × k_Ct → Prop} {pX pX1 : String → Prop} (hF : CallFix p m c cc nL s args wsL_law own) (hM : kx_q l y bytes maxL ret fr lo mc1 ms1 G Z ad1 ct1 As post pX1) (hk : wl_S y bytes maxL ret n) (hl : Cond.methodLink own index y ∈ wsL_law) (hR : fr + 1 ≤ R.frames ∧ 8 + (maxL + 11) + lo ≤ R.locals)
    (hH : k_H G ad1 ct1 H) (hN : k_N Z ad1 ct1) (hK : va_K G.1 vwCl (k_ty G) s) (hP : k_P G s) (hT : k_T G Z s s.heap) (hS : va_S Z s.heap H locs) (hn : As.length = n) (hsz : ls.size = nL) (hst : st0 = As.reverse ++ rest) (hro : (rest.map fun v => v.category).sum ≤ 8) (hdg : decode cc pc = .ok (.invokestatic index, 3)) (hf : cells + mc1 ≤ R.cells ∧ slots + ms1 ≤ R.slots)
    (hout : ∀ x ∈ c.exceptionTable.toList, False) (hlk : meth.locks = false) (hpx : ∀ E, pX1 E → pX E ∧ ad1 = ad ∧ ct1 = ct) (hc : cells + mc1 ≤ mc) (hs : slots + ms1 ≤ ms)
    (kk : ∀ (r : Option Nat) (u : k_Ad × k_Ct) (H1 : Heap) (locs1 : List Loc), post r u → k_H G u.1 u.2 H1 → k_N Z u.1 u.2 → va_S Z s.heap H1 locs1 → H.size ≤ H1.size → (∀ q : Nat, q < H.size → ¬ Z q → H1[q]? = H[q]?) → W p l e R s m args below meth c H1 locs1 (cells + mc1) (slots + ms1) (vx_MQ below Qc (k_XC G Z ad ct pX) args s mc ms Z) (F0 m (pc + 3) ls (va_rf r :: rest))) : W p l e R s m args below meth c H locs cells slots (vx_MQ below Qc (k_XC G Z ad ct pX) args s mc ms Z) (F0 m pc ls st0) := by
  refine vx_callq (A0 := Z) (vx_runS hF hM (wl_callS hF.2.2.2.2 hk hl hR) ⟨bl_blindV k_M.bl, fun U hU hW => ⟨rfl, k_M.call hH hN hK hP hT hS hU hW⟩⟩ rfl hn hsz hst (lv_room hro) hdg hf) hS (fun q _ h => h) (fun q h => h) (fun q _ h => h) ?_ ?_
  · intro E ce q9 u t H1 locs1 ht hvm hu hB hz hk2 hS1 hcell hv hcl
    subst hu
    obtain ⟨hp1, hb1, hb2, hb3⟩ := hB
    obtain ⟨hp2, rfl, rfl⟩ := hpx E hp1
    exact vx_out (fun x hx => (hout x hx).elim) hlk hcell hv hcl (fun t2 ht2 hv2 => ⟨_, rfl, ⟨hp2, by rw [ht2, ← ht]; exact hb1, hb2, hK.moved hv2⟩, hS1.F ht2⟩) hS1.2.2 hc hs
  · intro r u t H1 locs1 ht hvm hp hB hz hk2 hS1
    exact kk r u H1 locs1 hp (by rw [← ht]; exact hB.1) hB.2.1 hS1 hz hk2
theorem kx_qV {index n fr lo mc1 ms1 maxL : Nat} {C : String} {y : MethodName} {bytes : ByteArray} {ret : Option FieldType} {b : Nat} {As : List Value} {post : Option Nat → k_Ad × k_Ct → Prop} {pX pX1 : String → Prop} (hF : CallFix p m c cc nL s args wsL_law own) (hM : kx_q l y bytes maxL ret fr lo mc1 ms1 G Z ad1 ct1 (.ref b :: As) post pX1) (hk : wl_V C y bytes maxL ret n) (hl : Cond.methodLink own index y ∈ wsL_law) (hR : fr + 1 ≤ R.frames ∧ 8 + (maxL + 11) + lo ≤ R.locals)
    (hH : k_H G ad1 ct1 H) (hN : k_N Z ad1 ct1) (hK : va_K G.1 vwCl (k_ty G) s) (hP : k_P G s) (hT : k_T G Z s s.heap) (hS : va_S Z s.heap H locs) (hrv : ∃ cellB : Cell, H[b]? = some cellB ∧ cellB.vm.isStatics = false ∧ s.vm.findClass C = some cellB.cls) (hn : As.length = n) (hsz : ls.size = nL) (hst : st0 = As.reverse ++ .ref b :: rest) (hro : (rest.map fun v => v.category).sum ≤ 8) (hdg : decode cc pc = .ok (.invokevirtual index, 3)) (hf : cells + mc1 ≤ R.cells ∧ slots + ms1 ≤ R.slots)
    (hout : ∀ x ∈ c.exceptionTable.toList, False) (hlk : meth.locks = false) (hpx : ∀ E, pX1 E → pX E ∧ ad1 = ad ∧ ct1 = ct) (hc : cells + mc1 ≤ mc) (hs : slots + ms1 ≤ ms)
    (kk : ∀ (r : Option Nat) (u : k_Ad × k_Ct) (H1 : Heap) (locs1 : List Loc), post r u → k_H G u.1 u.2 H1 → k_N Z u.1 u.2 → va_S Z s.heap H1 locs1 → H.size ≤ H1.size → (∀ q : Nat, q < H.size → ¬ Z q → H1[q]? = H[q]?) → W p l e R s m args below meth c H1 locs1 (cells + mc1) (slots + ms1) (vx_MQ below Qc (k_XC G Z ad ct pX) args s mc ms Z) (F0 m (pc + 3) ls (va_rf r :: rest))) : W p l e R s m args below meth c H locs cells slots (vx_MQ below Qc (k_XC G Z ad ct pX) args s mc ms Z) (F0 m pc ls st0) := by
  refine vx_callq (A0 := Z) (vx_runV hF hM (wl_callW hF.2.2.2.2 hk hl hR) ⟨bl_blindV k_M.bl, hrv, fun U hU hW => ⟨rfl, k_M.call hH hN hK hP hT hS hU hW⟩⟩ rfl hn hsz hst (lv_room hro) hdg hf) hS (fun q _ h => h) (fun q h => h) (fun q _ h => h) ?_ ?_
  · intro E ce q9 u t H1 locs1 ht hvm hu hB hz hk2 hS1 hcell hv hcl
    subst hu
    obtain ⟨hp1, hb1, hb2, hb3⟩ := hB
    obtain ⟨hp2, rfl, rfl⟩ := hpx E hp1
    exact vx_out (fun x hx => (hout x hx).elim) hlk hcell hv hcl (fun t2 ht2 hv2 => ⟨_, rfl, ⟨hp2, by rw [ht2, ← ht]; exact hb1, hb2, hK.moved hv2⟩, hS1.F ht2⟩) hS1.2.2 hc hs
  · intro r u t H1 locs1 ht hvm hp hB hz hk2 hS1
    exact kk r u H1 locs1 hp (by rw [← ht]; exact hB.1) hB.2.1 hS1 hz hk2
end
end
section
/-! ===== one cell written ===== -/
theorem k_upd {G : k_G} {ad : k_Ad} {ct : k_Ct} {Z : Nat → Prop} {H H1 : Heap} {k i : Nat} {e0 e1 : va_E} (hM : k_H G ad ct H) (hN : k_N Z ad ct) (he : ct k i = some e0) (h1 : va_at G.1 vwCl (ad k i, e1) H1) (oq : ∀ q : Nat, q ≠ ad k i → H1[q]? = H[q]?) : k_H G ad (k_up ct k i e1) H1 := by
  intro a b e h
  unfold k_up at h
  by_cases z : a = k ∧ b = i
  · rw [if_pos z] at h
    obtain ⟨rfl, rfl⟩ := z
    cases h
    exact h1
  · rw [if_neg z] at h
    exact (hM a b e h).kept (oq _ (fun y => z (hN.1 a b k i e e0 h he y)))
theorem k_updN {ad : k_Ad} {ct : k_Ct} {Z : Nat → Prop} {k i : Nat} {e0 e1 : va_E} (hN : k_N Z ad ct) (he : ct k i = some e0) : k_N Z ad (k_up ct k i e1) := by
  have key : ∀ a b e, k_up ct k i e1 a b = some e → ∃ e2, ct a b = some e2 := by
    intro a b e h
    unfold k_up at h
    by_cases z : a = k ∧ b = i
    · obtain ⟨rfl, rfl⟩ := z; exact ⟨e0, he⟩
    · rw [if_neg z] at h; exact ⟨e, h⟩
  refine ⟨fun a b c d e e2 h1 h2 h3 => ?_, fun a b e h => ?_⟩
  · obtain ⟨x, hx⟩ := key a b e h1
    obtain ⟨y, hy⟩ := key c d e2 h2
    exact hN.1 a b c d x y hx hy h3
  · obtain ⟨x, hx⟩ := key a b e h
    exact hN.2 a b x hx
section
variable {p : Program} {l : Launch} {e : Env} {R : Room} {s : State} {m : MethodId} {args : Array Value} {below : List Frame} {meth : Method} {c : Code} {H : Heap} {locs : List Loc} {cells slots : Nat} {Q : State → Prop}
variable {cc : ByteArray} {pc nL : Nat} {ls : Array Slot} {rest st0 : List Value} {H0 : Heap} {own : String} {G : k_G} {Z : Nat → Prop} {ad : k_Ad} {ct : k_Ct}
theorem k_put (hF : CallFix p m c cc nL s args wsL_law own) (hK : va_K G.1 vwCl (k_ty G) s) (hM : k_H G ad ct H) (hN : k_N Z ad ct) (hS : va_S Z H0 H locs) {idx ci N : Nat} {C ref : String} {T : u_T} {fs : List Value} (K i : Nat) (he : ct K i = some (.inr (ci, fs))) (hc : vwCl[ci]? = some (C, T, N)) (hin : ∀ w ∈ u_ws C T N, w ∈ wsL_law) (ty0 : Nat → FieldType) (hty : ∀ k, k < N → parseFieldDescriptor (T k).2.2.1 = some (ty0 k)) (hnm : ∀ a, a < N → ∀ b, b < N → a ≠ b → (T a).2.1 ≠ (T b).2.1)
    (k : Nat) (hk : k < N) (hT : (T k).1 = ref) (hlink : Cond.fieldLink own idx ref (T k).2.1 (T k).2.2.1 ∈ wsL_law) (hfin : (T k).2.2.2 = false) {v : Value} (hn : narrow (ty0 k) v = v) (hfit : fits (ty0 k) v = true) (hl : k < fs.length) (hdg : decode cc pc = .ok (.putfield idx, 3))
    (kk : ∀ (H1 : Heap) (locs1 : List Loc), k_H G ad (k_up ct K i (.inr (ci, fs.set k v))) H1 → k_N Z ad (k_up ct K i (.inr (ci, fs.set k v))) → va_S Z H0 H1 locs1 → W p l e R s m args below meth c H1 locs1 cells slots Q (F0 m (pc + 3) ls rest)) : W p l e R s m args below meth c H locs cells slots Q (F0 m pc ls (v :: .ref (ad K i) :: rest)) :=
  g_put hF hK (hM K i _ he) hc hin ty0 hty hnm k hk hT hlink hfin hn hfit hl hdg fun H1 j h1 z oq => kk H1 _ (k_upd hM hN he h1 oq) (k_updN hN he) (hS.put z oq (hN.2 K i _ he))
theorem k_ast (hF : CallFix p m c cc nL s args wsL_law own) (hK : va_K G.1 vwCl (k_ty G) s) (hM : k_H G ad ct H) (hN : k_N Z ad ct) (hS : va_S Z H0 H locs) (K j : Nat) {n i : Nat} {f : Nat → Int32} (he : ct K j = some (.inl (G.2.1, n, .inl f))) {x v : Int32} (hx : x = nI i) (hi : i < n) (hn : n < 2 ^ 31) (hdg : decode cc pc = .ok (.iastore, 1))
    (kk : ∀ (H1 : Heap) (locs1 : List Loc), k_H G ad (k_up ct K j (.inl (G.2.1, n, .inl (upd f i v)))) H1 → k_N Z ad (k_up ct K j (.inl (G.2.1, n, .inl (upd f i v)))) → va_S Z H0 H1 locs1 → W p l e R s m args below meth c H1 locs1 cells slots Q (F0 m (pc + 1) ls rest)) : W p l e R s m args below meth c H locs cells slots Q (F0 m pc ls (.int v :: .int x :: .ref (ad K j) :: rest)) :=
  g_ast (t0 := 0) hF hK (hM K j _ he) rfl hx hi hn hdg fun H1 q h1 z oq => kk H1 _ (k_upd hM hN he h1 oq) (k_updN hN he) (hS.put z oq (hN.2 K j _ he))
end
/-! ===== what is written, as numbers ===== -/
section
variable {G : k_G} {ad : k_Ad} {mm : q_Mem} {i w t : Nat} {v : Int32}
theorem kc_19 : k_C G ad (up2 mm 19 0 v) = k_C G ad mm := rfl
theorem up_of {c1 c2 : k_Ct} {k i : Nat} {e : va_E} (h1 : c2 k i = some e) (h2 : ∀ a b, ¬ (a = k ∧ b = i) → c1 a b = c2 a b) : k_up c1 k i e = c2 := by
  funext a b
  unfold k_up
  by_cases z : a = k ∧ b = i
  · obtain ⟨rfl, rfl⟩ := z; rw [if_pos ⟨rfl, rfl⟩]; exact h1.symm
  · rw [if_neg z]; exact h2 a b z
theorem kcu_trust : k_up (k_C G ad mm) 0 2 (.inl (G.2.1, 6, .inl (upd (mm 0) i v))) = k_C G ad (up2 mm 0 i v) := by
  refine up_of ?_ fun a b z => ?_
  · show some _ = some _; rw [up2_row]
  · match a with
    | 0 => match b with
      | 0 => rfl
      | 1 => rfl
      | 2 => exact absurd ⟨rfl, rfl⟩ z
      | 3 => rfl
      | 4 => rfl
      | 5 => rfl
      | 6 => rfl
      | n + 7 => rfl
    | 1 => rfl
    | 2 => rfl
    | 3 => rfl
    | 4 => rfl
    | 5 => rfl
    | 6 => rfl
    | n + 7 => rfl
theorem kcu_carX : k_up (k_C G ad mm) 0 3 (.inl (G.2.1, 3, .inl (upd (mm 15) i v))) = k_C G ad (up2 mm 15 i v) := by
  refine up_of ?_ fun a b z => ?_
  · show some _ = some _; rw [up2_row]
  · match a with
    | 0 => match b with
      | 0 => rfl
      | 1 => rfl
      | 2 => rfl
      | 3 => exact absurd ⟨rfl, rfl⟩ z
      | 4 => rfl
      | 5 => rfl
      | 6 => rfl
      | n + 7 => rfl
    | 1 => rfl
    | 2 => rfl
    | 3 => rfl
    | 4 => rfl
    | 5 => rfl
    | 6 => rfl
    | n + 7 => rfl
theorem kcu_carY : k_up (k_C G ad mm) 0 4 (.inl (G.2.1, 3, .inl (upd (mm 16) i v))) = k_C G ad (up2 mm 16 i v) := by
  refine up_of ?_ fun a b z => ?_
  · show some _ = some _; rw [up2_row]
  · match a with
    | 0 => match b with
      | 0 => rfl
      | 1 => rfl
      | 2 => rfl
      | 3 => rfl
      | 4 => exact absurd ⟨rfl, rfl⟩ z
      | 5 => rfl
      | 6 => rfl
      | n + 7 => rfl
    | 1 => rfl
    | 2 => rfl
    | 3 => rfl
    | 4 => rfl
    | 5 => rfl
    | 6 => rfl
    | n + 7 => rfl
theorem kcu_guard (hw : w < sp_W mm) : k_up (k_C G ad mm) 1 w (.inr (4, (k_wy ad mm w).set 4 (.int v))) = k_C G ad (up2 mm 6 w v) := by
  refine up_of ?_ fun a b z => ?_
  · show (if w < sp_W mm then _ else _) = _
    rw [if_pos hw]
    show some (Sum.inr (4, [_, _, _, _, Value.int (up2 mm 6 w v 6 w), _, _, _])) = _
    rw [up2_s]; rfl
  · match a with
    | 0 => rfl
    | 1 =>
      show (if b < sp_W mm then some (Sum.inr (4, k_wy ad mm b)) else none) = if b < sp_W mm then some (Sum.inr (4, [_, _, _, _, Value.int (up2 mm 6 w v 6 b), _, _, _])) else none
      rw [up2_i (fun y => z ⟨rfl, y⟩)]; rfl
    | 2 => rfl
    | 3 => rfl
    | 4 => rfl
    | 5 => rfl
    | 6 => rfl
    | n + 7 => rfl
theorem kcu_waitN (hw : w < sp_W mm) (hN : mm 9 w = -1) : k_C G ad mm = k_C G ad (up2 mm 9 w (-1)) := by
  have e : up2 mm 9 w (-1) = mm := by
    funext a b
    unfold up2
    by_cases z : a = 9 ∧ b = w
    · obtain ⟨rfl, rfl⟩ := z; rw [if_pos ⟨rfl, rfl⟩, hN]
    · rw [if_neg z]
  rw [e]
theorem kcu_dbt (hw : w < sp_W mm) (hi : i < 9) : k_up (k_C G ad mm) 2 w (.inl (G.2.1, 9, .inl (upd (k_db mm w) i v))) = k_C G ad (up2 mm 20 (9 * w + i) v) := by
  have e : ∀ b, k_db (up2 mm 20 (9 * w + i) v) b = if b = w then upd (k_db mm w) i v else k_db mm b := by
    intro b
    funext j
    unfold k_db
    by_cases hj : j < 9
    · rw [if_pos hj]
      by_cases hb : b = w
      · subst hb
        rw [if_pos rfl]
        by_cases h : j = i
        · subst h
          rw [up2_s]
          show v = if j = j then v else _
          rw [if_pos rfl]
        · rw [up2_i (by omega)]
          show _ = if j = i then v else if j < 9 then mm 20 (9 * b + j) else 0
          rw [if_neg h, if_pos hj]
      · rw [if_neg hb, up2_i (by omega)]
        show _ = if j < 9 then mm 20 (9 * b + j) else 0
        rw [if_pos hj]
    · rw [if_neg hj]
      by_cases hb : b = w
      · subst hb
        rw [if_pos rfl]
        show (0 : Int32) = if j = i then v else if j < 9 then mm 20 (9 * b + j) else 0
        rw [if_neg (by omega), if_neg hj]
      · rw [if_neg hb]
        show (0 : Int32) = if j < 9 then mm 20 (9 * b + j) else 0
        rw [if_neg hj]
  refine up_of ?_ fun a b z => ?_
  · show (if w < sp_W mm then some (.inl (G.2.1, 9, .inl (k_db (up2 mm 20 (9 * w + i) v) w))) else none : Option va_E) = _
    rw [if_pos hw, e, if_pos rfl]
  · match a with
    | 0 => rfl
    | 1 => rfl
    | 2 =>
      show (if b < sp_W mm then some (.inl (G.2.1, 9, .inl (k_db mm b))) else none : Option va_E) = if b < sp_W mm then some (.inl (G.2.1, 9, .inl (k_db (up2 mm 20 (9 * w + i) v) b))) else none
      rw [e, if_neg (fun y => z ⟨rfl, y⟩)]
    | 3 => rfl
    | 4 => rfl
    | 5 => rfl
    | 6 => rfl
    | n + 7 => rfl
theorem k_up_s {ct : k_Ct} {k i : Nat} {e : va_E} : k_up ct k i e k i = some e := if_pos ⟨rfl, rfl⟩
theorem k_up_o {ct : k_Ct} {k i a b : Nat} {e : va_E} (h : ¬ (a = k ∧ b = i)) : k_up ct k i e a b = ct a b := if_neg h
theorem k_up_t {ct : k_Ct} {k i : Nat} {e e2 : va_E} : k_up (k_up ct k i e) k i e2 = k_up ct k i e2 := by
  funext a b
  unfold k_up
  by_cases z : a = k ∧ b = i
  · rw [if_pos z, if_pos z]
  · rw [if_neg z, if_neg z, if_neg z]
theorem kcu_stamp (ht : t < 341) (hs : ¬ mm 13 t = 0) (hv : ¬ v = 0) : k_up (k_C G ad mm) 6 t (.inr (2, (k_tl mm t).set 5 (.int (v - 1)))) = k_C G ad (up2 mm 13 t v) := by
  refine up_of ?_ fun a b z => ?_
  · show (if t < 341 ∧ ¬ up2 mm 13 t v 13 t = 0 then some (Sum.inr (2, [_, _, _, _, _, Value.int (up2 mm 13 t v 13 t - 1), _])) else none) = _
    rw [up2_s, if_pos ⟨ht, hv⟩]; rfl
  · match a with
    | 0 => match b with
      | 0 => rfl
      | 1 => rfl
      | 2 => rfl
      | 3 => rfl
      | 4 => rfl
      | 5 =>
        show (some (.inl (G.2.2.1, 341, .inr (.inr (.inr (.inr (k_tr ad mm)))))) : Option va_E) = some (.inl (G.2.2.1, 341, .inr (.inr (.inr (.inr (k_tr ad (up2 mm 13 t v)))))))
        have e : k_tr ad mm = k_tr ad (up2 mm 13 t v) := by
          funext q
          unfold k_tr
          by_cases h : q = t
          · subst h; rw [up2_s, if_neg hs, if_neg hv]
          · rw [up2_i h]
        rw [e]
      | 6 => rfl
      | n + 7 => rfl
    | 1 => rfl
    | 2 => rfl
    | 3 => rfl
    | 4 => rfl
    | 5 => rfl
    | 6 =>
      show (if b < 341 ∧ ¬ mm 13 b = 0 then some (Sum.inr (2, k_tl mm b)) else none) = if b < 341 ∧ ¬ up2 mm 13 t v 13 b = 0 then some (Sum.inr (2, [_, _, _, _, _, Value.int (up2 mm 13 t v 13 b - 1), _])) else none
      rw [up2_i (fun y => z ⟨rfl, y⟩)]; rfl
    | n + 7 => rfl
theorem kcu_picture (ht : t < 341) (hs : ¬ mm 13 t = 0) : k_up (k_C G ad mm) 6 t (.inr (2, (k_tl mm t).set 6 (.int v))) = k_C G ad (up2 mm 14 t v) := by
  refine up_of ?_ fun a b z => ?_
  · show (if t < 341 ∧ ¬ mm 13 t = 0 then some (Sum.inr (2, [_, _, _, _, _, _, Value.int (up2 mm 14 t v 14 t)])) else none) = _
    rw [up2_s, if_pos ⟨ht, hs⟩]; rfl
  · match a with
    | 0 => rfl
    | 1 => rfl
    | 2 => rfl
    | 3 => rfl
    | 4 => rfl
    | 5 => rfl
    | 6 =>
      show (if b < 341 ∧ ¬ mm 13 b = 0 then some (Sum.inr (2, k_tl mm b)) else none) = if b < 341 ∧ ¬ mm 13 b = 0 then some (Sum.inr (2, [_, _, _, _, _, _, Value.int (up2 mm 14 t v 14 b)])) else none
      rw [up2_i (fun y => z ⟨rfl, y⟩)]; rfl
    | n + 7 => rfl
end
end
section
theorem dX4_requireCar_0 : decode cX4_requireCar 0 = .ok (.iload_n 0, 1) := by decide +kernel
theorem dX4_requireCar_1 : decode cX4_requireCar 1 = .ok (.iconst 0, 1) := by decide +kernel
theorem dX4_requireCar_2 : decode cX4_requireCar 2 = .ok (.iconst 2, 1) := by decide +kernel
theorem dX4_requireCar_3 : decode cX4_requireCar 3 = .ok (.invokestatic 50, 3) := by decide +kernel
theorem dX4_requireCar_6 : decode cX4_requireCar 6 = .ok (.ifCond .ne 14, 3) := by decide +kernel
theorem dX4_requireCar_9 : decode cX4_requireCar 9 = .ok (.new 259, 3) := by decide +kernel
theorem dX4_requireCar_12 : decode cX4_requireCar 12 = .ok (.dup, 1) := by decide +kernel
theorem dX4_requireCar_13 : decode cX4_requireCar 13 = .ok (.ldc_w 266, 3) := by decide +kernel
theorem dX4_requireCar_16 : decode cX4_requireCar 16 = .ok (.invokespecial 263, 3) := by decide +kernel
theorem dX4_requireCar_19 : decode cX4_requireCar 19 = .ok (.athrow, 1) := by decide +kernel
theorem dX4_requireCar_20 : decode cX4_requireCar 20 = .ok (.return_, 1) := by decide +kernel
theorem dX4_requireCrossing_0 : decode cX4_requireCrossing 0 = .ok (.iload_n 0, 1) := by decide +kernel
theorem dX4_requireCrossing_1 : decode cX4_requireCrossing 1 = .ok (.iconst 0, 1) := by decide +kernel
theorem dX4_requireCrossing_2 : decode cX4_requireCrossing 2 = .ok (.bipush 16, 2) := by decide +kernel
theorem dX4_requireCrossing_4 : decode cX4_requireCrossing 4 = .ok (.invokestatic 50, 3) := by decide +kernel
theorem dX4_requireCrossing_7 : decode cX4_requireCrossing 7 = .ok (.ifCond .eq 13, 3) := by decide +kernel
theorem dX4_requireCrossing_10 : decode cX4_requireCrossing 10 = .ok (.iload_n 1, 1) := by decide +kernel
theorem dX4_requireCrossing_11 : decode cX4_requireCrossing 11 = .ok (.iconst 0, 1) := by decide +kernel
theorem dX4_requireCrossing_12 : decode cX4_requireCrossing 12 = .ok (.bipush 16, 2) := by decide +kernel
theorem dX4_requireCrossing_14 : decode cX4_requireCrossing 14 = .ok (.invokestatic 50, 3) := by decide +kernel
theorem dX4_requireCrossing_17 : decode cX4_requireCrossing 17 = .ok (.ifCond .ne 14, 3) := by decide +kernel
theorem dX4_requireCrossing_20 : decode cX4_requireCrossing 20 = .ok (.new 259, 3) := by decide +kernel
theorem dX4_requireCrossing_23 : decode cX4_requireCrossing 23 = .ok (.dup, 1) := by decide +kernel
theorem dX4_requireCrossing_24 : decode cX4_requireCrossing 24 = .ok (.ldc_w 264, 3) := by decide +kernel
theorem dX4_requireCrossing_27 : decode cX4_requireCrossing 27 = .ok (.invokespecial 263, 3) := by decide +kernel
theorem dX4_requireCrossing_30 : decode cX4_requireCrossing 30 = .ok (.athrow, 1) := by decide +kernel
theorem dX4_requireCrossing_31 : decode cX4_requireCrossing 31 = .ok (.return_, 1) := by decide +kernel
theorem dX4_requireEditor_0 : decode cX4_requireEditor 0 = .ok (.iload_n 0, 1) := by decide +kernel
theorem dX4_requireEditor_1 : decode cX4_requireEditor 1 = .ok (.iconst 0, 1) := by decide +kernel
theorem dX4_requireEditor_2 : decode cX4_requireEditor 2 = .ok (.iconst 5, 1) := by decide +kernel
theorem dX4_requireEditor_3 : decode cX4_requireEditor 3 = .ok (.invokestatic 50, 3) := by decide +kernel
theorem dX4_requireEditor_6 : decode cX4_requireEditor 6 = .ok (.ifCond .ne 14, 3) := by decide +kernel
theorem dX4_requireEditor_9 : decode cX4_requireEditor 9 = .ok (.new 259, 3) := by decide +kernel
theorem dX4_requireEditor_12 : decode cX4_requireEditor 12 = .ok (.dup, 1) := by decide +kernel
theorem dX4_requireEditor_13 : decode cX4_requireEditor 13 = .ok (.ldc_w 261, 3) := by decide +kernel
theorem dX4_requireEditor_16 : decode cX4_requireEditor 16 = .ok (.invokespecial 263, 3) := by decide +kernel
theorem dX4_requireEditor_19 : decode cX4_requireEditor 19 = .ok (.athrow, 1) := by decide +kernel
theorem dX4_requireEditor_20 : decode cX4_requireEditor 20 = .ok (.return_, 1) := by decide +kernel
theorem dX4_requireZoom_0 : decode cX4_requireZoom 0 = .ok (.iload_n 0, 1) := by decide +kernel
theorem dX4_requireZoom_1 : decode cX4_requireZoom 1 = .ok (.iconst 0, 1) := by decide +kernel
theorem dX4_requireZoom_2 : decode cX4_requireZoom 2 = .ok (.iconst 4, 1) := by decide +kernel
theorem dX4_requireZoom_3 : decode cX4_requireZoom 3 = .ok (.invokestatic 50, 3) := by decide +kernel
theorem dX4_requireZoom_6 : decode cX4_requireZoom 6 = .ok (.ifCond .ne 14, 3) := by decide +kernel
theorem dX4_requireZoom_9 : decode cX4_requireZoom 9 = .ok (.new 259, 3) := by decide +kernel
theorem dX4_requireZoom_12 : decode cX4_requireZoom 12 = .ok (.dup, 1) := by decide +kernel
theorem dX4_requireZoom_13 : decode cX4_requireZoom 13 = .ok (.ldc_w 268, 3) := by decide +kernel
theorem dX4_requireZoom_16 : decode cX4_requireZoom 16 = .ok (.invokespecial 263, 3) := by decide +kernel
theorem dX4_requireZoom_19 : decode cX4_requireZoom 19 = .ok (.athrow, 1) := by decide +kernel
theorem dX4_requireZoom_20 : decode cX4_requireZoom 20 = .ok (.return_, 1) := by decide +kernel
theorem dX4_wayAt_0 : decode cX4_wayAt 0 = .ok (.iload_n 1, 1) := by decide +kernel
theorem dX4_wayAt_1 : decode cX4_wayAt 1 = .ok (.ifCond .lt 14, 3) := by decide +kernel
theorem dX4_wayAt_4 : decode cX4_wayAt 4 = .ok (.iload_n 1, 1) := by decide +kernel
theorem dX4_wayAt_5 : decode cX4_wayAt 5 = .ok (.aload_n 0, 1) := by decide +kernel
theorem dX4_wayAt_6 : decode cX4_wayAt 6 = .ok (.getfield 10, 3) := by decide +kernel
theorem dX4_wayAt_9 : decode cX4_wayAt 9 = .ok (.invokevirtual 65, 3) := by decide +kernel
theorem dX4_wayAt_12 : decode cX4_wayAt 12 = .ok (.if_icmp .lt 14, 3) := by decide +kernel
theorem dX4_wayAt_15 : decode cX4_wayAt 15 = .ok (.new 259, 3) := by decide +kernel
theorem dX4_wayAt_18 : decode cX4_wayAt 18 = .ok (.dup, 1) := by decide +kernel
theorem dX4_wayAt_19 : decode cX4_wayAt 19 = .ok (.ldc_w 270, 3) := by decide +kernel
theorem dX4_wayAt_22 : decode cX4_wayAt 22 = .ok (.invokespecial 263, 3) := by decide +kernel
theorem dX4_wayAt_25 : decode cX4_wayAt 25 = .ok (.athrow, 1) := by decide +kernel
theorem dX4_wayAt_26 : decode cX4_wayAt 26 = .ok (.aload_n 0, 1) := by decide +kernel
theorem dX4_wayAt_27 : decode cX4_wayAt 27 = .ok (.getfield 10, 3) := by decide +kernel
theorem dX4_wayAt_30 : decode cX4_wayAt 30 = .ok (.iload_n 1, 1) := by decide +kernel
theorem dX4_wayAt_31 : decode cX4_wayAt 31 = .ok (.invokevirtual 272, 3) := by decide +kernel
theorem dX4_wayAt_34 : decode cX4_wayAt 34 = .ok (.checkcast 78, 3) := by decide +kernel
theorem dX4_wayAt_37 : decode cX4_wayAt 37 = .ok (.areturn, 1) := by decide +kernel
abbrev k_IOB : String := "java/lang/IndexOutOfBoundsException"
abbrev k_IAE : String := "java/lang/IllegalArgumentException"
abbrev k_ISE : String := "java/lang/IllegalStateException"
def k_n3 (v : Int32) : String := if v = 1 then k_IOB else if v = 2 then k_IAE else k_ISE
def k_n2 (v : Int32) : String := if v = 1 then k_IOB else k_ISE
/-- a call's answer, and what it leaves -/
def k_po (G : k_G) (res : Int32 × q_Mem) : Int32 → k_Ad × k_Ct → Prop := fun r u => u.2 = k_C G u.1 res.2 ∧ r = res.1 ∧ res.2 19 0 = 0
def k_px (nm : Int32 → String) (res : Int32 × q_Mem) (mm : q_Mem) : String → Prop := fun E => ∃ v : Int32, ¬ v = 0 ∧ res = (0, up2 mm 19 0 v) ∧ E = nm v
theorem k_po.of {G : k_G} {ad : k_Ad} {res : Int32 × q_Mem} {r : Int32} {m2 : q_Mem} (h : res = (r, m2)) (h0 : m2 19 0 = 0) : k_po G res r (ad, k_C G ad m2) := by subst h; exact ⟨rfl, rfl, h0⟩
theorem k_po.of19 {G : k_G} {ad : k_Ad} {res : Int32 × q_Mem} {r : Int32} {mm : q_Mem} (h : res = (r, up2 mm 19 0 0)) : k_po G res r (ad, k_C G ad mm) := by subst h; exact ⟨rfl, rfl, rfl⟩
theorem le_lt6 {x : Int32} : x ≤ 5 ↔ x < 6 := by
  rw [Int32.le_iff_toInt_le, Int32.lt_iff_toInt_lt]
  have h1 : (5 : Int32).toInt = 5 := by decide
  have h2 : (6 : Int32).toInt = 6 := by decide
  omega
theorem le_lt3 {x : Int32} : x ≤ 2 ↔ x < 3 := by
  rw [Int32.le_iff_toInt_le, Int32.lt_iff_toInt_lt]
  have h1 : (2 : Int32).toInt = 2 := by decide
  have h2 : (3 : Int32).toInt = 3 := by decide
  omega
theorem le_lt5 {x : Int32} : x ≤ 4 ↔ x < 5 := by
  rw [Int32.le_iff_toInt_le, Int32.lt_iff_toInt_lt]
  have h1 : (4 : Int32).toInt = 4 := by decide
  have h2 : (5 : Int32).toInt = 5 := by decide
  omega
theorem ke_X4_requireEditor : wl_S yX4_requireEditor cX4_requireEditor 1 none 1 := ⟨wd_c_X4_requireEditor, wd_t_X4_requireEditor, wd_n_X4, by decide, by decide +kernel⟩
set_option maxHeartbeats 4000000 in
set_option maxRecDepth 100000 in
theorem m_X4_requireEditor (l : Launch) (hflag : l.stackTraces = false) (G : k_G) (Z : Nat → Prop) (ad : k_Ad) (ct : k_Ct) (x : Int32)  : kx_v l yX4_requireEditor cX4_requireEditor 1 none 6 90 1 6 G Z ad ct [.int x] (fun u => sp_ed x ∧ u = (ad, ct)) (fun E => E = k_IOB ∧ ¬ sp_ed x) := by
  refine kx_of (by decide) (Nat.le_of_ble_eq_true rfl) ?_
  intro p e s m args below meth c hx hb hr hF hlk hnt hB ls hl
  obtain ⟨⟨hM, hN⟩, hK, hP, hT⟩ := hB
  have hS : va_S Z s.heap s.heap [] := va_S.rf
  have hl : lv_has ls 1 [(0, .int x)] := hl
  refine lv_iload_n hx hb dX4_requireEditor_0 rfl (lv_at hl 0 rfl) ?_
  refine lv_iconst (v := 0) hx hb dX4_requireEditor_1 (by decide) ?_
  refine lv_iconst (v := 5) hx hb dX4_requireEditor_2 (by decide) ?_
  refine rc_S (fr := 0) (lo := 0) (As := [.int x, .int 0, .int 5]) (rest := []) hF (m_X4_isIn l x 0 5) ke_X4_isIn wd_l_X4_50 (by decide) bl_true (fun _ _ _ => trivial) rfl hl.1 rfl (Nat.le_of_ble_eq_true rfl) dX4_requireEditor_3 (by decide) (fun r1 hr1 => ?_)
  refine bo_ne (tgt := 20) hr1 hx hb dX4_requireEditor_6 (by decide) (fun c1 => ?_) (fun c1 => ?_)
  · skip
    exact kx_vret hx hb hr hlk hM hN hK hS (by decide) (by decide) (⟨⟨c1.1, le_lt6.mp c1.2⟩, rfl⟩) dX4_requireEditor_20
  · skip
    exact kx_thrW (text := "there is no such editor") hF hflag hP hT k_E_IOB wd_k_X4_259 (by decide) hM hN hK hS hl.1 dX4_requireEditor_9 dX4_requireEditor_12 dX4_requireEditor_13 dX4_requireEditor_16 dX4_requireEditor_19 hnt (by decide) (Nat.le_of_ble_eq_true rfl) (by decide) (by decide) hlk (by decide) (by decide) (⟨rfl, fun q => c1 ⟨q.1, le_lt6.mpr q.2⟩⟩)
theorem ke_X4_requireCar : wl_S yX4_requireCar cX4_requireCar 1 none 1 := ⟨wd_c_X4_requireCar, wd_t_X4_requireCar, wd_n_X4, by decide, by decide +kernel⟩
set_option maxHeartbeats 4000000 in
set_option maxRecDepth 100000 in
theorem m_X4_requireCar (l : Launch) (hflag : l.stackTraces = false) (G : k_G) (Z : Nat → Prop) (ad : k_Ad) (ct : k_Ct) (x : Int32)  : kx_v l yX4_requireCar cX4_requireCar 1 none 6 90 1 6 G Z ad ct [.int x] (fun u => sp_car x ∧ u = (ad, ct)) (fun E => E = k_IOB ∧ ¬ sp_car x) := by
  refine kx_of (by decide) (Nat.le_of_ble_eq_true rfl) ?_
  intro p e s m args below meth c hx hb hr hF hlk hnt hB ls hl
  obtain ⟨⟨hM, hN⟩, hK, hP, hT⟩ := hB
  have hS : va_S Z s.heap s.heap [] := va_S.rf
  have hl : lv_has ls 1 [(0, .int x)] := hl
  refine lv_iload_n hx hb dX4_requireCar_0 rfl (lv_at hl 0 rfl) ?_
  refine lv_iconst (v := 0) hx hb dX4_requireCar_1 (by decide) ?_
  refine lv_iconst (v := 2) hx hb dX4_requireCar_2 (by decide) ?_
  refine rc_S (fr := 0) (lo := 0) (As := [.int x, .int 0, .int 2]) (rest := []) hF (m_X4_isIn l x 0 2) ke_X4_isIn wd_l_X4_50 (by decide) bl_true (fun _ _ _ => trivial) rfl hl.1 rfl (Nat.le_of_ble_eq_true rfl) dX4_requireCar_3 (by decide) (fun r1 hr1 => ?_)
  refine bo_ne (tgt := 20) hr1 hx hb dX4_requireCar_6 (by decide) (fun c1 => ?_) (fun c1 => ?_)
  · skip
    exact kx_vret hx hb hr hlk hM hN hK hS (by decide) (by decide) (⟨⟨c1.1, le_lt3.mp c1.2⟩, rfl⟩) dX4_requireCar_20
  · skip
    exact kx_thrW (text := "there is no such car") hF hflag hP hT k_E_IOB wd_k_X4_259 (by decide) hM hN hK hS hl.1 dX4_requireCar_9 dX4_requireCar_12 dX4_requireCar_13 dX4_requireCar_16 dX4_requireCar_19 hnt (by decide) (Nat.le_of_ble_eq_true rfl) (by decide) (by decide) hlk (by decide) (by decide) (⟨rfl, fun q => c1 ⟨q.1, le_lt3.mpr q.2⟩⟩)
theorem ke_X4_requireZoom : wl_S yX4_requireZoom cX4_requireZoom 1 none 1 := ⟨wd_c_X4_requireZoom, wd_t_X4_requireZoom, wd_n_X4, by decide, by decide +kernel⟩
set_option maxHeartbeats 4000000 in
set_option maxRecDepth 100000 in
theorem m_X4_requireZoom (l : Launch) (hflag : l.stackTraces = false) (G : k_G) (Z : Nat → Prop) (ad : k_Ad) (ct : k_Ct) (x : Int32)  : kx_v l yX4_requireZoom cX4_requireZoom 1 none 6 90 1 6 G Z ad ct [.int x] (fun u => sp_zm x ∧ u = (ad, ct)) (fun E => E = k_IOB ∧ ¬ sp_zm x) := by
  refine kx_of (by decide) (Nat.le_of_ble_eq_true rfl) ?_
  intro p e s m args below meth c hx hb hr hF hlk hnt hB ls hl
  obtain ⟨⟨hM, hN⟩, hK, hP, hT⟩ := hB
  have hS : va_S Z s.heap s.heap [] := va_S.rf
  have hl : lv_has ls 1 [(0, .int x)] := hl
  refine lv_iload_n hx hb dX4_requireZoom_0 rfl (lv_at hl 0 rfl) ?_
  refine lv_iconst (v := 0) hx hb dX4_requireZoom_1 (by decide) ?_
  refine lv_iconst (v := 4) hx hb dX4_requireZoom_2 (by decide) ?_
  refine rc_S (fr := 0) (lo := 0) (As := [.int x, .int 0, .int 4]) (rest := []) hF (m_X4_isIn l x 0 4) ke_X4_isIn wd_l_X4_50 (by decide) bl_true (fun _ _ _ => trivial) rfl hl.1 rfl (Nat.le_of_ble_eq_true rfl) dX4_requireZoom_3 (by decide) (fun r1 hr1 => ?_)
  refine bo_ne (tgt := 20) hr1 hx hb dX4_requireZoom_6 (by decide) (fun c1 => ?_) (fun c1 => ?_)
  · skip
    exact kx_vret hx hb hr hlk hM hN hK hS (by decide) (by decide) (⟨⟨c1.1, le_lt5.mp c1.2⟩, rfl⟩) dX4_requireZoom_20
  · skip
    exact kx_thrW (text := "there is no such zoom") hF hflag hP hT k_E_IOB wd_k_X4_259 (by decide) hM hN hK hS hl.1 dX4_requireZoom_9 dX4_requireZoom_12 dX4_requireZoom_13 dX4_requireZoom_16 dX4_requireZoom_19 hnt (by decide) (Nat.le_of_ble_eq_true rfl) (by decide) (by decide) hlk (by decide) (by decide) (⟨rfl, fun q => c1 ⟨q.1, le_lt5.mpr q.2⟩⟩)
theorem ke_X4_requireCrossing : wl_S yX4_requireCrossing cX4_requireCrossing 2 none 2 := ⟨wd_c_X4_requireCrossing, wd_t_X4_requireCrossing, wd_n_X4, by decide, by decide +kernel⟩
set_option maxHeartbeats 4000000 in
set_option maxRecDepth 100000 in
theorem m_X4_requireCrossing (l : Launch) (hflag : l.stackTraces = false) (G : k_G) (Z : Nat → Prop) (ad : k_Ad) (ct : k_Ct) (x y : Int32)  : kx_v l yX4_requireCrossing cX4_requireCrossing 2 none 6 90 1 6 G Z ad ct [.int x, .int y] (fun u => sp_cr x y ∧ u = (ad, ct)) (fun E => E = k_IOB ∧ ¬ sp_cr x y) := by
  refine kx_of (by decide) (Nat.le_of_ble_eq_true rfl) ?_
  intro p e s m args below meth c hx hb hr hF hlk hnt hB ls hl
  obtain ⟨⟨hM, hN⟩, hK, hP, hT⟩ := hB
  have hS : va_S Z s.heap s.heap [] := va_S.rf
  have hl : lv_has ls 2 [(0, .int x), (1, .int y)] := hl
  refine lv_iload_n hx hb dX4_requireCrossing_0 rfl (lv_at hl 0 rfl) ?_
  refine lv_iconst (v := 0) hx hb dX4_requireCrossing_1 (by decide) ?_
  refine lv_bipush (v := 16) hx hb dX4_requireCrossing_2 (by decide) ?_
  refine rc_S (fr := 0) (lo := 0) (As := [.int x, .int 0, .int 16]) (rest := []) hF (m_X4_isIn l x 0 16) ke_X4_isIn wd_l_X4_50 (by decide) bl_true (fun _ _ _ => trivial) rfl hl.1 rfl (Nat.le_of_ble_eq_true rfl) dX4_requireCrossing_4 (by decide) (fun r1 hr1 => ?_)
  refine bo_eq (tgt := 20) hr1 hx hb dX4_requireCrossing_7 (by decide) (fun c1 => ?_) (fun c1 => ?_)
  · skip
    exact kx_thrW (text := "there is no such crossing") hF hflag hP hT k_E_IOB wd_k_X4_259 (by decide) hM hN hK hS hl.1 dX4_requireCrossing_20 dX4_requireCrossing_23 dX4_requireCrossing_24 dX4_requireCrossing_27 dX4_requireCrossing_30 hnt (by decide) (Nat.le_of_ble_eq_true rfl) (by decide) (by decide) hlk (by decide) (by decide) (⟨rfl, fun q => by first | exact c1 q.1 | exact c2 q.2⟩)
  · skip
    refine lv_iload_n hx hb dX4_requireCrossing_10 rfl (lv_at hl 1 rfl) ?_
    refine lv_iconst (v := 0) hx hb dX4_requireCrossing_11 (by decide) ?_
    refine lv_bipush (v := 16) hx hb dX4_requireCrossing_12 (by decide) ?_
    refine rc_S (fr := 0) (lo := 0) (As := [.int y, .int 0, .int 16]) (rest := []) hF (m_X4_isIn l y 0 16) ke_X4_isIn wd_l_X4_50 (by decide) bl_true (fun _ _ _ => trivial) rfl hl.1 rfl (Nat.le_of_ble_eq_true rfl) dX4_requireCrossing_14 (by decide) (fun r2 hr2 => ?_)
    refine bo_ne (tgt := 31) hr2 hx hb dX4_requireCrossing_17 (by decide) (fun c2 => ?_) (fun c2 => ?_)
    · skip
      exact kx_vret hx hb hr hlk hM hN hK hS (by decide) (by decide) (⟨⟨c1, c2⟩, rfl⟩) dX4_requireCrossing_31
    · skip
      exact kx_thrW (text := "there is no such crossing") hF hflag hP hT k_E_IOB wd_k_X4_259 (by decide) hM hN hK hS hl.1 dX4_requireCrossing_20 dX4_requireCrossing_23 dX4_requireCrossing_24 dX4_requireCrossing_27 dX4_requireCrossing_30 hnt (by decide) (Nat.le_of_ble_eq_true rfl) (by decide) (by decide) hlk (by decide) (by decide) (⟨rfl, fun q => by first | exact c1 q.1 | exact c2 q.2⟩)
theorem ke_X4_wayAt : wl_V RX4 yX4_wayAt cX4_wayAt 2 (some (.object "SignTiles$Way")) 1 := ⟨wd_c_X4_wayAt, wd_i_X4_wayAt, wd_s_X4_wayAt, wd_n_X4, by decide, by decide +kernel⟩
set_option maxHeartbeats 4000000 in
set_option maxRecDepth 100000 in
theorem m_X4_wayAt (l : Launch) (hflag : l.stackTraces = false) (G : k_G) (Z : Nat → Prop) (ad : k_Ad) (mm : q_Mem) (x : Int32) (hI : Inv mm) : kx_q l yX4_wayAt cX4_wayAt 2 (some (.object "SignTiles$Way")) 6 90 1 6 G Z ad (k_C G ad mm) [.ref (ad 0 0), .int x] (fun o u => sp_wy mm x ∧ o = some (ad 1 x.toNatClampNeg) ∧ u = (ad, k_C G ad mm)) (fun E => E = k_IOB ∧ ¬ sp_wy mm x) := by
  refine kx_of (by decide) (Nat.le_of_ble_eq_true rfl) ?_
  intro p e s m args below meth c hx hb hr hF hlk hnt hB ls hl
  obtain ⟨⟨hM, hN⟩, hK, hP, hT⟩ := hB
  have hS : va_S Z s.heap s.heap [] := va_S.rf
  have hl : lv_has ls 2 [(0, .ref (ad 0 0)), (1, .int x)] := hl
  refine lv_iload_n hx hb dX4_wayAt_0 rfl (lv_at hl 1 rfl) ?_
  refine lv_if_lt (tgt := 15) hx hb dX4_wayAt_1 (by decide) (fun c1 => ?_) (fun c1 => ?_)
  · skip
    exact kx_thrW (text := "there is no such way") hF hflag hP hT k_E_IOB wd_k_X4_259 (by decide) hM hN hK hS hl.1 dX4_wayAt_15 dX4_wayAt_18 dX4_wayAt_19 dX4_wayAt_22 dX4_wayAt_25 hnt (by decide) (Nat.le_of_ble_eq_true rfl) (by decide) (by decide) hlk (by decide) (by decide) (⟨rfl, fun q => by first | exact bo_nlt q.1 c1 | exact c2 q.2⟩)
  · skip
    refine lv_iload_n hx hb dX4_wayAt_4 rfl (lv_at hl 1 rfl) ?_
    refine lv_aload_n hx hb dX4_wayAt_5 rfl (lv_at hl 0 rfl) ?_
    refine g_get (C := RX4) (T := TX4) (N := 6) (v := .ref (ad 0 1)) hF hK (hM 0 0 _ rfl) rfl inlX4 0 (by decide) rfl wd_f_X4_10 rfl dX4_wayAt_6 ?_
    refine kr_V (fr := 0) (lo := 0) (As := []) (rest := [.int x]) hF (m_Jx4a65c_size_8abf5 l G Z ad mm) ke_Jx4a65c_size_8abf5 wd_l_X4_65 (by decide) hM hK hP hT hS (g_recv hK (hM 0 1 _ rfl) rfl) rfl hl.1 rfl (Nat.le_of_ble_eq_true rfl) dX4_wayAt_9 (by decide) (fun r1 hr1 => ?_)
    replace hr1 : r1 = mm 1 0 := hr1
    subst hr1
    refine lv_icmp_lt (tgt := 26) hx hb dX4_wayAt_12 (by decide) (fun c2 => ?_) (fun c2 => ?_)
    · skip
      obtain ⟨wi, hwi, hx0⟩ := nt_wy hI (x := x) ⟨bo_lt c1, c2⟩
      have hW40 := hI.W40
      subst hx0
      refine lv_aload_n hx hb dX4_wayAt_26 rfl (lv_at hl 0 rfl) ?_
      refine g_get (C := RX4) (T := TX4) (N := 6) (v := .ref (ad 0 1)) hF hK (hM 0 0 _ rfl) rfl inlX4 0 (by decide) rfl wd_f_X4_10 rfl dX4_wayAt_27 ?_
      refine lv_iload_n hx hb dX4_wayAt_30 rfl (lv_at hl 1 rfl) ?_
      refine kq_V (fr := 2) (lo := 43) (As := [.int (nI wi)]) (rest := []) hF (m_Jx4a65c_get_915e3 l G Z ad mm wi hI hwi) ke_Jx4a65c_get_915e3 wd_l_X4_272 (by decide) hM hK hP hT hS (g_recv hK (hM 0 1 _ rfl) rfl) rfl hl.1 rfl (Nat.le_of_ble_eq_true rfl) dX4_wayAt_31 (by decide) (fun r2 hr2 => ?_)
      obtain rfl := hr2
      refine bo_toV (v := .ref (ad 1 wi)) rfl ?_
      refine g_cast (C := RX3) hF hK (hM 1 wi _ (kc_w (by assumption))) rfl wd_k_X4_78 dX4_wayAt_34 ?_
      exact kx_qret (o := (some (ad 1 wi))) hx hb hr hlk hM hN hK hS (by decide) (by decide) (⟨⟨bo_lt c1, c2⟩, by rw [nt_c (by omega)], rfl⟩) dX4_wayAt_37
    · skip
      exact kx_thrW (text := "there is no such way") hF hflag hP hT k_E_IOB wd_k_X4_259 (by decide) hM hN hK hS hl.1 dX4_wayAt_15 dX4_wayAt_18 dX4_wayAt_19 dX4_wayAt_22 dX4_wayAt_25 hnt (by decide) (Nat.le_of_ble_eq_true rfl) (by decide) (by decide) hlk (by decide) (by decide) (⟨rfl, fun q => by first | exact bo_nlt q.1 c1 | exact c2 q.2⟩)
end
section
theorem dX4_dear_0 : decode cX4_dear 0 = .ok (.aload_n 0, 1) := by decide +kernel
theorem dX4_dear_1 : decode cX4_dear 1 = .ok (.iload_n 1, 1) := by decide +kernel
theorem dX4_dear_2 : decode cX4_dear 2 = .ok (.invokevirtual 96, 3) := by decide +kernel
theorem dX4_dear_5 : decode cX4_dear 5 = .ok (.invokevirtual 233, 3) := by decide +kernel
theorem dX4_dear_8 : decode cX4_dear 8 = .ok (.ireturn, 1) := by decide +kernel
theorem dX4_drawnTile_0 : decode cX4_drawnTile 0 = .ok (.aload_n 0, 1) := by decide +kernel
theorem dX4_drawnTile_1 : decode cX4_drawnTile 1 = .ok (.getfield 28, 3) := by decide +kernel
theorem dX4_drawnTile_4 : decode cX4_drawnTile 4 = .ok (.iload_n 1, 1) := by decide +kernel
theorem dX4_drawnTile_5 : decode cX4_drawnTile 5 = .ok (.iload_n 2, 1) := by decide +kernel
theorem dX4_drawnTile_6 : decode cX4_drawnTile 6 = .ok (.iload_n 3, 1) := by decide +kernel
theorem dX4_drawnTile_7 : decode cX4_drawnTile 7 = .ok (.invokestatic 168, 3) := by decide +kernel
theorem dX4_drawnTile_10 : decode cX4_drawnTile 10 = .ok (.aaload, 1) := by decide +kernel
theorem dX4_drawnTile_11 : decode cX4_drawnTile 11 = .ok (.astore 4, 2) := by decide +kernel
theorem dX4_drawnTile_13 : decode cX4_drawnTile 13 = .ok (.aload 4, 2) := by decide +kernel
theorem dX4_drawnTile_15 : decode cX4_drawnTile 15 = .ok (.ifnonnull 14, 3) := by decide +kernel
theorem dX4_drawnTile_18 : decode cX4_drawnTile 18 = .ok (.new 73, 3) := by decide +kernel
theorem dX4_drawnTile_21 : decode cX4_drawnTile 21 = .ok (.dup, 1) := by decide +kernel
theorem dX4_drawnTile_22 : decode cX4_drawnTile 22 = .ok (.ldc_w 294, 3) := by decide +kernel
theorem dX4_drawnTile_25 : decode cX4_drawnTile 25 = .ok (.invokespecial 77, 3) := by decide +kernel
theorem dX4_drawnTile_28 : decode cX4_drawnTile 28 = .ok (.athrow, 1) := by decide +kernel
theorem dX4_drawnTile_29 : decode cX4_drawnTile 29 = .ok (.aload 4, 2) := by decide +kernel
theorem dX4_drawnTile_31 : decode cX4_drawnTile 31 = .ok (.areturn, 1) := by decide +kernel
theorem dX4_picture_0 : decode cX4_picture 0 = .ok (.aload_n 0, 1) := by decide +kernel
theorem dX4_picture_1 : decode cX4_picture 1 = .ok (.iload_n 1, 1) := by decide +kernel
theorem dX4_picture_2 : decode cX4_picture 2 = .ok (.iload_n 2, 1) := by decide +kernel
theorem dX4_picture_3 : decode cX4_picture 3 = .ok (.iload_n 3, 1) := by decide +kernel
theorem dX4_picture_4 : decode cX4_picture 4 = .ok (.invokevirtual 181, 3) := by decide +kernel
theorem dX4_picture_7 : decode cX4_picture 7 = .ok (.getfield 185, 3) := by decide +kernel
theorem dX4_picture_10 : decode cX4_picture 10 = .ok (.ireturn, 1) := by decide +kernel
theorem dX4_pictureAnew_0 : decode cX4_pictureAnew 0 = .ok (.aload_n 0, 1) := by decide +kernel
theorem dX4_pictureAnew_1 : decode cX4_pictureAnew 1 = .ok (.iload_n 1, 1) := by decide +kernel
theorem dX4_pictureAnew_2 : decode cX4_pictureAnew 2 = .ok (.iload_n 2, 1) := by decide +kernel
theorem dX4_pictureAnew_3 : decode cX4_pictureAnew 3 = .ok (.iload_n 3, 1) := by decide +kernel
theorem dX4_pictureAnew_4 : decode cX4_pictureAnew 4 = .ok (.invokevirtual 181, 3) := by decide +kernel
theorem dX4_pictureAnew_7 : decode cX4_pictureAnew 7 = .ok (.astore 4, 2) := by decide +kernel
theorem dX4_pictureAnew_9 : decode cX4_pictureAnew 9 = .ok (.aload_n 0, 1) := by decide +kernel
theorem dX4_pictureAnew_10 : decode cX4_pictureAnew 10 = .ok (.aload 4, 2) := by decide +kernel
theorem dX4_pictureAnew_12 : decode cX4_pictureAnew 12 = .ok (.aload 4, 2) := by decide +kernel
theorem dX4_pictureAnew_14 : decode cX4_pictureAnew 14 = .ok (.getfield 188, 3) := by decide +kernel
theorem dX4_pictureAnew_17 : decode cX4_pictureAnew 17 = .ok (.invokevirtual 189, 3) := by decide +kernel
theorem dX4_pictureAnew_20 : decode cX4_pictureAnew 20 = .ok (.ireturn, 1) := by decide +kernel
theorem dX4_sightings_0 : decode cX4_sightings 0 = .ok (.aload_n 0, 1) := by decide +kernel
theorem dX4_sightings_1 : decode cX4_sightings 1 = .ok (.iload_n 1, 1) := by decide +kernel
theorem dX4_sightings_2 : decode cX4_sightings 2 = .ok (.invokevirtual 96, 3) := by decide +kernel
theorem dX4_sightings_5 : decode cX4_sightings 5 = .ok (.invokevirtual 230, 3) := by decide +kernel
theorem dX4_sightings_8 : decode cX4_sightings 8 = .ok (.ireturn, 1) := by decide +kernel
theorem dX4_stampOf_0 : decode cX4_stampOf 0 = .ok (.aload_n 0, 1) := by decide +kernel
theorem dX4_stampOf_1 : decode cX4_stampOf 1 = .ok (.iload_n 1, 1) := by decide +kernel
theorem dX4_stampOf_2 : decode cX4_stampOf 2 = .ok (.invokevirtual 96, 3) := by decide +kernel
theorem dX4_stampOf_5 : decode cX4_stampOf 5 = .ok (.iload_n 2, 1) := by decide +kernel
theorem dX4_stampOf_6 : decode cX4_stampOf 6 = .ok (.invokestatic 158, 3) := by decide +kernel
theorem dX4_stampOf_9 : decode cX4_stampOf 9 = .ok (.getfield 165, 3) := by decide +kernel
theorem dX4_stampOf_12 : decode cX4_stampOf 12 = .ok (.ireturn, 1) := by decide +kernel
theorem dX4_tileIndex_0 : decode cX4_tileIndex 0 = .ok (.iload_n 0, 1) := by decide +kernel
theorem dX4_tileIndex_1 : decode cX4_tileIndex 1 = .ok (.invokestatic 197, 3) := by decide +kernel
theorem dX4_tileIndex_4 : decode cX4_tileIndex 4 = .ok (.iload_n 0, 1) := by decide +kernel
theorem dX4_tileIndex_5 : decode cX4_tileIndex 5 = .ok (.invokestatic 203, 3) := by decide +kernel
theorem dX4_tileIndex_8 : decode cX4_tileIndex 8 = .ok (.istore_n 3, 1) := by decide +kernel
theorem dX4_tileIndex_9 : decode cX4_tileIndex 9 = .ok (.iload_n 1, 1) := by decide +kernel
theorem dX4_tileIndex_10 : decode cX4_tileIndex 10 = .ok (.iconst 0, 1) := by decide +kernel
theorem dX4_tileIndex_11 : decode cX4_tileIndex 11 = .ok (.iload_n 3, 1) := by decide +kernel
theorem dX4_tileIndex_12 : decode cX4_tileIndex 12 = .ok (.iconst 1, 1) := by decide +kernel
theorem dX4_tileIndex_13 : decode cX4_tileIndex 13 = .ok (.isub, 1) := by decide +kernel
theorem dX4_tileIndex_14 : decode cX4_tileIndex 14 = .ok (.invokestatic 50, 3) := by decide +kernel
theorem dX4_tileIndex_17 : decode cX4_tileIndex 17 = .ok (.ifCond .eq 14, 3) := by decide +kernel
theorem dX4_tileIndex_20 : decode cX4_tileIndex 20 = .ok (.iload_n 2, 1) := by decide +kernel
theorem dX4_tileIndex_21 : decode cX4_tileIndex 21 = .ok (.iconst 0, 1) := by decide +kernel
theorem dX4_tileIndex_22 : decode cX4_tileIndex 22 = .ok (.iload_n 3, 1) := by decide +kernel
theorem dX4_tileIndex_23 : decode cX4_tileIndex 23 = .ok (.iconst 1, 1) := by decide +kernel
theorem dX4_tileIndex_24 : decode cX4_tileIndex 24 = .ok (.isub, 1) := by decide +kernel
theorem dX4_tileIndex_25 : decode cX4_tileIndex 25 = .ok (.invokestatic 50, 3) := by decide +kernel
theorem dX4_tileIndex_28 : decode cX4_tileIndex 28 = .ok (.ifCond .ne 14, 3) := by decide +kernel
theorem dX4_tileIndex_31 : decode cX4_tileIndex 31 = .ok (.new 259, 3) := by decide +kernel
theorem dX4_tileIndex_34 : decode cX4_tileIndex 34 = .ok (.dup, 1) := by decide +kernel
theorem dX4_tileIndex_35 : decode cX4_tileIndex 35 = .ok (.ldc_w 292, 3) := by decide +kernel
theorem dX4_tileIndex_38 : decode cX4_tileIndex 38 = .ok (.invokespecial 263, 3) := by decide +kernel
theorem dX4_tileIndex_41 : decode cX4_tileIndex 41 = .ok (.athrow, 1) := by decide +kernel
theorem dX4_tileIndex_42 : decode cX4_tileIndex 42 = .ok (.getstatic 200, 3) := by decide +kernel
theorem dX4_tileIndex_45 : decode cX4_tileIndex 45 = .ok (.iload_n 0, 1) := by decide +kernel
theorem dX4_tileIndex_46 : decode cX4_tileIndex 46 = .ok (.iaload, 1) := by decide +kernel
theorem dX4_tileIndex_47 : decode cX4_tileIndex 47 = .ok (.iload_n 2, 1) := by decide +kernel
theorem dX4_tileIndex_48 : decode cX4_tileIndex 48 = .ok (.iload_n 3, 1) := by decide +kernel
theorem dX4_tileIndex_49 : decode cX4_tileIndex 49 = .ok (.imul, 1) := by decide +kernel
theorem dX4_tileIndex_50 : decode cX4_tileIndex 50 = .ok (.iadd, 1) := by decide +kernel
theorem dX4_tileIndex_51 : decode cX4_tileIndex 51 = .ok (.iload_n 1, 1) := by decide +kernel
theorem dX4_tileIndex_52 : decode cX4_tileIndex 52 = .ok (.iadd, 1) := by decide +kernel
theorem dX4_tileIndex_53 : decode cX4_tileIndex 53 = .ok (.ireturn, 1) := by decide +kernel
theorem dX4_tileStamp_0 : decode cX4_tileStamp 0 = .ok (.aload_n 0, 1) := by decide +kernel
theorem dX4_tileStamp_1 : decode cX4_tileStamp 1 = .ok (.getfield 28, 3) := by decide +kernel
theorem dX4_tileStamp_4 : decode cX4_tileStamp 4 = .ok (.iload_n 1, 1) := by decide +kernel
theorem dX4_tileStamp_5 : decode cX4_tileStamp 5 = .ok (.iload_n 2, 1) := by decide +kernel
theorem dX4_tileStamp_6 : decode cX4_tileStamp 6 = .ok (.iload_n 3, 1) := by decide +kernel
theorem dX4_tileStamp_7 : decode cX4_tileStamp 7 = .ok (.invokestatic 168, 3) := by decide +kernel
theorem dX4_tileStamp_10 : decode cX4_tileStamp 10 = .ok (.aaload, 1) := by decide +kernel
theorem dX4_tileStamp_11 : decode cX4_tileStamp 11 = .ok (.astore 4, 2) := by decide +kernel
theorem dX4_tileStamp_13 : decode cX4_tileStamp 13 = .ok (.aload 4, 2) := by decide +kernel
theorem dX4_tileStamp_15 : decode cX4_tileStamp 15 = .ok (.ifnonnull 7, 3) := by decide +kernel
theorem dX4_tileStamp_18 : decode cX4_tileStamp 18 = .ok (.iconst (-1), 1) := by decide +kernel
theorem dX4_tileStamp_19 : decode cX4_tileStamp 19 = .ok (.goto 8, 3) := by decide +kernel
theorem dX4_tileStamp_22 : decode cX4_tileStamp 22 = .ok (.aload 4, 2) := by decide +kernel
theorem dX4_tileStamp_24 : decode cX4_tileStamp 24 = .ok (.getfield 188, 3) := by decide +kernel
theorem dX4_tileStamp_27 : decode cX4_tileStamp 27 = .ok (.ireturn, 1) := by decide +kernel
theorem dX4_version_0 : decode cX4_version 0 = .ok (.aload_n 0, 1) := by decide +kernel
theorem dX4_version_1 : decode cX4_version 1 = .ok (.iload_n 1, 1) := by decide +kernel
theorem dX4_version_2 : decode cX4_version 2 = .ok (.invokevirtual 96, 3) := by decide +kernel
theorem dX4_version_5 : decode cX4_version 5 = .ok (.iload_n 2, 1) := by decide +kernel
theorem dX4_version_6 : decode cX4_version 6 = .ok (.invokestatic 158, 3) := by decide +kernel
theorem dX4_version_9 : decode cX4_version 9 = .ok (.getfield 144, 3) := by decide +kernel
theorem dX4_version_12 : decode cX4_version 12 = .ok (.invokevirtual 162, 3) := by decide +kernel
theorem dX4_version_15 : decode cX4_version 15 = .ok (.ireturn, 1) := by decide +kernel
theorem dX4_versionAt_0 : decode cX4_versionAt 0 = .ok (.aload_n 0, 1) := by decide +kernel
theorem dX4_versionAt_1 : decode cX4_versionAt 1 = .ok (.getfield 133, 3) := by decide +kernel
theorem dX4_versionAt_4 : decode cX4_versionAt 4 = .ok (.astore_n 2, 1) := by decide +kernel
theorem dX4_versionAt_5 : decode cX4_versionAt 5 = .ok (.aload_n 2, 1) := by decide +kernel
theorem dX4_versionAt_6 : decode cX4_versionAt 6 = .ok (.ifnull 21, 3) := by decide +kernel
theorem dX4_versionAt_9 : decode cX4_versionAt 9 = .ok (.aload_n 2, 1) := by decide +kernel
theorem dX4_versionAt_10 : decode cX4_versionAt 10 = .ok (.getfield 276, 3) := by decide +kernel
theorem dX4_versionAt_13 : decode cX4_versionAt 13 = .ok (.iload_n 1, 1) := by decide +kernel
theorem dX4_versionAt_14 : decode cX4_versionAt 14 = .ok (.if_icmp .ne 5, 3) := by decide +kernel
theorem dX4_versionAt_17 : decode cX4_versionAt 17 = .ok (.aload_n 2, 1) := by decide +kernel
theorem dX4_versionAt_18 : decode cX4_versionAt 18 = .ok (.areturn, 1) := by decide +kernel
theorem dX4_versionAt_19 : decode cX4_versionAt 19 = .ok (.aload_n 2, 1) := by decide +kernel
theorem dX4_versionAt_20 : decode cX4_versionAt 20 = .ok (.getfield 137, 3) := by decide +kernel
theorem dX4_versionAt_23 : decode cX4_versionAt 23 = .ok (.astore_n 2, 1) := by decide +kernel
theorem dX4_versionAt_24 : decode cX4_versionAt 24 = .ok (.goto (-19), 3) := by decide +kernel
theorem dX4_versionAt_27 : decode cX4_versionAt 27 = .ok (.new 259, 3) := by decide +kernel
theorem dX4_versionAt_30 : decode cX4_versionAt 30 = .ok (.dup, 1) := by decide +kernel
theorem dX4_versionAt_31 : decode cX4_versionAt 31 = .ok (.ldc_w 279, 3) := by decide +kernel
theorem dX4_versionAt_34 : decode cX4_versionAt 34 = .ok (.invokespecial 263, 3) := by decide +kernel
theorem dX4_versionAt_37 : decode cX4_versionAt 37 = .ok (.athrow, 1) := by decide +kernel
theorem dX4_versions_0 : decode cX4_versions 0 = .ok (.aload_n 0, 1) := by decide +kernel
theorem dX4_versions_1 : decode cX4_versions 1 = .ok (.iload_n 1, 1) := by decide +kernel
theorem dX4_versions_2 : decode cX4_versions 2 = .ok (.invokevirtual 96, 3) := by decide +kernel
theorem dX4_versions_5 : decode cX4_versions 5 = .ok (.invokevirtual 155, 3) := by decide +kernel
theorem dX4_versions_8 : decode cX4_versions 8 = .ok (.ireturn, 1) := by decide +kernel
theorem dX4_waiting_0 : decode cX4_waiting 0 = .ok (.aload_n 0, 1) := by decide +kernel
theorem dX4_waiting_1 : decode cX4_waiting 1 = .ok (.iload_n 1, 1) := by decide +kernel
theorem dX4_waiting_2 : decode cX4_waiting 2 = .ok (.invokevirtual 96, 3) := by decide +kernel
theorem dX4_waiting_5 : decode cX4_waiting 5 = .ok (.getfield 116, 3) := by decide +kernel
theorem dX4_waiting_8 : decode cX4_waiting 8 = .ok (.astore_n 2, 1) := by decide +kernel
theorem dX4_waiting_9 : decode cX4_waiting 9 = .ok (.aload_n 2, 1) := by decide +kernel
theorem dX4_waiting_10 : decode cX4_waiting 10 = .ok (.ifnonnull 7, 3) := by decide +kernel
theorem dX4_waiting_13 : decode cX4_waiting 13 = .ok (.iconst (-1), 1) := by decide +kernel
theorem dX4_waiting_14 : decode cX4_waiting 14 = .ok (.goto 7, 3) := by decide +kernel
theorem dX4_waiting_17 : decode cX4_waiting 17 = .ok (.aload_n 2, 1) := by decide +kernel
theorem dX4_waiting_18 : decode cX4_waiting 18 = .ok (.invokevirtual 162, 3) := by decide +kernel
theorem dX4_waiting_21 : decode cX4_waiting 21 = .ok (.ireturn, 1) := by decide +kernel
theorem tl_back {z x y : Int32} (h : sp_tl z x y) : nI (tz_t (sp_t z x y)) = z ∧ nI (tx_t (sp_t z x y)) = x ∧ nI (ty_t (sp_t z x y)) = y ∧ sp_t z x y < 341 := by
  obtain ⟨zi, xi, yi, hz, hx, hy, rfl, rfl, rfl⟩ := nt_tl h
  have h1 := pw_le zi hz
  obtain ⟨a1, a2, a3, a4⟩ := tb_all zi hz xi hx yi hy
  have e : sp_t (nI zi) (nI xi) (nI yi) = tb_i zi xi yi := by unfold sp_t; rw [nt_c (by omega), nt_c (by omega), nt_c (by omega)]
  rw [e, a2, a3, a4]
  exact ⟨rfl, rfl, rfl, a1⟩
theorem tix {z x y : Nat} : nI (tb_z z) + nI y * nI (2 ^ z) + nI x = nI (tb_i z x y) := by
  rw [pk_mul, nI_add, nI_add, Nat.mul_comm y]; rfl
theorem co_q {v : Int32} (h : sp_Q v) (h1 : ¬ v = -1) : 100 * (v / 100) + 10 * sp_vd v + sp_ve v + 1 = v := by
  rcases h with h | ⟨k, d, e, hk, hd, he0, he, rfl⟩
  · exact absurd h h1
  · have e1 : nI (100 * k + 10 * d + e) / 100 = nI k := by
      show nI (100 * k + 10 * d + e) / nI 100 = _
      rw [pk_div (by omega) (by decide) (by decide)]; congr 1; omega
    have e2 : sp_vd (nI (100 * k + 10 * d + e)) = nI d := by rw [vd_nI (by omega)]; congr 1; omega
    have e3 : sp_ve (nI (100 * k + 10 * d + e)) = nI (e - 1) := by rw [ve_nI (by omega), show (100 * k + 10 * d + e) % 10 = e by omega]; exact nI_m1 he0
    rw [e1, e2, e3, show (100 : Int32) = nI 100 from rfl, show (10 : Int32) = nI 10 from rfl, pk_mul, pk_mul, nI_add, nI_add, nI_1]
    congr 1; omega
theorem co_v {n : Nat} {v : Int32} (h : sp_V n v) (hn : n ≤ 40) : sp_co (sp_vk v) (sp_vd v) (sp_ve v) = v - v / 1000 * 1000 := by
  obtain ⟨w, k, d, e, hw, hk, hd, he, rfl⟩ := h
  have e1 : sp_vk (nI (1000 * w + 100 * k + 10 * d + e)) = nI k := by rw [vk_nI (by omega)]; congr 1; omega
  have e2 : sp_vd (nI (1000 * w + 100 * k + 10 * d + e)) = nI d := by rw [vd_nI (by omega)]; congr 1; omega
  have e3 : sp_ve (nI (1000 * w + 100 * k + 10 * d + e)) = nI e - 1 := by rw [ve_nI (by omega)]; congr 2; omega
  unfold sp_co
  rw [e1, e2, e3, show (1000 : Int32) = nI 1000 from rfl, pk_rem (by omega) (by decide) (by decide), show (100 : Int32) = nI 100 from rfl, show (10 : Int32) = nI 10 from rfl, pk_mul, pk_mul, nI_add, Int32.add_assoc, Int32.sub_add_cancel, nI_add]
  congr 1; omega
theorem at_of {mm : q_Mem} {w n v : Nat} (hw : w < 2 ^ 31) (h7 : mm 7 w = nI (n + 1)) (hn : n < 1000) (hv : v ≤ n) : sp_at mm (nI w) (nI v) = sp_back mm (n - v) (sp_L mm w) := by
  unfold sp_at
  rw [nI_clamp hw, h7, nI_clamp (by omega), nI_clamp (by omega), Nat.add_sub_cancel]
theorem ke_X4_versionAt : wl_S yX4_versionAt cX4_versionAt 3 (some (.object "SignTiles$Version")) 2 := ⟨wd_c_X4_versionAt, wd_t_X4_versionAt, wd_n_X4, by decide, by decide +kernel⟩
set_option maxHeartbeats 4000000 in
set_option maxRecDepth 100000 in
theorem m_X4_versionAt (l : Launch) (hflag : l.stackTraces = false) (G : k_G) (Z : Nat → Prop) (ad : k_Ad) (mm : q_Mem) (w : Nat) (y : Int32) (hI : Inv mm) (hw : w < sp_W mm) : kx_q l yX4_versionAt cX4_versionAt 3 (some (.object "SignTiles$Version")) 6 90 1 6 G Z ad (k_C G ad mm) [.ref (ad 1 w), .int y] (fun o u => (0 ≤ y ∧ y < mm 7 w) ∧ o = some (ad 3 (sp_at mm (nI w) y)) ∧ u = (ad, k_C G ad mm)) (fun E => E = k_IOB ∧ ¬ (0 ≤ y ∧ y < mm 7 w)) := by
  refine kx_of (by decide) (Nat.le_of_ble_eq_true rfl) ?_
  intro p e s m args below meth c hx hb hr hF hlk hnt hB ls hl
  obtain ⟨⟨hM, hN⟩, hK, hP, hT⟩ := hB
  have hS : va_S Z s.heap s.heap [] := va_S.rf
  have hl : lv_has ls 3 [(0, .ref (ad 1 w)), (1, .int y)] := hl
  have hW40 := hI.W40
  have hKK := hI.K512
  have hLK := hI.LK hw
  obtain ⟨n, hnK, hn, h7⟩ := hI.N hw
  have hn31 : n < 2 ^ 31 := by omega
  refine lv_aload_n hx hb dX4_versionAt_0 rfl (lv_at hl 0 rfl) ?_
  refine g_get (C := RX3) (T := TX3) (N := 8) (v := .ref (ad 3 (sp_L mm w))) hF hK (hM 1 w _ (kc_w (by assumption))) rfl inlX3 5 (by decide) rfl wd_f_X4_133 rfl dX4_versionAt_1 ?_
  refine bo_toV (v := k_rf (n < 0) (ad 3 (sp_back mm 0 (sp_L mm w)))) ((if_neg (Nat.not_lt_zero n)).symm) ?_
  refine lv_astore_nV (lv' := [(2, k_rf (n < 0) (ad 3 (sp_back mm 0 (sp_L mm w)))), (0, .ref (ad 1 w)), (1, .int y)]) hx hb dX4_versionAt_4 rfl hl (by decide) rfl (fun ls hl => ?_)
  refine bo_loop (σ := Nat) (μ := fun (t1 : Nat) => n + 1 - t1) (I := fun (t1 : Nat) (H : Heap) (locs : List Loc) (ls : Array Slot) => k_H G ad (k_C G ad mm) H ∧ k_N Z ad (k_C G ad mm) ∧ va_S Z s.heap H locs ∧ lv_has ls 3 [(2, k_rf (n < t1) (ad 3 (sp_back mm t1 (sp_L mm w)))), (0, .ref (ad 1 w)), (1, .int y)] ∧ (t1 ≤ n + 1) ∧ (∀ s1, s1 < t1 → ¬ nI (n - s1) = y)) (0) ⟨hM, hN, hS, lv_sub hl [0, 1, 2] rfl, Nat.zero_le _, fun s1 q => absurd q (Nat.not_lt_zero s1)⟩ ?_
  intro x5 H locs ls hI5 ih5
  obtain ⟨t1, ex5⟩ : ∃ z, z = x5 := ⟨_, rfl⟩
  subst ex5
  obtain ⟨hM, hN, hS, hl, hp1, hp⟩ := hI5
  refine lv_aload_nV hx hb dX4_versionAt_5 rfl (lv_at hl 0 rfl) ?_
  refine k_ifnull (tgt := 27) hx hb dX4_versionAt_6 (by decide) (fun c2 => ?_) (fun c2 => ?_)
  · skip
    exact kx_thrW (text := "there is no such version") hF hflag hP hT k_E_IOB wd_k_X4_259 (by decide) hM hN hK hS hl.1 dX4_versionAt_27 dX4_versionAt_30 dX4_versionAt_31 dX4_versionAt_34 dX4_versionAt_37 hnt (by decide) (Nat.le_of_ble_eq_true rfl) (by decide) (by decide) hlk (by decide) (by decide) (⟨rfl, fun q => by
        rw [h7] at q
        obtain ⟨v, hv, rfl⟩ := nt_lt (by omega) q
        exact hp (n - v) (by omega) (by congr 1; omega)⟩)
  · skip
    have ht1 : t1 ≤ n := by omega
    have e3 : k_rf (n < t1) (ad 3 (sp_back mm t1 (sp_L mm w))) = .ref (ad 3 (sp_back mm t1 (sp_L mm w))) := if_neg c2
    rw [e3] at hl
    obtain ⟨hbk, hbnum, hbn⟩ := hI.back (hI.LK hw) hn hn31 t1 ht1
    refine lv_aload_n hx hb dX4_versionAt_9 rfl (lv_at hl 0 rfl) ?_
    refine g_get (C := RX2) (T := TX2) (N := 4) (v := .int (mm 21 (sp_back mm t1 (sp_L mm w)))) hF hK (hM 3 (sp_back mm t1 (sp_L mm w)) _ (kc_v (by assumption))) rfl inlX2 2 (by decide) rfl wd_f_X4_276 rfl dX4_versionAt_10 ?_
    refine bo_to (v := (nI (n - t1))) (hbnum) ?_
    refine lv_iload_n hx hb dX4_versionAt_13 rfl (lv_at hl 2 rfl) ?_
    refine lv_icmp_ne (tgt := 19) hx hb dX4_versionAt_14 (by decide) (fun c4 => ?_) (fun c4 => ?_)
    · skip
      refine lv_aload_n hx hb dX4_versionAt_19 rfl (lv_at hl 0 rfl) ?_
      refine g_get (C := RX2) (T := TX2) (N := 4) (v := k_rf (mm 12 (sp_back mm t1 (sp_L mm w)) = -1) (ad 3 (sp_A mm (sp_back mm t1 (sp_L mm w))))) hF hK (hM 3 (sp_back mm t1 (sp_L mm w)) _ (kc_v (by assumption))) rfl inlX2 3 (by decide) rfl wd_f_X4_137 rfl dX4_versionAt_20 ?_
      refine bo_toV (v := k_rf (n < t1 + 1) (ad 3 (sp_back mm (t1 + 1) (sp_L mm w)))) (kb_step hI hw hn hn31 ht1) ?_
      refine lv_astore_nV (lv' := [(2, k_rf (n < t1 + 1) (ad 3 (sp_back mm (t1 + 1) (sp_L mm w)))), (0, .ref (ad 1 w)), (1, .int y)]) hx hb dX4_versionAt_23 rfl hl (by decide) rfl (fun ls hl => ?_)
      refine lv_goto (tgt := 5) hx hb dX4_versionAt_24 (by decide) ?_
      exact ih5 (t1 + 1) _ _ _ (by show n + 1 - (t1 + 1) < n + 1 - t1; omega) ⟨hM, hN, hS, lv_sub hl [0, 1, 2] rfl, by omega, fun s1 hs1 => by
        rcases Nat.lt_or_ge s1 t1 with q | q
        · exact hp s1 q
        · have e5 : s1 = t1 := by omega
          subst e5; exact c4⟩
    · skip
      refine lv_aload_n hx hb dX4_versionAt_17 rfl (lv_at hl 0 rfl) ?_
      exact kx_qret (o := (some (ad 3 (sp_back mm t1 (sp_L mm w))))) hx hb hr hlk hM hN hK hS (by decide) (by decide) (by subst c4; exact ⟨⟨bo_lt (nI_pos (by omega)), by rw [h7]; exact nI_lt (by omega) (by omega)⟩, by rw [at_of (by omega) h7 (by omega) (by omega)]; congr 3; omega, rfl⟩) dX4_versionAt_18
theorem ke_X4_tileIndex : wl_S yX4_tileIndex cX4_tileIndex 4 (some .int) 3 := ⟨wd_c_X4_tileIndex, wd_t_X4_tileIndex, wd_n_X4, by decide, by decide +kernel⟩
set_option maxHeartbeats 4000000 in
set_option maxRecDepth 100000 in
theorem m_X4_tileIndex (l : Launch) (hflag : l.stackTraces = false) (G : k_G) (Z : Nat → Prop) (ad : k_Ad) (ct : k_Ct) (z x y : Int32)  : kx_i l yX4_tileIndex cX4_tileIndex 4 (some .int) 7 110 2 12 G Z ad ct [.int z, .int x, .int y] (fun r u => sp_tl z x y ∧ r = nI (sp_t z x y) ∧ u = (ad, ct)) (fun E => E = k_IOB ∧ ¬ sp_tl z x y) := by
  refine kx_of (by decide) (Nat.le_of_ble_eq_true rfl) ?_
  intro p e s m args below meth c hx hb hr hF hlk hnt hB ls hl
  obtain ⟨⟨hM, hN⟩, hK, hP, hT⟩ := hB
  have hS : va_S Z s.heap s.heap [] := va_S.rf
  have hl : lv_has ls 4 [(0, .int z), (1, .int x), (2, .int y)] := hl
  refine lv_iload_n hx hb dX4_tileIndex_0 rfl (lv_at hl 0 rfl) ?_
  refine kx_vS (fr := 6) (lo := 90) (mc1 := 1) (ms1 := 6) (As := [.int z]) (rest := []) hF (m_X4_requireZoom l hflag G Z ad ct z) ke_X4_requireZoom wd_l_X4_197 (by decide) hM hN hK hP hT hS rfl hl.1 rfl (Nat.le_of_ble_eq_true rfl) dX4_tileIndex_1 (by decide) hnt hlk (fun E hE => ⟨⟨hE.1, fun q => hE.2 q.1⟩, rfl, rfl⟩) (by decide) (by decide) (fun ur1 H locs hr1 hM hN hS _ _ => ?_)
  obtain ⟨cZ, rfl⟩ := hr1
  replace hM : k_H G ad ct H := hM
  replace hN : k_N Z ad ct := hN
  obtain ⟨zi, hz, hze⟩ := nt_zm cZ
  subst hze
  have hp16 := pw_le zi hz
  refine lv_iload_n hx hb dX4_tileIndex_4 rfl (lv_at hl 0 rfl) ?_
  refine rc_S (fr := 0) (lo := 0) (As := [.int (nI zi)]) (rest := []) hF (m_X4_tilesAcross l (nI zi)) ke_X4_tilesAcross wd_l_X4_203 (by decide) bl_true (fun _ _ _ => trivial) rfl hl.1 rfl (Nat.le_of_ble_eq_true rfl) dX4_tileIndex_5 (by decide) (fun r2 hr2 => ?_)
  replace hr2 : r2 = sp_mn (nI zi) := hr2
  subst hr2
  refine bo_to (v := (nI (2 ^ zi))) (sp_mn_nI zi hz) ?_
  refine lv_istore_n (lv' := [(3, .int (nI (2 ^ zi))), (0, .int (nI zi)), (1, .int x), (2, .int y)]) hx hb dX4_tileIndex_8 rfl hl (by decide) rfl (fun ls hl => ?_)
  refine lv_iload_n hx hb dX4_tileIndex_9 rfl (lv_at hl 2 rfl) ?_
  refine lv_iconst (v := 0) hx hb dX4_tileIndex_10 (by decide) ?_
  refine lv_iload_n hx hb dX4_tileIndex_11 rfl (lv_at hl 0 rfl) ?_
  refine lv_iconst (v := 1) hx hb dX4_tileIndex_12 (by decide) ?_
  refine lv_isub hx hb dX4_tileIndex_13 ?_
  refine rc_S (fr := 0) (lo := 0) (As := [.int x, .int 0, .int ((nI (2 ^ zi)) - 1)]) (rest := []) hF (m_X4_isIn l x 0 ((nI (2 ^ zi)) - 1)) ke_X4_isIn wd_l_X4_50 (by decide) bl_true (fun _ _ _ => trivial) rfl hl.1 rfl (Nat.le_of_ble_eq_true rfl) dX4_tileIndex_14 (by decide) (fun r3 hr3 => ?_)
  refine bo_eq (tgt := 31) hr3 hx hb dX4_tileIndex_17 (by decide) (fun c1 => ?_) (fun c1 => ?_)
  · skip
    exact kx_thrW (text := "there is no such tile") hF hflag hP hT k_E_IOB wd_k_X4_259 (by decide) hM hN hK hS hl.1 dX4_tileIndex_31 dX4_tileIndex_34 dX4_tileIndex_35 dX4_tileIndex_38 dX4_tileIndex_41 hnt (by decide) (Nat.le_of_ble_eq_true rfl) (by decide) (by decide) hlk (by decide) (by decide) (⟨rfl, fun q => by first | exact c1 (by have q2 := q.2.1; rw [sp_mn_nI zi hz] at q2; exact q2) | exact c2 (by have q2 := q.2.2; rw [sp_mn_nI zi hz] at q2; exact q2)⟩)
  · skip
    refine lv_iload_n hx hb dX4_tileIndex_20 rfl (lv_at hl 3 rfl) ?_
    refine lv_iconst (v := 0) hx hb dX4_tileIndex_21 (by decide) ?_
    refine lv_iload_n hx hb dX4_tileIndex_22 rfl (lv_at hl 0 rfl) ?_
    refine lv_iconst (v := 1) hx hb dX4_tileIndex_23 (by decide) ?_
    refine lv_isub hx hb dX4_tileIndex_24 ?_
    refine rc_S (fr := 0) (lo := 0) (As := [.int y, .int 0, .int ((nI (2 ^ zi)) - 1)]) (rest := []) hF (m_X4_isIn l y 0 ((nI (2 ^ zi)) - 1)) ke_X4_isIn wd_l_X4_50 (by decide) bl_true (fun _ _ _ => trivial) rfl hl.1 rfl (Nat.le_of_ble_eq_true rfl) dX4_tileIndex_25 (by decide) (fun r4 hr4 => ?_)
    refine bo_ne (tgt := 42) hr4 hx hb dX4_tileIndex_28 (by decide) (fun c2 => ?_) (fun c2 => ?_)
    · skip
      have cT : sp_tl (nI zi) x y := ⟨cZ, by rw [sp_mn_nI zi hz]; exact c1, by rw [sp_mn_nI zi hz]; exact c2⟩
      obtain ⟨xi, hxi, hxe⟩ := nt_pm hz cT.2.1
      obtain ⟨yi, hyi, hye⟩ := nt_pm hz cT.2.2
      subst hxe
      subst hye
      refine va_gets hF.1 hF.2.1 hT.2.2.1.1 hS hF.2.2.2.1 (hF.2.2.2.2 _ wd_f_X4_200) (fun x h => h) dX4_tileIndex_42 ?_
      refine lv_iload_n hx hb dX4_tileIndex_45 rfl (lv_at hl 1 rfl) ?_
      refine g_ald (t0 := 0) (i := zi) hF hK (hT.2.2.1.2.1.kept (hS.2.1 _ hT.2.2.1.2.1.lt hT.2.2.1.2.2)) rfl rfl hz (by decide) dX4_tileIndex_46 ?_
      refine bo_to (v := (nI (tb_z zi))) rfl ?_
      refine lv_iload_n hx hb dX4_tileIndex_47 rfl (lv_at hl 3 rfl) ?_
      refine lv_iload_n hx hb dX4_tileIndex_48 rfl (lv_at hl 0 rfl) ?_
      refine lv_imul hx hb dX4_tileIndex_49 ?_
      refine lv_iadd hx hb dX4_tileIndex_50 ?_
      refine lv_iload_n hx hb dX4_tileIndex_51 rfl (lv_at hl 2 rfl) ?_
      refine lv_iadd hx hb dX4_tileIndex_52 ?_
      refine bo_to (v := (nI (tb_i zi xi yi))) (tix) ?_
      exact kx_iret hx hb hr hlk hM hN hK hS (by decide) (by decide) (⟨cT, by rw [sp_t, nt_c (by omega), nt_c (by omega), nt_c (by omega)], rfl⟩) dX4_tileIndex_53
    · skip
      exact kx_thrW (text := "there is no such tile") hF hflag hP hT k_E_IOB wd_k_X4_259 (by decide) hM hN hK hS hl.1 dX4_tileIndex_31 dX4_tileIndex_34 dX4_tileIndex_35 dX4_tileIndex_38 dX4_tileIndex_41 hnt (by decide) (Nat.le_of_ble_eq_true rfl) (by decide) (by decide) hlk (by decide) (by decide) (⟨rfl, fun q => by first | exact c1 (by have q2 := q.2.1; rw [sp_mn_nI zi hz] at q2; exact q2) | exact c2 (by have q2 := q.2.2; rw [sp_mn_nI zi hz] at q2; exact q2)⟩)
theorem ke_X4_drawnTile : wl_V RX4 yX4_drawnTile cX4_drawnTile 5 (some (.object "SignTiles$Tile")) 3 := ⟨wd_c_X4_drawnTile, wd_i_X4_drawnTile, wd_s_X4_drawnTile, wd_n_X4, by decide, by decide +kernel⟩
set_option maxHeartbeats 4000000 in
set_option maxRecDepth 100000 in
theorem m_X4_drawnTile (l : Launch) (hflag : l.stackTraces = false) (G : k_G) (Z : Nat → Prop) (ad : k_Ad) (mm : q_Mem) (z x y : Int32)  : kx_q l yX4_drawnTile cX4_drawnTile 5 (some (.object "SignTiles$Tile")) 8 133 3 18 G Z ad (k_C G ad mm) [.ref (ad 0 0), .int z, .int x, .int y] (fun o u => sp_tl z x y ∧ ¬ mm 13 (sp_t z x y) = 0 ∧ o = some (ad 6 (sp_t z x y)) ∧ u = (ad, k_C G ad mm)) (fun E => (E = k_IOB ∧ ¬ sp_tl z x y) ∨ (E = k_ISE ∧ sp_tl z x y ∧ mm 13 (sp_t z x y) = 0)) := by
  refine kx_of (by decide) (Nat.le_of_ble_eq_true rfl) ?_
  intro p e s m args below meth c hx hb hr hF hlk hnt hB ls hl
  obtain ⟨⟨hM, hN⟩, hK, hP, hT⟩ := hB
  have hS : va_S Z s.heap s.heap [] := va_S.rf
  have hl : lv_has ls 5 [(0, .ref (ad 0 0)), (1, .int z), (2, .int x), (3, .int y)] := hl
  refine lv_aload_n hx hb dX4_drawnTile_0 rfl (lv_at hl 0 rfl) ?_
  refine g_get (C := RX4) (T := TX4) (N := 6) (v := .ref (ad 0 5)) hF hK (hM 0 0 _ rfl) rfl inlX4 4 (by decide) rfl wd_f_X4_28 rfl dX4_drawnTile_1 ?_
  refine lv_iload_n hx hb dX4_drawnTile_4 rfl (lv_at hl 1 rfl) ?_
  refine lv_iload_n hx hb dX4_drawnTile_5 rfl (lv_at hl 2 rfl) ?_
  refine lv_iload_n hx hb dX4_drawnTile_6 rfl (lv_at hl 3 rfl) ?_
  refine kx_iS (fr := 7) (lo := 110) (mc1 := 2) (ms1 := 12) (As := [.int z, .int x, .int y]) (rest := [.ref (ad 0 5)]) hF (m_X4_tileIndex l hflag G Z ad (k_C G ad mm) z x y) ke_X4_tileIndex wd_l_X4_168 (by decide) hM hN hK hP hT hS rfl hl.1 rfl (Nat.le_of_ble_eq_true rfl) dX4_drawnTile_7 (by decide) hnt hlk (fun E hE => ⟨Or.inl ⟨hE.1, hE.2⟩, rfl, rfl⟩) (by decide) (by decide) (fun r1 ur1 H locs hr1 hM hN hS _ _ => ?_)
  obtain ⟨cT, hro, rfl⟩ := hr1
  subst hro
  replace hM : k_H G ad (k_C G ad mm) H := hM
  replace hN : k_N Z ad (k_C G ad mm) := hN
  obtain ⟨tz, tx, ty, ht⟩ := tl_back cT
  refine g_aldq (t0 := 1) (i := sp_t z x y) hF hK (hM 0 5 _ rfl) rfl rfl ht (by decide) dX4_drawnTile_10 ?_
  refine bo_toV (v := k_rf (mm 13 (sp_t z x y) = 0) (ad 6 (sp_t z x y))) (k_rf_tr _ _ _) ?_
  refine k_split (fun c1 => ?_) (fun c1 => ?_)
  · skip
    refine lv_astoreN (lv' := [(4, .null), (0, .ref (ad 0 0)), (1, .int z), (2, .int x), (3, .int y)]) hx hb dX4_drawnTile_11 hl (by decide) rfl (fun ls hl => ?_)
    refine lv_aloadN hx hb dX4_drawnTile_13 (lv_at hl 0 rfl) ?_
    refine lv_ifnonnullN hx hb dX4_drawnTile_15 ?_
    exact kx_thrW (text := "the tile was not drawn") hF hflag hP hT k_E_ISE wd_k_X4_73 (by decide) hM hN hK hS hl.1 dX4_drawnTile_18 dX4_drawnTile_21 dX4_drawnTile_22 dX4_drawnTile_25 dX4_drawnTile_28 hnt (by decide) (Nat.le_of_ble_eq_true rfl) (by decide) (by decide) hlk (by decide) (by decide) (Or.inr ⟨rfl, cT, c1⟩)
  · skip
    refine lv_astore (lv' := [(4, .ref (ad 6 (sp_t z x y))), (0, .ref (ad 0 0)), (1, .int z), (2, .int x), (3, .int y)]) hx hb dX4_drawnTile_11 hl (by decide) rfl (fun ls hl => ?_)
    refine lv_aload hx hb dX4_drawnTile_13 (lv_at hl 0 rfl) ?_
    refine lv_ifnonnull (tgt := 29) hx hb dX4_drawnTile_15 (by decide) ?_
    refine lv_aload hx hb dX4_drawnTile_29 (lv_at hl 0 rfl) ?_
    exact kx_qret (o := (some (ad 6 (sp_t z x y)))) hx hb hr hlk hM hN hK hS (by decide) (by decide) (⟨cT, c1, rfl, rfl⟩) dX4_drawnTile_31
theorem ke_X4_versions : wl_V RX4 yX4_versions cX4_versions 2 (some .int) 1 := ⟨wd_c_X4_versions, wd_i_X4_versions, wd_s_X4_versions, wd_n_X4, by decide, by decide +kernel⟩
set_option maxHeartbeats 4000000 in
set_option maxRecDepth 100000 in
theorem m_X4_versions (l : Launch) (hflag : l.stackTraces = false) (G : k_G) (Z : Nat → Prop) (ad : k_Ad) (mm : q_Mem) (x : Int32) (hI : Inv mm) : kx_i l yX4_versions cX4_versions 2 (some .int) 7 111 1 6 G Z ad (k_C G ad mm) [.ref (ad 0 0), .int x] (k_po G (sp_ofway 7 mm x)) (k_px k_n3 (sp_ofway 7 mm x) mm) := by
  refine kx_of (by decide) (Nat.le_of_ble_eq_true rfl) ?_
  intro p e s m args below meth c hx hb hr hF hlk hnt hB ls hl
  obtain ⟨⟨hM, hN⟩, hK, hP, hT⟩ := hB
  have hS : va_S Z s.heap s.heap [] := va_S.rf
  have hl : lv_has ls 2 [(0, .ref (ad 0 0)), (1, .int x)] := hl
  refine lv_aload_n hx hb dX4_versions_0 rfl (lv_at hl 0 rfl) ?_
  refine lv_iload_n hx hb dX4_versions_1 rfl (lv_at hl 1 rfl) ?_
  refine kx_qV (fr := 6) (lo := 90) (mc1 := 1) (ms1 := 6) (As := [.int x]) (rest := []) hF (m_X4_wayAt l hflag G Z ad mm x hI) ke_X4_wayAt wd_l_X4_96 (by decide) hM hN hK hP hT hS (g_recv hK (hM 0 0 _ rfl) rfl) rfl hl.1 rfl (Nat.le_of_ble_eq_true rfl) dX4_versions_2 (by decide) hnt hlk (fun E hE => ⟨⟨1, by decide, by rw [sp_ofway, if_neg hE.2], hE.1⟩, rfl, rfl⟩) (by decide) (by decide) (fun r1 ur1 H locs hr1 hM hN hS _ _ => ?_)
  obtain ⟨cW, hro, rfl⟩ := hr1
  replace hM : k_H G ad (k_C G ad mm) H := hM
  replace hN : k_N Z ad (k_C G ad mm) := hN
  obtain ⟨wi, hwi, hwe⟩ := nt_wy hI cW
  have hW40 := hI.W40
  have hKK := hI.K512
  subst hwe
  have hwc : (nI wi).toNatClampNeg = wi := nt_c (by omega)
  rw [hwc] at hro
  subst hro
  refine bo_toV (v := .ref (ad 1 wi)) rfl ?_
  refine kr_V (fr := 0) (lo := 0) (As := []) (rest := []) hF (m_X3_versionCount l G Z ad mm wi hI hwi) ke_X3_versionCount wd_l_X4_155 (by decide) hM hK hP hT hS (g_recv hK (hM 1 wi _ (kc_w (by assumption))) rfl) rfl hl.1 rfl (Nat.le_of_ble_eq_true rfl) dX4_versions_5 (by decide) (fun r2 hr2 => ?_)
  replace hr2 : r2 = mm 7 wi := hr2
  subst hr2
  exact kx_iret hx hb hr hlk hM hN hK hS (by decide) (by decide) (k_po.of19 (by rw [sp_ofway, if_pos cW, hwc])) dX4_versions_8
theorem ke_X4_sightings : wl_V RX4 yX4_sightings cX4_sightings 2 (some .int) 1 := ⟨wd_c_X4_sightings, wd_i_X4_sightings, wd_s_X4_sightings, wd_n_X4, by decide, by decide +kernel⟩
set_option maxHeartbeats 4000000 in
set_option maxRecDepth 100000 in
theorem m_X4_sightings (l : Launch) (hflag : l.stackTraces = false) (G : k_G) (Z : Nat → Prop) (ad : k_Ad) (mm : q_Mem) (x : Int32) (hI : Inv mm) : kx_i l yX4_sightings cX4_sightings 2 (some .int) 7 111 1 6 G Z ad (k_C G ad mm) [.ref (ad 0 0), .int x] (k_po G (sp_sgt mm x)) (k_px k_n3 (sp_sgt mm x) mm) := by
  refine kx_of (by decide) (Nat.le_of_ble_eq_true rfl) ?_
  intro p e s m args below meth c hx hb hr hF hlk hnt hB ls hl
  obtain ⟨⟨hM, hN⟩, hK, hP, hT⟩ := hB
  have hS : va_S Z s.heap s.heap [] := va_S.rf
  have hl : lv_has ls 2 [(0, .ref (ad 0 0)), (1, .int x)] := hl
  refine lv_aload_n hx hb dX4_sightings_0 rfl (lv_at hl 0 rfl) ?_
  refine lv_iload_n hx hb dX4_sightings_1 rfl (lv_at hl 1 rfl) ?_
  refine kx_qV (fr := 6) (lo := 90) (mc1 := 1) (ms1 := 6) (As := [.int x]) (rest := []) hF (m_X4_wayAt l hflag G Z ad mm x hI) ke_X4_wayAt wd_l_X4_96 (by decide) hM hN hK hP hT hS (g_recv hK (hM 0 0 _ rfl) rfl) rfl hl.1 rfl (Nat.le_of_ble_eq_true rfl) dX4_sightings_2 (by decide) hnt hlk (fun E hE => ⟨⟨1, by decide, by rw [sp_sgt, if_neg hE.2], hE.1⟩, rfl, rfl⟩) (by decide) (by decide) (fun r1 ur1 H locs hr1 hM hN hS _ _ => ?_)
  obtain ⟨cW, hro, rfl⟩ := hr1
  replace hM : k_H G ad (k_C G ad mm) H := hM
  replace hN : k_N Z ad (k_C G ad mm) := hN
  obtain ⟨wi, hwi, hwe⟩ := nt_wy hI cW
  have hW40 := hI.W40
  have hKK := hI.K512
  subst hwe
  have hwc : (nI wi).toNatClampNeg = wi := nt_c (by omega)
  rw [hwc] at hro
  subst hro
  refine bo_toV (v := .ref (ad 1 wi)) rfl ?_
  refine kr_V (fr := 0) (lo := 0) (As := []) (rest := []) hF (m_X3_countSightings l G Z ad mm wi hI hwi) ke_X3_countSightings wd_l_X4_230 (by decide) hM hK hP hT hS (g_recv hK (hM 1 wi _ (kc_w (by assumption))) rfl) rfl hl.1 rfl (Nat.le_of_ble_eq_true rfl) dX4_sightings_5 (by decide) (fun r2 hr2 => ?_)
  replace hr2 : r2 = sp_dc mm wi := hr2
  subst hr2
  exact kx_iret hx hb hr hlk hM hN hK hS (by decide) (by decide) (k_po.of19 (by rw [sp_sgt, if_pos cW, hwc])) dX4_sightings_8
theorem ke_X4_dear : wl_V RX4 yX4_dear cX4_dear 2 (some .int) 1 := ⟨wd_c_X4_dear, wd_i_X4_dear, wd_s_X4_dear, wd_n_X4, by decide, by decide +kernel⟩
set_option maxHeartbeats 4000000 in
set_option maxRecDepth 100000 in
theorem m_X4_dear (l : Launch) (hflag : l.stackTraces = false) (G : k_G) (Z : Nat → Prop) (ad : k_Ad) (mm : q_Mem) (x : Int32) (hI : Inv mm) : kx_i l yX4_dear cX4_dear 2 (some .int) 7 111 1 6 G Z ad (k_C G ad mm) [.ref (ad 0 0), .int x] (k_po G (sp_dear mm x)) (k_px k_n3 (sp_dear mm x) mm) := by
  refine kx_of (by decide) (Nat.le_of_ble_eq_true rfl) ?_
  intro p e s m args below meth c hx hb hr hF hlk hnt hB ls hl
  obtain ⟨⟨hM, hN⟩, hK, hP, hT⟩ := hB
  have hS : va_S Z s.heap s.heap [] := va_S.rf
  have hl : lv_has ls 2 [(0, .ref (ad 0 0)), (1, .int x)] := hl
  refine lv_aload_n hx hb dX4_dear_0 rfl (lv_at hl 0 rfl) ?_
  refine lv_iload_n hx hb dX4_dear_1 rfl (lv_at hl 1 rfl) ?_
  refine kx_qV (fr := 6) (lo := 90) (mc1 := 1) (ms1 := 6) (As := [.int x]) (rest := []) hF (m_X4_wayAt l hflag G Z ad mm x hI) ke_X4_wayAt wd_l_X4_96 (by decide) hM hN hK hP hT hS (g_recv hK (hM 0 0 _ rfl) rfl) rfl hl.1 rfl (Nat.le_of_ble_eq_true rfl) dX4_dear_2 (by decide) hnt hlk (fun E hE => ⟨⟨1, by decide, by rw [sp_dear, if_neg hE.2], hE.1⟩, rfl, rfl⟩) (by decide) (by decide) (fun r1 ur1 H locs hr1 hM hN hS _ _ => ?_)
  obtain ⟨cW, hro, rfl⟩ := hr1
  replace hM : k_H G ad (k_C G ad mm) H := hM
  replace hN : k_N Z ad (k_C G ad mm) := hN
  obtain ⟨wi, hwi, hwe⟩ := nt_wy hI cW
  have hW40 := hI.W40
  have hKK := hI.K512
  subst hwe
  have hwc : (nI wi).toNatClampNeg = wi := nt_c (by omega)
  rw [hwc] at hro
  subst hro
  refine bo_toV (v := .ref (ad 1 wi)) rfl ?_
  refine kr_V (fr := 1) (lo := 20) (As := []) (rest := []) hF (m_X3_dearness l G Z ad mm wi hI hwi) ke_X3_dearness wd_l_X4_233 (by decide) hM hK hP hT hS (g_recv hK (hM 1 wi _ (kc_w (by assumption))) rfl) rfl hl.1 rfl (Nat.le_of_ble_eq_true rfl) dX4_dear_5 (by decide) (fun r2 hr2 => ?_)
  replace hr2 : r2 = sp_dv mm wi := hr2
  subst hr2
  exact kx_iret hx hb hr hlk hM hN hK hS (by decide) (by decide) (k_po.of19 (by rw [sp_dear, if_pos cW, hwc])) dX4_dear_8
set_option maxHeartbeats 4000000 in
set_option maxRecDepth 100000 in
theorem m_X0_codedQ (l : Launch) (G : k_G) (Z : Nat → Prop) (ad : k_Ad) (mm : q_Mem) (i : Nat) (hI : Inv mm) (hi : i < sp_W mm) (h2 : ¬ mm 9 i = -1) : rc_C l yX0_coded cX0_coded 1 (some .int) 0 0 [.ref (ad 5 i)] (k_R G Z ad mm) (fun r => r = mm 9 i) := by
  refine rc_of (by decide) (Nat.le_of_ble_eq_true rfl) ?_
  intro p e s m args below meth c hx hb hr hF hlk hB ls hl
  obtain ⟨hM, hK, hP, hT⟩ := hB
  have hS : va_S Z s.heap s.heap [] := va_S.rf
  have hl : lv_has ls 1 [(0, .ref (ad 5 i))] := hl
  have hf : (0 : Nat) ≤ 0 ∧ (0 : Nat) ≤ 0 := ⟨Nat.le_refl 0, Nat.le_refl 0⟩
  refine lv_bipush (v := 100) hx hb dX0_coded_0 (by decide) ?_
  refine lv_aload_n hx hb dX0_coded_2 rfl (lv_at hl 0 rfl) ?_
  refine g_get (C := RX0) (T := TX0) (N := 3) (v := .int (mm 9 i / 100)) hF hK (hM 5 i _ (kc_q hi h2)) rfl inlX0 0 (by decide) rfl wd_f_X0_7 rfl dX0_coded_3 ?_
  refine lv_imul hx hb dX0_coded_6 ?_
  refine lv_bipush (v := 10) hx hb dX0_coded_7 (by decide) ?_
  refine lv_aload_n hx hb dX0_coded_9 rfl (lv_at hl 0 rfl) ?_
  refine g_get (C := RX0) (T := TX0) (N := 3) (v := .int (sp_vd (mm 9 i))) hF hK (hM 5 i _ (kc_q hi h2)) rfl inlX0 1 (by decide) rfl wd_f_X0_13 rfl dX0_coded_10 ?_
  refine lv_imul hx hb dX0_coded_13 ?_
  refine lv_iadd hx hb dX0_coded_14 ?_
  refine lv_aload_n hx hb dX0_coded_15 rfl (lv_at hl 0 rfl) ?_
  refine g_get (C := RX0) (T := TX0) (N := 3) (v := .int (sp_ve (mm 9 i))) hF hK (hM 5 i _ (kc_q hi h2)) rfl inlX0 2 (by decide) rfl wd_f_X0_16 rfl dX0_coded_16 ?_
  refine lv_iadd hx hb dX0_coded_19 ?_
  refine lv_iconst (v := 1) hx hb dX0_coded_20 (by decide) ?_
  refine lv_iadd hx hb dX0_coded_21 ?_
  exact rc_iret hx hb hr hlk (co_q (hI.Q hi) h2) dX0_coded_22
theorem ke_X4_waiting : wl_V RX4 yX4_waiting cX4_waiting 3 (some .int) 1 := ⟨wd_c_X4_waiting, wd_i_X4_waiting, wd_s_X4_waiting, wd_n_X4, by decide, by decide +kernel⟩
set_option maxHeartbeats 4000000 in
set_option maxRecDepth 100000 in
theorem m_X4_waiting (l : Launch) (hflag : l.stackTraces = false) (G : k_G) (Z : Nat → Prop) (ad : k_Ad) (mm : q_Mem) (x : Int32) (hI : Inv mm) : kx_i l yX4_waiting cX4_waiting 3 (some .int) 7 111 1 6 G Z ad (k_C G ad mm) [.ref (ad 0 0), .int x] (k_po G (sp_ofway 9 mm x)) (k_px k_n3 (sp_ofway 9 mm x) mm) := by
  refine kx_of (by decide) (Nat.le_of_ble_eq_true rfl) ?_
  intro p e s m args below meth c hx hb hr hF hlk hnt hB ls hl
  obtain ⟨⟨hM, hN⟩, hK, hP, hT⟩ := hB
  have hS : va_S Z s.heap s.heap [] := va_S.rf
  have hl : lv_has ls 3 [(0, .ref (ad 0 0)), (1, .int x)] := hl
  refine lv_aload_n hx hb dX4_waiting_0 rfl (lv_at hl 0 rfl) ?_
  refine lv_iload_n hx hb dX4_waiting_1 rfl (lv_at hl 1 rfl) ?_
  refine kx_qV (fr := 6) (lo := 90) (mc1 := 1) (ms1 := 6) (As := [.int x]) (rest := []) hF (m_X4_wayAt l hflag G Z ad mm x hI) ke_X4_wayAt wd_l_X4_96 (by decide) hM hN hK hP hT hS (g_recv hK (hM 0 0 _ rfl) rfl) rfl hl.1 rfl (Nat.le_of_ble_eq_true rfl) dX4_waiting_2 (by decide) hnt hlk (fun E hE => ⟨⟨1, by decide, by rw [sp_ofway, if_neg hE.2], hE.1⟩, rfl, rfl⟩) (by decide) (by decide) (fun r1 ur1 H locs hr1 hM hN hS _ _ => ?_)
  obtain ⟨cW, hro, rfl⟩ := hr1
  replace hM : k_H G ad (k_C G ad mm) H := hM
  replace hN : k_N Z ad (k_C G ad mm) := hN
  obtain ⟨wi, hwi, hwe⟩ := nt_wy hI cW
  have hW40 := hI.W40
  have hKK := hI.K512
  subst hwe
  have hwc : (nI wi).toNatClampNeg = wi := nt_c (by omega)
  rw [hwc] at hro
  subst hro
  refine bo_toV (v := .ref (ad 1 wi)) rfl ?_
  refine g_get (C := RX3) (T := TX3) (N := 8) (v := k_rf (mm 9 wi = -1) (ad 5 wi)) hF hK (hM 1 wi _ (kc_w (by assumption))) rfl inlX3 6 (by decide) rfl wd_f_X4_116 rfl dX4_waiting_5 ?_
  refine k_split (fun c1 => ?_) (fun c1 => ?_)
  · skip
    refine lv_astore_nN (lv' := [(2, .null), (0, .ref (ad 0 0)), (1, .int (nI wi))]) hx hb dX4_waiting_8 rfl hl (by decide) rfl (fun ls hl => ?_)
    refine lv_aload_nN hx hb dX4_waiting_9 rfl (lv_at hl 0 rfl) ?_
    refine lv_ifnonnullN hx hb dX4_waiting_10 ?_
    refine lv_iconst (v := (-1)) hx hb dX4_waiting_13 (by decide) ?_
    refine lv_goto (tgt := 21) hx hb dX4_waiting_14 (by decide) ?_
    exact kx_iret hx hb hr hlk hM hN hK hS (by decide) (by decide) (k_po.of19 (by first | (rw [sp_ofway, if_pos cW, hwc]; done) | rw [sp_ofway, if_pos cW, hwc, c1])) dX4_waiting_21
  · skip
    refine lv_astore_n (lv' := [(2, .ref (ad 5 wi)), (0, .ref (ad 0 0)), (1, .int (nI wi))]) hx hb dX4_waiting_8 rfl hl (by decide) rfl (fun ls hl => ?_)
    refine lv_aload_n hx hb dX4_waiting_9 rfl (lv_at hl 0 rfl) ?_
    refine lv_ifnonnull (tgt := 17) hx hb dX4_waiting_10 (by decide) ?_
    refine lv_aload_n hx hb dX4_waiting_17 rfl (lv_at hl 0 rfl) ?_
    refine kr_V (fr := 0) (lo := 0) (As := []) (rest := []) hF (m_X0_codedQ l G Z ad mm wi hI hwi c1) ke_X0_coded wd_l_X4_162 (by decide) hM hK hP hT hS (g_recv hK (hM 5 wi _ (kc_q hwi c1)) rfl) rfl hl.1 rfl (Nat.le_of_ble_eq_true rfl) dX4_waiting_18 (by decide) (fun r4 hr4 => ?_)
    replace hr4 : r4 = mm 9 wi := hr4
    subst hr4
    exact kx_iret hx hb hr hlk hM hN hK hS (by decide) (by decide) (k_po.of19 (by first | (rw [sp_ofway, if_pos cW, hwc]; done) | rw [sp_ofway, if_pos cW, hwc, c1])) dX4_waiting_21
theorem ke_X4_version : wl_V RX4 yX4_version cX4_version 3 (some .int) 2 := ⟨wd_c_X4_version, wd_i_X4_version, wd_s_X4_version, wd_n_X4, by decide, by decide +kernel⟩
set_option maxHeartbeats 4000000 in
set_option maxRecDepth 100000 in
theorem m_X4_version (l : Launch) (hflag : l.stackTraces = false) (G : k_G) (Z : Nat → Prop) (ad : k_Ad) (mm : q_Mem) (x y : Int32) (hI : Inv mm) : kx_i l yX4_version cX4_version 3 (some .int) 7 112 2 12 G Z ad (k_C G ad mm) [.ref (ad 0 0), .int x, .int y] (k_po G (sp_ver mm x y)) (k_px k_n3 (sp_ver mm x y) mm) := by
  refine kx_of (by decide) (Nat.le_of_ble_eq_true rfl) ?_
  intro p e s m args below meth c hx hb hr hF hlk hnt hB ls hl
  obtain ⟨⟨hM, hN⟩, hK, hP, hT⟩ := hB
  have hS : va_S Z s.heap s.heap [] := va_S.rf
  have hl : lv_has ls 3 [(0, .ref (ad 0 0)), (1, .int x), (2, .int y)] := hl
  refine lv_aload_n hx hb dX4_version_0 rfl (lv_at hl 0 rfl) ?_
  refine lv_iload_n hx hb dX4_version_1 rfl (lv_at hl 1 rfl) ?_
  refine kx_qV (fr := 6) (lo := 90) (mc1 := 1) (ms1 := 6) (As := [.int x]) (rest := []) hF (m_X4_wayAt l hflag G Z ad mm x hI) ke_X4_wayAt wd_l_X4_96 (by decide) hM hN hK hP hT hS (g_recv hK (hM 0 0 _ rfl) rfl) rfl hl.1 rfl (Nat.le_of_ble_eq_true rfl) dX4_version_2 (by decide) hnt hlk (fun E hE => ⟨⟨1, by decide, by rw [sp_ver, if_neg (fun q => hE.2 q.1)], hE.1⟩, rfl, rfl⟩) (by decide) (by decide) (fun r1 ur1 H locs hr1 hM hN hS _ _ => ?_)
  obtain ⟨cW, hro, rfl⟩ := hr1
  replace hM : k_H G ad (k_C G ad mm) H := hM
  replace hN : k_N Z ad (k_C G ad mm) := hN
  obtain ⟨wi, hwi, hwe⟩ := nt_wy hI cW
  have hW40 := hI.W40
  have hKK := hI.K512
  subst hwe
  have hwc : (nI wi).toNatClampNeg = wi := nt_c (by omega)
  rw [hwc] at hro
  subst hro
  refine bo_toV (v := .ref (ad 1 wi)) rfl ?_
  refine lv_iload_n hx hb dX4_version_5 rfl (lv_at hl 2 rfl) ?_
  refine kx_qS (fr := 6) (lo := 90) (mc1 := 1) (ms1 := 6) (As := [.ref (ad 1 wi), .int y]) (rest := []) hF (m_X4_versionAt l hflag G Z ad mm wi y hI hwi) ke_X4_versionAt wd_l_X4_158 (by decide) hM hN hK hP hT hS rfl hl.1 rfl (Nat.le_of_ble_eq_true rfl) dX4_version_6 (by decide) hnt hlk (fun E hE => ⟨⟨1, by decide, by rw [sp_ver, if_neg (fun q => hE.2 ⟨q.2.1, by have q2 := q.2.2; rw [hwc] at q2; exact q2⟩)], hE.1⟩, rfl, rfl⟩) (by decide) (by decide) (fun r2 ur2 H locs hr2 hM hN hS _ _ => ?_)
  obtain ⟨cV, hro, rfl⟩ := hr2
  subst hro
  replace hM : k_H G ad (k_C G ad mm) H := hM
  replace hN : k_N Z ad (k_C G ad mm) := hN
  have cA : sp_isv mm (nI wi) y := ⟨cW, cV.1, by rw [hwc]; exact cV.2⟩
  obtain ⟨n, hnK, hn21, hn7⟩ := hI.N hwi
  have hjK : sp_at mm (nI wi) y < sp_K mm := by
    rw [hn7] at cV
    obtain ⟨v, hv, rfl⟩ := nt_lt (by omega) cV
    rw [at_of (by omega) hn7 (by omega) (by omega)]
    exact (hI.back (hI.LK hwi) hn21 (by omega) _ (by omega)).1
  refine bo_toV (v := .ref (ad 3 (sp_at mm (nI wi) y))) rfl ?_
  refine g_get (C := RX2) (T := TX2) (N := 4) (v := .ref (ad 4 (sp_at mm (nI wi) y))) hF hK (hM 3 (sp_at mm (nI wi) y) _ (kc_v hjK)) rfl inlX2 0 (by decide) rfl wd_f_X4_144 rfl dX4_version_9 ?_
  refine kr_V (fr := 0) (lo := 0) (As := []) (rest := []) hF (m_X0_coded l G Z ad mm (sp_at mm (nI wi) y) hjK) ke_X0_coded wd_l_X4_162 (by decide) hM hK hP hT hS (g_recv hK (hM 4 (sp_at mm (nI wi) y) _ (kc_c hjK)) rfl) rfl hl.1 rfl (Nat.le_of_ble_eq_true rfl) dX4_version_12 (by decide) (fun r3 hr3 => ?_)
  replace hr3 : r3 = sp_co (sp_vk (mm 11 (sp_at mm (nI wi) y))) (sp_vd (mm 11 (sp_at mm (nI wi) y))) (sp_ve (mm 11 (sp_at mm (nI wi) y))) := hr3
  subst hr3
  exact kx_iret hx hb hr hlk hM hN hK hS (by decide) (by decide) (k_po.of19 (by rw [sp_ver, if_pos cA, co_v (hI.V hjK) hW40])) dX4_version_15
theorem ke_X4_stampOf : wl_V RX4 yX4_stampOf cX4_stampOf 3 (some .int) 2 := ⟨wd_c_X4_stampOf, wd_i_X4_stampOf, wd_s_X4_stampOf, wd_n_X4, by decide, by decide +kernel⟩
set_option maxHeartbeats 4000000 in
set_option maxRecDepth 100000 in
theorem m_X4_stampOf (l : Launch) (hflag : l.stackTraces = false) (G : k_G) (Z : Nat → Prop) (ad : k_Ad) (mm : q_Mem) (x y : Int32) (hI : Inv mm) : kx_i l yX4_stampOf cX4_stampOf 3 (some .int) 7 112 2 12 G Z ad (k_C G ad mm) [.ref (ad 0 0), .int x, .int y] (k_po G (sp_sta mm x y)) (k_px k_n3 (sp_sta mm x y) mm) := by
  refine kx_of (by decide) (Nat.le_of_ble_eq_true rfl) ?_
  intro p e s m args below meth c hx hb hr hF hlk hnt hB ls hl
  obtain ⟨⟨hM, hN⟩, hK, hP, hT⟩ := hB
  have hS : va_S Z s.heap s.heap [] := va_S.rf
  have hl : lv_has ls 3 [(0, .ref (ad 0 0)), (1, .int x), (2, .int y)] := hl
  refine lv_aload_n hx hb dX4_stampOf_0 rfl (lv_at hl 0 rfl) ?_
  refine lv_iload_n hx hb dX4_stampOf_1 rfl (lv_at hl 1 rfl) ?_
  refine kx_qV (fr := 6) (lo := 90) (mc1 := 1) (ms1 := 6) (As := [.int x]) (rest := []) hF (m_X4_wayAt l hflag G Z ad mm x hI) ke_X4_wayAt wd_l_X4_96 (by decide) hM hN hK hP hT hS (g_recv hK (hM 0 0 _ rfl) rfl) rfl hl.1 rfl (Nat.le_of_ble_eq_true rfl) dX4_stampOf_2 (by decide) hnt hlk (fun E hE => ⟨⟨1, by decide, by rw [sp_sta, if_neg (fun q => hE.2 q.1)], hE.1⟩, rfl, rfl⟩) (by decide) (by decide) (fun r1 ur1 H locs hr1 hM hN hS _ _ => ?_)
  obtain ⟨cW, hro, rfl⟩ := hr1
  replace hM : k_H G ad (k_C G ad mm) H := hM
  replace hN : k_N Z ad (k_C G ad mm) := hN
  obtain ⟨wi, hwi, hwe⟩ := nt_wy hI cW
  have hW40 := hI.W40
  have hKK := hI.K512
  subst hwe
  have hwc : (nI wi).toNatClampNeg = wi := nt_c (by omega)
  rw [hwc] at hro
  subst hro
  refine bo_toV (v := .ref (ad 1 wi)) rfl ?_
  refine lv_iload_n hx hb dX4_stampOf_5 rfl (lv_at hl 2 rfl) ?_
  refine kx_qS (fr := 6) (lo := 90) (mc1 := 1) (ms1 := 6) (As := [.ref (ad 1 wi), .int y]) (rest := []) hF (m_X4_versionAt l hflag G Z ad mm wi y hI hwi) ke_X4_versionAt wd_l_X4_158 (by decide) hM hN hK hP hT hS rfl hl.1 rfl (Nat.le_of_ble_eq_true rfl) dX4_stampOf_6 (by decide) hnt hlk (fun E hE => ⟨⟨1, by decide, by rw [sp_sta, if_neg (fun q => hE.2 ⟨q.2.1, by have q2 := q.2.2; rw [hwc] at q2; exact q2⟩)], hE.1⟩, rfl, rfl⟩) (by decide) (by decide) (fun r2 ur2 H locs hr2 hM hN hS _ _ => ?_)
  obtain ⟨cV, hro, rfl⟩ := hr2
  subst hro
  replace hM : k_H G ad (k_C G ad mm) H := hM
  replace hN : k_N Z ad (k_C G ad mm) := hN
  have cA : sp_isv mm (nI wi) y := ⟨cW, cV.1, by rw [hwc]; exact cV.2⟩
  obtain ⟨n, hnK, hn21, hn7⟩ := hI.N hwi
  have hjK : sp_at mm (nI wi) y < sp_K mm := by
    rw [hn7] at cV
    obtain ⟨v, hv, rfl⟩ := nt_lt (by omega) cV
    rw [at_of (by omega) hn7 (by omega) (by omega)]
    exact (hI.back (hI.LK hwi) hn21 (by omega) _ (by omega)).1
  refine bo_toV (v := .ref (ad 3 (sp_at mm (nI wi) y))) rfl ?_
  refine g_get (C := RX2) (T := TX2) (N := 4) (v := .int (nI (sp_at mm (nI wi) y + 1))) hF hK (hM 3 (sp_at mm (nI wi) y) _ (kc_v hjK)) rfl inlX2 1 (by decide) rfl wd_f_X4_165 rfl dX4_stampOf_9 ?_
  exact kx_iret hx hb hr hlk hM hN hK hS (by decide) (by decide) (k_po.of19 (by rw [sp_sta, if_pos cA, nI_1])) dX4_stampOf_12
theorem ke_X4_picture : wl_V RX4 yX4_picture cX4_picture 4 (some .int) 3 := ⟨wd_c_X4_picture, wd_i_X4_picture, wd_s_X4_picture, wd_n_X4, by decide, by decide +kernel⟩
set_option maxHeartbeats 4000000 in
set_option maxRecDepth 100000 in
theorem m_X4_picture (l : Launch) (hflag : l.stackTraces = false) (G : k_G) (Z : Nat → Prop) (ad : k_Ad) (mm : q_Mem) (z x y : Int32)  : kx_i l yX4_picture cX4_picture 4 (some .int) 9 157 3 18 G Z ad (k_C G ad mm) [.ref (ad 0 0), .int z, .int x, .int y] (k_po G (sp_ptr mm z x y)) (k_px k_n2 (sp_ptr mm z x y) mm) := by
  refine kx_of (by decide) (Nat.le_of_ble_eq_true rfl) ?_
  intro p e s m args below meth c hx hb hr hF hlk hnt hB ls hl
  obtain ⟨⟨hM, hN⟩, hK, hP, hT⟩ := hB
  have hS : va_S Z s.heap s.heap [] := va_S.rf
  have hl : lv_has ls 4 [(0, .ref (ad 0 0)), (1, .int z), (2, .int x), (3, .int y)] := hl
  refine lv_aload_n hx hb dX4_picture_0 rfl (lv_at hl 0 rfl) ?_
  refine lv_iload_n hx hb dX4_picture_1 rfl (lv_at hl 1 rfl) ?_
  refine lv_iload_n hx hb dX4_picture_2 rfl (lv_at hl 2 rfl) ?_
  refine lv_iload_n hx hb dX4_picture_3 rfl (lv_at hl 3 rfl) ?_
  refine kx_qV (fr := 8) (lo := 133) (mc1 := 3) (ms1 := 18) (As := [.int z, .int x, .int y]) (rest := []) hF (m_X4_drawnTile l hflag G Z ad mm z x y) ke_X4_drawnTile wd_l_X4_181 (by decide) hM hN hK hP hT hS (g_recv hK (hM 0 0 _ rfl) rfl) rfl hl.1 rfl (Nat.le_of_ble_eq_true rfl) dX4_picture_4 (by decide) hnt hlk (fun E hE => hE.elim (fun hE => ⟨⟨1, by decide, by rw [sp_ptr, if_neg hE.2], hE.1⟩, rfl, rfl⟩) (fun hE => ⟨⟨2, by decide, by rw [sp_ptr, if_pos hE.2.1, if_pos hE.2.2], hE.1⟩, rfl, rfl⟩)) (by decide) (by decide) (fun r1 ur1 H locs hr1 hM hN hS _ _ => ?_)
  obtain ⟨cT, c0, hro, rfl⟩ := hr1
  subst hro
  replace hM : k_H G ad (k_C G ad mm) H := hM
  replace hN : k_N Z ad (k_C G ad mm) := hN
  obtain ⟨tz, tx, ty, ht⟩ := tl_back cT
  refine bo_toV (v := .ref (ad 6 (sp_t z x y))) rfl ?_
  refine g_get (C := RX1) (T := TX1) (N := 7) (v := .int (mm 14 (sp_t z x y))) hF hK (hM 6 (sp_t z x y) _ (kc_t ht c0)) rfl inlX1 6 (by decide) rfl wd_f_X4_185 rfl dX4_picture_7 ?_
  exact kx_iret hx hb hr hlk hM hN hK hS (by decide) (by decide) (k_po.of19 (by rw [sp_ptr, if_pos cT, if_neg c0])) dX4_picture_10
theorem ke_X4_pictureAnew : wl_V RX4 yX4_pictureAnew cX4_pictureAnew 5 (some .int) 3 := ⟨wd_c_X4_pictureAnew, wd_i_X4_pictureAnew, wd_s_X4_pictureAnew, wd_n_X4, by decide, by decide +kernel⟩
set_option maxHeartbeats 4000000 in
set_option maxRecDepth 100000 in
theorem m_X4_pictureAnew (l : Launch) (hflag : l.stackTraces = false) (G : k_G) (Z : Nat → Prop) (ad : k_Ad) (mm : q_Mem) (z x y : Int32) (hI : Inv mm) : kx_i l yX4_pictureAnew cX4_pictureAnew 5 (some .int) 9 157 3 18 G Z ad (k_C G ad mm) [.ref (ad 0 0), .int z, .int x, .int y] (k_po G (sp_anew mm z x y)) (k_px k_n2 (sp_anew mm z x y) mm) := by
  refine kx_of (by decide) (Nat.le_of_ble_eq_true rfl) ?_
  intro p e s m args below meth c hx hb hr hF hlk hnt hB ls hl
  obtain ⟨⟨hM, hN⟩, hK, hP, hT⟩ := hB
  have hS : va_S Z s.heap s.heap [] := va_S.rf
  have hl : lv_has ls 5 [(0, .ref (ad 0 0)), (1, .int z), (2, .int x), (3, .int y)] := hl
  refine lv_aload_n hx hb dX4_pictureAnew_0 rfl (lv_at hl 0 rfl) ?_
  refine lv_iload_n hx hb dX4_pictureAnew_1 rfl (lv_at hl 1 rfl) ?_
  refine lv_iload_n hx hb dX4_pictureAnew_2 rfl (lv_at hl 2 rfl) ?_
  refine lv_iload_n hx hb dX4_pictureAnew_3 rfl (lv_at hl 3 rfl) ?_
  refine kx_qV (fr := 8) (lo := 133) (mc1 := 3) (ms1 := 18) (As := [.int z, .int x, .int y]) (rest := []) hF (m_X4_drawnTile l hflag G Z ad mm z x y) ke_X4_drawnTile wd_l_X4_181 (by decide) hM hN hK hP hT hS (g_recv hK (hM 0 0 _ rfl) rfl) rfl hl.1 rfl (Nat.le_of_ble_eq_true rfl) dX4_pictureAnew_4 (by decide) hnt hlk (fun E hE => hE.elim (fun hE => ⟨⟨1, by decide, by rw [sp_anew, if_neg hE.2], hE.1⟩, rfl, rfl⟩) (fun hE => ⟨⟨2, by decide, by rw [sp_anew, if_pos hE.2.1, if_pos hE.2.2], hE.1⟩, rfl, rfl⟩)) (by decide) (by decide) (fun r1 ur1 H locs hr1 hM hN hS _ _ => ?_)
  obtain ⟨cT, c0, hro, rfl⟩ := hr1
  subst hro
  replace hM : k_H G ad (k_C G ad mm) H := hM
  replace hN : k_N Z ad (k_C G ad mm) := hN
  obtain ⟨tz, tx, ty, ht⟩ := tl_back cT
  refine bo_toV (v := .ref (ad 6 (sp_t z x y))) rfl ?_
  refine lv_astore (lv' := [(4, .ref (ad 6 (sp_t z x y))), (0, .ref (ad 0 0)), (1, .int z), (2, .int x), (3, .int y)]) hx hb dX4_pictureAnew_7 hl (by decide) rfl (fun ls hl => ?_)
  obtain ⟨v, hv, hv2⟩ := hI.2.2.2.2.2.2.2.2.2.1 _ ht
  have hKK := hI.K512
  have hv0 : 0 < v := by
    rcases Nat.eq_zero_or_pos v with q | q
    · subst q; exact absurd hv2 c0
    · exact q
  refine lv_aload_n hx hb dX4_pictureAnew_9 rfl (lv_at hl 1 rfl) ?_
  refine lv_aload hx hb dX4_pictureAnew_10 (lv_at hl 0 rfl) ?_
  refine lv_aload hx hb dX4_pictureAnew_12 (lv_at hl 0 rfl) ?_
  refine g_get (C := RX1) (T := TX1) (N := 7) (v := .int (mm 13 (sp_t z x y) - 1)) hF hK (hM 6 (sp_t z x y) _ (kc_t ht c0)) rfl inlX1 5 (by decide) rfl wd_f_X4_188 rfl dX4_pictureAnew_14 ?_
  refine bo_to (v := (nI (v - 1))) (by rw [hv2]; exact nI_m1 hv0) ?_
  refine kr_V (fr := 3) (lo := 64) (As := [.ref (ad 6 (sp_t z x y)), .int (nI (v - 1))]) (rest := []) hF (m_X4_pictureAt l G Z ad mm (sp_t z x y) (v - 1) hI ht c0 (by omega)) ke_X4_pictureAt wd_l_X4_189 (by decide) hM hK hP hT hS (g_recv hK (hM 0 0 _ rfl) rfl) rfl hl.1 rfl (Nat.le_of_ble_eq_true rfl) dX4_pictureAnew_17 (by decide) (fun r2 hr2 => ?_)
  rw [tz, tx, ty] at hr2
  replace hr2 : r2 = sp_pic mm z x y (v - 1) := hr2
  subst hr2
  exact kx_iret hx hb hr hlk hM hN hK hS (by decide) (by decide) (k_po.of19 (by rw [sp_anew, if_pos cT, if_neg c0, hv2, nt_c (by omega)])) dX4_pictureAnew_20
theorem ke_X4_tileStamp : wl_V RX4 yX4_tileStamp cX4_tileStamp 5 (some .int) 3 := ⟨wd_c_X4_tileStamp, wd_i_X4_tileStamp, wd_s_X4_tileStamp, wd_n_X4, by decide, by decide +kernel⟩
set_option maxHeartbeats 4000000 in
set_option maxRecDepth 100000 in
theorem m_X4_tileStamp (l : Launch) (hflag : l.stackTraces = false) (G : k_G) (Z : Nat → Prop) (ad : k_Ad) (mm : q_Mem) (z x y : Int32)  : kx_i l yX4_tileStamp cX4_tileStamp 5 (some .int) 8 133 3 18 G Z ad (k_C G ad mm) [.ref (ad 0 0), .int z, .int x, .int y] (k_po G (sp_tst mm z x y)) (k_px k_n3 (sp_tst mm z x y) mm) := by
  refine kx_of (by decide) (Nat.le_of_ble_eq_true rfl) ?_
  intro p e s m args below meth c hx hb hr hF hlk hnt hB ls hl
  obtain ⟨⟨hM, hN⟩, hK, hP, hT⟩ := hB
  have hS : va_S Z s.heap s.heap [] := va_S.rf
  have hl : lv_has ls 5 [(0, .ref (ad 0 0)), (1, .int z), (2, .int x), (3, .int y)] := hl
  refine lv_aload_n hx hb dX4_tileStamp_0 rfl (lv_at hl 0 rfl) ?_
  refine g_get (C := RX4) (T := TX4) (N := 6) (v := .ref (ad 0 5)) hF hK (hM 0 0 _ rfl) rfl inlX4 4 (by decide) rfl wd_f_X4_28 rfl dX4_tileStamp_1 ?_
  refine lv_iload_n hx hb dX4_tileStamp_4 rfl (lv_at hl 1 rfl) ?_
  refine lv_iload_n hx hb dX4_tileStamp_5 rfl (lv_at hl 2 rfl) ?_
  refine lv_iload_n hx hb dX4_tileStamp_6 rfl (lv_at hl 3 rfl) ?_
  refine kx_iS (fr := 7) (lo := 110) (mc1 := 2) (ms1 := 12) (As := [.int z, .int x, .int y]) (rest := [.ref (ad 0 5)]) hF (m_X4_tileIndex l hflag G Z ad (k_C G ad mm) z x y) ke_X4_tileIndex wd_l_X4_168 (by decide) hM hN hK hP hT hS rfl hl.1 rfl (Nat.le_of_ble_eq_true rfl) dX4_tileStamp_7 (by decide) hnt hlk (fun E hE => ⟨⟨1, by decide, by rw [sp_tst, if_neg hE.2], hE.1⟩, rfl, rfl⟩) (by decide) (by decide) (fun r1 ur1 H locs hr1 hM hN hS _ _ => ?_)
  obtain ⟨cT, hro, rfl⟩ := hr1
  subst hro
  replace hM : k_H G ad (k_C G ad mm) H := hM
  replace hN : k_N Z ad (k_C G ad mm) := hN
  obtain ⟨tz, tx, ty, ht⟩ := tl_back cT
  refine g_aldq (t0 := 1) (i := sp_t z x y) hF hK (hM 0 5 _ rfl) rfl rfl ht (by decide) dX4_tileStamp_10 ?_
  refine bo_toV (v := k_rf (mm 13 (sp_t z x y) = 0) (ad 6 (sp_t z x y))) (k_rf_tr _ _ _) ?_
  refine k_split (fun c1 => ?_) (fun c1 => ?_)
  · skip
    refine lv_astoreN (lv' := [(4, .null), (0, .ref (ad 0 0)), (1, .int z), (2, .int x), (3, .int y)]) hx hb dX4_tileStamp_11 hl (by decide) rfl (fun ls hl => ?_)
    refine lv_aloadN hx hb dX4_tileStamp_13 (lv_at hl 0 rfl) ?_
    refine lv_ifnonnullN hx hb dX4_tileStamp_15 ?_
    refine lv_iconst (v := (-1)) hx hb dX4_tileStamp_18 (by decide) ?_
    refine lv_goto (tgt := 27) hx hb dX4_tileStamp_19 (by decide) ?_
    exact kx_iret hx hb hr hlk hM hN hK hS (by decide) (by decide) (k_po.of19 (by first | (rw [sp_tst, if_pos cT]; done) | (rw [sp_tst, if_pos cT, c1]; rfl))) dX4_tileStamp_27
  · skip
    refine lv_astore (lv' := [(4, .ref (ad 6 (sp_t z x y))), (0, .ref (ad 0 0)), (1, .int z), (2, .int x), (3, .int y)]) hx hb dX4_tileStamp_11 hl (by decide) rfl (fun ls hl => ?_)
    refine lv_aload hx hb dX4_tileStamp_13 (lv_at hl 0 rfl) ?_
    refine lv_ifnonnull (tgt := 22) hx hb dX4_tileStamp_15 (by decide) ?_
    refine lv_aload hx hb dX4_tileStamp_22 (lv_at hl 0 rfl) ?_
    refine g_get (C := RX1) (T := TX1) (N := 7) (v := .int (mm 13 (sp_t z x y) - 1)) hF hK (hM 6 (sp_t z x y) _ (kc_t ht c1)) rfl inlX1 5 (by decide) rfl wd_f_X4_188 rfl dX4_tileStamp_24 ?_
    exact kx_iret hx hb hr hlk hM hN hK hS (by decide) (by decide) (k_po.of19 (by first | (rw [sp_tst, if_pos cT]; done) | (rw [sp_tst, if_pos cT, c1]; rfl))) dX4_tileStamp_27
end
section
theorem k_po.of2 {G : k_G} {ad : k_Ad} {res : Int32 × q_Mem} {r : Int32} {m2 : q_Mem} {ct2 : k_Ct} (h : res = (r, m2)) (h0 : m2 19 0 = 0) (hc : ct2 = k_C G ad m2) : k_po G res r (ad, ct2) := by subst h; subst hc; exact ⟨rfl, rfl, h0⟩
/-! the invariant behind single changes -/
section
variable {mm : q_Mem}
theorem Inv_19 {v : Int32} (h : Inv mm) : Inv (up2 mm 19 0 v) := h
theorem Inv_pic {t : Nat} {v : Int32} (h : Inv mm) : Inv (up2 mm 14 t v) := h
theorem Inv_st {t n : Nat} (h : Inv mm) (hn : n ≤ sp_K mm + 1) : Inv (up2 mm 13 t (nI n)) := by
  obtain ⟨i1, i2, i3, i4, i5, i6, i7, i8, i9, i10, i11, i12, i13⟩ := h
  refine ⟨i1, i2, i3, i4, i5, i6, i7, i8, i9, fun t2 ht2 => ?_, i11, i12, i13⟩
  by_cases z : t2 = t
  · subst z; exact ⟨n, hn, up2_s⟩
  · obtain ⟨m, hm, e⟩ := i10 t2 ht2
    exact ⟨m, hm, (up2_i z).trans e⟩
theorem Inv_tru {f : Nat} {x : Int32} (h : Inv mm) : Inv (sp_tru mm f x) := h
theorem Inv_guard {w : Nat} {x : Int32} (h : Inv mm) (hw : w < sp_W mm) : Inv (up2 mm 6 w x) := by
  obtain ⟨i1, i2, i3, i4, i5, i6, i7, i8, i9, i10, i11, i12, i13⟩ := h
  refine ⟨i1, i2, i3, i4, i5, i6, i7, i8, i9, i10, i11, i12, fun v hv => ?_⟩
  obtain ⟨a1, a2, a3⟩ := i13 v hv
  have hv2 : sp_W mm ≤ v := hv
  exact ⟨a1, (up2_i (by omega)).trans a2, a3⟩
theorem Inv_wait {w : Nat} {x : Int32} (h : Inv mm) (hx : sp_Q x) : Inv (up2 mm 9 w x) := by
  obtain ⟨i1, i2, i3, i4, i5, i6, i7, i8, i9, i10, i11, i12, i13⟩ := h
  refine ⟨i1, i2, i3, i4, i5, i6, fun v hv => ?_, i8, i9, i10, i11, i12, i13⟩
  show sp_Q (up2 mm 9 w x 9 v)
  by_cases z : v = w
  · subst z; rw [up2_s]; exact hx
  · rw [up2_i z]; exact i7 v hv
theorem Inv_goes {c x y : Nat} (h : Inv mm) (hx : x ≤ 16) (hy : y ≤ 16) : Inv (sp_goes mm c (nI x) (nI y)) := by
  obtain ⟨i1, i2, i3, i4, i5, i6, i7, i8, i9, i10, i11, i12, i13⟩ := h
  refine ⟨i1, i2, i3, i4, i5, i6, i7, i8, fun d hd => ?_, i10, i11, i12, i13⟩
  obtain ⟨a, b, h1, h2, h3, h4⟩ := i9 d hd
  show ∃ a b : Nat, a ≤ 16 ∧ b ≤ 16 ∧ up2 (up2 mm 15 c (nI x)) 16 c (nI y) 15 d = nI a ∧ up2 (up2 mm 15 c (nI x)) 16 c (nI y) 16 d = nI b
  rw [up2_c (by decide)]
  by_cases z : d = c
  · subst z; exact ⟨x, y, hx, hy, up2_s, up2_s⟩
  · exact ⟨a, b, h1, h2, (up2_i z).trans h3, by rw [up2_i z, up2_c (by decide)]; exact h4⟩
/-! what pictures depend on -/
theorem seek_x {A B : q_Mem} (h : A 12 = B 12) (u : Nat) : ∀ n v, sp_seek A u n v = sp_seek B u n v
  | 0, _ => rfl
  | n + 1, v => by
    unfold sp_seek
    rw [h, seek_x h u n]
theorem pic_x {A B : q_Mem} (h : ∀ k, k < 13 → A k = B k) (z x y : Int32) (u : Nat) : sp_pic A z x y u = sp_pic B z x y u := by
  have e : sp_pic1 A z x y u = sp_pic1 B z x y u := by
    funext w q
    have ev : sp_vis A w u = sp_vis B w u := by
      unfold sp_vis
      rw [h 8 (by decide), seek_x (h 12 (by decide))]
    unfold sp_pic1 sp_pin sp_isin
    rw [ev, h 11 (by decide), h 2 (by decide), h 3 (by decide), h 4 (by decide), h 5 (by decide)]
  have eW : sp_W A = sp_W B := by unfold sp_W; rw [h 1 (by decide)]
  unfold sp_pic
  rw [e, eW]
theorem Inv_draws {t : Nat} {z x y : Int32} (h : Inv mm) : Inv (sp_draws mm t z x y) := by
  unfold sp_draws
  rw [h.K, nI_1]
  exact Inv_st (Inv_pic h) (Nat.le_refl _)
theorem ste_y {dr : Bool} {t : Nat} {q : Int32 × q_Mem} (h : sp_oldt q.2 t = true) : sp_ste dr t q = (q.1 + 1, if dr = true then sp_draws q.2 t (nI (tz_t t)) (nI (tx_t t)) (nI (ty_t t)) else q.2) := if_pos h
theorem ste_n {dr : Bool} {t : Nat} {q : Int32 × q_Mem} (h : ¬ sp_oldt q.2 t = true) : sp_ste dr t q = (q.1 + 0, q.2) := if_neg h
theorem ste_b {b : Nat} {m : q_Mem} : ∀ k, (it_b (sp_ste false) b k (0, m)).2 = m
  | 0 => rfl
  | k + 1 => by
    show (sp_ste false (b + k) (it_b (sp_ste false) b k (0, m))).2 = m
    by_cases h : sp_oldt (it_b (sp_ste false) b k (0, m)).2 (b + k) = true
    · rw [ste_y h, if_neg Bool.false_ne_true]; exact ste_b k
    · rw [ste_n h]; exact ste_b k
theorem stx_y {b k : Nat} {m : q_Mem} (h : sp_oldt m (b + k) = true) : (it_b (sp_ste false) b k (0, m)).1 + 1 = (it_b (sp_ste false) b (k + 1) (0, m)).1 := by
  show _ = (sp_ste false (b + k) (it_b (sp_ste false) b k (0, m))).1
  rw [ste_y (by rw [ste_b]; exact h)]
theorem stx_n {b k : Nat} {m : q_Mem} (h : ¬ sp_oldt m (b + k) = true) : (it_b (sp_ste false) b k (0, m)).1 = (it_b (sp_ste false) b (k + 1) (0, m)).1 := by
  show _ = (sp_ste false (b + k) (it_b (sp_ste false) b k (0, m))).1
  rw [ste_n (by rw [ste_b]; exact h)]
  exact (Int32.add_zero _).symm
theorem tb_end : ∀ z, z < 5 → tb_z z + 2 ^ z * 2 ^ z ≤ 341 := by decide +kernel
/-- the tiles drawn anew, one behind the other -/
def rfn (mm : q_Mem) (i : Nat) : Int32 × q_Mem := it_n (sp_ste true) i (0, up2 mm 19 0 0)
theorem rfn_y {i : Nat} (h : sp_oldt (rfn mm i).2 i = true) : rfn mm (i + 1) = ((rfn mm i).1 + 1, sp_draws (rfn mm i).2 i (nI (tz_t i)) (nI (tx_t i)) (nI (ty_t i))) := by
  show sp_ste true i (rfn mm i) = _
  rw [ste_y h, if_pos rfl]
theorem rfn_n {i : Nat} (h : ¬ sp_oldt (rfn mm i).2 i = true) : rfn mm (i + 1) = ((rfn mm i).1, (rfn mm i).2) := by
  show sp_ste true i (rfn mm i) = _
  rw [ste_n h, Int32.add_zero]
theorem rfn_I (h : Inv mm) : ∀ i, Inv (rfn mm i).2
  | 0 => h
  | i + 1 => by
    by_cases q : sp_oldt (rfn mm i).2 i = true
    · rw [rfn_y q]; exact Inv_draws (rfn_I h i)
    · rw [rfn_n q]; exact rfn_I h i
theorem rfn_19 : ∀ i, (rfn mm i).2 19 0 = 0
  | 0 => rfl
  | i + 1 => by
    by_cases q : sp_oldt (rfn mm i).2 i = true
    · rw [rfn_y q]; exact rfn_19 i
    · rw [rfn_n q]; exact rfn_19 i
theorem rfn_end : sp_refr mm = ((rfn mm 341).1, (rfn mm 341).2) := by
  show rfn mm 341 = _
  exact (Prod.eta _).symm
end
end
section
theorem dX4_carAt_0 : decode cX4_carAt 0 = .ok (.iload_n 1, 1) := by decide +kernel
theorem dX4_carAt_1 : decode cX4_carAt 1 = .ok (.invokestatic 207, 3) := by decide +kernel
theorem dX4_carAt_4 : decode cX4_carAt 4 = .ok (.bipush 100, 2) := by decide +kernel
theorem dX4_carAt_6 : decode cX4_carAt 6 = .ok (.aload_n 0, 1) := by decide +kernel
theorem dX4_carAt_7 : decode cX4_carAt 7 = .ok (.getfield 20, 3) := by decide +kernel
theorem dX4_carAt_10 : decode cX4_carAt 10 = .ok (.iload_n 1, 1) := by decide +kernel
theorem dX4_carAt_11 : decode cX4_carAt 11 = .ok (.iaload, 1) := by decide +kernel
theorem dX4_carAt_12 : decode cX4_carAt 12 = .ok (.imul, 1) := by decide +kernel
theorem dX4_carAt_13 : decode cX4_carAt 13 = .ok (.aload_n 0, 1) := by decide +kernel
theorem dX4_carAt_14 : decode cX4_carAt 14 = .ok (.getfield 23, 3) := by decide +kernel
theorem dX4_carAt_17 : decode cX4_carAt 17 = .ok (.iload_n 1, 1) := by decide +kernel
theorem dX4_carAt_18 : decode cX4_carAt 18 = .ok (.iaload, 1) := by decide +kernel
theorem dX4_carAt_19 : decode cX4_carAt 19 = .ok (.iadd, 1) := by decide +kernel
theorem dX4_carAt_20 : decode cX4_carAt 20 = .ok (.ireturn, 1) := by decide +kernel
theorem dX4_clock_0 : decode cX4_clock 0 = .ok (.aload_n 0, 1) := by decide +kernel
theorem dX4_clock_1 : decode cX4_clock 1 = .ok (.getfield 32, 3) := by decide +kernel
theorem dX4_clock_4 : decode cX4_clock 4 = .ok (.ireturn, 1) := by decide +kernel
theorem dX4_drive_0 : decode cX4_drive 0 = .ok (.iload_n 1, 1) := by decide +kernel
theorem dX4_drive_1 : decode cX4_drive 1 = .ok (.invokestatic 207, 3) := by decide +kernel
theorem dX4_drive_4 : decode cX4_drive 4 = .ok (.iload_n 2, 1) := by decide +kernel
theorem dX4_drive_5 : decode cX4_drive 5 = .ok (.iload_n 3, 1) := by decide +kernel
theorem dX4_drive_6 : decode cX4_drive 6 = .ok (.invokestatic 46, 3) := by decide +kernel
theorem dX4_drive_9 : decode cX4_drive 9 = .ok (.aload_n 0, 1) := by decide +kernel
theorem dX4_drive_10 : decode cX4_drive 10 = .ok (.getfield 20, 3) := by decide +kernel
theorem dX4_drive_13 : decode cX4_drive 13 = .ok (.iload_n 1, 1) := by decide +kernel
theorem dX4_drive_14 : decode cX4_drive 14 = .ok (.iaload, 1) := by decide +kernel
theorem dX4_drive_15 : decode cX4_drive 15 = .ok (.aload_n 0, 1) := by decide +kernel
theorem dX4_drive_16 : decode cX4_drive 16 = .ok (.getfield 23, 3) := by decide +kernel
theorem dX4_drive_19 : decode cX4_drive 19 = .ok (.iload_n 1, 1) := by decide +kernel
theorem dX4_drive_20 : decode cX4_drive 20 = .ok (.iaload, 1) := by decide +kernel
theorem dX4_drive_21 : decode cX4_drive 21 = .ok (.iload_n 2, 1) := by decide +kernel
theorem dX4_drive_22 : decode cX4_drive 22 = .ok (.iload_n 3, 1) := by decide +kernel
theorem dX4_drive_23 : decode cX4_drive 23 = .ok (.invokestatic 210, 3) := by decide +kernel
theorem dX4_drive_26 : decode cX4_drive 26 = .ok (.istore 4, 2) := by decide +kernel
theorem dX4_drive_28 : decode cX4_drive 28 = .ok (.aload_n 0, 1) := by decide +kernel
theorem dX4_drive_29 : decode cX4_drive 29 = .ok (.getfield 20, 3) := by decide +kernel
theorem dX4_drive_32 : decode cX4_drive 32 = .ok (.iload_n 1, 1) := by decide +kernel
theorem dX4_drive_33 : decode cX4_drive 33 = .ok (.iload_n 2, 1) := by decide +kernel
theorem dX4_drive_34 : decode cX4_drive 34 = .ok (.iastore, 1) := by decide +kernel
theorem dX4_drive_35 : decode cX4_drive 35 = .ok (.aload_n 0, 1) := by decide +kernel
theorem dX4_drive_36 : decode cX4_drive 36 = .ok (.getfield 23, 3) := by decide +kernel
theorem dX4_drive_39 : decode cX4_drive 39 = .ok (.iload_n 1, 1) := by decide +kernel
theorem dX4_drive_40 : decode cX4_drive 40 = .ok (.iload_n 3, 1) := by decide +kernel
theorem dX4_drive_41 : decode cX4_drive 41 = .ok (.iastore, 1) := by decide +kernel
theorem dX4_drive_42 : decode cX4_drive 42 = .ok (.iload 4, 2) := by decide +kernel
theorem dX4_drive_44 : decode cX4_drive 44 = .ok (.ireturn, 1) := by decide +kernel
theorem dX4_guard_0 : decode cX4_guard 0 = .ok (.aload_n 0, 1) := by decide +kernel
theorem dX4_guard_1 : decode cX4_guard 1 = .ok (.iload_n 1, 1) := by decide +kernel
theorem dX4_guard_2 : decode cX4_guard 2 = .ok (.invokevirtual 96, 3) := by decide +kernel
theorem dX4_guard_5 : decode cX4_guard 5 = .ok (.astore_n 3, 1) := by decide +kernel
theorem dX4_guard_6 : decode cX4_guard 6 = .ok (.iload_n 2, 1) := by decide +kernel
theorem dX4_guard_7 : decode cX4_guard 7 = .ok (.iconst 0, 1) := by decide +kernel
theorem dX4_guard_8 : decode cX4_guard 8 = .ok (.bipush 100, 2) := by decide +kernel
theorem dX4_guard_10 : decode cX4_guard 10 = .ok (.invokestatic 50, 3) := by decide +kernel
theorem dX4_guard_13 : decode cX4_guard 13 = .ok (.ifCond .ne 13, 3) := by decide +kernel
theorem dX4_guard_16 : decode cX4_guard 16 = .ok (.new 58, 3) := by decide +kernel
theorem dX4_guard_19 : decode cX4_guard 19 = .ok (.dup, 1) := by decide +kernel
theorem dX4_guard_20 : decode cX4_guard 20 = .ok (.ldc 153, 2) := by decide +kernel
theorem dX4_guard_22 : decode cX4_guard 22 = .ok (.invokespecial 62, 3) := by decide +kernel
theorem dX4_guard_25 : decode cX4_guard 25 = .ok (.athrow, 1) := by decide +kernel
theorem dX4_guard_26 : decode cX4_guard 26 = .ok (.aload_n 3, 1) := by decide +kernel
theorem dX4_guard_27 : decode cX4_guard 27 = .ok (.getfield 113, 3) := by decide +kernel
theorem dX4_guard_30 : decode cX4_guard 30 = .ok (.istore 4, 2) := by decide +kernel
theorem dX4_guard_32 : decode cX4_guard 32 = .ok (.aload_n 3, 1) := by decide +kernel
theorem dX4_guard_33 : decode cX4_guard 33 = .ok (.iload_n 2, 1) := by decide +kernel
theorem dX4_guard_34 : decode cX4_guard 34 = .ok (.putfield 113, 3) := by decide +kernel
theorem dX4_guard_37 : decode cX4_guard 37 = .ok (.iload 4, 2) := by decide +kernel
theorem dX4_guard_39 : decode cX4_guard 39 = .ok (.ireturn, 1) := by decide +kernel
theorem dX4_isStale_0 : decode cX4_isStale 0 = .ok (.aload_n 0, 1) := by decide +kernel
theorem dX4_isStale_1 : decode cX4_isStale 1 = .ok (.aload_n 0, 1) := by decide +kernel
theorem dX4_isStale_2 : decode cX4_isStale 2 = .ok (.getfield 28, 3) := by decide +kernel
theorem dX4_isStale_5 : decode cX4_isStale 5 = .ok (.iload_n 1, 1) := by decide +kernel
theorem dX4_isStale_6 : decode cX4_isStale 6 = .ok (.iload_n 2, 1) := by decide +kernel
theorem dX4_isStale_7 : decode cX4_isStale 7 = .ok (.iload_n 3, 1) := by decide +kernel
theorem dX4_isStale_8 : decode cX4_isStale 8 = .ok (.invokestatic 168, 3) := by decide +kernel
theorem dX4_isStale_11 : decode cX4_isStale 11 = .ok (.aaload, 1) := by decide +kernel
theorem dX4_isStale_12 : decode cX4_isStale 12 = .ok (.invokevirtual 193, 3) := by decide +kernel
theorem dX4_isStale_15 : decode cX4_isStale 15 = .ok (.ireturn, 1) := by decide +kernel
theorem dX4_send_0 : decode cX4_send 0 = .ok (.iload_n 1, 1) := by decide +kernel
theorem dX4_send_1 : decode cX4_send 1 = .ok (.invokestatic 207, 3) := by decide +kernel
theorem dX4_send_4 : decode cX4_send 4 = .ok (.aload_n 0, 1) := by decide +kernel
theorem dX4_send_5 : decode cX4_send 5 = .ok (.aload_n 0, 1) := by decide +kernel
theorem dX4_send_6 : decode cX4_send 6 = .ok (.getfield 20, 3) := by decide +kernel
theorem dX4_send_9 : decode cX4_send 9 = .ok (.iload_n 1, 1) := by decide +kernel
theorem dX4_send_10 : decode cX4_send 10 = .ok (.iaload, 1) := by decide +kernel
theorem dX4_send_11 : decode cX4_send 11 = .ok (.aload_n 0, 1) := by decide +kernel
theorem dX4_send_12 : decode cX4_send 12 = .ok (.getfield 23, 3) := by decide +kernel
theorem dX4_send_15 : decode cX4_send 15 = .ok (.iload_n 1, 1) := by decide +kernel
theorem dX4_send_16 : decode cX4_send 16 = .ok (.iaload, 1) := by decide +kernel
theorem dX4_send_17 : decode cX4_send 17 = .ok (.invokevirtual 236, 3) := by decide +kernel
theorem dX4_send_20 : decode cX4_send 20 = .ok (.istore_n 2, 1) := by decide +kernel
theorem dX4_send_21 : decode cX4_send 21 = .ok (.iload_n 2, 1) := by decide +kernel
theorem dX4_send_22 : decode cX4_send 22 = .ok (.iconst (-1), 1) := by decide +kernel
theorem dX4_send_23 : decode cX4_send 23 = .ok (.if_icmp .ne 13, 3) := by decide +kernel
theorem dX4_send_26 : decode cX4_send 26 = .ok (.new 73, 3) := by decide +kernel
theorem dX4_send_29 : decode cX4_send 29 = .ok (.dup, 1) := by decide +kernel
theorem dX4_send_30 : decode cX4_send 30 = .ok (.ldc 239, 2) := by decide +kernel
theorem dX4_send_32 : decode cX4_send 32 = .ok (.invokespecial 77, 3) := by decide +kernel
theorem dX4_send_35 : decode cX4_send 35 = .ok (.athrow, 1) := by decide +kernel
theorem dX4_send_36 : decode cX4_send 36 = .ok (.aload_n 0, 1) := by decide +kernel
theorem dX4_send_37 : decode cX4_send 37 = .ok (.iload_n 2, 1) := by decide +kernel
theorem dX4_send_38 : decode cX4_send 38 = .ok (.invokevirtual 96, 3) := by decide +kernel
theorem dX4_send_41 : decode cX4_send 41 = .ok (.astore_n 3, 1) := by decide +kernel
theorem dX4_send_42 : decode cX4_send 42 = .ok (.aload_n 3, 1) := by decide +kernel
theorem dX4_send_43 : decode cX4_send 43 = .ok (.aload_n 0, 1) := by decide +kernel
theorem dX4_send_44 : decode cX4_send 44 = .ok (.getfield 20, 3) := by decide +kernel
theorem dX4_send_47 : decode cX4_send 47 = .ok (.iload_n 1, 1) := by decide +kernel
theorem dX4_send_48 : decode cX4_send 48 = .ok (.iaload, 1) := by decide +kernel
theorem dX4_send_49 : decode cX4_send 49 = .ok (.aload_n 0, 1) := by decide +kernel
theorem dX4_send_50 : decode cX4_send 50 = .ok (.getfield 23, 3) := by decide +kernel
theorem dX4_send_53 : decode cX4_send 53 = .ok (.iload_n 1, 1) := by decide +kernel
theorem dX4_send_54 : decode cX4_send 54 = .ok (.iaload, 1) := by decide +kernel
theorem dX4_send_55 : decode cX4_send 55 = .ok (.invokevirtual 241, 3) := by decide +kernel
theorem dX4_send_58 : decode cX4_send 58 = .ok (.istore 4, 2) := by decide +kernel
theorem dX4_send_60 : decode cX4_send 60 = .ok (.aload_n 3, 1) := by decide +kernel
theorem dX4_send_61 : decode cX4_send 61 = .ok (.aload_n 0, 1) := by decide +kernel
theorem dX4_send_62 : decode cX4_send 62 = .ok (.getfield 20, 3) := by decide +kernel
theorem dX4_send_65 : decode cX4_send 65 = .ok (.iload_n 1, 1) := by decide +kernel
theorem dX4_send_66 : decode cX4_send 66 = .ok (.iaload, 1) := by decide +kernel
theorem dX4_send_67 : decode cX4_send 67 = .ok (.aload_n 0, 1) := by decide +kernel
theorem dX4_send_68 : decode cX4_send 68 = .ok (.getfield 23, 3) := by decide +kernel
theorem dX4_send_71 : decode cX4_send 71 = .ok (.iload_n 1, 1) := by decide +kernel
theorem dX4_send_72 : decode cX4_send 72 = .ok (.iaload, 1) := by decide +kernel
theorem dX4_send_73 : decode cX4_send 73 = .ok (.invokevirtual 244, 3) := by decide +kernel
theorem dX4_send_76 : decode cX4_send 76 = .ok (.istore 5, 2) := by decide +kernel
theorem dX4_send_78 : decode cX4_send 78 = .ok (.iload 5, 2) := by decide +kernel
theorem dX4_send_80 : decode cX4_send 80 = .ok (.iload 4, 2) := by decide +kernel
theorem dX4_send_82 : decode cX4_send 82 = .ok (.if_icmp .ge 7, 3) := by decide +kernel
theorem dX4_send_85 : decode cX4_send 85 = .ok (.iconst 1, 1) := by decide +kernel
theorem dX4_send_86 : decode cX4_send 86 = .ok (.goto 4, 3) := by decide +kernel
theorem dX4_send_89 : decode cX4_send 89 = .ok (.iconst 0, 1) := by decide +kernel
theorem dX4_send_90 : decode cX4_send 90 = .ok (.istore 6, 2) := by decide +kernel
theorem dX4_send_92 : decode cX4_send 92 = .ok (.aload_n 0, 1) := by decide +kernel
theorem dX4_send_93 : decode cX4_send 93 = .ok (.getfield 20, 3) := by decide +kernel
theorem dX4_send_96 : decode cX4_send 96 = .ok (.iload_n 1, 1) := by decide +kernel
theorem dX4_send_97 : decode cX4_send 97 = .ok (.iload 6, 2) := by decide +kernel
theorem dX4_send_99 : decode cX4_send 99 = .ok (.ifCond .eq 10, 3) := by decide +kernel
theorem dX4_send_102 : decode cX4_send 102 = .ok (.aload_n 3, 1) := by decide +kernel
theorem dX4_send_103 : decode cX4_send 103 = .ok (.getfield 247, 3) := by decide +kernel
theorem dX4_send_106 : decode cX4_send 106 = .ok (.goto 7, 3) := by decide +kernel
theorem dX4_send_109 : decode cX4_send 109 = .ok (.aload_n 3, 1) := by decide +kernel
theorem dX4_send_110 : decode cX4_send 110 = .ok (.getfield 250, 3) := by decide +kernel
theorem dX4_send_113 : decode cX4_send 113 = .ok (.iastore, 1) := by decide +kernel
theorem dX4_send_114 : decode cX4_send 114 = .ok (.aload_n 0, 1) := by decide +kernel
theorem dX4_send_115 : decode cX4_send 115 = .ok (.getfield 23, 3) := by decide +kernel
theorem dX4_send_118 : decode cX4_send 118 = .ok (.iload_n 1, 1) := by decide +kernel
theorem dX4_send_119 : decode cX4_send 119 = .ok (.iload 6, 2) := by decide +kernel
theorem dX4_send_121 : decode cX4_send 121 = .ok (.ifCond .eq 10, 3) := by decide +kernel
theorem dX4_send_124 : decode cX4_send 124 = .ok (.aload_n 3, 1) := by decide +kernel
theorem dX4_send_125 : decode cX4_send 125 = .ok (.getfield 253, 3) := by decide +kernel
theorem dX4_send_128 : decode cX4_send 128 = .ok (.goto 7, 3) := by decide +kernel
theorem dX4_send_131 : decode cX4_send 131 = .ok (.aload_n 3, 1) := by decide +kernel
theorem dX4_send_132 : decode cX4_send 132 = .ok (.getfield 256, 3) := by decide +kernel
theorem dX4_send_135 : decode cX4_send 135 = .ok (.iastore, 1) := by decide +kernel
theorem dX4_send_136 : decode cX4_send 136 = .ok (.iload 6, 2) := by decide +kernel
theorem dX4_send_138 : decode cX4_send 138 = .ok (.ifCond .eq 8, 3) := by decide +kernel
theorem dX4_send_141 : decode cX4_send 141 = .ok (.iload 5, 2) := by decide +kernel
theorem dX4_send_143 : decode cX4_send 143 = .ok (.goto 5, 3) := by decide +kernel
theorem dX4_send_146 : decode cX4_send 146 = .ok (.iload 4, 2) := by decide +kernel
theorem dX4_send_148 : decode cX4_send 148 = .ok (.ireturn, 1) := by decide +kernel
theorem dX4_staleTiles_0 : decode cX4_staleTiles 0 = .ok (.iload_n 1, 1) := by decide +kernel
theorem dX4_staleTiles_1 : decode cX4_staleTiles 1 = .ok (.invokestatic 197, 3) := by decide +kernel
theorem dX4_staleTiles_4 : decode cX4_staleTiles 4 = .ok (.getstatic 200, 3) := by decide +kernel
theorem dX4_staleTiles_7 : decode cX4_staleTiles 7 = .ok (.iload_n 1, 1) := by decide +kernel
theorem dX4_staleTiles_8 : decode cX4_staleTiles 8 = .ok (.iaload, 1) := by decide +kernel
theorem dX4_staleTiles_9 : decode cX4_staleTiles 9 = .ok (.istore_n 2, 1) := by decide +kernel
theorem dX4_staleTiles_10 : decode cX4_staleTiles 10 = .ok (.iload_n 2, 1) := by decide +kernel
theorem dX4_staleTiles_11 : decode cX4_staleTiles 11 = .ok (.iload_n 1, 1) := by decide +kernel
theorem dX4_staleTiles_12 : decode cX4_staleTiles 12 = .ok (.invokestatic 203, 3) := by decide +kernel
theorem dX4_staleTiles_15 : decode cX4_staleTiles 15 = .ok (.iload_n 1, 1) := by decide +kernel
theorem dX4_staleTiles_16 : decode cX4_staleTiles 16 = .ok (.invokestatic 203, 3) := by decide +kernel
theorem dX4_staleTiles_19 : decode cX4_staleTiles 19 = .ok (.imul, 1) := by decide +kernel
theorem dX4_staleTiles_20 : decode cX4_staleTiles 20 = .ok (.iadd, 1) := by decide +kernel
theorem dX4_staleTiles_21 : decode cX4_staleTiles 21 = .ok (.istore_n 3, 1) := by decide +kernel
theorem dX4_staleTiles_22 : decode cX4_staleTiles 22 = .ok (.iconst 0, 1) := by decide +kernel
theorem dX4_staleTiles_23 : decode cX4_staleTiles 23 = .ok (.istore 4, 2) := by decide +kernel
theorem dX4_staleTiles_25 : decode cX4_staleTiles 25 = .ok (.iload_n 2, 1) := by decide +kernel
theorem dX4_staleTiles_26 : decode cX4_staleTiles 26 = .ok (.istore 5, 2) := by decide +kernel
theorem dX4_staleTiles_28 : decode cX4_staleTiles 28 = .ok (.iload 5, 2) := by decide +kernel
theorem dX4_staleTiles_30 : decode cX4_staleTiles 30 = .ok (.iload_n 3, 1) := by decide +kernel
theorem dX4_staleTiles_31 : decode cX4_staleTiles 31 = .ok (.if_icmp .ge 26, 3) := by decide +kernel
theorem dX4_staleTiles_34 : decode cX4_staleTiles 34 = .ok (.aload_n 0, 1) := by decide +kernel
theorem dX4_staleTiles_35 : decode cX4_staleTiles 35 = .ok (.aload_n 0, 1) := by decide +kernel
theorem dX4_staleTiles_36 : decode cX4_staleTiles 36 = .ok (.getfield 28, 3) := by decide +kernel
theorem dX4_staleTiles_39 : decode cX4_staleTiles 39 = .ok (.iload 5, 2) := by decide +kernel
theorem dX4_staleTiles_41 : decode cX4_staleTiles 41 = .ok (.aaload, 1) := by decide +kernel
theorem dX4_staleTiles_42 : decode cX4_staleTiles 42 = .ok (.invokevirtual 193, 3) := by decide +kernel
theorem dX4_staleTiles_45 : decode cX4_staleTiles 45 = .ok (.ifCond .eq 6, 3) := by decide +kernel
theorem dX4_staleTiles_48 : decode cX4_staleTiles 48 = .ok (.iinc 4 1, 3) := by decide +kernel
theorem dX4_staleTiles_51 : decode cX4_staleTiles 51 = .ok (.iinc 5 1, 3) := by decide +kernel
theorem dX4_staleTiles_54 : decode cX4_staleTiles 54 = .ok (.goto (-26), 3) := by decide +kernel
theorem dX4_staleTiles_57 : decode cX4_staleTiles 57 = .ok (.iload 4, 2) := by decide +kernel
theorem dX4_staleTiles_59 : decode cX4_staleTiles 59 = .ok (.ireturn, 1) := by decide +kernel
theorem dX4_target_0 : decode cX4_target 0 = .ok (.iload_n 1, 1) := by decide +kernel
theorem dX4_target_1 : decode cX4_target 1 = .ok (.invokestatic 207, 3) := by decide +kernel
theorem dX4_target_4 : decode cX4_target 4 = .ok (.aload_n 0, 1) := by decide +kernel
theorem dX4_target_5 : decode cX4_target 5 = .ok (.aload_n 0, 1) := by decide +kernel
theorem dX4_target_6 : decode cX4_target 6 = .ok (.getfield 20, 3) := by decide +kernel
theorem dX4_target_9 : decode cX4_target 9 = .ok (.iload_n 1, 1) := by decide +kernel
theorem dX4_target_10 : decode cX4_target 10 = .ok (.iaload, 1) := by decide +kernel
theorem dX4_target_11 : decode cX4_target 11 = .ok (.aload_n 0, 1) := by decide +kernel
theorem dX4_target_12 : decode cX4_target 12 = .ok (.getfield 23, 3) := by decide +kernel
theorem dX4_target_15 : decode cX4_target 15 = .ok (.iload_n 1, 1) := by decide +kernel
theorem dX4_target_16 : decode cX4_target 16 = .ok (.iaload, 1) := by decide +kernel
theorem dX4_target_17 : decode cX4_target 17 = .ok (.invokevirtual 236, 3) := by decide +kernel
theorem dX4_target_20 : decode cX4_target 20 = .ok (.ireturn, 1) := by decide +kernel
theorem dX4_trust_0 : decode cX4_trust 0 = .ok (.iload_n 1, 1) := by decide +kernel
theorem dX4_trust_1 : decode cX4_trust 1 = .ok (.invokestatic 42, 3) := by decide +kernel
theorem dX4_trust_4 : decode cX4_trust 4 = .ok (.aload_n 0, 1) := by decide +kernel
theorem dX4_trust_5 : decode cX4_trust 5 = .ok (.getfield 16, 3) := by decide +kernel
theorem dX4_trust_8 : decode cX4_trust 8 = .ok (.iload_n 1, 1) := by decide +kernel
theorem dX4_trust_9 : decode cX4_trust 9 = .ok (.iaload, 1) := by decide +kernel
theorem dX4_trust_10 : decode cX4_trust 10 = .ok (.ireturn, 1) := by decide +kernel
theorem dX4_ways_0 : decode cX4_ways 0 = .ok (.aload_n 0, 1) := by decide +kernel
theorem dX4_ways_1 : decode cX4_ways 1 = .ok (.getfield 10, 3) := by decide +kernel
theorem dX4_ways_4 : decode cX4_ways 4 = .ok (.invokevirtual 65, 3) := by decide +kernel
theorem dX4_ways_7 : decode cX4_ways 7 = .ok (.ireturn, 1) := by decide +kernel
theorem ke_X4_isStale : wl_V RX4 yX4_isStale cX4_isStale 4 (some .boolean) 3 := ⟨wd_c_X4_isStale, wd_i_X4_isStale, wd_s_X4_isStale, wd_n_X4, by decide, by decide +kernel⟩
set_option maxHeartbeats 4000000 in
set_option maxRecDepth 100000 in
theorem m_X4_isStale (l : Launch) (hflag : l.stackTraces = false) (G : k_G) (Z : Nat → Prop) (ad : k_Ad) (mm : q_Mem) (z x y : Int32) (hI : Inv mm) : kx_i l yX4_isStale cX4_isStale 4 (some .boolean) 8 133 3 18 G Z ad (k_C G ad mm) [.ref (ad 0 0), .int z, .int x, .int y] (k_po G (sp_isst mm z x y)) (k_px k_n3 (sp_isst mm z x y) mm) := by
  refine kx_of (by decide) (Nat.le_of_ble_eq_true rfl) ?_
  intro p e s m args below meth c hx hb hr hF hlk hnt hB ls hl
  obtain ⟨⟨hM, hN⟩, hK, hP, hT⟩ := hB
  have hS : va_S Z s.heap s.heap [] := va_S.rf
  have hl : lv_has ls 4 [(0, .ref (ad 0 0)), (1, .int z), (2, .int x), (3, .int y)] := hl
  refine lv_aload_n hx hb dX4_isStale_0 rfl (lv_at hl 0 rfl) ?_
  refine lv_aload_n hx hb dX4_isStale_1 rfl (lv_at hl 0 rfl) ?_
  refine g_get (C := RX4) (T := TX4) (N := 6) (v := .ref (ad 0 5)) hF hK (hM 0 0 _ rfl) rfl inlX4 4 (by decide) rfl wd_f_X4_28 rfl dX4_isStale_2 ?_
  refine lv_iload_n hx hb dX4_isStale_5 rfl (lv_at hl 1 rfl) ?_
  refine lv_iload_n hx hb dX4_isStale_6 rfl (lv_at hl 2 rfl) ?_
  refine lv_iload_n hx hb dX4_isStale_7 rfl (lv_at hl 3 rfl) ?_
  refine kx_iS (fr := 7) (lo := 110) (mc1 := 2) (ms1 := 12) (As := [.int z, .int x, .int y]) (rest := [.ref (ad 0 5), .ref (ad 0 0)]) hF (m_X4_tileIndex l hflag G Z ad (k_C G ad mm) z x y) ke_X4_tileIndex wd_l_X4_168 (by decide) hM hN hK hP hT hS rfl hl.1 rfl (Nat.le_of_ble_eq_true rfl) dX4_isStale_8 (by decide) hnt hlk (fun E hE => ⟨⟨1, by decide, by rw [sp_isst, if_neg hE.2], hE.1⟩, rfl, rfl⟩) (by decide) (by decide) (fun r1 ur1 H locs hr1 hM hN hS _ _ => ?_)
  obtain ⟨cT, hro, rfl⟩ := hr1
  subst hro
  replace hM : k_H G ad (k_C G ad mm) H := hM
  replace hN : k_N Z ad (k_C G ad mm) := hN
  obtain ⟨tz, tx, ty, ht⟩ := tl_back cT
  refine g_aldq (t0 := 1) (i := sp_t z x y) hF hK (hM 0 5 _ rfl) rfl rfl ht (by decide) dX4_isStale_11 ?_
  refine bo_toV (v := k_rf (mm 13 (sp_t z x y) = 0) (ad 6 (sp_t z x y))) (k_rf_tr _ _ _) ?_
  refine kr_V (fr := 3) (lo := 64) (As := [k_rf (mm 13 (sp_t z x y) = 0) (ad 6 (sp_t z x y))]) (rest := []) hF (m_X4_isOutdatedV l G Z ad mm (sp_t z x y) hI ht) ke_X4_isOutdated wd_l_X4_193 (by decide) hM hK hP hT hS (g_recv hK (hM 0 0 _ rfl) rfl) rfl hl.1 rfl (Nat.le_of_ble_eq_true rfl) dX4_isStale_12 (by decide) (fun r2 hr2 => ?_)
  exact kx_zret hx hb hr hlk hM hN hK hS (by decide) (by decide) (bo_bit hr2) (k_po.of19 (by rw [sp_isst, if_pos cT, hr2]; unfold sp_oldt; rw [tz, tx, ty])) dX4_isStale_15
theorem ke_X4_staleTiles : wl_V RX4 yX4_staleTiles cX4_staleTiles 6 (some .int) 1 := ⟨wd_c_X4_staleTiles, wd_i_X4_staleTiles, wd_s_X4_staleTiles, wd_n_X4, by decide, by decide +kernel⟩
set_option maxHeartbeats 4000000 in
set_option maxRecDepth 100000 in
theorem m_X4_staleTiles (l : Launch) (hflag : l.stackTraces = false) (G : k_G) (Z : Nat → Prop) (ad : k_Ad) (mm : q_Mem) (z : Int32) (hI : Inv mm) : kx_i l yX4_staleTiles cX4_staleTiles 6 (some .int) 7 110 1 6 G Z ad (k_C G ad mm) [.ref (ad 0 0), .int z] (k_po G (sp_stl mm z)) (k_px k_n3 (sp_stl mm z) mm) := by
  refine kx_of (by decide) (Nat.le_of_ble_eq_true rfl) ?_
  intro p e s m args below meth c hx hb hr hF hlk hnt hB ls hl
  obtain ⟨⟨hM, hN⟩, hK, hP, hT⟩ := hB
  have hS : va_S Z s.heap s.heap [] := va_S.rf
  have hl : lv_has ls 6 [(0, .ref (ad 0 0)), (1, .int z)] := hl
  refine lv_iload_n hx hb dX4_staleTiles_0 rfl (lv_at hl 1 rfl) ?_
  refine kx_vS (fr := 6) (lo := 90) (mc1 := 1) (ms1 := 6) (As := [.int z]) (rest := []) hF (m_X4_requireZoom l hflag G Z ad (k_C G ad mm) z) ke_X4_requireZoom wd_l_X4_197 (by decide) hM hN hK hP hT hS rfl hl.1 rfl (Nat.le_of_ble_eq_true rfl) dX4_staleTiles_1 (by decide) hnt hlk (fun E hE => ⟨⟨1, by decide, by rw [sp_stl, if_neg (fun q => hE.2 ⟨q.1, le_lt5.mp q.2⟩)], hE.1⟩, rfl, rfl⟩) (by decide) (by decide) (fun ur1 H locs hr1 hM hN hS _ _ => ?_)
  obtain ⟨cZ, rfl⟩ := hr1
  replace hM : k_H G ad (k_C G ad mm) H := hM
  replace hN : k_N Z ad (k_C G ad mm) := hN
  obtain ⟨zi, hz, hze⟩ := nt_zm cZ
  subst hze
  have hp16 := pw_le zi hz
  have hte := tb_end zi hz
  have hpp : 2 ^ zi * 2 ^ zi ≤ 256 := Nat.mul_le_mul hp16 hp16
  have cZ4 : sp_z4 (nI zi) := ⟨cZ.1, le_lt5.mpr cZ.2⟩
  have hzc : (nI zi).toNatClampNeg = zi := nt_c (by omega)
  have hAll : ∃ q, q = 2 ^ zi * 2 ^ zi := ⟨_, rfl⟩
  obtain ⟨al, hal⟩ := hAll
  rw [← hal] at hte hpp
  refine va_gets hF.1 hF.2.1 hT.2.2.1.1 hS hF.2.2.2.1 (hF.2.2.2.2 _ wd_f_X4_200) (fun x h => h) dX4_staleTiles_4 ?_
  refine lv_iload_n hx hb dX4_staleTiles_7 rfl (lv_at hl 1 rfl) ?_
  refine g_ald (t0 := 0) (i := zi) hF hK (hT.2.2.1.2.1.kept (hS.2.1 _ hT.2.2.1.2.1.lt hT.2.2.1.2.2)) rfl rfl hz (by decide) dX4_staleTiles_8 ?_
  refine bo_to (v := (nI (tb_z zi))) rfl ?_
  refine lv_istore_n (lv' := [(2, .int (nI (tb_z zi))), (0, .ref (ad 0 0)), (1, .int (nI zi))]) hx hb dX4_staleTiles_9 rfl hl (by decide) rfl (fun ls hl => ?_)
  refine lv_iload_n hx hb dX4_staleTiles_10 rfl (lv_at hl 0 rfl) ?_
  refine lv_iload_n hx hb dX4_staleTiles_11 rfl (lv_at hl 2 rfl) ?_
  refine rc_S (fr := 0) (lo := 0) (As := [.int (nI zi)]) (rest := [.int (nI (tb_z zi))]) hF (m_X4_tilesAcross l (nI zi)) ke_X4_tilesAcross wd_l_X4_203 (by decide) bl_true (fun _ _ _ => trivial) rfl hl.1 rfl (Nat.le_of_ble_eq_true rfl) dX4_staleTiles_12 (by decide) (fun r2 hr2 => ?_)
  replace hr2 : r2 = sp_mn (nI zi) := hr2
  subst hr2
  refine bo_to (v := (nI (2 ^ zi))) (sp_mn_nI zi hz) ?_
  refine lv_iload_n hx hb dX4_staleTiles_15 rfl (lv_at hl 2 rfl) ?_
  refine rc_S (fr := 0) (lo := 0) (As := [.int (nI zi)]) (rest := [.int (nI (2 ^ zi)), .int (nI (tb_z zi))]) hF (m_X4_tilesAcross l (nI zi)) ke_X4_tilesAcross wd_l_X4_203 (by decide) bl_true (fun _ _ _ => trivial) rfl hl.1 rfl (Nat.le_of_ble_eq_true rfl) dX4_staleTiles_16 (by decide) (fun r3 hr3 => ?_)
  replace hr3 : r3 = sp_mn (nI zi) := hr3
  subst hr3
  refine bo_to (v := (nI (2 ^ zi))) (sp_mn_nI zi hz) ?_
  refine lv_imul hx hb dX4_staleTiles_19 ?_
  refine bo_to (v := (nI al)) (by rw [hal]; exact pk_mul _ _) ?_
  refine lv_iadd hx hb dX4_staleTiles_20 ?_
  refine bo_to (v := (nI (tb_z zi + al))) (nI_add _ _) ?_
  refine lv_istore_n (lv' := [(3, .int (nI (tb_z zi + al))), (2, .int (nI (tb_z zi))), (0, .ref (ad 0 0)), (1, .int (nI zi))]) hx hb dX4_staleTiles_21 rfl hl (by decide) rfl (fun ls hl => ?_)
  refine lv_iconst (v := 0) hx hb dX4_staleTiles_22 (by decide) ?_
  refine lv_istore (lv' := [(4, .int 0), (3, .int (nI (tb_z zi + al))), (2, .int (nI (tb_z zi))), (0, .ref (ad 0 0)), (1, .int (nI zi))]) hx hb dX4_staleTiles_23 hl (by decide) rfl (fun ls hl => ?_)
  refine lv_iload_n hx hb dX4_staleTiles_25 rfl (lv_at hl 2 rfl) ?_
  refine lv_istore (lv' := [(5, .int (nI (tb_z zi))), (4, .int 0), (3, .int (nI (tb_z zi + al))), (2, .int (nI (tb_z zi))), (0, .ref (ad 0 0)), (1, .int (nI zi))]) hx hb dX4_staleTiles_26 hl (by decide) rfl (fun ls hl => ?_)
  refine bo_loop (σ := Nat) (μ := fun (k : Nat) => al - k) (I := fun (k : Nat) (H : Heap) (locs : List Loc) (ls : Array Slot) => k_H G ad (k_C G ad mm) H ∧ k_N Z ad (k_C G ad mm) ∧ va_S Z s.heap H locs ∧ lv_has ls 6 [(4, .int ((it_b (sp_ste false) (tb_z zi) k (0, (up2 mm 19 0 0))).1)), (5, .int (nI (tb_z zi + k))), (0, .ref (ad 0 0)), (1, .int (nI zi)), (2, .int (nI (tb_z zi))), (3, .int (nI (tb_z zi + al)))] ∧ (k ≤ al)) (0) ⟨hM, hN, hS, lv_sub hl [1, 0, 4, 5, 3, 2] rfl, Nat.zero_le _⟩ ?_
  intro x28 H locs ls hI28 ih28
  obtain ⟨k, ex28⟩ : ∃ z, z = x28 := ⟨_, rfl⟩
  subst ex28
  obtain ⟨hM, hN, hS, hl, hk⟩ := hI28
  refine lv_iload hx hb dX4_staleTiles_28 (lv_at hl 1 rfl) ?_
  refine lv_iload_n hx hb dX4_staleTiles_30 rfl (lv_at hl 5 rfl) ?_
  refine lv_icmp_ge (tgt := 57) hx hb dX4_staleTiles_31 (by decide) (fun c1 => ?_) (fun c1 => ?_)
  · skip
    have hke : k = al := by have := (nI_leI (by omega) (by omega)).mp c1; omega
    refine lv_iload hx hb dX4_staleTiles_57 (lv_at hl 0 rfl) ?_
    exact kx_iret hx hb hr hlk hM hN hK hS (by decide) (by decide) (k_po.of19 (by rw [sp_stl, if_pos cZ4, hzc, hke, hal])) dX4_staleTiles_59
  · skip
    have hkl : k < al := by have : ¬ tb_z zi + al ≤ tb_z zi + k := fun q => c1 (nI_le q (by omega)); omega
    have ht : tb_z zi + k < 341 := by omega
    refine lv_aload_n hx hb dX4_staleTiles_34 rfl (lv_at hl 2 rfl) ?_
    refine lv_aload_n hx hb dX4_staleTiles_35 rfl (lv_at hl 2 rfl) ?_
    refine g_get (C := RX4) (T := TX4) (N := 6) (v := .ref (ad 0 5)) hF hK (hM 0 0 _ rfl) rfl inlX4 4 (by decide) rfl wd_f_X4_28 rfl dX4_staleTiles_36 ?_
    refine lv_iload hx hb dX4_staleTiles_39 (lv_at hl 1 rfl) ?_
    refine g_aldq (t0 := 1) (i := tb_z zi + k) hF hK (hM 0 5 _ rfl) rfl rfl ht (by decide) dX4_staleTiles_41 ?_
    refine bo_toV (v := k_rf (mm 13 (tb_z zi + k) = 0) (ad 6 (tb_z zi + k))) (k_rf_tr _ _ _) ?_
    refine kr_V (fr := 3) (lo := 64) (As := [k_rf (mm 13 (tb_z zi + k) = 0) (ad 6 (tb_z zi + k))]) (rest := []) hF (m_X4_isOutdatedV l G Z ad mm (tb_z zi + k) hI ht) ke_X4_isOutdated wd_l_X4_193 (by decide) hM hK hP hT hS (g_recv hK (hM 0 0 _ rfl) rfl) rfl hl.1 rfl (Nat.le_of_ble_eq_true rfl) dX4_staleTiles_42 (by decide) (fun r4 hr4 => ?_)
    refine bo_eq (tgt := 51) hr4 hx hb dX4_staleTiles_45 (by decide) (fun c2 => ?_) (fun c2 => ?_)
    · skip
      rw [stx_n (m := (up2 mm 19 0 0)) c2] at hl
      refine lv_iinc (v := (nI (tb_z zi + (k + 1)))) (lv' := [(5, .int (nI (tb_z zi + (k + 1)))), (4, .int (it_b (sp_ste false) (tb_z zi) (k + 1) (0, (up2 mm 19 0 0))).1), (0, .ref (ad 0 0)), (1, .int (nI zi)), (2, .int (nI (tb_z zi))), (3, .int (nI (tb_z zi + al)))]) hx hb dX4_staleTiles_51 hl (k := 1) rfl (nI_1 (tb_z zi + k)) (by decide) rfl (fun ls hl => ?_)
      refine lv_goto (tgt := 28) hx hb dX4_staleTiles_54 (by decide) ?_
      exact ih28 (k + 1) _ _ _ (by show al - (k + 1) < al - k; omega) ⟨hM, hN, hS, lv_sub hl [1, 0, 2, 3, 4, 5] rfl, by omega⟩
    · skip
      refine lv_iinc (v := (it_b (sp_ste false) (tb_z zi) (k + 1) (0, (up2 mm 19 0 0))).1) (lv' := [(4, .int (it_b (sp_ste false) (tb_z zi) (k + 1) (0, (up2 mm 19 0 0))).1), (5, .int (nI (tb_z zi + k))), (0, .ref (ad 0 0)), (1, .int (nI zi)), (2, .int (nI (tb_z zi))), (3, .int (nI (tb_z zi + al)))]) hx hb dX4_staleTiles_48 hl (k := 0) rfl (stx_y (m := (up2 mm 19 0 0)) c2) (by decide) rfl (fun ls hl => ?_)
      refine lv_iinc (v := (nI (tb_z zi + (k + 1)))) (lv' := [(5, .int (nI (tb_z zi + (k + 1)))), (4, .int (it_b (sp_ste false) (tb_z zi) (k + 1) (0, (up2 mm 19 0 0))).1), (0, .ref (ad 0 0)), (1, .int (nI zi)), (2, .int (nI (tb_z zi))), (3, .int (nI (tb_z zi + al)))]) hx hb dX4_staleTiles_51 hl (k := 1) rfl (nI_1 (tb_z zi + k)) (by decide) rfl (fun ls hl => ?_)
      refine lv_goto (tgt := 28) hx hb dX4_staleTiles_54 (by decide) ?_
      exact ih28 (k + 1) _ _ _ (by show al - (k + 1) < al - k; omega) ⟨hM, hN, hS, lv_sub hl [1, 0, 2, 3, 4, 5] rfl, by omega⟩
theorem ke_X4_guard : wl_V RX4 yX4_guard cX4_guard 5 (some .int) 2 := ⟨wd_c_X4_guard, wd_i_X4_guard, wd_s_X4_guard, wd_n_X4, by decide, by decide +kernel⟩
set_option maxHeartbeats 4000000 in
set_option maxRecDepth 100000 in
theorem m_X4_guard (l : Launch) (hflag : l.stackTraces = false) (G : k_G) (Z : Nat → Prop) (ad : k_Ad) (mm : q_Mem) (x y : Int32) (hI : Inv mm) : kx_i l yX4_guard cX4_guard 5 (some .int) 7 111 2 12 G Z ad (k_C G ad mm) [.ref (ad 0 0), .int x, .int y] (k_po G (sp_guard mm x y)) (k_px k_n3 (sp_guard mm x y) mm) := by
  refine kx_of (by decide) (Nat.le_of_ble_eq_true rfl) ?_
  intro p e s m args below meth c hx hb hr hF hlk hnt hB ls hl
  obtain ⟨⟨hM, hN⟩, hK, hP, hT⟩ := hB
  have hS : va_S Z s.heap s.heap [] := va_S.rf
  have hl : lv_has ls 5 [(0, .ref (ad 0 0)), (1, .int x), (2, .int y)] := hl
  refine lv_aload_n hx hb dX4_guard_0 rfl (lv_at hl 0 rfl) ?_
  refine lv_iload_n hx hb dX4_guard_1 rfl (lv_at hl 1 rfl) ?_
  refine kx_qV (fr := 6) (lo := 90) (mc1 := 1) (ms1 := 6) (As := [.int x]) (rest := []) hF (m_X4_wayAt l hflag G Z ad mm x hI) ke_X4_wayAt wd_l_X4_96 (by decide) hM hN hK hP hT hS (g_recv hK (hM 0 0 _ rfl) rfl) rfl hl.1 rfl (Nat.le_of_ble_eq_true rfl) dX4_guard_2 (by decide) hnt hlk (fun E hE => ⟨⟨1, by decide, by rw [sp_guard, if_neg hE.2], hE.1⟩, rfl, rfl⟩) (by decide) (by decide) (fun r1 ur1 H locs hr1 hM hN hS _ _ => ?_)
  obtain ⟨cW, hro, rfl⟩ := hr1
  replace hM : k_H G ad (k_C G ad mm) H := hM
  replace hN : k_N Z ad (k_C G ad mm) := hN
  obtain ⟨wi, hwi, hwe⟩ := nt_wy hI cW
  have hW40 := hI.W40
  have hKK := hI.K512
  subst hwe
  have hwc : (nI wi).toNatClampNeg = wi := nt_c (by omega)
  rw [hwc] at hro
  subst hro
  refine bo_toV (v := .ref (ad 1 wi)) rfl ?_
  refine lv_astore_n (lv' := [(3, .ref (ad 1 wi)), (0, .ref (ad 0 0)), (1, .int (nI wi)), (2, .int y)]) hx hb dX4_guard_5 rfl hl (by decide) rfl (fun ls hl => ?_)
  refine lv_iload_n hx hb dX4_guard_6 rfl (lv_at hl 3 rfl) ?_
  refine lv_iconst (v := 0) hx hb dX4_guard_7 (by decide) ?_
  refine lv_bipush (v := 100) hx hb dX4_guard_8 (by decide) ?_
  refine rc_S (fr := 0) (lo := 0) (As := [.int y, .int 0, .int 100]) (rest := []) hF (m_X4_isIn l y 0 100) ke_X4_isIn wd_l_X4_50 (by decide) bl_true (fun _ _ _ => trivial) rfl hl.1 rfl (Nat.le_of_ble_eq_true rfl) dX4_guard_10 (by decide) (fun r2 hr2 => ?_)
  refine bo_ne (tgt := 26) hr2 hx hb dX4_guard_13 (by decide) (fun c1 => ?_) (fun c1 => ?_)
  · skip
    refine lv_aload_n hx hb dX4_guard_26 rfl (lv_at hl 0 rfl) ?_
    refine g_get (C := RX3) (T := TX3) (N := 8) (v := .int (mm 6 wi)) hF hK (hM 1 wi _ (kc_w (by assumption))) rfl inlX3 4 (by decide) rfl wd_f_X4_113 rfl dX4_guard_27 ?_
    refine lv_istore (lv' := [(4, .int (mm 6 wi)), (3, .ref (ad 1 wi)), (0, .ref (ad 0 0)), (1, .int (nI wi)), (2, .int y)]) hx hb dX4_guard_30 hl (by decide) rfl (fun ls hl => ?_)
    refine lv_aload_n hx hb dX4_guard_32 rfl (lv_at hl 1 rfl) ?_
    refine lv_iload_n hx hb dX4_guard_33 rfl (lv_at hl 4 rfl) ?_
    refine k_put (v := .int y) hF hK hM hN hS 1 wi (kc_w (by assumption)) rfl inlX3 tyX3 tyX3_ok nmX3 4 (by decide) rfl wd_f_X4_113 rfl rfl rfl (by show 4 < 8; decide) dX4_guard_34 (fun H locs hM hN hS => ?_)
    rw [kcu_guard hwi] at hM hN
    refine lv_iload hx hb dX4_guard_37 (lv_at hl 0 rfl) ?_
    exact kx_iret hx hb hr hlk hM hN hK hS (by decide) (by decide) (k_po.of2 (m2 := up2 (up2 mm 19 0 0) 6 wi y) (by rw [sp_guard, if_pos cW, if_pos c1, hwc]) rfl (by rw [up2_comm (by decide)]; rfl)) dX4_guard_39
  · skip
    exact kx_thr (text := "guard is out of range") hF hflag hP hT k_E_IAE wd_k_X4_58 (by decide) hM hN hK hS hl.1 dX4_guard_16 dX4_guard_19 dX4_guard_20 dX4_guard_22 dX4_guard_25 hnt (by decide) (Nat.le_of_ble_eq_true rfl) (by decide) (by decide) hlk (by decide) (by decide) (⟨2, by decide, by rw [sp_guard, if_pos cW, if_neg c1], rfl⟩)
theorem ke_X4_trust : wl_V RX4 yX4_trust cX4_trust 2 (some .int) 1 := ⟨wd_c_X4_trust, wd_i_X4_trust, wd_s_X4_trust, wd_n_X4, by decide, by decide +kernel⟩
set_option maxHeartbeats 4000000 in
set_option maxRecDepth 100000 in
theorem m_X4_trust (l : Launch) (hflag : l.stackTraces = false) (G : k_G) (Z : Nat → Prop) (ad : k_Ad) (mm : q_Mem) (x : Int32)  : kx_i l yX4_trust cX4_trust 2 (some .int) 7 110 1 6 G Z ad (k_C G ad mm) [.ref (ad 0 0), .int x] (k_po G (sp_trust mm x)) (k_px k_n3 (sp_trust mm x) mm) := by
  refine kx_of (by decide) (Nat.le_of_ble_eq_true rfl) ?_
  intro p e s m args below meth c hx hb hr hF hlk hnt hB ls hl
  obtain ⟨⟨hM, hN⟩, hK, hP, hT⟩ := hB
  have hS : va_S Z s.heap s.heap [] := va_S.rf
  have hl : lv_has ls 2 [(0, .ref (ad 0 0)), (1, .int x)] := hl
  refine lv_iload_n hx hb dX4_trust_0 rfl (lv_at hl 1 rfl) ?_
  refine kx_vS (fr := 6) (lo := 90) (mc1 := 1) (ms1 := 6) (As := [.int x]) (rest := []) hF (m_X4_requireEditor l hflag G Z ad (k_C G ad mm) x) ke_X4_requireEditor wd_l_X4_42 (by decide) hM hN hK hP hT hS rfl hl.1 rfl (Nat.le_of_ble_eq_true rfl) dX4_trust_1 (by decide) hnt hlk (fun E hE => ⟨⟨1, by decide, by rw [sp_trust, if_neg hE.2], hE.1⟩, rfl, rfl⟩) (by decide) (by decide) (fun ur1 H locs hr1 hM hN hS _ _ => ?_)
  obtain ⟨cE, rfl⟩ := hr1
  replace hM : k_H G ad (k_C G ad mm) H := hM
  replace hN : k_N Z ad (k_C G ad mm) := hN
  obtain ⟨fi, hf6, hfe⟩ := nt_ed cE
  subst hfe
  refine lv_aload_n hx hb dX4_trust_4 rfl (lv_at hl 0 rfl) ?_
  refine g_get (C := RX4) (T := TX4) (N := 6) (v := .ref (ad 0 2)) hF hK (hM 0 0 _ rfl) rfl inlX4 1 (by decide) rfl wd_f_X4_16 rfl dX4_trust_5 ?_
  refine lv_iload_n hx hb dX4_trust_8 rfl (lv_at hl 1 rfl) ?_
  refine g_ald (t0 := 0) (i := fi) hF hK (hM 0 2 _ rfl) rfl rfl hf6 (by decide) dX4_trust_9 ?_
  refine bo_to (v := (mm 0 fi)) rfl ?_
  exact kx_iret hx hb hr hlk hM hN hK hS (by decide) (by decide) (k_po.of19 (by rw [sp_trust, if_pos cE, nt_c (by omega)])) dX4_trust_10
theorem ke_X4_carAt : wl_V RX4 yX4_carAt cX4_carAt 2 (some .int) 1 := ⟨wd_c_X4_carAt, wd_i_X4_carAt, wd_s_X4_carAt, wd_n_X4, by decide, by decide +kernel⟩
set_option maxHeartbeats 4000000 in
set_option maxRecDepth 100000 in
theorem m_X4_carAt (l : Launch) (hflag : l.stackTraces = false) (G : k_G) (Z : Nat → Prop) (ad : k_Ad) (mm : q_Mem) (x : Int32)  : kx_i l yX4_carAt cX4_carAt 2 (some .int) 7 110 1 6 G Z ad (k_C G ad mm) [.ref (ad 0 0), .int x] (k_po G (sp_cat mm x)) (k_px k_n3 (sp_cat mm x) mm) := by
  refine kx_of (by decide) (Nat.le_of_ble_eq_true rfl) ?_
  intro p e s m args below meth c hx hb hr hF hlk hnt hB ls hl
  obtain ⟨⟨hM, hN⟩, hK, hP, hT⟩ := hB
  have hS : va_S Z s.heap s.heap [] := va_S.rf
  have hl : lv_has ls 2 [(0, .ref (ad 0 0)), (1, .int x)] := hl
  refine lv_iload_n hx hb dX4_carAt_0 rfl (lv_at hl 1 rfl) ?_
  refine kx_vS (fr := 6) (lo := 90) (mc1 := 1) (ms1 := 6) (As := [.int x]) (rest := []) hF (m_X4_requireCar l hflag G Z ad (k_C G ad mm) x) ke_X4_requireCar wd_l_X4_207 (by decide) hM hN hK hP hT hS rfl hl.1 rfl (Nat.le_of_ble_eq_true rfl) dX4_carAt_1 (by decide) hnt hlk (fun E hE => ⟨⟨1, by decide, by rw [sp_cat, if_neg hE.2], hE.1⟩, rfl, rfl⟩) (by decide) (by decide) (fun ur1 H locs hr1 hM hN hS _ _ => ?_)
  obtain ⟨cE, rfl⟩ := hr1
  replace hM : k_H G ad (k_C G ad mm) H := hM
  replace hN : k_N Z ad (k_C G ad mm) := hN
  obtain ⟨ci, hci, hce⟩ := nt_car cE
  subst hce
  refine lv_bipush (v := 100) hx hb dX4_carAt_4 (by decide) ?_
  refine lv_aload_n hx hb dX4_carAt_6 rfl (lv_at hl 0 rfl) ?_
  refine g_get (C := RX4) (T := TX4) (N := 6) (v := .ref (ad 0 3)) hF hK (hM 0 0 _ rfl) rfl inlX4 2 (by decide) rfl wd_f_X4_20 rfl dX4_carAt_7 ?_
  refine lv_iload_n hx hb dX4_carAt_10 rfl (lv_at hl 1 rfl) ?_
  refine g_ald (t0 := 0) (i := ci) hF hK (hM 0 3 _ rfl) rfl rfl hci (by decide) dX4_carAt_11 ?_
  refine bo_to (v := (mm 15 ci)) rfl ?_
  refine lv_imul hx hb dX4_carAt_12 ?_
  refine lv_aload_n hx hb dX4_carAt_13 rfl (lv_at hl 0 rfl) ?_
  refine g_get (C := RX4) (T := TX4) (N := 6) (v := .ref (ad 0 4)) hF hK (hM 0 0 _ rfl) rfl inlX4 3 (by decide) rfl wd_f_X4_23 rfl dX4_carAt_14 ?_
  refine lv_iload_n hx hb dX4_carAt_17 rfl (lv_at hl 1 rfl) ?_
  refine g_ald (t0 := 0) (i := ci) hF hK (hM 0 4 _ rfl) rfl rfl hci (by decide) dX4_carAt_18 ?_
  refine bo_to (v := (mm 16 ci)) rfl ?_
  refine lv_iadd hx hb dX4_carAt_19 ?_
  exact kx_iret hx hb hr hlk hM hN hK hS (by decide) (by decide) (k_po.of19 (by rw [sp_cat, if_pos cE, nt_c (by omega)])) dX4_carAt_20
theorem ke_X4_target : wl_V RX4 yX4_target cX4_target 2 (some .int) 1 := ⟨wd_c_X4_target, wd_i_X4_target, wd_s_X4_target, wd_n_X4, by decide, by decide +kernel⟩
set_option maxHeartbeats 4000000 in
set_option maxRecDepth 100000 in
theorem m_X4_target (l : Launch) (hflag : l.stackTraces = false) (G : k_G) (Z : Nat → Prop) (ad : k_Ad) (mm : q_Mem) (x : Int32) (hI : Inv mm) : kx_i l yX4_target cX4_target 2 (some .int) 7 118 1 6 G Z ad (k_C G ad mm) [.ref (ad 0 0), .int x] (k_po G (sp_tar mm x)) (k_px k_n3 (sp_tar mm x) mm) := by
  refine kx_of (by decide) (Nat.le_of_ble_eq_true rfl) ?_
  intro p e s m args below meth c hx hb hr hF hlk hnt hB ls hl
  obtain ⟨⟨hM, hN⟩, hK, hP, hT⟩ := hB
  have hS : va_S Z s.heap s.heap [] := va_S.rf
  have hl : lv_has ls 2 [(0, .ref (ad 0 0)), (1, .int x)] := hl
  refine lv_iload_n hx hb dX4_target_0 rfl (lv_at hl 1 rfl) ?_
  refine kx_vS (fr := 6) (lo := 90) (mc1 := 1) (ms1 := 6) (As := [.int x]) (rest := []) hF (m_X4_requireCar l hflag G Z ad (k_C G ad mm) x) ke_X4_requireCar wd_l_X4_207 (by decide) hM hN hK hP hT hS rfl hl.1 rfl (Nat.le_of_ble_eq_true rfl) dX4_target_1 (by decide) hnt hlk (fun E hE => ⟨⟨1, by decide, by rw [sp_tar, if_neg hE.2], hE.1⟩, rfl, rfl⟩) (by decide) (by decide) (fun ur1 H locs hr1 hM hN hS _ _ => ?_)
  obtain ⟨cE, rfl⟩ := hr1
  replace hM : k_H G ad (k_C G ad mm) H := hM
  replace hN : k_N Z ad (k_C G ad mm) := hN
  obtain ⟨ci, hci, hce⟩ := nt_car cE
  subst hce
  refine lv_aload_n hx hb dX4_target_4 rfl (lv_at hl 0 rfl) ?_
  refine lv_aload_n hx hb dX4_target_5 rfl (lv_at hl 0 rfl) ?_
  refine g_get (C := RX4) (T := TX4) (N := 6) (v := .ref (ad 0 3)) hF hK (hM 0 0 _ rfl) rfl inlX4 2 (by decide) rfl wd_f_X4_20 rfl dX4_target_6 ?_
  refine lv_iload_n hx hb dX4_target_9 rfl (lv_at hl 1 rfl) ?_
  refine g_ald (t0 := 0) (i := ci) hF hK (hM 0 3 _ rfl) rfl rfl hci (by decide) dX4_target_10 ?_
  refine bo_to (v := (mm 15 ci)) rfl ?_
  refine lv_aload_n hx hb dX4_target_11 rfl (lv_at hl 0 rfl) ?_
  refine g_get (C := RX4) (T := TX4) (N := 6) (v := .ref (ad 0 4)) hF hK (hM 0 0 _ rfl) rfl inlX4 3 (by decide) rfl wd_f_X4_23 rfl dX4_target_12 ?_
  refine lv_iload_n hx hb dX4_target_15 rfl (lv_at hl 1 rfl) ?_
  refine g_ald (t0 := 0) (i := ci) hF hK (hM 0 4 _ rfl) rfl rfl hci (by decide) dX4_target_16 ?_
  refine bo_to (v := (mm 16 ci)) rfl ?_
  refine kr_V (fr := 4) (lo := 91) (As := [.int (mm 15 ci), .int (mm 16 ci)]) (rest := []) hF (m_X4_targetFrom l G Z ad mm ci hci hI) ke_X4_targetFrom wd_l_X4_236 (by decide) hM hK hP hT hS (g_recv hK (hM 0 0 _ rfl) rfl) rfl hl.1 rfl (Nat.le_of_ble_eq_true rfl) dX4_target_17 (by decide) (fun r2 hr2 => ?_)
  replace hr2 : r2 = sp_tg mm ci := hr2
  subst hr2
  exact kx_iret hx hb hr hlk hM hN hK hS (by decide) (by decide) (k_po.of19 (by rw [sp_tar, if_pos cE, nt_c (by omega)])) dX4_target_20
theorem ke_X4_drive : wl_V RX4 yX4_drive cX4_drive 5 (some .int) 3 := ⟨wd_c_X4_drive, wd_i_X4_drive, wd_s_X4_drive, wd_n_X4, by decide, by decide +kernel⟩
set_option maxHeartbeats 4000000 in
set_option maxRecDepth 100000 in
theorem m_X4_drive (l : Launch) (hflag : l.stackTraces = false) (G : k_G) (Z : Nat → Prop) (ad : k_Ad) (mm : q_Mem) (x y z : Int32) (hI : Inv mm) : kx_i l yX4_drive cX4_drive 5 (some .int) 7 111 2 12 G Z ad (k_C G ad mm) [.ref (ad 0 0), .int x, .int y, .int z] (k_po G (sp_drive mm x y z)) (k_px k_n3 (sp_drive mm x y z) mm) := by
  refine kx_of (by decide) (Nat.le_of_ble_eq_true rfl) ?_
  intro p e s m args below meth c hx hb hr hF hlk hnt hB ls hl
  obtain ⟨⟨hM, hN⟩, hK, hP, hT⟩ := hB
  have hS : va_S Z s.heap s.heap [] := va_S.rf
  have hl : lv_has ls 5 [(0, .ref (ad 0 0)), (1, .int x), (2, .int y), (3, .int z)] := hl
  refine lv_iload_n hx hb dX4_drive_0 rfl (lv_at hl 1 rfl) ?_
  refine kx_vS (fr := 6) (lo := 90) (mc1 := 1) (ms1 := 6) (As := [.int x]) (rest := []) hF (m_X4_requireCar l hflag G Z ad (k_C G ad mm) x) ke_X4_requireCar wd_l_X4_207 (by decide) hM hN hK hP hT hS rfl hl.1 rfl (Nat.le_of_ble_eq_true rfl) dX4_drive_1 (by decide) hnt hlk (fun E hE => ⟨⟨1, by decide, by rw [sp_drive, if_neg (fun q => hE.2 q.1)], hE.1⟩, rfl, rfl⟩) (by decide) (by decide) (fun ur1 H locs hr1 hM hN hS _ _ => ?_)
  obtain ⟨cE, rfl⟩ := hr1
  replace hM : k_H G ad (k_C G ad mm) H := hM
  replace hN : k_N Z ad (k_C G ad mm) := hN
  obtain ⟨ci, hci, hce⟩ := nt_car cE
  subst hce
  refine lv_iload_n hx hb dX4_drive_4 rfl (lv_at hl 2 rfl) ?_
  refine lv_iload_n hx hb dX4_drive_5 rfl (lv_at hl 3 rfl) ?_
  refine kx_vS (fr := 6) (lo := 90) (mc1 := 1) (ms1 := 6) (As := [.int y, .int z]) (rest := []) hF (m_X4_requireCrossing l hflag G Z ad (k_C G ad mm) y z) ke_X4_requireCrossing wd_l_X4_46 (by decide) hM hN hK hP hT hS rfl hl.1 rfl (Nat.le_of_ble_eq_true rfl) dX4_drive_6 (by decide) hnt hlk (fun E hE => ⟨⟨1, by decide, by rw [sp_drive, if_neg (fun q => hE.2 q.2)], hE.1⟩, rfl, rfl⟩) (by decide) (by decide) (fun ur2 H locs hr2 hM hN hS _ _ => ?_)
  obtain ⟨cC, rfl⟩ := hr2
  replace hM : k_H G ad (k_C G ad mm) H := hM
  replace hN : k_N Z ad (k_C G ad mm) := hN
  obtain ⟨xi, hxi, hxe⟩ := nt_le (n := 16) (by decide) cC.1
  subst hxe
  obtain ⟨yi, hyi, hye⟩ := nt_le (n := 16) (by decide) cC.2
  subst hye
  refine lv_aload_n hx hb dX4_drive_9 rfl (lv_at hl 0 rfl) ?_
  refine g_get (C := RX4) (T := TX4) (N := 6) (v := .ref (ad 0 3)) hF hK (hM 0 0 _ rfl) rfl inlX4 2 (by decide) rfl wd_f_X4_20 rfl dX4_drive_10 ?_
  refine lv_iload_n hx hb dX4_drive_13 rfl (lv_at hl 1 rfl) ?_
  refine g_ald (t0 := 0) (i := ci) hF hK (hM 0 3 _ rfl) rfl rfl hci (by decide) dX4_drive_14 ?_
  refine bo_to (v := (mm 15 ci)) rfl ?_
  refine lv_aload_n hx hb dX4_drive_15 rfl (lv_at hl 0 rfl) ?_
  refine g_get (C := RX4) (T := TX4) (N := 6) (v := .ref (ad 0 4)) hF hK (hM 0 0 _ rfl) rfl inlX4 3 (by decide) rfl wd_f_X4_23 rfl dX4_drive_16 ?_
  refine lv_iload_n hx hb dX4_drive_19 rfl (lv_at hl 1 rfl) ?_
  refine g_ald (t0 := 0) (i := ci) hF hK (hM 0 4 _ rfl) rfl rfl hci (by decide) dX4_drive_20 ?_
  refine bo_to (v := (mm 16 ci)) rfl ?_
  refine lv_iload_n hx hb dX4_drive_21 rfl (lv_at hl 2 rfl) ?_
  refine lv_iload_n hx hb dX4_drive_22 rfl (lv_at hl 3 rfl) ?_
  refine rc_S (fr := 1) (lo := 24) (As := [.int (mm 15 ci), .int (mm 16 ci), .int (nI xi), .int (nI yi)]) (rest := []) hF (m_X4_distance l (mm 15 ci) (mm 16 ci) (nI xi) (nI yi)) ke_X4_distance wd_l_X4_210 (by decide) bl_true (fun _ _ _ => trivial) rfl hl.1 rfl (Nat.le_of_ble_eq_true rfl) dX4_drive_23 (by decide) (fun r3 hr3 => ?_)
  rw [dst_far hI hci hxi hyi] at hr3
  replace hr3 : r3 = sp_far mm ci (nI xi) (nI yi) := hr3
  subst hr3
  refine lv_istore (lv' := [(4, .int (sp_far mm ci (nI xi) (nI yi))), (0, .ref (ad 0 0)), (1, .int (nI ci)), (2, .int (nI xi)), (3, .int (nI yi))]) hx hb dX4_drive_26 hl (by decide) rfl (fun ls hl => ?_)
  refine lv_aload_n hx hb dX4_drive_28 rfl (lv_at hl 1 rfl) ?_
  refine g_get (C := RX4) (T := TX4) (N := 6) (v := .ref (ad 0 3)) hF hK (hM 0 0 _ rfl) rfl inlX4 2 (by decide) rfl wd_f_X4_20 rfl dX4_drive_29 ?_
  refine lv_iload_n hx hb dX4_drive_32 rfl (lv_at hl 2 rfl) ?_
  refine lv_iload_n hx hb dX4_drive_33 rfl (lv_at hl 3 rfl) ?_
  refine k_ast (v := (nI xi)) (i := ci) hF hK hM hN hS 0 3 rfl rfl hci (by decide) dX4_drive_34 (fun H locs hM hN hS => ?_)
  rw [kcu_carX] at hM hN
  refine lv_aload_n hx hb dX4_drive_35 rfl (lv_at hl 1 rfl) ?_
  refine g_get (C := RX4) (T := TX4) (N := 6) (v := .ref (ad 0 4)) hF hK (hM 0 0 _ rfl) rfl inlX4 3 (by decide) rfl wd_f_X4_23 rfl dX4_drive_36 ?_
  refine lv_iload_n hx hb dX4_drive_39 rfl (lv_at hl 2 rfl) ?_
  refine lv_iload_n hx hb dX4_drive_40 rfl (lv_at hl 4 rfl) ?_
  refine k_ast (v := (nI yi)) (i := ci) hF hK hM hN hS 0 4 rfl rfl hci (by decide) dX4_drive_41 (fun H locs hM hN hS => ?_)
  rw [kcu_carY] at hM hN
  refine lv_iload hx hb dX4_drive_42 (lv_at hl 0 rfl) ?_
  exact kx_iret hx hb hr hlk hM hN hK hS (by decide) (by decide) (k_po.of2 (m2 := sp_goes (up2 mm 19 0 0) ci (nI xi) (nI yi)) (by rw [sp_drive, if_pos (And.intro cE cC), nt_c (by omega)]) rfl rfl) dX4_drive_44
theorem ke_X4_ways : wl_V RX4 yX4_ways cX4_ways 1 (some .int) 0 := ⟨wd_c_X4_ways, wd_i_X4_ways, wd_s_X4_ways, wd_n_X4, by decide, by decide +kernel⟩
set_option maxHeartbeats 4000000 in
set_option maxRecDepth 100000 in
theorem m_X4_ways (l : Launch) (G : k_G) (Z : Nat → Prop) (ad : k_Ad) (mm : q_Mem)  : rc_C l yX4_ways cX4_ways 1 (some .int) 1 20 [.ref (ad 0 0)] (k_R G Z ad mm) (fun r => r = mm 1 0) := by
  refine rc_of (by decide) (Nat.le_of_ble_eq_true rfl) ?_
  intro p e s m args below meth c hx hb hr hF hlk hB ls hl
  obtain ⟨hM, hK, hP, hT⟩ := hB
  have hS : va_S Z s.heap s.heap [] := va_S.rf
  have hl : lv_has ls 1 [(0, .ref (ad 0 0))] := hl
  have hf : (0 : Nat) ≤ 0 ∧ (0 : Nat) ≤ 0 := ⟨Nat.le_refl 0, Nat.le_refl 0⟩
  refine lv_aload_n hx hb dX4_ways_0 rfl (lv_at hl 0 rfl) ?_
  refine g_get (C := RX4) (T := TX4) (N := 6) (v := .ref (ad 0 1)) hF hK (hM 0 0 _ rfl) rfl inlX4 0 (by decide) rfl wd_f_X4_10 rfl dX4_ways_1 ?_
  refine kr_V (fr := 0) (lo := 0) (As := []) (rest := []) hF (m_Jx4a65c_size_8abf5 l G Z ad mm) ke_Jx4a65c_size_8abf5 wd_l_X4_65 (by decide) hM hK hP hT hS (g_recv hK (hM 0 1 _ rfl) rfl) rfl hl.1 rfl (Nat.le_of_ble_eq_true rfl) dX4_ways_4 hf (fun r1 hr1 => ?_)
  replace hr1 : r1 = mm 1 0 := hr1
  subst hr1
  exact rc_iret hx hb hr hlk (rfl) dX4_ways_7
theorem ke_X4_clock : wl_V RX4 yX4_clock cX4_clock 1 (some .int) 0 := ⟨wd_c_X4_clock, wd_i_X4_clock, wd_s_X4_clock, wd_n_X4, by decide, by decide +kernel⟩
set_option maxHeartbeats 4000000 in
set_option maxRecDepth 100000 in
theorem m_X4_clock (l : Launch) (G : k_G) (Z : Nat → Prop) (ad : k_Ad) (mm : q_Mem)  : rc_C l yX4_clock cX4_clock 1 (some .int) 0 0 [.ref (ad 0 0)] (k_R G Z ad mm) (fun r => r = mm 10 0) := by
  refine rc_of (by decide) (Nat.le_of_ble_eq_true rfl) ?_
  intro p e s m args below meth c hx hb hr hF hlk hB ls hl
  obtain ⟨hM, hK, hP, hT⟩ := hB
  have hS : va_S Z s.heap s.heap [] := va_S.rf
  have hl : lv_has ls 1 [(0, .ref (ad 0 0))] := hl
  have hf : (0 : Nat) ≤ 0 ∧ (0 : Nat) ≤ 0 := ⟨Nat.le_refl 0, Nat.le_refl 0⟩
  refine lv_aload_n hx hb dX4_clock_0 rfl (lv_at hl 0 rfl) ?_
  refine g_get (C := RX4) (T := TX4) (N := 6) (v := .int (mm 10 0)) hF hK (hM 0 0 _ rfl) rfl inlX4 5 (by decide) rfl wd_f_X4_32 rfl dX4_clock_1 ?_
  exact rc_iret hx hb hr hlk (rfl) dX4_clock_4
theorem ke_X4_send : wl_V RX4 yX4_send cX4_send 7 (some .int) 1 := ⟨wd_c_X4_send, wd_i_X4_send, wd_s_X4_send, wd_n_X4, by decide, by decide +kernel⟩
set_option maxHeartbeats 4000000 in
set_option maxRecDepth 100000 in
theorem m_X4_send (l : Launch) (hflag : l.stackTraces = false) (G : k_G) (Z : Nat → Prop) (ad : k_Ad) (mm : q_Mem) (x : Int32) (hI : Inv mm) : kx_i l yX4_send cX4_send 7 (some .int) 7 118 3 18 G Z ad (k_C G ad mm) [.ref (ad 0 0), .int x] (k_po G (sp_snd mm x)) (k_px k_n2 (sp_snd mm x) mm) := by
  refine kx_of (by decide) (Nat.le_of_ble_eq_true rfl) ?_
  intro p e s m args below meth c hx hb hr hF hlk hnt hB ls hl
  obtain ⟨⟨hM, hN⟩, hK, hP, hT⟩ := hB
  have hS : va_S Z s.heap s.heap [] := va_S.rf
  have hl : lv_has ls 7 [(0, .ref (ad 0 0)), (1, .int x)] := hl
  refine lv_iload_n hx hb dX4_send_0 rfl (lv_at hl 1 rfl) ?_
  refine kx_vS (fr := 6) (lo := 90) (mc1 := 1) (ms1 := 6) (As := [.int x]) (rest := []) hF (m_X4_requireCar l hflag G Z ad (k_C G ad mm) x) ke_X4_requireCar wd_l_X4_207 (by decide) hM hN hK hP hT hS rfl hl.1 rfl (Nat.le_of_ble_eq_true rfl) dX4_send_1 (by decide) hnt hlk (fun E hE => ⟨⟨1, by decide, by rw [sp_snd, if_neg hE.2], hE.1⟩, rfl, rfl⟩) (by decide) (by decide) (fun ur1 H locs hr1 hM hN hS _ _ => ?_)
  obtain ⟨cE, rfl⟩ := hr1
  replace hM : k_H G ad (k_C G ad mm) H := hM
  replace hN : k_N Z ad (k_C G ad mm) := hN
  obtain ⟨ci, hci, hce⟩ := nt_car cE
  subst hce
  refine lv_aload_n hx hb dX4_send_4 rfl (lv_at hl 0 rfl) ?_
  refine lv_aload_n hx hb dX4_send_5 rfl (lv_at hl 0 rfl) ?_
  refine g_get (C := RX4) (T := TX4) (N := 6) (v := .ref (ad 0 3)) hF hK (hM 0 0 _ rfl) rfl inlX4 2 (by decide) rfl wd_f_X4_20 rfl dX4_send_6 ?_
  refine lv_iload_n hx hb dX4_send_9 rfl (lv_at hl 1 rfl) ?_
  refine g_ald (t0 := 0) (i := ci) hF hK (hM 0 3 _ rfl) rfl rfl hci (by decide) dX4_send_10 ?_
  refine bo_to (v := (mm 15 ci)) rfl ?_
  refine lv_aload_n hx hb dX4_send_11 rfl (lv_at hl 0 rfl) ?_
  refine g_get (C := RX4) (T := TX4) (N := 6) (v := .ref (ad 0 4)) hF hK (hM 0 0 _ rfl) rfl inlX4 3 (by decide) rfl wd_f_X4_23 rfl dX4_send_12 ?_
  refine lv_iload_n hx hb dX4_send_15 rfl (lv_at hl 1 rfl) ?_
  refine g_ald (t0 := 0) (i := ci) hF hK (hM 0 4 _ rfl) rfl rfl hci (by decide) dX4_send_16 ?_
  refine bo_to (v := (mm 16 ci)) rfl ?_
  refine kr_V (fr := 4) (lo := 91) (As := [.int (mm 15 ci), .int (mm 16 ci)]) (rest := []) hF (m_X4_targetFrom l G Z ad mm ci hci hI) ke_X4_targetFrom wd_l_X4_236 (by decide) hM hK hP hT hS (g_recv hK (hM 0 0 _ rfl) rfl) rfl hl.1 rfl (Nat.le_of_ble_eq_true rfl) dX4_send_17 (by decide) (fun r2 hr2 => ?_)
  replace hr2 : r2 = sp_tg mm ci := hr2
  subst hr2
  refine lv_istore_n (lv' := [(2, .int (sp_tg mm ci)), (0, .ref (ad 0 0)), (1, .int (nI ci))]) hx hb dX4_send_20 rfl hl (by decide) rfl (fun ls hl => ?_)
  refine lv_iload_n hx hb dX4_send_21 rfl (lv_at hl 0 rfl) ?_
  refine lv_iconst (v := (-1)) hx hb dX4_send_22 (by decide) ?_
  refine lv_icmp_ne (tgt := 36) hx hb dX4_send_23 (by decide) (fun cT => ?_) (fun cT => ?_)
  · skip
    obtain ⟨wi, hwi, etg⟩ := (tg_or mm ci).resolve_left cT
    have hW40 := hI.W40
    have hJ : sp_snd mm (nI ci) = sp_snd0 (up2 mm 19 0 0) ci wi := by rw [sp_snd, if_pos cE, nt_c (by omega), if_neg cT, etg, nt_c (by omega)]
    have cWy : sp_wy mm (nI wi) := ⟨bo_lt (nI_pos (by omega)), by rw [hI.W]; exact nI_lt hwi (by omega)⟩
    have hwc : (nI wi).toNatClampNeg = wi := nt_c (by omega)
    rw [etg] at hl
    refine lv_aload_n hx hb dX4_send_36 rfl (lv_at hl 1 rfl) ?_
    refine lv_iload_n hx hb dX4_send_37 rfl (lv_at hl 0 rfl) ?_
    refine kx_qV (fr := 6) (lo := 90) (mc1 := 1) (ms1 := 6) (As := [.int (nI wi)]) (rest := []) hF (m_X4_wayAt l hflag G Z ad mm (nI wi) hI) ke_X4_wayAt wd_l_X4_96 (by decide) hM hN hK hP hT hS (g_recv hK (hM 0 0 _ rfl) rfl) rfl hl.1 rfl (Nat.le_of_ble_eq_true rfl) dX4_send_38 (by decide) hnt hlk (fun E hE => (hE.2 cWy).elim) (by decide) (by decide) (fun r3 ur3 H locs hr3 hM hN hS _ _ => ?_)
    obtain ⟨cW, hro, rfl⟩ := hr3
    replace hM : k_H G ad (k_C G ad mm) H := hM
    replace hN : k_N Z ad (k_C G ad mm) := hN
    rw [hwc] at hro
    subst hro
    refine bo_toV (v := .ref (ad 1 wi)) rfl ?_
    refine lv_astore_n (lv' := [(3, .ref (ad 1 wi)), (2, .int (nI wi)), (0, .ref (ad 0 0)), (1, .int (nI ci))]) hx hb dX4_send_41 rfl hl (by decide) rfl (fun ls hl => ?_)
    refine lv_aload_n hx hb dX4_send_42 rfl (lv_at hl 0 rfl) ?_
    refine lv_aload_n hx hb dX4_send_43 rfl (lv_at hl 2 rfl) ?_
    refine g_get (C := RX4) (T := TX4) (N := 6) (v := .ref (ad 0 3)) hF hK (hM 0 0 _ rfl) rfl inlX4 2 (by decide) rfl wd_f_X4_20 rfl dX4_send_44 ?_
    refine lv_iload_n hx hb dX4_send_47 rfl (lv_at hl 3 rfl) ?_
    refine g_ald (t0 := 0) (i := ci) hF hK (hM 0 3 _ rfl) rfl rfl hci (by decide) dX4_send_48 ?_
    refine bo_to (v := (mm 15 ci)) rfl ?_
    refine lv_aload_n hx hb dX4_send_49 rfl (lv_at hl 2 rfl) ?_
    refine g_get (C := RX4) (T := TX4) (N := 6) (v := .ref (ad 0 4)) hF hK (hM 0 0 _ rfl) rfl inlX4 3 (by decide) rfl wd_f_X4_23 rfl dX4_send_50 ?_
    refine lv_iload_n hx hb dX4_send_53 rfl (lv_at hl 3 rfl) ?_
    refine g_ald (t0 := 0) (i := ci) hF hK (hM 0 4 _ rfl) rfl rfl hci (by decide) dX4_send_54 ?_
    refine bo_to (v := (mm 16 ci)) rfl ?_
    refine kr_V (fr := 2) (lo := 47) (As := [.int (mm 15 ci), .int (mm 16 ci)]) (rest := []) hF (m_X3_distanceFromBegin l G Z ad mm wi (mm 15 ci) (mm 16 ci) hI hwi) ke_X3_distanceFromBegin wd_l_X4_241 (by decide) hM hK hP hT hS (g_recv hK (hM 1 wi _ (kc_w hwi)) rfl) rfl hl.1 rfl (Nat.le_of_ble_eq_true rfl) dX4_send_55 (by decide) (fun r4 hr4 => ?_)
    rw [dst_b hI hci hwi] at hr4
    replace hr4 : r4 = sp_far mm ci (mm 2 wi) (mm 3 wi) := hr4
    subst hr4
    refine lv_istore (lv' := [(4, .int (sp_far mm ci (mm 2 wi) (mm 3 wi))), (3, .ref (ad 1 wi)), (2, .int (nI wi)), (0, .ref (ad 0 0)), (1, .int (nI ci))]) hx hb dX4_send_58 hl (by decide) rfl (fun ls hl => ?_)
    refine lv_aload_n hx hb dX4_send_60 rfl (lv_at hl 1 rfl) ?_
    refine lv_aload_n hx hb dX4_send_61 rfl (lv_at hl 3 rfl) ?_
    refine g_get (C := RX4) (T := TX4) (N := 6) (v := .ref (ad 0 3)) hF hK (hM 0 0 _ rfl) rfl inlX4 2 (by decide) rfl wd_f_X4_20 rfl dX4_send_62 ?_
    refine lv_iload_n hx hb dX4_send_65 rfl (lv_at hl 4 rfl) ?_
    refine g_ald (t0 := 0) (i := ci) hF hK (hM 0 3 _ rfl) rfl rfl hci (by decide) dX4_send_66 ?_
    refine bo_to (v := (mm 15 ci)) rfl ?_
    refine lv_aload_n hx hb dX4_send_67 rfl (lv_at hl 3 rfl) ?_
    refine g_get (C := RX4) (T := TX4) (N := 6) (v := .ref (ad 0 4)) hF hK (hM 0 0 _ rfl) rfl inlX4 3 (by decide) rfl wd_f_X4_23 rfl dX4_send_68 ?_
    refine lv_iload_n hx hb dX4_send_71 rfl (lv_at hl 4 rfl) ?_
    refine g_ald (t0 := 0) (i := ci) hF hK (hM 0 4 _ rfl) rfl rfl hci (by decide) dX4_send_72 ?_
    refine bo_to (v := (mm 16 ci)) rfl ?_
    refine kr_V (fr := 2) (lo := 47) (As := [.int (mm 15 ci), .int (mm 16 ci)]) (rest := []) hF (m_X3_distanceFromEnd l G Z ad mm wi (mm 15 ci) (mm 16 ci) hI hwi) ke_X3_distanceFromEnd wd_l_X4_244 (by decide) hM hK hP hT hS (g_recv hK (hM 1 wi _ (kc_w hwi)) rfl) rfl hl.1 rfl (Nat.le_of_ble_eq_true rfl) dX4_send_73 (by decide) (fun r5 hr5 => ?_)
    rw [dst_e hI hci hwi] at hr5
    replace hr5 : r5 = sp_far mm ci (mm 4 wi) (mm 5 wi) := hr5
    subst hr5
    refine lv_istore (lv' := [(5, .int (sp_far mm ci (mm 4 wi) (mm 5 wi))), (4, .int (sp_far mm ci (mm 2 wi) (mm 3 wi))), (3, .ref (ad 1 wi)), (2, .int (nI wi)), (0, .ref (ad 0 0)), (1, .int (nI ci))]) hx hb dX4_send_76 hl (by decide) rfl (fun ls hl => ?_)
    refine bo_cut (ls := ls) (tgt := 90) (E := if sp_far mm ci (mm 4 wi) (mm 5 wi) < sp_far mm ci (mm 2 wi) (mm 3 wi) then 1 else 0) (rest := []) (fun vi evi => ?_) (fun J90 => ?_)
    · skip
      refine lv_istore (lv' := [(6, .int vi), (5, .int (sp_far mm ci (mm 4 wi) (mm 5 wi))), (4, .int (sp_far mm ci (mm 2 wi) (mm 3 wi))), (3, .ref (ad 1 wi)), (2, .int (nI wi)), (0, .ref (ad 0 0)), (1, .int (nI ci))]) hx hb dX4_send_90 hl (by decide) rfl (fun ls hl => ?_)
      refine lv_aload_n hx hb dX4_send_92 rfl (lv_at hl 5 rfl) ?_
      refine g_get (C := RX4) (T := TX4) (N := 6) (v := .ref (ad 0 3)) hF hK (hM 0 0 _ rfl) rfl inlX4 2 (by decide) rfl wd_f_X4_20 rfl dX4_send_93 ?_
      refine lv_iload_n hx hb dX4_send_96 rfl (lv_at hl 6 rfl) ?_
      refine lv_iload hx hb dX4_send_97 (lv_at hl 0 rfl) ?_
      refine bo_eq (tgt := 109) evi hx hb dX4_send_99 (by decide) (fun c8 => ?_) (fun c8 => ?_)
      · skip
        refine lv_aload_n hx hb dX4_send_109 rfl (lv_at hl 3 rfl) ?_
        refine g_get (C := RX3) (T := TX3) (N := 8) (v := .int (mm 2 wi)) hF hK (hM 1 wi _ (kc_w hwi)) rfl inlX3 0 (by decide) rfl wd_f_X4_250 rfl dX4_send_110 ?_
        refine bo_to (v := (mm 2 wi)) (rfl) ?_
        refine k_ast (v := (mm 2 wi)) (i := ci) hF hK hM hN hS 0 3 rfl rfl hci (by decide) dX4_send_113 (fun H locs hM hN hS => ?_)
        rw [kcu_carX] at hM hN
        refine lv_aload_n hx hb dX4_send_114 rfl (lv_at hl 5 rfl) ?_
        refine g_get (C := RX4) (T := TX4) (N := 6) (v := .ref (ad 0 4)) hF hK (hM 0 0 _ rfl) rfl inlX4 3 (by decide) rfl wd_f_X4_23 rfl dX4_send_115 ?_
        refine lv_iload_n hx hb dX4_send_118 rfl (lv_at hl 6 rfl) ?_
        refine lv_iload hx hb dX4_send_119 (lv_at hl 0 rfl) ?_
        refine bo_eq (tgt := 131) evi hx hb dX4_send_121 (by decide) (fun c9 => ?_) (fun c9 => ?_)
        · skip
          refine lv_aload_n hx hb dX4_send_131 rfl (lv_at hl 3 rfl) ?_
          refine g_get (C := RX3) (T := TX3) (N := 8) (v := .int ((up2 mm 15 ci (mm 2 wi)) 3 wi)) hF hK (hM 1 wi _ (kc_w hwi)) rfl inlX3 1 (by decide) rfl wd_f_X4_256 rfl dX4_send_132 ?_
          refine bo_to (v := (mm 3 wi)) (rfl) ?_
          refine k_ast (v := (mm 3 wi)) (i := ci) hF hK hM hN hS 0 4 rfl rfl hci (by decide) dX4_send_135 (fun H locs hM hN hS => ?_)
          rw [kcu_carY] at hM hN
          refine lv_iload hx hb dX4_send_136 (lv_at hl 0 rfl) ?_
          refine bo_eq (tgt := 146) evi hx hb dX4_send_138 (by decide) (fun c10 => ?_) (fun c10 => ?_)
          · skip
            refine lv_iload hx hb dX4_send_146 (lv_at hl 2 rfl) ?_
            exact kx_iret hx hb hr hlk hM hN hK hS (by decide) (by decide) (k_po.of2 (m2 := sp_goes (up2 mm 19 0 0) ci (mm 2 wi) (mm 3 wi)) (hJ.trans (if_pos (bo_lt c8))) rfl rfl) dX4_send_148
          · skip
            exact absurd c10 c8
        · skip
          exact absurd c9 c8
      · skip
        refine lv_aload_n hx hb dX4_send_102 rfl (lv_at hl 3 rfl) ?_
        refine g_get (C := RX3) (T := TX3) (N := 8) (v := .int (mm 4 wi)) hF hK (hM 1 wi _ (kc_w hwi)) rfl inlX3 2 (by decide) rfl wd_f_X4_247 rfl dX4_send_103 ?_
        refine bo_to (v := (mm 4 wi)) (rfl) ?_
        refine lv_goto (tgt := 113) hx hb dX4_send_106 (by decide) ?_
        refine k_ast (v := (mm 4 wi)) (i := ci) hF hK hM hN hS 0 3 rfl rfl hci (by decide) dX4_send_113 (fun H locs hM hN hS => ?_)
        rw [kcu_carX] at hM hN
        refine lv_aload_n hx hb dX4_send_114 rfl (lv_at hl 5 rfl) ?_
        refine g_get (C := RX4) (T := TX4) (N := 6) (v := .ref (ad 0 4)) hF hK (hM 0 0 _ rfl) rfl inlX4 3 (by decide) rfl wd_f_X4_23 rfl dX4_send_115 ?_
        refine lv_iload_n hx hb dX4_send_118 rfl (lv_at hl 6 rfl) ?_
        refine lv_iload hx hb dX4_send_119 (lv_at hl 0 rfl) ?_
        refine bo_eq (tgt := 131) evi hx hb dX4_send_121 (by decide) (fun c9 => ?_) (fun c9 => ?_)
        · skip
          exact absurd c8 c9
        · skip
          refine lv_aload_n hx hb dX4_send_124 rfl (lv_at hl 3 rfl) ?_
          refine g_get (C := RX3) (T := TX3) (N := 8) (v := .int ((up2 mm 15 ci (mm 4 wi)) 5 wi)) hF hK (hM 1 wi _ (kc_w hwi)) rfl inlX3 3 (by decide) rfl wd_f_X4_253 rfl dX4_send_125 ?_
          refine bo_to (v := (mm 5 wi)) (rfl) ?_
          refine lv_goto (tgt := 135) hx hb dX4_send_128 (by decide) ?_
          refine k_ast (v := (mm 5 wi)) (i := ci) hF hK hM hN hS 0 4 rfl rfl hci (by decide) dX4_send_135 (fun H locs hM hN hS => ?_)
          rw [kcu_carY] at hM hN
          refine lv_iload hx hb dX4_send_136 (lv_at hl 0 rfl) ?_
          refine bo_eq (tgt := 146) evi hx hb dX4_send_138 (by decide) (fun c10 => ?_) (fun c10 => ?_)
          · skip
            exact absurd c8 c10
          · skip
            refine lv_iload hx hb dX4_send_141 (lv_at hl 1 rfl) ?_
            refine lv_goto (tgt := 148) hx hb dX4_send_143 (by decide) ?_
            exact kx_iret hx hb hr hlk hM hN hK hS (by decide) (by decide) (k_po.of2 (m2 := sp_goes (up2 mm 19 0 0) ci (mm 4 wi) (mm 5 wi)) (hJ.trans (if_neg (bo_nle c8))) rfl rfl) dX4_send_148
    · skip
      refine lv_iload hx hb dX4_send_78 (lv_at hl 0 rfl) ?_
      refine lv_iload hx hb dX4_send_80 (lv_at hl 1 rfl) ?_
      refine lv_icmp_ge (tgt := 89) hx hb dX4_send_82 (by decide) (fun c7 => ?_) (fun c7 => ?_)
      · skip
        refine lv_iconst (v := 0) hx hb dX4_send_89 (by decide) ?_
        exact J90 _ (by first | exact bo_p (bo_le c7) | exact bo_n (bo_nlt c7))
      · skip
        refine lv_iconst (v := 1) hx hb dX4_send_85 (by decide) ?_
        refine lv_goto (tgt := 90) hx hb dX4_send_86 (by decide) ?_
        exact J90 _ (by first | exact bo_p (bo_le c7) | exact bo_n (bo_nlt c7))
  · skip
    exact kx_thr (text := "the car has no target") hF hflag hP hT k_E_ISE wd_k_X4_73 (by decide) hM hN hK hS hl.1 dX4_send_26 dX4_send_29 dX4_send_30 dX4_send_32 dX4_send_35 hnt (by decide) (Nat.le_of_ble_eq_true rfl) (by decide) (by decide) hlk (by decide) (by decide) (⟨2, by decide, by rw [sp_snd, if_pos cE, nt_c (by omega), if_pos cT], rfl⟩)
end
section
theorem lim_eq (t : Int32) : (if 0 < (if t < 100 then t else 100) then (if t < 100 then t else 100) else 0) = sp_lim t := by
  unfold sp_lim
  by_cases h1 : t < 0
  · have h2 : t < 100 := by
      rw [Int32.lt_iff_toInt_lt] at h1 ⊢
      have a1 : (0 : Int32).toInt = 0 := by decide
      have a2 : (100 : Int32).toInt = 100 := by decide
      omega
    rw [if_pos h2, if_pos h1, if_neg (fun q => by rw [Int32.lt_iff_toInt_lt] at h1 q; omega)]
  · rw [if_neg h1]
    by_cases h2 : 100 < t
    · have h3 : ¬ t < 100 := fun q => by rw [Int32.lt_iff_toInt_lt] at h2 q; omega
      have e : (if t < 100 then t else 100) = 100 := if_neg h3
      rw [if_pos h2, e]
      decide
    · rw [if_neg h2]
      have h3 : (if t < 100 then t else 100) = t := by
        by_cases q : t < 100
        · rw [if_pos q]
        · rw [if_neg q]; exact Int32.le_antisymm (bo_lt q) (bo_lt h2)
      rw [h3]
      by_cases q : 0 < t
      · rw [if_pos q]
      · rw [if_neg q]; exact Int32.le_antisymm (bo_lt h1) (bo_lt q)
theorem fill_0 {G : k_G} {ct : k_Ct} {k i n : Nat} {v : Int32} {f : Nat → Int32} (he : ct k i = some (.inl (G.2.1, n, .inl f))) : k_up ct k i (.inl (G.2.1, n, .inl (fun j => if j < 0 then v else f j))) = ct := by
  refine up_of ?_ fun a b _ => rfl
  rw [he]
  have e : (fun j => if j < 0 then v else f j) = f := by funext j; exact if_neg (Nat.not_lt_zero j)
  rw [e]
theorem fill_s {t : Nat} {v : Int32} {f : Nat → Int32} : upd (fun j => if j < t then v else f j) t v = fun j => if j < t + 1 then v else f j := by
  funext j
  show (if j = t then v else if j < t then v else f j) = _
  by_cases h : j = t
  · rw [if_pos h, if_pos (by omega)]
  · rw [if_neg h]
    by_cases h2 : j < t
    · rw [if_pos h2, if_pos (by omega)]
    · rw [if_neg h2, if_neg (by omega)]
/-- the doubts while a sighting is kept: gone through up to i -/
def sp_kp (mm : q_Mem) (w d q i : Nat) : q_Mem := fun k j => if k = 20 ∧ 9 * w ≤ j ∧ j < 9 * w + i ∧ ¬ (j - 9 * w) % 3 = d ∧ nI q < mm 20 j then -1 else mm k j
section
variable {mm : q_Mem} {w c d q i : Nat}
theorem kp_0 : sp_kp mm w d q 0 = mm := by
  funext k j
  exact if_neg (fun z => by omega)
theorem kp_rd : sp_kp mm w d q i 20 (9 * w + i) = mm 20 (9 * w + i) := if_neg (fun z => by omega)
theorem kp_y (h1 : ¬ i % 3 = d) (h2 : nI q < mm 20 (9 * w + i)) : up2 (sp_kp mm w d q i) 20 (9 * w + i) (-1) = sp_kp mm w d q (i + 1) := by
  funext k j
  unfold up2 sp_kp
  by_cases z : k = 20 ∧ j = 9 * w + i
  · obtain ⟨rfl, rfl⟩ := z
    rw [if_pos ⟨rfl, rfl⟩, if_pos ⟨rfl, by omega, by omega, by rw [Nat.add_sub_cancel_left]; exact h1, h2⟩]
  · rw [if_neg z]
    by_cases y : k = 20 ∧ 9 * w ≤ j ∧ j < 9 * w + i ∧ ¬ (j - 9 * w) % 3 = d ∧ nI q < mm 20 j
    · rw [if_pos y, if_pos ⟨y.1, y.2.1, by omega, y.2.2.2⟩]
    · rw [if_neg y, if_neg (fun x => y ⟨x.1, x.2.1, by have := x.2.2.1; have := x.1; omega, x.2.2.2⟩)]
theorem kp_n (h : ¬ (¬ i % 3 = d ∧ nI q < mm 20 (9 * w + i))) : sp_kp mm w d q i = sp_kp mm w d q (i + 1) := by
  funext k j
  unfold sp_kp
  by_cases y : k = 20 ∧ 9 * w ≤ j ∧ j < 9 * w + i ∧ ¬ (j - 9 * w) % 3 = d ∧ nI q < mm 20 j
  · rw [if_pos y, if_pos ⟨y.1, y.2.1, by omega, y.2.2.2⟩]
  · rw [if_neg y, if_neg (fun x => ?_)]
    by_cases e : j = 9 * w + i
    · subst e
      exact h ⟨by have := x.2.2.2.1; rw [Nat.add_sub_cancel_left] at this; exact this, x.2.2.2.2⟩
    · exact y ⟨x.1, x.2.1, by have := x.2.2.1; omega, x.2.2.2⟩
theorem kp_end (hc : c < 3) (hd : d < 3) : up2 (sp_kp mm w d q 9) 20 (9 * w + (3 * c + d)) (nI q) = sp_keep mm w c d (nI q) := by
  funext k j
  unfold up2 sp_kp sp_keep
  by_cases z : k = 20 ∧ j = 9 * w + (3 * c + d)
  · obtain ⟨rfl, rfl⟩ := z
    rw [if_pos ⟨rfl, rfl⟩, if_pos ⟨rfl, by omega, by omega⟩, if_pos (Nat.add_sub_cancel_left _ _)]
  · rw [if_neg z]
    by_cases y : k = 20 ∧ 9 * w ≤ j ∧ j < 9 * w + 9
    · obtain ⟨rfl, y2, y3⟩ := y
      have hne : ¬ j - 9 * w = 3 * c + d := fun x => z ⟨rfl, by omega⟩
      rw [if_pos (⟨rfl, y2, y3⟩ : 20 = 20 ∧ 9 * w ≤ j ∧ j < 9 * w + 9), if_neg hne]
      by_cases x : ¬ (j - 9 * w) % 3 = d ∧ nI q < mm 20 j
      · rw [if_pos x, if_pos ⟨rfl, y2, y3, x⟩]
      · rw [if_neg x, if_neg (fun v => x v.2.2.2)]
    · rw [if_neg y, if_neg (fun x => y ⟨x.1, x.2.1, x.2.2.1⟩)]
theorem kcu_forg {G : k_G} {ad : k_Ad} (hw : w < sp_W mm) : k_up (k_C G ad mm) 2 w (.inl (G.2.1, 9, .inl (fun j => if j < 9 then -1 else k_db mm w j))) = k_C G ad (sp_forg mm w) := by
  have e : ∀ b, k_db (sp_forg mm w) b = if b = w then (fun j => if j < 9 then -1 else k_db mm w j) else k_db mm b := by
    intro b
    funext j
    by_cases hb : b = w
    · subst hb
      rw [if_pos rfl]
      unfold k_db
      by_cases hj : j < 9
      · rw [if_pos hj, if_pos hj, fg_20 hj, if_pos rfl]
      · rw [if_neg hj, if_neg hj, if_neg hj]
    · rw [if_neg hb]
      unfold k_db
      by_cases hj : j < 9
      · rw [if_pos hj, if_pos hj, fg_20 hj, if_neg hb]
      · rw [if_neg hj, if_neg hj]
  refine up_of ?_ fun a b z => ?_
  · show (if w < sp_W mm then some (.inl (G.2.1, 9, .inl (k_db (sp_forg mm w) w))) else none : Option va_E) = _
    rw [if_pos hw, e, if_pos rfl]
  · match a with
    | 0 => rfl
    | 1 => rfl
    | 2 =>
      show (if b < sp_W mm then some (.inl (G.2.1, 9, .inl (k_db mm b))) else none : Option va_E) = if b < sp_W mm then some (.inl (G.2.1, 9, .inl (k_db (sp_forg mm w) b))) else none
      rw [e, if_neg (fun y => z ⟨rfl, y⟩)]
    | 3 => rfl
    | 4 => rfl
    | 5 => rfl
    | 6 => rfl
    | n + 7 => rfl
end
end
section
theorem dJ7_fill_53178_0 : decode cJ7_fill_53178 0 = .ok (.iconst 0, 1) := by decide +kernel
theorem dJ7_fill_53178_1 : decode cJ7_fill_53178 1 = .ok (.istore_n 2, 1) := by decide +kernel
theorem dJ7_fill_53178_2 : decode cJ7_fill_53178 2 = .ok (.aload_n 0, 1) := by decide +kernel
theorem dJ7_fill_53178_3 : decode cJ7_fill_53178 3 = .ok (.arraylength, 1) := by decide +kernel
theorem dJ7_fill_53178_4 : decode cJ7_fill_53178 4 = .ok (.istore_n 3, 1) := by decide +kernel
theorem dJ7_fill_53178_5 : decode cJ7_fill_53178 5 = .ok (.iload_n 2, 1) := by decide +kernel
theorem dJ7_fill_53178_6 : decode cJ7_fill_53178 6 = .ok (.iload_n 3, 1) := by decide +kernel
theorem dJ7_fill_53178_7 : decode cJ7_fill_53178 7 = .ok (.if_icmp .ge 13, 3) := by decide +kernel
theorem dJ7_fill_53178_10 : decode cJ7_fill_53178 10 = .ok (.aload_n 0, 1) := by decide +kernel
theorem dJ7_fill_53178_11 : decode cJ7_fill_53178 11 = .ok (.iload_n 2, 1) := by decide +kernel
theorem dJ7_fill_53178_12 : decode cJ7_fill_53178 12 = .ok (.iload_n 1, 1) := by decide +kernel
theorem dJ7_fill_53178_13 : decode cJ7_fill_53178 13 = .ok (.iastore, 1) := by decide +kernel
theorem dJ7_fill_53178_14 : decode cJ7_fill_53178 14 = .ok (.iinc 2 1, 3) := by decide +kernel
theorem dJ7_fill_53178_17 : decode cJ7_fill_53178 17 = .ok (.goto (-12), 3) := by decide +kernel
theorem dJ7_fill_53178_20 : decode cJ7_fill_53178 20 = .ok (.return_, 1) := by decide +kernel
theorem dX3_forgetSightings_0 : decode cX3_forgetSightings 0 = .ok (.aload_n 0, 1) := by decide +kernel
theorem dX3_forgetSightings_1 : decode cX3_forgetSightings 1 = .ok (.getfield 19, 3) := by decide +kernel
theorem dX3_forgetSightings_4 : decode cX3_forgetSightings 4 = .ok (.iconst (-1), 1) := by decide +kernel
theorem dX3_forgetSightings_5 : decode cX3_forgetSightings 5 = .ok (.invokestatic 39, 3) := by decide +kernel
theorem dX3_forgetSightings_8 : decode cX3_forgetSightings 8 = .ok (.return_, 1) := by decide +kernel
theorem dX3_keepSighting_0 : decode cX3_keepSighting 0 = .ok (.iconst 0, 1) := by decide +kernel
theorem dX3_keepSighting_1 : decode cX3_keepSighting 1 = .ok (.istore 4, 2) := by decide +kernel
theorem dX3_keepSighting_3 : decode cX3_keepSighting 3 = .ok (.iload 4, 2) := by decide +kernel
theorem dX3_keepSighting_5 : decode cX3_keepSighting 5 = .ok (.aload_n 0, 1) := by decide +kernel
theorem dX3_keepSighting_6 : decode cX3_keepSighting 6 = .ok (.getfield 19, 3) := by decide +kernel
theorem dX3_keepSighting_9 : decode cX3_keepSighting 9 = .ok (.arraylength, 1) := by decide +kernel
theorem dX3_keepSighting_10 : decode cX3_keepSighting 10 = .ok (.if_icmp .ge 36, 3) := by decide +kernel
theorem dX3_keepSighting_13 : decode cX3_keepSighting 13 = .ok (.iload 4, 2) := by decide +kernel
theorem dX3_keepSighting_15 : decode cX3_keepSighting 15 = .ok (.iconst 3, 1) := by decide +kernel
theorem dX3_keepSighting_16 : decode cX3_keepSighting 16 = .ok (.irem, 1) := by decide +kernel
theorem dX3_keepSighting_17 : decode cX3_keepSighting 17 = .ok (.iload_n 2, 1) := by decide +kernel
theorem dX3_keepSighting_18 : decode cX3_keepSighting 18 = .ok (.if_icmp .eq 22, 3) := by decide +kernel
theorem dX3_keepSighting_21 : decode cX3_keepSighting 21 = .ok (.aload_n 0, 1) := by decide +kernel
theorem dX3_keepSighting_22 : decode cX3_keepSighting 22 = .ok (.getfield 19, 3) := by decide +kernel
theorem dX3_keepSighting_25 : decode cX3_keepSighting 25 = .ok (.iload 4, 2) := by decide +kernel
theorem dX3_keepSighting_27 : decode cX3_keepSighting 27 = .ok (.iaload, 1) := by decide +kernel
theorem dX3_keepSighting_28 : decode cX3_keepSighting 28 = .ok (.iload_n 3, 1) := by decide +kernel
theorem dX3_keepSighting_29 : decode cX3_keepSighting 29 = .ok (.if_icmp .le 11, 3) := by decide +kernel
theorem dX3_keepSighting_32 : decode cX3_keepSighting 32 = .ok (.aload_n 0, 1) := by decide +kernel
theorem dX3_keepSighting_33 : decode cX3_keepSighting 33 = .ok (.getfield 19, 3) := by decide +kernel
theorem dX3_keepSighting_36 : decode cX3_keepSighting 36 = .ok (.iload 4, 2) := by decide +kernel
theorem dX3_keepSighting_38 : decode cX3_keepSighting 38 = .ok (.iconst (-1), 1) := by decide +kernel
theorem dX3_keepSighting_39 : decode cX3_keepSighting 39 = .ok (.iastore, 1) := by decide +kernel
theorem dX3_keepSighting_40 : decode cX3_keepSighting 40 = .ok (.iinc 4 1, 3) := by decide +kernel
theorem dX3_keepSighting_43 : decode cX3_keepSighting 43 = .ok (.goto (-40), 3) := by decide +kernel
theorem dX3_keepSighting_46 : decode cX3_keepSighting 46 = .ok (.aload_n 0, 1) := by decide +kernel
theorem dX3_keepSighting_47 : decode cX3_keepSighting 47 = .ok (.getfield 19, 3) := by decide +kernel
theorem dX3_keepSighting_50 : decode cX3_keepSighting 50 = .ok (.iload_n 1, 1) := by decide +kernel
theorem dX3_keepSighting_51 : decode cX3_keepSighting 51 = .ok (.iconst 3, 1) := by decide +kernel
theorem dX3_keepSighting_52 : decode cX3_keepSighting 52 = .ok (.imul, 1) := by decide +kernel
theorem dX3_keepSighting_53 : decode cX3_keepSighting 53 = .ok (.iload_n 2, 1) := by decide +kernel
theorem dX3_keepSighting_54 : decode cX3_keepSighting 54 = .ok (.iadd, 1) := by decide +kernel
theorem dX3_keepSighting_55 : decode cX3_keepSighting 55 = .ok (.iload_n 3, 1) := by decide +kernel
theorem dX3_keepSighting_56 : decode cX3_keepSighting 56 = .ok (.iastore, 1) := by decide +kernel
theorem dX3_keepSighting_57 : decode cX3_keepSighting 57 = .ok (.return_, 1) := by decide +kernel
theorem dX4_addTrust_0 : decode cX4_addTrust 0 = .ok (.aload_n 0, 1) := by decide +kernel
theorem dX4_addTrust_1 : decode cX4_addTrust 1 = .ok (.getfield 16, 3) := by decide +kernel
theorem dX4_addTrust_4 : decode cX4_addTrust 4 = .ok (.iload_n 1, 1) := by decide +kernel
theorem dX4_addTrust_5 : decode cX4_addTrust 5 = .ok (.iconst 0, 1) := by decide +kernel
theorem dX4_addTrust_6 : decode cX4_addTrust 6 = .ok (.bipush 100, 2) := by decide +kernel
theorem dX4_addTrust_8 : decode cX4_addTrust 8 = .ok (.aload_n 0, 1) := by decide +kernel
theorem dX4_addTrust_9 : decode cX4_addTrust 9 = .ok (.getfield 16, 3) := by decide +kernel
theorem dX4_addTrust_12 : decode cX4_addTrust 12 = .ok (.iload_n 1, 1) := by decide +kernel
theorem dX4_addTrust_13 : decode cX4_addTrust 13 = .ok (.iaload, 1) := by decide +kernel
theorem dX4_addTrust_14 : decode cX4_addTrust 14 = .ok (.iload_n 2, 1) := by decide +kernel
theorem dX4_addTrust_15 : decode cX4_addTrust 15 = .ok (.iadd, 1) := by decide +kernel
theorem dX4_addTrust_16 : decode cX4_addTrust 16 = .ok (.invokestatic 284, 3) := by decide +kernel
theorem dX4_addTrust_19 : decode cX4_addTrust 19 = .ok (.invokestatic 289, 3) := by decide +kernel
theorem dX4_addTrust_22 : decode cX4_addTrust 22 = .ok (.iastore, 1) := by decide +kernel
theorem dX4_addTrust_23 : decode cX4_addTrust 23 = .ok (.aload_n 0, 1) := by decide +kernel
theorem dX4_addTrust_24 : decode cX4_addTrust 24 = .ok (.getfield 16, 3) := by decide +kernel
theorem dX4_addTrust_27 : decode cX4_addTrust 27 = .ok (.iload_n 1, 1) := by decide +kernel
theorem dX4_addTrust_28 : decode cX4_addTrust 28 = .ok (.iaload, 1) := by decide +kernel
theorem dX4_addTrust_29 : decode cX4_addTrust 29 = .ok (.ireturn, 1) := by decide +kernel
theorem dX4_keepPicture_0 : decode cX4_keepPicture 0 = .ok (.aload_n 1, 1) := by decide +kernel
theorem dX4_keepPicture_1 : decode cX4_keepPicture 1 = .ok (.aload_n 0, 1) := by decide +kernel
theorem dX4_keepPicture_2 : decode cX4_keepPicture 2 = .ok (.getfield 32, 3) := by decide +kernel
theorem dX4_keepPicture_5 : decode cX4_keepPicture 5 = .ok (.putfield 188, 3) := by decide +kernel
theorem dX4_keepPicture_8 : decode cX4_keepPicture 8 = .ok (.aload_n 1, 1) := by decide +kernel
theorem dX4_keepPicture_9 : decode cX4_keepPicture 9 = .ok (.aload_n 0, 1) := by decide +kernel
theorem dX4_keepPicture_10 : decode cX4_keepPicture 10 = .ok (.aload_n 1, 1) := by decide +kernel
theorem dX4_keepPicture_11 : decode cX4_keepPicture 11 = .ok (.aload_n 0, 1) := by decide +kernel
theorem dX4_keepPicture_12 : decode cX4_keepPicture 12 = .ok (.getfield 32, 3) := by decide +kernel
theorem dX4_keepPicture_15 : decode cX4_keepPicture 15 = .ok (.invokevirtual 189, 3) := by decide +kernel
theorem dX4_keepPicture_18 : decode cX4_keepPicture 18 = .ok (.putfield 185, 3) := by decide +kernel
theorem dX4_keepPicture_21 : decode cX4_keepPicture 21 = .ok (.return_, 1) := by decide +kernel
theorem dX4_refresh_0 : decode cX4_refresh 0 = .ok (.iconst 0, 1) := by decide +kernel
theorem dX4_refresh_1 : decode cX4_refresh 1 = .ok (.istore_n 1, 1) := by decide +kernel
theorem dX4_refresh_2 : decode cX4_refresh 2 = .ok (.iconst 0, 1) := by decide +kernel
theorem dX4_refresh_3 : decode cX4_refresh 3 = .ok (.istore_n 2, 1) := by decide +kernel
theorem dX4_refresh_4 : decode cX4_refresh 4 = .ok (.iload_n 2, 1) := by decide +kernel
theorem dX4_refresh_5 : decode cX4_refresh 5 = .ok (.aload_n 0, 1) := by decide +kernel
theorem dX4_refresh_6 : decode cX4_refresh 6 = .ok (.getfield 28, 3) := by decide +kernel
theorem dX4_refresh_9 : decode cX4_refresh 9 = .ok (.arraylength, 1) := by decide +kernel
theorem dX4_refresh_10 : decode cX4_refresh 10 = .ok (.if_icmp .ge 36, 3) := by decide +kernel
theorem dX4_refresh_13 : decode cX4_refresh 13 = .ok (.aload_n 0, 1) := by decide +kernel
theorem dX4_refresh_14 : decode cX4_refresh 14 = .ok (.getfield 28, 3) := by decide +kernel
theorem dX4_refresh_17 : decode cX4_refresh 17 = .ok (.iload_n 2, 1) := by decide +kernel
theorem dX4_refresh_18 : decode cX4_refresh 18 = .ok (.aaload, 1) := by decide +kernel
theorem dX4_refresh_19 : decode cX4_refresh 19 = .ok (.astore_n 3, 1) := by decide +kernel
theorem dX4_refresh_20 : decode cX4_refresh 20 = .ok (.aload_n 3, 1) := by decide +kernel
theorem dX4_refresh_21 : decode cX4_refresh 21 = .ok (.ifnull 19, 3) := by decide +kernel
theorem dX4_refresh_24 : decode cX4_refresh 24 = .ok (.aload_n 0, 1) := by decide +kernel
theorem dX4_refresh_25 : decode cX4_refresh 25 = .ok (.aload_n 3, 1) := by decide +kernel
theorem dX4_refresh_26 : decode cX4_refresh 26 = .ok (.invokevirtual 193, 3) := by decide +kernel
theorem dX4_refresh_29 : decode cX4_refresh 29 = .ok (.ifCond .eq 11, 3) := by decide +kernel
theorem dX4_refresh_32 : decode cX4_refresh 32 = .ok (.aload_n 0, 1) := by decide +kernel
theorem dX4_refresh_33 : decode cX4_refresh 33 = .ok (.aload_n 3, 1) := by decide +kernel
theorem dX4_refresh_34 : decode cX4_refresh 34 = .ok (.invokevirtual 173, 3) := by decide +kernel
theorem dX4_refresh_37 : decode cX4_refresh 37 = .ok (.iinc 1 1, 3) := by decide +kernel
theorem dX4_refresh_40 : decode cX4_refresh 40 = .ok (.iinc 2 1, 3) := by decide +kernel
theorem dX4_refresh_43 : decode cX4_refresh 43 = .ok (.goto (-39), 3) := by decide +kernel
theorem dX4_refresh_46 : decode cX4_refresh 46 = .ok (.iload_n 1, 1) := by decide +kernel
theorem dX4_refresh_47 : decode cX4_refresh 47 = .ok (.ireturn, 1) := by decide +kernel
theorem ke_X4_keepPicture : wl_V RX4 yX4_keepPicture cX4_keepPicture 2 none 1 := ⟨wd_c_X4_keepPicture, wd_i_X4_keepPicture, wd_s_X4_keepPicture, wd_n_X4, by decide, by decide +kernel⟩
set_option maxHeartbeats 4000000 in
set_option maxRecDepth 100000 in
theorem m_X4_keepPicture (l : Launch) (hflag : l.stackTraces = false) (G : k_G) (Z : Nat → Prop) (ad : k_Ad) (mm : q_Mem) (t : Nat) (hI : Inv mm) (ht : t < 341) (hs : ¬ mm 13 t = 0) : kx_v l yX4_keepPicture cX4_keepPicture 2 none 4 89 0 0 G Z ad (k_C G ad mm) [.ref (ad 0 0), .ref (ad 6 t)] (fun u => u = (ad, k_C G ad (sp_draws mm t (nI (tz_t t)) (nI (tx_t t)) (nI (ty_t t))))) (fun _ => False) := by
  refine kx_of (by decide) (Nat.le_of_ble_eq_true rfl) ?_
  intro p e s m args below meth c hx hb hr hF hlk hnt hB ls hl
  obtain ⟨⟨hM, hN⟩, hK, hP, hT⟩ := hB
  have hS : va_S Z s.heap s.heap [] := va_S.rf
  have hl : lv_has ls 2 [(0, .ref (ad 0 0)), (1, .ref (ad 6 t))] := hl
  have hKK := hI.K512
  have hk0 : ¬ (nI (sp_K mm + 1)) = 0 := nI_ne0 (by omega) (by omega)
  have hs1 : ¬ (up2 mm 13 t (nI (sp_K mm + 1))) 13 t = 0 := by rw [up2_s]; exact hk0
  refine lv_aload_n hx hb dX4_keepPicture_0 rfl (lv_at hl 1 rfl) ?_
  refine lv_aload_n hx hb dX4_keepPicture_1 rfl (lv_at hl 0 rfl) ?_
  refine g_get (C := RX4) (T := TX4) (N := 6) (v := .int (mm 10 0)) hF hK (hM 0 0 _ rfl) rfl inlX4 5 (by decide) rfl wd_f_X4_32 rfl dX4_keepPicture_2 ?_
  refine bo_to (v := ((nI (sp_K mm + 1)) - 1)) (by rw [hI.K]; exact (nI_pred _).symm) ?_
  refine k_put (v := .int ((nI (sp_K mm + 1)) - 1)) hF hK hM hN hS 6 t (kc_t ht hs) rfl inlX1 tyX1 tyX1_ok nmX1 5 (by decide) rfl wd_f_X4_188 rfl rfl rfl (by show 5 < 7; decide) dX4_keepPicture_5 (fun H locs hM hN hS => ?_)
  rw [kcu_stamp (v := (nI (sp_K mm + 1))) ht hs hk0] at hM hN
  refine lv_aload_n hx hb dX4_keepPicture_8 rfl (lv_at hl 1 rfl) ?_
  refine lv_aload_n hx hb dX4_keepPicture_9 rfl (lv_at hl 0 rfl) ?_
  refine lv_aload_n hx hb dX4_keepPicture_10 rfl (lv_at hl 1 rfl) ?_
  refine lv_aload_n hx hb dX4_keepPicture_11 rfl (lv_at hl 0 rfl) ?_
  refine g_get (C := RX4) (T := TX4) (N := 6) (v := .int ((up2 mm 13 t (nI (sp_K mm + 1))) 10 0)) hF hK (hM 0 0 _ rfl) rfl inlX4 5 (by decide) rfl wd_f_X4_32 rfl dX4_keepPicture_12 ?_
  refine bo_to (v := (nI (sp_K mm))) (hI.K) ?_
  refine kr_V (fr := 3) (lo := 64) (As := [.ref (ad 6 t), .int (nI (sp_K mm))]) (rest := [.ref (ad 6 t)]) hF (m_X4_pictureAt l G Z ad (up2 mm 13 t (nI (sp_K mm + 1))) t (sp_K mm) (Inv_st hI (Nat.le_refl _)) ht hs1 (by omega)) ke_X4_pictureAt wd_l_X4_189 (by decide) hM hK hP hT hS (g_recv hK (hM 0 0 _ rfl) rfl) rfl hl.1 rfl (Nat.le_of_ble_eq_true rfl) dX4_keepPicture_15 (by decide) (fun r1 hr1 => ?_)
  rw [pic_x (B := mm) (fun k hk => up2_k (by omega))] at hr1
  replace hr1 : r1 = sp_pic mm (nI (tz_t t)) (nI (tx_t t)) (nI (ty_t t)) (sp_K mm) := hr1
  subst hr1
  refine k_put (v := .int (sp_pic mm (nI (tz_t t)) (nI (tx_t t)) (nI (ty_t t)) (sp_K mm))) hF hK hM hN hS 6 t (kc_t ht hs1) rfl inlX1 tyX1 tyX1_ok nmX1 6 (by decide) rfl wd_f_X4_185 rfl rfl rfl (by show 6 < 7; decide) dX4_keepPicture_18 (fun H locs hM hN hS => ?_)
  rw [kcu_picture ht hs1] at hM hN
  exact kx_vret hx hb hr hlk hM hN hK hS (by decide) (by decide) (by unfold sp_draws; rw [hI.K, nI_1, up2_comm (show (13 : Nat) ≠ 14 by decide)]) dX4_keepPicture_21
theorem ke_X4_refresh : wl_V RX4 yX4_refresh cX4_refresh 4 (some .int) 0 := ⟨wd_c_X4_refresh, wd_i_X4_refresh, wd_s_X4_refresh, wd_n_X4, by decide, by decide +kernel⟩
set_option maxHeartbeats 4000000 in
set_option maxRecDepth 100000 in
theorem m_X4_refresh (l : Launch) (hflag : l.stackTraces = false) (G : k_G) (Z : Nat → Prop) (ad : k_Ad) (mm : q_Mem) (hI : Inv mm) : kx_i l yX4_refresh cX4_refresh 4 (some .int) 5 110 0 0 G Z ad (k_C G ad mm) [.ref (ad 0 0)] (k_po G (sp_refr mm)) (fun _ => False) := by
  refine kx_of (by decide) (Nat.le_of_ble_eq_true rfl) ?_
  intro p e s m args below meth c hx hb hr hF hlk hnt hB ls hl
  obtain ⟨⟨hM, hN⟩, hK, hP, hT⟩ := hB
  have hS : va_S Z s.heap s.heap [] := va_S.rf
  have hl : lv_has ls 4 [(0, .ref (ad 0 0))] := hl
  refine lv_iconst (v := 0) hx hb dX4_refresh_0 (by decide) ?_
  refine lv_istore_n (lv' := [(1, .int 0), (0, .ref (ad 0 0))]) hx hb dX4_refresh_1 rfl hl (by decide) rfl (fun ls hl => ?_)
  refine lv_iconst (v := 0) hx hb dX4_refresh_2 (by decide) ?_
  refine lv_istore_n (lv' := [(2, .int 0), (1, .int 0), (0, .ref (ad 0 0))]) hx hb dX4_refresh_3 rfl hl (by decide) rfl (fun ls hl => ?_)
  refine bo_loop (σ := Nat) (μ := fun (i : Nat) => 341 - i) (I := fun (i : Nat) (H : Heap) (locs : List Loc) (ls : Array Slot) => k_H G ad (k_C G ad ((rfn mm i).2)) H ∧ k_N Z ad (k_C G ad ((rfn mm i).2)) ∧ va_S Z s.heap H locs ∧ lv_has ls 4 [(1, .int ((rfn mm i).1)), (2, .int (nI i)), (0, .ref (ad 0 0))] ∧ (i ≤ 341)) (0) ⟨hM, hN, hS, lv_sub hl [1, 0, 2] rfl, Nat.zero_le _⟩ ?_
  intro x4 H locs ls hI4 ih4
  obtain ⟨i, ex4⟩ : ∃ z, z = x4 := ⟨_, rfl⟩
  subst ex4
  obtain ⟨hM, hN, hS, hl, hi⟩ := hI4
  have hI2 := rfn_I hI i
  refine lv_iload_n hx hb dX4_refresh_4 rfl (lv_at hl 1 rfl) ?_
  refine lv_aload_n hx hb dX4_refresh_5 rfl (lv_at hl 2 rfl) ?_
  refine g_get (C := RX4) (T := TX4) (N := 6) (v := .ref (ad 0 5)) hF hK (hM 0 0 _ rfl) rfl inlX4 4 (by decide) rfl wd_f_X4_28 rfl dX4_refresh_6 ?_
  refine g_alen (t0 := 1) hF hK (hM 0 5 _ rfl) rfl dX4_refresh_9 ?_
  refine bo_to (v := (nI 341)) rfl ?_
  refine lv_icmp_ge (tgt := 46) hx hb dX4_refresh_10 (by decide) (fun c1 => ?_) (fun c1 => ?_)
  · skip
    have hie : i = 341 := by have := (nI_leI (by decide) (by omega)).mp c1; omega
    refine lv_iload_n hx hb dX4_refresh_46 rfl (lv_at hl 0 rfl) ?_
    exact kx_iret hx hb hr hlk hM hN hK hS (by decide) (by decide) (k_po.of2 (m2 := (rfn mm i).2) (by rw [hie]; exact rfn_end) (rfn_19 i) rfl) dX4_refresh_47
  · skip
    have hil : i < 341 := by have : ¬ 341 ≤ i := fun q => c1 (nI_le q (by omega)); omega
    refine lv_aload_n hx hb dX4_refresh_13 rfl (lv_at hl 2 rfl) ?_
    refine g_get (C := RX4) (T := TX4) (N := 6) (v := .ref (ad 0 5)) hF hK (hM 0 0 _ rfl) rfl inlX4 4 (by decide) rfl wd_f_X4_28 rfl dX4_refresh_14 ?_
    refine lv_iload_n hx hb dX4_refresh_17 rfl (lv_at hl 1 rfl) ?_
    refine g_aldq (t0 := 1) (i := i) hF hK (hM 0 5 _ rfl) rfl rfl hil (by decide) dX4_refresh_18 ?_
    refine bo_toV (v := k_rf (((rfn mm i).2) 13 i = 0) (ad 6 i)) (k_rf_tr _ _ _) ?_
    refine k_split (fun c2 => ?_) (fun c2 => ?_)
    · skip
      have hno : ¬ sp_oldt (rfn mm i).2 i = true := by rw [old_0 c2]; exact Bool.false_ne_true
      refine lv_astore_nN (lv' := [(3, .null), (1, .int ((rfn mm i).1)), (2, .int (nI i)), (0, .ref (ad 0 0))]) hx hb dX4_refresh_19 rfl hl (by decide) rfl (fun ls hl => ?_)
      refine lv_aload_nN hx hb dX4_refresh_20 rfl (lv_at hl 0 rfl) ?_
      refine lv_ifnullN (tgt := 40) hx hb dX4_refresh_21 (by decide) ?_
      rw [show (rfn mm i).1 = (rfn mm (i + 1)).1 by rw [rfn_n hno]] at hl
      rw [show (rfn mm i).2 = (rfn mm (i + 1)).2 by rw [rfn_n hno]] at hM hN
      refine lv_iinc (v := (nI (i + 1))) (lv' := [(2, .int (nI (i + 1))), (3, .null), (1, .int (rfn mm (i + 1)).1), (0, .ref (ad 0 0))]) hx hb dX4_refresh_40 hl (k := 2) rfl (nI_1 i) (by decide) rfl (fun ls hl => ?_)
      refine lv_goto (tgt := 4) hx hb dX4_refresh_43 (by decide) ?_
      exact ih4 (i + 1) _ _ _ (by show 341 - (i + 1) < 341 - i; omega) ⟨hM, hN, hS, lv_sub hl [2, 0, 3] rfl, by omega⟩
    · skip
      refine lv_astore_n (lv' := [(3, .ref (ad 6 i)), (1, .int ((rfn mm i).1)), (2, .int (nI i)), (0, .ref (ad 0 0))]) hx hb dX4_refresh_19 rfl hl (by decide) rfl (fun ls hl => ?_)
      refine lv_aload_n hx hb dX4_refresh_20 rfl (lv_at hl 0 rfl) ?_
      refine lv_ifnull hx hb dX4_refresh_21 ?_
      refine lv_aload_n hx hb dX4_refresh_24 rfl (lv_at hl 3 rfl) ?_
      refine lv_aload_n hx hb dX4_refresh_25 rfl (lv_at hl 0 rfl) ?_
      refine kr_V (fr := 3) (lo := 64) (As := [.ref (ad 6 i)]) (rest := []) hF (m_X4_isOutdated l G Z ad (rfn mm i).2 i hI2 hil c2) ke_X4_isOutdated wd_l_X4_193 (by decide) hM hK hP hT hS (g_recv hK (hM 0 0 _ rfl) rfl) rfl hl.1 rfl (Nat.le_of_ble_eq_true rfl) dX4_refresh_26 (by decide) (fun r3 hr3 => ?_)
      refine bo_eq (tgt := 40) hr3 hx hb dX4_refresh_29 (by decide) (fun c3 => ?_) (fun c3 => ?_)
      · skip
        have hno := c3
        rw [show (rfn mm i).1 = (rfn mm (i + 1)).1 by rw [rfn_n hno]] at hl
        rw [show (rfn mm i).2 = (rfn mm (i + 1)).2 by rw [rfn_n hno]] at hM hN
        refine lv_iinc (v := (nI (i + 1))) (lv' := [(2, .int (nI (i + 1))), (3, .ref (ad 6 i)), (1, .int (rfn mm (i + 1)).1), (0, .ref (ad 0 0))]) hx hb dX4_refresh_40 hl (k := 2) rfl (nI_1 i) (by decide) rfl (fun ls hl => ?_)
        refine lv_goto (tgt := 4) hx hb dX4_refresh_43 (by decide) ?_
        exact ih4 (i + 1) _ _ _ (by show 341 - (i + 1) < 341 - i; omega) ⟨hM, hN, hS, lv_sub hl [2, 0, 3] rfl, by omega⟩
      · skip
        refine lv_aload_n hx hb dX4_refresh_32 rfl (lv_at hl 3 rfl) ?_
        refine lv_aload_n hx hb dX4_refresh_33 rfl (lv_at hl 0 rfl) ?_
        refine kx_vV (fr := 4) (lo := 89) (mc1 := 0) (ms1 := 0) (As := [.ref (ad 6 i)]) (rest := []) hF (m_X4_keepPicture l hflag G Z ad (rfn mm i).2 i hI2 hil c2) ke_X4_keepPicture wd_l_X4_173 (by decide) hM hN hK hP hT hS (g_recv hK (hM 0 0 _ rfl) rfl) rfl hl.1 rfl (Nat.le_of_ble_eq_true rfl) dX4_refresh_34 (by decide) hnt hlk (fun E hE => hE.elim) (by decide) (by decide) (fun ur4 H locs hr4 hM hN hS _ _ => ?_)
        subst hr4
        replace hM : k_H G ad (k_C G ad (sp_draws (rfn mm i).2 i (nI (tz_t i)) (nI (tx_t i)) (nI (ty_t i)))) H := hM
        replace hN : k_N Z ad (k_C G ad (sp_draws (rfn mm i).2 i (nI (tz_t i)) (nI (tx_t i)) (nI (ty_t i)))) := hN
        have eR : sp_draws (rfn mm i).2 i (nI (tz_t i)) (nI (tx_t i)) (nI (ty_t i)) = (rfn mm (i + 1)).2 := by rw [rfn_y c3]
        rw [eR] at hM hN
        refine lv_iinc (v := (rfn mm (i + 1)).1) (lv' := [(1, .int (rfn mm (i + 1)).1), (3, .ref (ad 6 i)), (2, .int (nI i)), (0, .ref (ad 0 0))]) hx hb dX4_refresh_37 hl (k := 1) rfl (by rw [rfn_y c3]; rfl) (by decide) rfl (fun ls hl => ?_)
        refine lv_iinc (v := (nI (i + 1))) (lv' := [(2, .int (nI (i + 1))), (1, .int (rfn mm (i + 1)).1), (3, .ref (ad 6 i)), (0, .ref (ad 0 0))]) hx hb dX4_refresh_40 hl (k := 2) rfl (nI_1 i) (by decide) rfl (fun ls hl => ?_)
        refine lv_goto (tgt := 4) hx hb dX4_refresh_43 (by decide) ?_
        exact ih4 (i + 1) _ _ _ (by show 341 - (i + 1) < 341 - i; omega) ⟨hM, hN, hS, lv_sub hl [1, 0, 3] rfl, by omega⟩
theorem ke_X4_addTrust : wl_V RX4 yX4_addTrust cX4_addTrust 3 (some .int) 2 := ⟨wd_c_X4_addTrust, wd_i_X4_addTrust, wd_s_X4_addTrust, wd_n_X4, by decide, by decide +kernel⟩
set_option maxHeartbeats 4000000 in
set_option maxRecDepth 100000 in
theorem m_X4_addTrust (l : Launch) (hflag : l.stackTraces = false) (G : k_G) (Z : Nat → Prop) (ad : k_Ad) (mm : q_Mem) (f : Nat) (x : Int32) (hf6 : f < 6) : kx_i l yX4_addTrust cX4_addTrust 3 (some .int) 1 24 0 0 G Z ad (k_C G ad mm) [.ref (ad 0 0), .int (nI f), .int x] (fun r u => r = sp_tru mm f x 0 f ∧ u = (ad, k_C G ad (sp_tru mm f x))) (fun _ => False) := by
  refine kx_of (by decide) (Nat.le_of_ble_eq_true rfl) ?_
  intro p e s m args below meth c hx hb hr hF hlk hnt hB ls hl
  obtain ⟨⟨hM, hN⟩, hK, hP, hT⟩ := hB
  have hS : va_S Z s.heap s.heap [] := va_S.rf
  have hl : lv_has ls 3 [(0, .ref (ad 0 0)), (1, .int (nI f)), (2, .int x)] := hl
  refine lv_aload_n hx hb dX4_addTrust_0 rfl (lv_at hl 0 rfl) ?_
  refine g_get (C := RX4) (T := TX4) (N := 6) (v := .ref (ad 0 2)) hF hK (hM 0 0 _ rfl) rfl inlX4 1 (by decide) rfl wd_f_X4_16 rfl dX4_addTrust_1 ?_
  refine lv_iload_n hx hb dX4_addTrust_4 rfl (lv_at hl 1 rfl) ?_
  refine lv_iconst (v := 0) hx hb dX4_addTrust_5 (by decide) ?_
  refine lv_bipush (v := 100) hx hb dX4_addTrust_6 (by decide) ?_
  refine lv_aload_n hx hb dX4_addTrust_8 rfl (lv_at hl 0 rfl) ?_
  refine g_get (C := RX4) (T := TX4) (N := 6) (v := .ref (ad 0 2)) hF hK (hM 0 0 _ rfl) rfl inlX4 1 (by decide) rfl wd_f_X4_16 rfl dX4_addTrust_9 ?_
  refine lv_iload_n hx hb dX4_addTrust_12 rfl (lv_at hl 1 rfl) ?_
  refine g_ald (t0 := 0) (i := f) hF hK (hM 0 2 _ rfl) rfl rfl hf6 (by decide) dX4_addTrust_13 ?_
  refine bo_to (v := (mm 0 f)) rfl ?_
  refine lv_iload_n hx hb dX4_addTrust_14 rfl (lv_at hl 2 rfl) ?_
  refine lv_iadd hx hb dX4_addTrust_15 ?_
  refine va_mmin hF.1 hF.2.1 (hF.2.2.1.trans hl.1.symm) hF.2.2.2.1 (hF.2.2.2.2 _ wd_l_X4_284) (hF.2.2.2.2 _ wd_x15) (hF.2.2.2.2 _ wd_x9) (hF.2.2.2.2 _ wd_x16) (by decide) (Nat.le_of_ble_eq_true rfl) (by decide) (by decide) dX4_addTrust_16 ?_
  refine va_mmax hF.1 hF.2.1 (hF.2.2.1.trans hl.1.symm) hF.2.2.2.1 (hF.2.2.2.2 _ wd_l_X4_289) (hF.2.2.2.2 _ wd_x8) (hF.2.2.2.2 _ wd_x9) (hF.2.2.2.2 _ wd_x10) (by decide) (Nat.le_of_ble_eq_true rfl) (by decide) (by decide) dX4_addTrust_19 ?_
  refine bo_to (v := (sp_lim (mm 0 f + x))) (lim_eq _) ?_
  refine k_ast (v := (sp_lim (mm 0 f + x))) (i := f) hF hK hM hN hS 0 2 rfl rfl hf6 (by decide) dX4_addTrust_22 (fun H locs hM hN hS => ?_)
  rw [kcu_trust] at hM hN
  refine lv_aload_n hx hb dX4_addTrust_23 rfl (lv_at hl 0 rfl) ?_
  refine g_get (C := RX4) (T := TX4) (N := 6) (v := .ref (ad 0 2)) hF hK (hM 0 0 _ rfl) rfl inlX4 1 (by decide) rfl wd_f_X4_16 rfl dX4_addTrust_24 ?_
  refine lv_iload_n hx hb dX4_addTrust_27 rfl (lv_at hl 1 rfl) ?_
  refine g_ald (t0 := 0) (i := f) hF hK (hM 0 2 _ rfl) rfl rfl hf6 (by decide) dX4_addTrust_28 ?_
  refine bo_to (v := ((up2 mm 0 f (sp_lim (mm 0 f + x))) 0 f)) rfl ?_
  exact kx_iret hx hb hr hlk hM hN hK hS (by decide) (by decide) (⟨rfl, rfl⟩) dX4_addTrust_29
theorem ke_J7_fill_53178 : wl_S yJ7_fill_53178 cJ7_fill_53178 4 none 2 := ⟨wd_c_J7_fill_53178, wd_t_J7_fill_53178, wd_n_J7, by decide, by decide +kernel⟩
set_option maxHeartbeats 4000000 in
set_option maxRecDepth 100000 in
theorem m_J7_fill_53178 (l : Launch) (hflag : l.stackTraces = false) (G : k_G) (Z : Nat → Prop) (ad : k_Ad) (ct : k_Ct) (k i n : Nat) (f : Nat → Int32) (v : Int32) (he : ct k i = some (.inl (G.2.1, n, .inl f))) (hn : n < 2 ^ 31) : kx_v l yJ7_fill_53178 cJ7_fill_53178 4 none 0 0 0 0 G Z ad ct [.ref (ad k i), .int v] (fun u => u = (ad, (k_up ct k i (.inl (G.2.1, n, .inl (fun j => if j < n then v else f j)))))) (fun _ => False) := by
  refine kx_of (by decide) (Nat.le_of_ble_eq_true rfl) ?_
  intro p e s m args below meth c hx hb hr hF hlk hnt hB ls hl
  obtain ⟨⟨hM, hN⟩, hK, hP, hT⟩ := hB
  have hS : va_S Z s.heap s.heap [] := va_S.rf
  have hl : lv_has ls 4 [(0, .ref (ad k i)), (1, .int v)] := hl
  refine lv_iconst (v := 0) hx hb dJ7_fill_53178_0 (by decide) ?_
  refine lv_istore_n (lv' := [(2, .int 0), (0, .ref (ad k i)), (1, .int v)]) hx hb dJ7_fill_53178_1 rfl hl (by decide) rfl (fun ls hl => ?_)
  refine lv_aload_n hx hb dJ7_fill_53178_2 rfl (lv_at hl 1 rfl) ?_
  refine g_alen (t0 := 0) hF hK (hM k i _ he) rfl dJ7_fill_53178_3 ?_
  refine bo_to (v := (nI n)) rfl ?_
  refine lv_istore_n (lv' := [(3, .int (nI n)), (2, .int 0), (0, .ref (ad k i)), (1, .int v)]) hx hb dJ7_fill_53178_4 rfl hl (by decide) rfl (fun ls hl => ?_)
  replace hM : k_H G ad (k_up ct k i (.inl (G.2.1, n, .inl (fun j => if j < 0 then v else f j)))) s.heap := by rw [fill_0 he]; exact hM
  replace hN : k_N Z ad (k_up ct k i (.inl (G.2.1, n, .inl (fun j => if j < 0 then v else f j)))) := by rw [fill_0 he]; exact hN
  refine bo_loop (σ := Nat) (μ := fun (t1 : Nat) => n - t1) (I := fun (t1 : Nat) (H : Heap) (locs : List Loc) (ls : Array Slot) => k_H G ad (k_up ct k i (.inl (G.2.1, n, .inl (fun j => if j < t1 then v else f j)))) H ∧ k_N Z ad (k_up ct k i (.inl (G.2.1, n, .inl (fun j => if j < t1 then v else f j)))) ∧ va_S Z s.heap H locs ∧ lv_has ls 4 [(2, .int (nI t1)), (0, .ref (ad k i)), (1, .int v), (3, .int (nI n))] ∧ (t1 ≤ n)) (0) ⟨hM, hN, hS, lv_sub hl [1, 2, 3, 0] rfl, Nat.zero_le _⟩ ?_
  intro x5 H locs ls hI5 ih5
  obtain ⟨t1, ex5⟩ : ∃ z, z = x5 := ⟨_, rfl⟩
  subst ex5
  obtain ⟨hM, hN, hS, hl, ht1⟩ := hI5
  refine lv_iload_n hx hb dJ7_fill_53178_5 rfl (lv_at hl 0 rfl) ?_
  refine lv_iload_n hx hb dJ7_fill_53178_6 rfl (lv_at hl 3 rfl) ?_
  refine lv_icmp_ge (tgt := 20) hx hb dJ7_fill_53178_7 (by decide) (fun c1 => ?_) (fun c1 => ?_)
  · skip
    have hte : t1 = n := by have := (nI_leI (by omega) (by omega)).mp c1; omega
    subst hte
    exact kx_vret hx hb hr hlk hM hN hK hS (by decide) (by decide) (rfl) dJ7_fill_53178_20
  · skip
    have htn : t1 < n := by have : ¬ n ≤ t1 := fun q => c1 (nI_le q (by omega)); omega
    refine lv_aload_n hx hb dJ7_fill_53178_10 rfl (lv_at hl 1 rfl) ?_
    refine lv_iload_n hx hb dJ7_fill_53178_11 rfl (lv_at hl 0 rfl) ?_
    refine lv_iload_n hx hb dJ7_fill_53178_12 rfl (lv_at hl 2 rfl) ?_
    refine k_ast (v := v) (i := t1) hF hK hM hN hS k i k_up_s rfl htn hn dJ7_fill_53178_13 (fun H locs hM hN hS => ?_)
    rw [k_up_t, fill_s] at hM hN
    refine lv_iinc (v := (nI (t1 + 1))) (lv' := [(2, .int (nI (t1 + 1))), (0, .ref (ad k i)), (1, .int v), (3, .int (nI n))]) hx hb dJ7_fill_53178_14 hl (k := 0) rfl (nI_1 t1) (by decide) rfl (fun ls hl => ?_)
    refine lv_goto (tgt := 5) hx hb dJ7_fill_53178_17 (by decide) ?_
    exact ih5 (t1 + 1) _ _ _ (by show n - (t1 + 1) < n - t1; omega) ⟨hM, hN, hS, lv_sub hl [0, 1, 2, 3] rfl, by omega⟩
theorem ke_X3_forgetSightings : wl_V RX3 yX3_forgetSightings cX3_forgetSightings 1 none 0 := ⟨wd_c_X3_forgetSightings, wd_i_X3_forgetSightings, wd_s_X3_forgetSightings, wd_n_X3, by decide, by decide +kernel⟩
set_option maxHeartbeats 4000000 in
set_option maxRecDepth 100000 in
theorem m_X3_forgetSightings (l : Launch) (hflag : l.stackTraces = false) (G : k_G) (Z : Nat → Prop) (ad : k_Ad) (mm : q_Mem) (w : Nat) (hw : w < sp_W mm) : kx_v l yX3_forgetSightings cX3_forgetSightings 1 none 1 23 0 0 G Z ad (k_C G ad mm) [.ref (ad 1 w)] (fun u => u = (ad, k_C G ad (sp_forg mm w))) (fun _ => False) := by
  refine kx_of (by decide) (Nat.le_of_ble_eq_true rfl) ?_
  intro p e s m args below meth c hx hb hr hF hlk hnt hB ls hl
  obtain ⟨⟨hM, hN⟩, hK, hP, hT⟩ := hB
  have hS : va_S Z s.heap s.heap [] := va_S.rf
  have hl : lv_has ls 1 [(0, .ref (ad 1 w))] := hl
  refine lv_aload_n hx hb dX3_forgetSightings_0 rfl (lv_at hl 0 rfl) ?_
  refine g_get (C := RX3) (T := TX3) (N := 8) (v := .ref (ad 2 w)) hF hK (hM 1 w _ (kc_w (by assumption))) rfl inlX3 7 (by decide) rfl wd_f_X3_19 rfl dX3_forgetSightings_1 ?_
  refine lv_iconst (v := (-1)) hx hb dX3_forgetSightings_4 (by decide) ?_
  refine kx_vS (fr := 0) (lo := 0) (mc1 := 0) (ms1 := 0) (As := [.ref (ad 2 w), .int (-1)]) (rest := []) hF (m_J7_fill_53178 l hflag G Z ad (k_C G ad mm) 2 w 9 (k_db mm w) (-1) (kc_d hw) (by decide)) ke_J7_fill_53178 wd_l_X3_39 (by decide) hM hN hK hP hT hS rfl hl.1 rfl (Nat.le_of_ble_eq_true rfl) dX3_forgetSightings_5 (by decide) hnt hlk (fun E hE => hE.elim) (by decide) (by decide) (fun ur1 H locs hr1 hM hN hS _ _ => ?_)
  subst hr1
  replace hM : k_H G ad (k_up (k_C G ad mm) 2 w (.inl (G.2.1, 9, .inl (fun j => if j < 9 then -1 else k_db mm w j)))) H := hM
  replace hN : k_N Z ad (k_up (k_C G ad mm) 2 w (.inl (G.2.1, 9, .inl (fun j => if j < 9 then -1 else k_db mm w j)))) := hN
  rw [kcu_forg hw] at hM hN
  exact kx_vret hx hb hr hlk hM hN hK hS (by decide) (by decide) (rfl) dX3_forgetSightings_8
theorem ke_X3_keepSighting : wl_V RX3 yX3_keepSighting cX3_keepSighting 5 none 3 := ⟨wd_c_X3_keepSighting, wd_i_X3_keepSighting, wd_s_X3_keepSighting, wd_n_X3, by decide, by decide +kernel⟩
set_option maxHeartbeats 4000000 in
set_option maxRecDepth 100000 in
theorem m_X3_keepSighting (l : Launch) (hflag : l.stackTraces = false) (G : k_G) (Z : Nat → Prop) (ad : k_Ad) (mm : q_Mem) (w c1 d q : Nat) (hw : w < sp_W mm) (hc : c1 < 3) (hd : d < 3) (hq : q < 100) : kx_v l yX3_keepSighting cX3_keepSighting 5 none 0 0 0 0 G Z ad (k_C G ad mm) [.ref (ad 1 w), .int (nI c1), .int (nI d), .int (nI q)] (fun u => u = (ad, k_C G ad (sp_keep mm w c1 d (nI q)))) (fun _ => False) := by
  refine kx_of (by decide) (Nat.le_of_ble_eq_true rfl) ?_
  intro p e s m args below meth c hx hb hr hF hlk hnt hB ls hl
  obtain ⟨⟨hM, hN⟩, hK, hP, hT⟩ := hB
  have hS : va_S Z s.heap s.heap [] := va_S.rf
  have hl : lv_has ls 5 [(0, .ref (ad 1 w)), (1, .int (nI c1)), (2, .int (nI d)), (3, .int (nI q))] := hl
  refine lv_iconst (v := 0) hx hb dX3_keepSighting_0 (by decide) ?_
  refine lv_istore (lv' := [(4, .int 0), (0, .ref (ad 1 w)), (1, .int (nI c1)), (2, .int (nI d)), (3, .int (nI q))]) hx hb dX3_keepSighting_1 hl (by decide) rfl (fun ls hl => ?_)
  replace hM : k_H G ad (k_C G ad (sp_kp mm w d q 0)) s.heap := by rw [kp_0]; exact hM
  replace hN : k_N Z ad (k_C G ad (sp_kp mm w d q 0)) := by rw [kp_0]; exact hN
  refine bo_loop (σ := Nat) (μ := fun (i : Nat) => 9 - i) (I := fun (i : Nat) (H : Heap) (locs : List Loc) (ls : Array Slot) => k_H G ad (k_C G ad (sp_kp mm w d q i)) H ∧ k_N Z ad (k_C G ad (sp_kp mm w d q i)) ∧ va_S Z s.heap H locs ∧ lv_has ls 5 [(4, .int (nI i)), (0, .ref (ad 1 w)), (1, .int (nI c1)), (2, .int (nI d)), (3, .int (nI q))] ∧ (i ≤ 9)) (0) ⟨hM, hN, hS, lv_sub hl [0, 1, 2, 3, 4] rfl, Nat.zero_le _⟩ ?_
  intro x3 H locs ls hI3 ih3
  obtain ⟨i, ex3⟩ : ∃ z, z = x3 := ⟨_, rfl⟩
  subst ex3
  obtain ⟨hM, hN, hS, hl, hi⟩ := hI3
  refine lv_iload hx hb dX3_keepSighting_3 (lv_at hl 0 rfl) ?_
  refine lv_aload_n hx hb dX3_keepSighting_5 rfl (lv_at hl 1 rfl) ?_
  refine g_get (C := RX3) (T := TX3) (N := 8) (v := .ref (ad 2 w)) hF hK (hM 1 w _ (kc_w hw)) rfl inlX3 7 (by decide) rfl wd_f_X3_19 rfl dX3_keepSighting_6 ?_
  refine g_alen (t0 := 0) hF hK (hM 2 w _ (kc_d hw)) rfl dX3_keepSighting_9 ?_
  refine bo_to (v := (nI 9)) rfl ?_
  refine lv_icmp_ge (tgt := 46) hx hb dX3_keepSighting_10 (by decide) (fun ce => ?_) (fun ce => ?_)
  · skip
    have hie : i = 9 := by have := (nI_leI (by decide) (by omega)).mp ce; omega
    refine lv_aload_n hx hb dX3_keepSighting_46 rfl (lv_at hl 1 rfl) ?_
    refine g_get (C := RX3) (T := TX3) (N := 8) (v := .ref (ad 2 w)) hF hK (hM 1 w _ (kc_w hw)) rfl inlX3 7 (by decide) rfl wd_f_X3_19 rfl dX3_keepSighting_47 ?_
    refine lv_iload_n hx hb dX3_keepSighting_50 rfl (lv_at hl 2 rfl) ?_
    refine lv_iconst (v := 3) hx hb dX3_keepSighting_51 (by decide) ?_
    refine lv_imul hx hb dX3_keepSighting_52 ?_
    refine bo_to (v := (nI (c1 * 3))) (pk_mul _ _) ?_
    refine lv_iload_n hx hb dX3_keepSighting_53 rfl (lv_at hl 3 rfl) ?_
    refine lv_iadd hx hb dX3_keepSighting_54 ?_
    refine bo_to (v := (nI (3 * c1 + d))) (by rw [nI_add]; congr 1; omega) ?_
    refine lv_iload_n hx hb dX3_keepSighting_55 rfl (lv_at hl 4 rfl) ?_
    subst hie
    refine k_ast (v := (nI q)) (i := 3 * c1 + d) hF hK hM hN hS 2 w (kc_d hw) rfl (by omega) (by decide) dX3_keepSighting_56 (fun H locs hM hN hS => ?_)
    rw [kcu_dbt (mm := sp_kp mm w d q 9) (i := 3 * c1 + d) hw (by omega), kp_end hc hd] at hM hN
    exact kx_vret hx hb hr hlk hM hN hK hS (by decide) (by decide) (rfl) dX3_keepSighting_57
  · skip
    have hi9 : i < 9 := by have : ¬ 9 ≤ i := fun z => ce (nI_le z (by omega)); omega
    refine lv_iload hx hb dX3_keepSighting_13 (lv_at hl 0 rfl) ?_
    refine lv_iconst (v := 3) hx hb dX3_keepSighting_15 (by decide) ?_
    refine lv_irem hx hb dX3_keepSighting_16 (by decide) ?_
    refine bo_to (v := (nI (i % 3))) (pk_rem (by omega) (by decide) (by decide)) ?_
    refine lv_iload_n hx hb dX3_keepSighting_17 rfl (lv_at hl 3 rfl) ?_
    refine lv_icmp_eq (tgt := 40) hx hb dX3_keepSighting_18 (by decide) (fun c2 => ?_) (fun c2 => ?_)
    · skip
      have hno : ¬ (¬ i % 3 = d ∧ nI q < mm 20 (9 * w + i)) := fun z => z.1 (nI_inj (by omega) (by omega) c2)
      refine lv_iinc (v := (nI (i + 1))) (lv' := [(4, .int (nI (i + 1))), (0, .ref (ad 1 w)), (1, .int (nI c1)), (2, .int (nI d)), (3, .int (nI q))]) hx hb dX3_keepSighting_40 hl (k := 0) rfl (nI_1 i) (by decide) rfl (fun ls hl => ?_)
      refine lv_goto (tgt := 3) hx hb dX3_keepSighting_43 (by decide) ?_
      rw [kp_n hno] at hM hN
      exact ih3 (i + 1) _ _ _ (by show 9 - (i + 1) < 9 - i; omega) ⟨hM, hN, hS, lv_sub hl [0, 1, 2, 3, 4] rfl, by omega⟩
    · skip
      have c2b : ¬ i % 3 = d := fun z => c2 (by rw [z])
      refine lv_aload_n hx hb dX3_keepSighting_21 rfl (lv_at hl 1 rfl) ?_
      refine g_get (C := RX3) (T := TX3) (N := 8) (v := .ref (ad 2 w)) hF hK (hM 1 w _ (kc_w hw)) rfl inlX3 7 (by decide) rfl wd_f_X3_19 rfl dX3_keepSighting_22 ?_
      refine lv_iload hx hb dX3_keepSighting_25 (lv_at hl 0 rfl) ?_
      refine g_ald (t0 := 0) (i := i) hF hK (hM 2 w _ (kc_d hw)) rfl rfl hi9 (by decide) dX3_keepSighting_27 ?_
      refine bo_to (v := ((sp_kp mm w d q i) 20 (9 * w + i))) (if_pos hi9) ?_
      refine bo_to (v := (mm 20 (9 * w + i))) (kp_rd) ?_
      refine lv_iload_n hx hb dX3_keepSighting_28 rfl (lv_at hl 4 rfl) ?_
      refine lv_icmp_le (tgt := 40) hx hb dX3_keepSighting_29 (by decide) (fun c3 => ?_) (fun c3 => ?_)
      · skip
        have hno : ¬ (¬ i % 3 = d ∧ nI q < mm 20 (9 * w + i)) := fun z => bo_nlt c3 z.2
        refine lv_iinc (v := (nI (i + 1))) (lv' := [(4, .int (nI (i + 1))), (0, .ref (ad 1 w)), (1, .int (nI c1)), (2, .int (nI d)), (3, .int (nI q))]) hx hb dX3_keepSighting_40 hl (k := 0) rfl (nI_1 i) (by decide) rfl (fun ls hl => ?_)
        refine lv_goto (tgt := 3) hx hb dX3_keepSighting_43 (by decide) ?_
        rw [kp_n hno] at hM hN
        exact ih3 (i + 1) _ _ _ (by show 9 - (i + 1) < 9 - i; omega) ⟨hM, hN, hS, lv_sub hl [0, 1, 2, 3, 4] rfl, by omega⟩
      · skip
        refine lv_aload_n hx hb dX3_keepSighting_32 rfl (lv_at hl 1 rfl) ?_
        refine g_get (C := RX3) (T := TX3) (N := 8) (v := .ref (ad 2 w)) hF hK (hM 1 w _ (kc_w hw)) rfl inlX3 7 (by decide) rfl wd_f_X3_19 rfl dX3_keepSighting_33 ?_
        refine lv_iload hx hb dX3_keepSighting_36 (lv_at hl 0 rfl) ?_
        refine lv_iconst (v := (-1)) hx hb dX3_keepSighting_38 (by decide) ?_
        refine k_ast (v := (-1)) (i := i) hF hK hM hN hS 2 w (kc_d hw) rfl hi9 (by decide) dX3_keepSighting_39 (fun H locs hM hN hS => ?_)
        rw [kcu_dbt (mm := sp_kp mm w d q i) (i := i) hw hi9, kp_y c2b (bo_le c3)] at hM hN
        refine lv_iinc (v := (nI (i + 1))) (lv' := [(4, .int (nI (i + 1))), (0, .ref (ad 1 w)), (1, .int (nI c1)), (2, .int (nI d)), (3, .int (nI q))]) hx hb dX3_keepSighting_40 hl (k := 0) rfl (nI_1 i) (by decide) rfl (fun ls hl => ?_)
        refine lv_goto (tgt := 3) hx hb dX3_keepSighting_43 (by decide) ?_
        exact ih3 (i + 1) _ _ _ (by show 9 - (i + 1) < 9 - i; omega) ⟨hM, hN, hS, lv_sub hl [0, 1, 2, 3, 4] rfl, by omega⟩
end
section
/-! ===== cells made ===== -/
def k_ad (ad : k_Ad) (k i q : Nat) : k_Ad := fun a b => if a = k ∧ b = i then q else ad a b
theorem k_ad_s {ad : k_Ad} {k i q : Nat} : k_ad ad k i q k i = q := if_pos ⟨rfl, rfl⟩
theorem k_ad_o {ad : k_Ad} {k i q a b : Nat} (h : ¬ (a = k ∧ b = i)) : k_ad ad k i q a b = ad a b := if_neg h
theorem k_addH {G : k_G} {ad : k_Ad} {ct : k_Ct} {H H1 : Heap} {k i q : Nat} {e1 : va_E} (hM : k_H G ad ct H) (hfree : ct k i = none) (h1 : va_at G.1 vwCl (q, e1) H1) (o1 : ∀ q : Nat, q < H.size → H1[q]? = H[q]?) : k_H G (k_ad ad k i q) (k_up ct k i e1) H1 := by
  intro a b e h
  by_cases z : a = k ∧ b = i
  · obtain ⟨rfl, rfl⟩ := z
    rw [k_up_s] at h
    cases h
    rw [k_ad_s]; exact h1
  · rw [k_up_o z] at h
    rw [k_ad_o z]
    exact (hM a b e h).kept (o1 _ (hM a b e h).lt)
theorem k_addN {G : k_G} {Z : Nat → Prop} {ad : k_Ad} {ct : k_Ct} {H : Heap} {k i q : Nat} {e1 : va_E} (hM : k_H G ad ct H) (hN : k_N Z ad ct) (hq : H.size ≤ q) (hZ : Z q) : k_N Z (k_ad ad k i q) (k_up ct k i e1) := by
  refine ⟨fun a b c d e e2 h1 h2 h3 => ?_, fun a b e h => ?_⟩
  · by_cases z : a = k ∧ b = i
    · by_cases y : c = k ∧ d = i
      · exact ⟨z.1.trans y.1.symm, z.2.trans y.2.symm⟩
      · rw [k_up_o y] at h2
        have := (hM c d e2 h2).lt
        rw [z.1, z.2, k_ad_s, k_ad_o y] at h3
        have h4 : ad c d < H.size := this
        omega
    · rw [k_up_o z] at h1
      by_cases y : c = k ∧ d = i
      · have := (hM a b e h1).lt
        rw [y.1, y.2, k_ad_s, k_ad_o z] at h3
        have h4 : ad a b < H.size := this
        omega
      · rw [k_up_o y] at h2
        rw [k_ad_o z, k_ad_o y] at h3
        exact hN.1 a b c d e e2 h1 h2 h3
  · by_cases z : a = k ∧ b = i
    · rw [z.1, z.2, k_ad_s]; exact hZ
    · rw [k_up_o z] at h
      rw [k_ad_o z]; exact hN.2 a b e h
section
variable {p : Program} {l : Launch} {e : Env} {R : Room} {s : State} {m : MethodId} {args : Array Value} {below : List Frame} {meth : Method} {c : Code} {H : Heap} {locs : List Loc} {cells slots : Nat} {Q : State → Prop}
variable {cc : ByteArray} {pc nL : Nat} {ls : Array Slot} {rest st0 : List Value} {H0 : Heap} {own : String} {G : k_G} {Z : Nat → Prop} {ad : k_Ad} {ct : k_Ct}
theorem va_S.new {A : Nat → Prop} {H1 : Heap} (hS : va_S A H0 H locs) (z1 : H1.size = H.size + 1) (o1 : ∀ q : Nat, q < H.size → H1[q]? = H[q]?) : va_S A H0 H1 locs := ⟨Nat.le_trans hS.1 (by omega), fun x h1 h2 => (o1 x (Nat.lt_of_lt_of_le h1 hS.1)).trans (hS.2.1 x h1 h2), hS.2.2⟩
theorem k_new (hF : CallFix p m c cc nL s args wsL_law own) (hK : va_K G.1 vwCl (k_ty G) s) (hM : k_H G ad ct H) (hN : k_N Z ad ct) (hS : va_S Z H0 H locs) (hZ : ∀ q, H0.size ≤ q → Z q) (K i : Nat) (hfree : ct K i = none) {ci N idx : Nat} {C : String} {T : u_T} (hc : vwCl[ci]? = some (C, T, N)) (hin : ∀ w ∈ u_ws C T N, w ∈ wsL_law) (ty : Nat → FieldType) (hty : ∀ k, k < N → parseFieldDescriptor (T k).2.2.1 = some (ty k)) (hcl : Cond.classLink own idx C ∈ wsL_law) (hinst : Cond.instantiable C N ∈ wsL_law) (hini : Cond.initialized C ∈ wsL_law)
    {fs : List Value} (hfs : ∀ j, j < N → defaultValue (ty j) = vp_V fs j) (hcells : cells + 1 ≤ R.cells) (hslots : slots + N ≤ R.slots) (hdg : decode cc pc = .ok (.new idx, 3))
    (kk : ∀ (q : Nat) (H1 : Heap), k_H G (k_ad ad K i q) (k_up ct K i (.inr (ci, fs))) H1 → k_N Z (k_ad ad K i q) (k_up ct K i (.inr (ci, fs))) → va_S Z H0 H1 locs → W p l e R s m args below meth c H1 locs (cells + 1) (slots + N) Q (F0 m (pc + 3) ls (.ref q :: rest))) : W p l e R s m args below meth c H locs cells slots Q (F0 m pc ls rest) := by
  have hKn := hK.1 ci _ hc
  refine W.newcK hF.1 hF.2.1 hF.2.2.2.1 (hF.2.2.2.2 _ hcl) (hF.2.2.2.2 _ hinst) (hF.2.2.2.2 _ hini) rfl hdg hcells hslots hKn.2.1 rfl fun H1 kC hkC e1 z1 o1 => ?_
  refine kk H.size H1 (k_addH hM hfree ?_ o1) (k_addN hM hN (Nat.le_refl _) (hZ _ hS.1)) (hS.new z1 o1)
  exact ⟨_, hc, (u_born ty hF.2.2.2.2 hin hKn hkC e1 hty).to hfs⟩
theorem k_newa (hF : CallFix p m c cc nL s args wsL_law own) (hK : va_K G.1 vwCl (k_ty G) s) (hM : k_H G ad ct H) (hN : k_N Z ad ct) (hS : va_S Z H0 H locs) (hZ : ∀ q, H0.size ≤ q → Z q) (K i : Nat) (hfree : ct K i = none) {n : Int32} (n0 : Nat) (hn : ¬ n < 0) (hn0 : n.toNatClampNeg = n0) (hb4 : n0 * componentBytes (newarray.typeOf ArrayType.int) ≤ 536870912) (hcells : cells + 1 ≤ R.cells) (hslots : slots + n0 ≤ R.slots) (hdg : decode cc pc = .ok (.newarray .int, 2))
    (kk : ∀ (q : Nat) (H1 : Heap), k_H G (k_ad ad K i q) (k_up ct K i (.inl (G.2.1, n0, .inl (fun _ => 0)))) H1 → k_N Z (k_ad ad K i q) (k_up ct K i (.inl (G.2.1, n0, .inl (fun _ => 0)))) → va_S Z H0 H1 locs → W p l e R s m args below meth c H1 locs (cells + 1) (slots + n0) Q (F0 m (pc + 2) ls (.ref q :: rest))) : W p l e R s m args below meth c H locs cells slots Q (F0 m pc ls (.int n :: rest)) := by
  refine va_newaK (atype := .int) hF.1 hF.2.1 (hF.2.2.2.2 _ wd_x3) rfl hdg rfl hn hn0 hb4 hcells hslots rfl fun H1 cA e1 z1 o1 hAr hNm => ?_
  have hcA : cA = G.2.1 := Option.some.inj (hNm.symm.trans (hK.2 0 _ rfl).2)
  subst hcA
  refine kk H.size H1 (k_addH hM hfree ?_ o1) (k_addN hM hN (Nat.le_refl _) (hZ _ hS.1)) (hS.new z1 o1)
  show H1[H.size]? = some (vp_cell _ _)
  rw [vp_cell_i]
  exact e1
theorem k_newq (hF : CallFix p m c cc nL s args wsL_law own) (hK : va_K G.1 vwCl (k_ty G) s) (hM : k_H G ad ct H) (hN : k_N Z ad ct) (hS : va_S Z H0 H locs) (hZ : ∀ q, H0.size ≤ q → Z q) (K i : Nat) (hfree : ct K i = none) {idx t0 : Nat} {C : String} {cA : ClassId} (ht : (k_ty G)[t0]? = some (cA, .object C)) (hcl : Cond.classLink own idx C ∈ wsL_law) (hov : va_AO C s) {n : Int32} (n0 : Nat) (hn : ¬ n < 0) (hn0 : n.toNatClampNeg = n0) (hb4 : n0 * 4 ≤ 536870912) (hcells : cells + 1 ≤ R.cells) (hslots : slots + n0 ≤ R.slots) (hdg : decode cc pc = .ok (.anewarray idx, 3))
    (kk : ∀ (q : Nat) (H1 : Heap), k_H G (k_ad ad K i q) (k_up ct K i (.inl (cA, n0, .inr (.inr (.inr (.inr (fun _ => none))))))) H1 → k_N Z (k_ad ad K i q) (k_up ct K i (.inl (cA, n0, .inr (.inr (.inr (.inr (fun _ => none))))))) → va_S Z H0 H1 locs → W p l e R s m args below meth c H1 locs (cells + 1) (slots + n0) Q (F0 m (pc + 3) ls (.ref q :: rest))) : W p l e R s m args below meth c H locs cells slots Q (F0 m pc ls (.int n :: rest)) := by
  subst hn0
  refine W.anew hF.1 hF.2.1 hF.2.2.2.1 (hF.2.2.2.2 _ hcl) (va_AO.use hov) rfl hdg rfl hn hb4 hcells hslots fun cB kA comp f1 f2 f3 f4 => ?_
  obtain ⟨-, -, -, -, -, g4⟩ := (hK.2 t0 _ ht).2
  have hcB : cB = cA := Option.some.inj (f1.symm.trans g4)
  subst hcB
  generalize hH1 : H.push ({ cls := cB, slots := Array.replicate n.toNatClampNeg .null, vm := .none } : Cell) = H1
  have z1 : H1.size = H.size + 1 := by rw [← hH1, Array.size_push]
  have e1 : H1[H.size]? = some (arrV cB n.toNatClampNeg (fun _ => .null)) := by rw [← hH1, Array.getElem?_push_size, ← arrV_new]
  have o1 : ∀ q : Nat, q < H.size → H1[q]? = H[q]? := fun q hq => by rw [← hH1, Array.getElem?_push, if_neg (Nat.ne_of_lt hq)]
  refine kk H.size H1 (k_addH hM hfree ?_ o1) (k_addN hM hN (Nat.le_refl _) (hZ _ hS.1)) (hS.new z1 o1)
  show H1[H.size]? = some (vp_cell _ _)
  rw [vp_cell_q]
  exact e1
/-- a final field, in its class's constructor -/
theorem k_putF (hF : CallFix p m c cc nL s args wsL_law own) (hK : va_K G.1 vwCl (k_ty G) s) (hM : k_H G ad ct H) (hN : k_N Z ad ct) (hS : va_S Z H0 H locs) {idx ci N : Nat} {C ref : String} {T : u_T} {fs : List Value} (K i : Nat) (he : ct K i = some (.inr (ci, fs))) (hc : vwCl[ci]? = some (C, T, N)) (hin : ∀ w ∈ u_ws C T N, w ∈ wsL_law) (ty0 : Nat → FieldType) (hty : ∀ k, k < N → parseFieldDescriptor (T k).2.2.1 = some (ty0 k)) (hnm : ∀ a, a < N → ∀ b, b < N → a ≠ b → (T a).2.1 ≠ (T b).2.1)
    (k : Nat) (hk : k < N) (hT : (T k).1 = ref) (hlink : Cond.fieldLink own idx ref (T k).2.1 (T k).2.2.1 ∈ wsL_law) (hfin : (T k).2.2.2 = true) (hin2 : meth.name = "<init>") (hdecl : (T k).1 = own) {v : Value} (hn : narrow (ty0 k) v = v) (hfit : fits (ty0 k) v = true) (hl : k < fs.length) (hdg : decode cc pc = .ok (.putfield idx, 3))
    (kk : ∀ (H1 : Heap) (locs1 : List Loc), k_H G ad (k_up ct K i (.inr (ci, fs.set k v))) H1 → k_N Z ad (k_up ct K i (.inr (ci, fs.set k v))) → va_S Z H0 H1 locs1 → W p l e R s m args below meth c H1 locs1 cells slots Q (F0 m (pc + 3) ls rest)) : W p l e R s m args below meth c H locs cells slots Q (F0 m pc ls (v :: .ref (ad K i) :: rest)) := by
  obtain ⟨hx, hb, -, hown, hw⟩ := hF
  have hap := va_apart (own := own) hw hin ty0 hty hnm hK hc
  obtain ⟨r, h1, cell, q1, q2, q3, q4⟩ := hM K i _ he
  have hr : r = (C, T, N) := Option.some.inj (h1.symm.trans hc)
  subst hr
  obtain ⟨hSl, hfc, kC, hkC, hkind⟩ := hK.1 ci _ hc
  obtain ⟨cf, kf, fi, f, hi, hsl⟩ := hSl k hk
  have hlay := hw _ (hin _ (u_in_lay hk))
  unfold u_lay at hlay
  rw [if_pos hfin] at hlay
  have hst := (u_facts hfc hkC (u_lays hw hin hk) hi).1
  have hcf : m.cls = cf := by
    obtain ⟨_, _, c', _, _, _, -, -, hf', -, -, -, hown2, -⟩ := Cond.laysFinal_spec hlay
    have e1 : c' = cf := by have := hi.symm.trans hf'; simp at this; exact this.1.symm
    rw [hdecl] at hown2
    rw [← e1]; exact Option.some.inj (hown.symm.trans hown2)
  have h6 := u_fits hfc hkC hkind (Or.inr hlay) hi (hty k hk) hn hfit
  refine W.putFinK hx hb hown (hw _ hlink) (by rw [← hT]; exact hi) hst hcf hin2 (by rw [q2]; exact h6) q1 q3 (by rw [hsl]; exact k2_hasslot (q4 k hk)) rfl rfl hdg fun H' e1 e2 e3 => ?_
  rw [hsl] at e1 ⊢
  have hv : va_at G.1 vwCl (ad K i, .inr (ci, fs.set k v)) H' := ⟨_, hc, t_OB.to (V := updV (vp_V fs) k v) ⟨_, e1, q2, q3, t_set q4 hap hk v⟩ (fun j _ => vp_updV_set hl v j)⟩
  exact kk H' _ (k_upd hM hN he hv e3) (k_updN hN he) (hS.put e2 e3 (hN.2 K i _ he))
theorem g_oini (hF : CallFix p m c cc nL s args wsL_law own) {idx q : Nat} (hlink : Cond.methodLink own idx objectInit ∈ wsL_law) (hsz : ls.size = nL) (hd : decode cc pc = .ok (.invokespecial idx, 3)) (hf : 1 ≤ R.frames) (hl : (rest.map fun v => v.category).sum + 12 ≤ R.locals)
    (kk : W p l e R s m args below meth c H locs cells slots Q (F0 m (pc + 3) ls rest)) : W p l e R s m args below meth c H locs cells slots Q (F0 m pc ls (.ref q :: rest)) :=
  W.objInit hF.1 hF.2.1 hF.2.2.2.1 (hF.2.2.2.2 _ hlink) (hF.2.2.2.2 _ wd_x1) (hF.2.2.2.2 _ wd_x2) rfl (hsz.trans hF.2.2.1.symm) rfl hd hf (by show 2 * 0 + _ + 12 ≤ _; omega) kk
end
/-- as kx_of, for a constructor -/
theorem kx_ofI {l : Launch} {y : MethodName} {b : ByteArray} {nL : Nat} {r : Option FieldType} {fr lo mc ms : Nat} {G : k_G} {Z : Nat → Prop} {ad : k_Ad} {ct : k_Ct} {As : List Value} {Qc : Array Value → State → Outcome → State → Prop} {XC : String → State → State → Prop} (hy : plainName y.cls = true) (hn : (lg_sl As).length ≤ nL)
    (body : ∀ (p : Program) (e : Env) (s : State) (m : MethodId) (args : Array Value) (below : List Frame) (meth : Method) (c : Code), p.tables.exec = Jvm.exec → c.code = b → meth.sig.returnType = r → CallFix p m c b nL s args wsL_law y.cls → meth.locks = false → (∀ x ∈ c.exceptionTable.toList, False) → meth.name = y.name → k_M G Z ad ct s → ∀ ls : Array Slot, lv_has ls nL (lv_args 0 As) →
      W p l e { frames := fr, cells := mc, slots := ms, locals := lo } s m args below meth c s.heap [] 0 0 (vx_MQ below Qc XC args s mc ms Z) (F0 m 0 ls [])) : vx_Met l y (Cond.code y b nL r :: wsL_law) { frames := fr, cells := mc, slots := ms, locals := lo } (va_Pc As (k_M G Z ad ct)) Qc XC mc ms Z := by
  refine vx_ofW (cc := b) (maxL := nL) (ret := r) hy rfl ?_
  intro p e s m args below meth c s₁ B0 hml hnt hv
  obtain ⟨rfl, hB⟩ := hv
  have hts := atoms_spec (ws := Cond.code y b nL r :: wsL_law) B0.pre
  have hl := lv_entry As (n := nL) hn
  rw [lg_entry_eq]
  exact body p e s m _ below meth c B0.exec B0.bytes B0.returns ⟨B0.exec, B0.bytes, hml, findClass_of_methodNamed B0.named, fun w h => hts w (List.mem_cons_of_mem _ h)⟩ B0.notSynchronized hnt (name_of_methodNamed B0.named B0.method).1 hB _ hl
theorem k_up_c {ct : k_Ct} {k i k2 i2 : Nat} {e e2 : va_E} (h : ¬ (k = k2 ∧ i = i2)) : k_up (k_up ct k i e) k2 i2 e2 = k_up (k_up ct k2 i2 e2) k i e := by
  funext a b
  unfold k_up
  by_cases z : a = k2 ∧ b = i2
  · rw [if_pos z, if_neg (fun y => h ⟨y.1.symm.trans z.1, y.2.symm.trans z.2⟩), if_pos z]
  · rw [if_neg z]
    by_cases y : a = k ∧ b = i
    · rw [if_pos y, if_pos y]
    · rw [if_neg y, if_neg y, if_neg z]
end
section
theorem dX0_init_0 : decode cX0_init 0 = .ok (.aload_n 0, 1) := by decide +kernel
theorem dX0_init_1 : decode cX0_init 1 = .ok (.invokespecial 1, 3) := by decide +kernel
theorem dX0_init_4 : decode cX0_init 4 = .ok (.aload_n 0, 1) := by decide +kernel
theorem dX0_init_5 : decode cX0_init 5 = .ok (.iload_n 1, 1) := by decide +kernel
theorem dX0_init_6 : decode cX0_init 6 = .ok (.putfield 7, 3) := by decide +kernel
theorem dX0_init_9 : decode cX0_init 9 = .ok (.aload_n 0, 1) := by decide +kernel
theorem dX0_init_10 : decode cX0_init 10 = .ok (.iload_n 2, 1) := by decide +kernel
theorem dX0_init_11 : decode cX0_init 11 = .ok (.putfield 13, 3) := by decide +kernel
theorem dX0_init_14 : decode cX0_init 14 = .ok (.aload_n 0, 1) := by decide +kernel
theorem dX0_init_15 : decode cX0_init 15 = .ok (.iload_n 3, 1) := by decide +kernel
theorem dX0_init_16 : decode cX0_init 16 = .ok (.putfield 16, 3) := by decide +kernel
theorem dX0_init_19 : decode cX0_init 19 = .ok (.return_, 1) := by decide +kernel
theorem dX1_init_0 : decode cX1_init 0 = .ok (.aload_n 0, 1) := by decide +kernel
theorem dX1_init_1 : decode cX1_init 1 = .ok (.invokespecial 3, 3) := by decide +kernel
theorem dX1_init_4 : decode cX1_init 4 = .ok (.aload_n 0, 1) := by decide +kernel
theorem dX1_init_5 : decode cX1_init 5 = .ok (.iconst 0, 1) := by decide +kernel
theorem dX1_init_6 : decode cX1_init 6 = .ok (.putfield 9, 3) := by decide +kernel
theorem dX1_init_9 : decode cX1_init 9 = .ok (.aload_n 0, 1) := by decide +kernel
theorem dX1_init_10 : decode cX1_init 10 = .ok (.iconst 0, 1) := by decide +kernel
theorem dX1_init_11 : decode cX1_init 11 = .ok (.putfield 15, 3) := by decide +kernel
theorem dX1_init_14 : decode cX1_init 14 = .ok (.bipush 16, 2) := by decide +kernel
theorem dX1_init_16 : decode cX1_init 16 = .ok (.iload_n 1, 1) := by decide +kernel
theorem dX1_init_17 : decode cX1_init 17 = .ok (.ishr, 1) := by decide +kernel
theorem dX1_init_18 : decode cX1_init 18 = .ok (.istore 4, 2) := by decide +kernel
theorem dX1_init_20 : decode cX1_init 20 = .ok (.aload_n 0, 1) := by decide +kernel
theorem dX1_init_21 : decode cX1_init 21 = .ok (.iload_n 1, 1) := by decide +kernel
theorem dX1_init_22 : decode cX1_init 22 = .ok (.putfield 18, 3) := by decide +kernel
theorem dX1_init_25 : decode cX1_init 25 = .ok (.aload_n 0, 1) := by decide +kernel
theorem dX1_init_26 : decode cX1_init 26 = .ok (.iload_n 2, 1) := by decide +kernel
theorem dX1_init_27 : decode cX1_init 27 = .ok (.iload 4, 2) := by decide +kernel
theorem dX1_init_29 : decode cX1_init 29 = .ok (.imul, 1) := by decide +kernel
theorem dX1_init_30 : decode cX1_init 30 = .ok (.putfield 21, 3) := by decide +kernel
theorem dX1_init_33 : decode cX1_init 33 = .ok (.aload_n 0, 1) := by decide +kernel
theorem dX1_init_34 : decode cX1_init 34 = .ok (.aload_n 0, 1) := by decide +kernel
theorem dX1_init_35 : decode cX1_init 35 = .ok (.getfield 21, 3) := by decide +kernel
theorem dX1_init_38 : decode cX1_init 38 = .ok (.iload 4, 2) := by decide +kernel
theorem dX1_init_40 : decode cX1_init 40 = .ok (.iadd, 1) := by decide +kernel
theorem dX1_init_41 : decode cX1_init 41 = .ok (.putfield 24, 3) := by decide +kernel
theorem dX1_init_44 : decode cX1_init 44 = .ok (.aload_n 0, 1) := by decide +kernel
theorem dX1_init_45 : decode cX1_init 45 = .ok (.iload_n 3, 1) := by decide +kernel
theorem dX1_init_46 : decode cX1_init 46 = .ok (.iload 4, 2) := by decide +kernel
theorem dX1_init_48 : decode cX1_init 48 = .ok (.imul, 1) := by decide +kernel
theorem dX1_init_49 : decode cX1_init 49 = .ok (.putfield 27, 3) := by decide +kernel
theorem dX1_init_52 : decode cX1_init 52 = .ok (.aload_n 0, 1) := by decide +kernel
theorem dX1_init_53 : decode cX1_init 53 = .ok (.aload_n 0, 1) := by decide +kernel
theorem dX1_init_54 : decode cX1_init 54 = .ok (.getfield 27, 3) := by decide +kernel
theorem dX1_init_57 : decode cX1_init 57 = .ok (.iload 4, 2) := by decide +kernel
theorem dX1_init_59 : decode cX1_init 59 = .ok (.iadd, 1) := by decide +kernel
theorem dX1_init_60 : decode cX1_init 60 = .ok (.putfield 30, 3) := by decide +kernel
theorem dX1_init_63 : decode cX1_init 63 = .ok (.return_, 1) := by decide +kernel
theorem dX2_init_0 : decode cX2_init 0 = .ok (.aload_n 0, 1) := by decide +kernel
theorem dX2_init_1 : decode cX2_init 1 = .ok (.invokespecial 1, 3) := by decide +kernel
theorem dX2_init_4 : decode cX2_init 4 = .ok (.aload_n 0, 1) := by decide +kernel
theorem dX2_init_5 : decode cX2_init 5 = .ok (.aload_n 1, 1) := by decide +kernel
theorem dX2_init_6 : decode cX2_init 6 = .ok (.putfield 7, 3) := by decide +kernel
theorem dX2_init_9 : decode cX2_init 9 = .ok (.aload_n 0, 1) := by decide +kernel
theorem dX2_init_10 : decode cX2_init 10 = .ok (.iload_n 2, 1) := by decide +kernel
theorem dX2_init_11 : decode cX2_init 11 = .ok (.putfield 13, 3) := by decide +kernel
theorem dX2_init_14 : decode cX2_init 14 = .ok (.aload_n 0, 1) := by decide +kernel
theorem dX2_init_15 : decode cX2_init 15 = .ok (.aload_n 3, 1) := by decide +kernel
theorem dX2_init_16 : decode cX2_init 16 = .ok (.ifnonnull 7, 3) := by decide +kernel
theorem dX2_init_19 : decode cX2_init 19 = .ok (.iconst 0, 1) := by decide +kernel
theorem dX2_init_20 : decode cX2_init 20 = .ok (.goto 9, 3) := by decide +kernel
theorem dX2_init_23 : decode cX2_init 23 = .ok (.aload_n 3, 1) := by decide +kernel
theorem dX2_init_24 : decode cX2_init 24 = .ok (.getfield 17, 3) := by decide +kernel
theorem dX2_init_27 : decode cX2_init 27 = .ok (.iconst 1, 1) := by decide +kernel
theorem dX2_init_28 : decode cX2_init 28 = .ok (.iadd, 1) := by decide +kernel
theorem dX2_init_29 : decode cX2_init 29 = .ok (.putfield 17, 3) := by decide +kernel
theorem dX2_init_32 : decode cX2_init 32 = .ok (.aload_n 0, 1) := by decide +kernel
theorem dX2_init_33 : decode cX2_init 33 = .ok (.aload_n 3, 1) := by decide +kernel
theorem dX2_init_34 : decode cX2_init 34 = .ok (.putfield 20, 3) := by decide +kernel
theorem dX2_init_37 : decode cX2_init 37 = .ok (.return_, 1) := by decide +kernel
theorem dX3_init_0 : decode cX3_init 0 = .ok (.aload_n 0, 1) := by decide +kernel
theorem dX3_init_1 : decode cX3_init 1 = .ok (.invokespecial 3, 3) := by decide +kernel
theorem dX3_init_4 : decode cX3_init 4 = .ok (.aload_n 0, 1) := by decide +kernel
theorem dX3_init_5 : decode cX3_init 5 = .ok (.iconst 0, 1) := by decide +kernel
theorem dX3_init_6 : decode cX3_init 6 = .ok (.putfield 9, 3) := by decide +kernel
theorem dX3_init_9 : decode cX3_init 9 = .ok (.aload_n 0, 1) := by decide +kernel
theorem dX3_init_10 : decode cX3_init 10 = .ok (.aconst_null, 1) := by decide +kernel
theorem dX3_init_11 : decode cX3_init 11 = .ok (.putfield 15, 3) := by decide +kernel
theorem dX3_init_14 : decode cX3_init 14 = .ok (.aload_n 0, 1) := by decide +kernel
theorem dX3_init_15 : decode cX3_init 15 = .ok (.bipush 9, 2) := by decide +kernel
theorem dX3_init_17 : decode cX3_init 17 = .ok (.newarray .int, 2) := by decide +kernel
theorem dX3_init_19 : decode cX3_init 19 = .ok (.putfield 19, 3) := by decide +kernel
theorem dX3_init_22 : decode cX3_init 22 = .ok (.aload_n 0, 1) := by decide +kernel
theorem dX3_init_23 : decode cX3_init 23 = .ok (.iload_n 1, 1) := by decide +kernel
theorem dX3_init_24 : decode cX3_init 24 = .ok (.putfield 23, 3) := by decide +kernel
theorem dX3_init_27 : decode cX3_init 27 = .ok (.aload_n 0, 1) := by decide +kernel
theorem dX3_init_28 : decode cX3_init 28 = .ok (.iload_n 2, 1) := by decide +kernel
theorem dX3_init_29 : decode cX3_init 29 = .ok (.putfield 26, 3) := by decide +kernel
theorem dX3_init_32 : decode cX3_init 32 = .ok (.aload_n 0, 1) := by decide +kernel
theorem dX3_init_33 : decode cX3_init 33 = .ok (.iload_n 3, 1) := by decide +kernel
theorem dX3_init_34 : decode cX3_init 34 = .ok (.putfield 29, 3) := by decide +kernel
theorem dX3_init_37 : decode cX3_init 37 = .ok (.aload_n 0, 1) := by decide +kernel
theorem dX3_init_38 : decode cX3_init 38 = .ok (.iload 4, 2) := by decide +kernel
theorem dX3_init_40 : decode cX3_init 40 = .ok (.putfield 32, 3) := by decide +kernel
theorem dX3_init_43 : decode cX3_init 43 = .ok (.aload_n 0, 1) := by decide +kernel
theorem dX3_init_44 : decode cX3_init 44 = .ok (.aload 5, 2) := by decide +kernel
theorem dX3_init_46 : decode cX3_init 46 = .ok (.putfield 35, 3) := by decide +kernel
theorem dX3_init_49 : decode cX3_init 49 = .ok (.aload_n 0, 1) := by decide +kernel
theorem dX3_init_50 : decode cX3_init 50 = .ok (.getfield 19, 3) := by decide +kernel
theorem dX3_init_53 : decode cX3_init 53 = .ok (.iconst (-1), 1) := by decide +kernel
theorem dX3_init_54 : decode cX3_init 54 = .ok (.invokestatic 39, 3) := by decide +kernel
theorem dX3_init_57 : decode cX3_init 57 = .ok (.return_, 1) := by decide +kernel
theorem ke_X0_init : wl_I yX0_init cX0_init 4 3 := ⟨wd_c_X0_init, wd_i_X0_init, wd_n_X0, by decide, by decide +kernel, rfl⟩
set_option maxHeartbeats 4000000 in
set_option maxRecDepth 100000 in
theorem m_X0_init (l : Launch) (hflag : l.stackTraces = false) (G : k_G) (Z : Nat → Prop) (ad : k_Ad) (ct : k_Ct) (K i : Nat) (k d f : Int32) (he : ct K i = some (.inr (1, [.int 0, .int 0, .int 0]))) : kx_v l yX0_init cX0_init 4 none 1 24 0 0 G Z ad ct [.ref (ad K i), .int k, .int d, .int f] (fun u => u = (ad, (k_up ct K i (.inr (1, [.int k, .int d, .int f]))))) (fun _ => False) := by
  refine kx_ofI (by decide) (Nat.le_of_ble_eq_true rfl) ?_
  intro p e s m args below meth c hx hb hr hF hlk hnt hin hB ls hl
  obtain ⟨⟨hM, hN⟩, hK, hP, hT⟩ := hB
  have hS : va_S Z s.heap s.heap [] := va_S.rf
  have hl : lv_has ls 4 [(0, .ref (ad K i)), (1, .int k), (2, .int d), (3, .int f)] := hl
  refine lv_aload_n hx hb dX0_init_0 rfl (lv_at hl 0 rfl) ?_
  refine g_oini hF wd_l_X0_1 hl.1 dX0_init_1 (by decide) (Nat.le_of_ble_eq_true rfl) ?_
  refine lv_aload_n hx hb dX0_init_4 rfl (lv_at hl 0 rfl) ?_
  refine lv_iload_n hx hb dX0_init_5 rfl (lv_at hl 1 rfl) ?_
  refine k_putF (v := .int k) (fs := [.int 0, .int 0, .int 0]) hF hK hM hN hS K i he rfl inlX0 tyX0 tyX0_ok nmX0 0 (by decide) rfl wd_f_X0_7 rfl hin rfl rfl rfl (by show 0 < 3; decide) dX0_init_6 (fun H locs hM hN hS => ?_)
  replace hM : k_H G ad (k_up ct K i (.inr (1, [.int k, .int 0, .int 0]))) H := hM
  replace hN : k_N Z ad (k_up ct K i (.inr (1, [.int k, .int 0, .int 0]))) := hN
  refine lv_aload_n hx hb dX0_init_9 rfl (lv_at hl 0 rfl) ?_
  refine lv_iload_n hx hb dX0_init_10 rfl (lv_at hl 2 rfl) ?_
  refine k_putF (v := .int d) (fs := [.int k, .int 0, .int 0]) hF hK hM hN hS K i k_up_s rfl inlX0 tyX0 tyX0_ok nmX0 1 (by decide) rfl wd_f_X0_13 rfl hin rfl rfl rfl (by show 1 < 3; decide) dX0_init_11 (fun H locs hM hN hS => ?_)
  rw [k_up_t] at hM hN
  replace hM : k_H G ad (k_up ct K i (.inr (1, [.int k, .int d, .int 0]))) H := hM
  replace hN : k_N Z ad (k_up ct K i (.inr (1, [.int k, .int d, .int 0]))) := hN
  refine lv_aload_n hx hb dX0_init_14 rfl (lv_at hl 0 rfl) ?_
  refine lv_iload_n hx hb dX0_init_15 rfl (lv_at hl 3 rfl) ?_
  refine k_putF (v := .int f) (fs := [.int k, .int d, .int 0]) hF hK hM hN hS K i k_up_s rfl inlX0 tyX0 tyX0_ok nmX0 2 (by decide) rfl wd_f_X0_16 rfl hin rfl rfl rfl (by show 2 < 3; decide) dX0_init_16 (fun H locs hM hN hS => ?_)
  rw [k_up_t] at hM hN
  replace hM : k_H G ad (k_up ct K i (.inr (1, [.int k, .int d, .int f]))) H := hM
  replace hN : k_N Z ad (k_up ct K i (.inr (1, [.int k, .int d, .int f]))) := hN
  exact kx_vret hx hb hr hlk hM hN hK hS (by decide) (by decide) (rfl) dX0_init_19
theorem ke_X1_init : wl_I yX1_init cX1_init 5 3 := ⟨wd_c_X1_init, wd_i_X1_init, wd_n_X1, by decide, by decide +kernel, rfl⟩
set_option maxHeartbeats 4000000 in
set_option maxRecDepth 100000 in
theorem m_X1_init (l : Launch) (hflag : l.stackTraces = false) (G : k_G) (Z : Nat → Prop) (ad : k_Ad) (ct : k_Ct) (K i : Nat) (z x y : Int32) (he : ct K i = some (.inr (2, [.int 0, .int 0, .int 0, .int 0, .int 0, .int 0, .int 0]))) : kx_v l yX1_init cX1_init 5 none 1 24 0 0 G Z ad ct [.ref (ad K i), .int z, .int x, .int y] (fun u => u = (ad, (k_up ct K i (.inr (2, [.int z, .int (x * sp_sd z), .int (x * sp_sd z + sp_sd z), .int (y * sp_sd z), .int (y * sp_sd z + sp_sd z), .int 0, .int 0]))))) (fun _ => False) := by
  refine kx_ofI (by decide) (Nat.le_of_ble_eq_true rfl) ?_
  intro p e s m args below meth c hx hb hr hF hlk hnt hin hB ls hl
  obtain ⟨⟨hM, hN⟩, hK, hP, hT⟩ := hB
  have hS : va_S Z s.heap s.heap [] := va_S.rf
  have hl : lv_has ls 5 [(0, .ref (ad K i)), (1, .int z), (2, .int x), (3, .int y)] := hl
  refine lv_aload_n hx hb dX1_init_0 rfl (lv_at hl 0 rfl) ?_
  refine g_oini hF wd_l_X1_3 hl.1 dX1_init_1 (by decide) (Nat.le_of_ble_eq_true rfl) ?_
  refine lv_aload_n hx hb dX1_init_4 rfl (lv_at hl 0 rfl) ?_
  refine lv_iconst (v := 0) hx hb dX1_init_5 (by decide) ?_
  refine k_put (v := .int 0) (fs := [.int 0, .int 0, .int 0, .int 0, .int 0, .int 0, .int 0]) hF hK hM hN hS K i he rfl inlX1 tyX1 tyX1_ok nmX1 5 (by decide) rfl wd_f_X1_9 rfl rfl rfl (by show 5 < 7; decide) dX1_init_6 (fun H locs hM hN hS => ?_)
  replace hM : k_H G ad (k_up ct K i (.inr (2, [.int 0, .int 0, .int 0, .int 0, .int 0, .int 0, .int 0]))) H := hM
  replace hN : k_N Z ad (k_up ct K i (.inr (2, [.int 0, .int 0, .int 0, .int 0, .int 0, .int 0, .int 0]))) := hN
  refine lv_aload_n hx hb dX1_init_9 rfl (lv_at hl 0 rfl) ?_
  refine lv_iconst (v := 0) hx hb dX1_init_10 (by decide) ?_
  refine k_put (v := .int 0) (fs := [.int 0, .int 0, .int 0, .int 0, .int 0, .int 0, .int 0]) hF hK hM hN hS K i k_up_s rfl inlX1 tyX1 tyX1_ok nmX1 6 (by decide) rfl wd_f_X1_15 rfl rfl rfl (by show 6 < 7; decide) dX1_init_11 (fun H locs hM hN hS => ?_)
  rw [k_up_t] at hM hN
  replace hM : k_H G ad (k_up ct K i (.inr (2, [.int 0, .int 0, .int 0, .int 0, .int 0, .int 0, .int 0]))) H := hM
  replace hN : k_N Z ad (k_up ct K i (.inr (2, [.int 0, .int 0, .int 0, .int 0, .int 0, .int 0, .int 0]))) := hN
  refine lv_bipush (v := 16) hx hb dX1_init_14 (by decide) ?_
  refine lv_iload_n hx hb dX1_init_16 rfl (lv_at hl 1 rfl) ?_
  refine lv_ishr hx hb dX1_init_17 ?_
  refine bo_to (v := (sp_sd z)) (rfl) ?_
  refine lv_istore (lv' := [(4, .int (sp_sd z)), (0, .ref (ad K i)), (1, .int z), (2, .int x), (3, .int y)]) hx hb dX1_init_18 hl (by decide) rfl (fun ls hl => ?_)
  refine lv_aload_n hx hb dX1_init_20 rfl (lv_at hl 1 rfl) ?_
  refine lv_iload_n hx hb dX1_init_21 rfl (lv_at hl 2 rfl) ?_
  refine k_putF (v := .int z) (fs := [.int 0, .int 0, .int 0, .int 0, .int 0, .int 0, .int 0]) hF hK hM hN hS K i k_up_s rfl inlX1 tyX1 tyX1_ok nmX1 0 (by decide) rfl wd_f_X1_18 rfl hin rfl rfl rfl (by show 0 < 7; decide) dX1_init_22 (fun H locs hM hN hS => ?_)
  rw [k_up_t] at hM hN
  replace hM : k_H G ad (k_up ct K i (.inr (2, [.int z, .int 0, .int 0, .int 0, .int 0, .int 0, .int 0]))) H := hM
  replace hN : k_N Z ad (k_up ct K i (.inr (2, [.int z, .int 0, .int 0, .int 0, .int 0, .int 0, .int 0]))) := hN
  refine lv_aload_n hx hb dX1_init_25 rfl (lv_at hl 1 rfl) ?_
  refine lv_iload_n hx hb dX1_init_26 rfl (lv_at hl 3 rfl) ?_
  refine lv_iload hx hb dX1_init_27 (lv_at hl 0 rfl) ?_
  refine lv_imul hx hb dX1_init_29 ?_
  refine k_putF (v := .int (x * (sp_sd z))) (fs := [.int z, .int 0, .int 0, .int 0, .int 0, .int 0, .int 0]) hF hK hM hN hS K i k_up_s rfl inlX1 tyX1 tyX1_ok nmX1 1 (by decide) rfl wd_f_X1_21 rfl hin rfl rfl rfl (by show 1 < 7; decide) dX1_init_30 (fun H locs hM hN hS => ?_)
  rw [k_up_t] at hM hN
  replace hM : k_H G ad (k_up ct K i (.inr (2, [.int z, .int (x * (sp_sd z)), .int 0, .int 0, .int 0, .int 0, .int 0]))) H := hM
  replace hN : k_N Z ad (k_up ct K i (.inr (2, [.int z, .int (x * (sp_sd z)), .int 0, .int 0, .int 0, .int 0, .int 0]))) := hN
  refine lv_aload_n hx hb dX1_init_33 rfl (lv_at hl 1 rfl) ?_
  refine lv_aload_n hx hb dX1_init_34 rfl (lv_at hl 1 rfl) ?_
  refine g_get (C := RX1) (T := TX1) (N := 7) (v := .int (x * (sp_sd z))) hF hK (hM K i _ k_up_s) rfl inlX1 1 (by decide) rfl wd_f_X1_21 rfl dX1_init_35 ?_
  refine lv_iload hx hb dX1_init_38 (lv_at hl 0 rfl) ?_
  refine lv_iadd hx hb dX1_init_40 ?_
  refine k_putF (v := .int ((x * (sp_sd z)) + (sp_sd z))) (fs := [.int z, .int (x * (sp_sd z)), .int 0, .int 0, .int 0, .int 0, .int 0]) hF hK hM hN hS K i k_up_s rfl inlX1 tyX1 tyX1_ok nmX1 2 (by decide) rfl wd_f_X1_24 rfl hin rfl rfl rfl (by show 2 < 7; decide) dX1_init_41 (fun H locs hM hN hS => ?_)
  rw [k_up_t] at hM hN
  replace hM : k_H G ad (k_up ct K i (.inr (2, [.int z, .int (x * (sp_sd z)), .int ((x * (sp_sd z)) + (sp_sd z)), .int 0, .int 0, .int 0, .int 0]))) H := hM
  replace hN : k_N Z ad (k_up ct K i (.inr (2, [.int z, .int (x * (sp_sd z)), .int ((x * (sp_sd z)) + (sp_sd z)), .int 0, .int 0, .int 0, .int 0]))) := hN
  refine lv_aload_n hx hb dX1_init_44 rfl (lv_at hl 1 rfl) ?_
  refine lv_iload_n hx hb dX1_init_45 rfl (lv_at hl 4 rfl) ?_
  refine lv_iload hx hb dX1_init_46 (lv_at hl 0 rfl) ?_
  refine lv_imul hx hb dX1_init_48 ?_
  refine k_putF (v := .int (y * (sp_sd z))) (fs := [.int z, .int (x * (sp_sd z)), .int ((x * (sp_sd z)) + (sp_sd z)), .int 0, .int 0, .int 0, .int 0]) hF hK hM hN hS K i k_up_s rfl inlX1 tyX1 tyX1_ok nmX1 3 (by decide) rfl wd_f_X1_27 rfl hin rfl rfl rfl (by show 3 < 7; decide) dX1_init_49 (fun H locs hM hN hS => ?_)
  rw [k_up_t] at hM hN
  replace hM : k_H G ad (k_up ct K i (.inr (2, [.int z, .int (x * (sp_sd z)), .int ((x * (sp_sd z)) + (sp_sd z)), .int (y * (sp_sd z)), .int 0, .int 0, .int 0]))) H := hM
  replace hN : k_N Z ad (k_up ct K i (.inr (2, [.int z, .int (x * (sp_sd z)), .int ((x * (sp_sd z)) + (sp_sd z)), .int (y * (sp_sd z)), .int 0, .int 0, .int 0]))) := hN
  refine lv_aload_n hx hb dX1_init_52 rfl (lv_at hl 1 rfl) ?_
  refine lv_aload_n hx hb dX1_init_53 rfl (lv_at hl 1 rfl) ?_
  refine g_get (C := RX1) (T := TX1) (N := 7) (v := .int (y * (sp_sd z))) hF hK (hM K i _ k_up_s) rfl inlX1 3 (by decide) rfl wd_f_X1_27 rfl dX1_init_54 ?_
  refine lv_iload hx hb dX1_init_57 (lv_at hl 0 rfl) ?_
  refine lv_iadd hx hb dX1_init_59 ?_
  refine k_putF (v := .int ((y * (sp_sd z)) + (sp_sd z))) (fs := [.int z, .int (x * (sp_sd z)), .int ((x * (sp_sd z)) + (sp_sd z)), .int (y * (sp_sd z)), .int 0, .int 0, .int 0]) hF hK hM hN hS K i k_up_s rfl inlX1 tyX1 tyX1_ok nmX1 4 (by decide) rfl wd_f_X1_30 rfl hin rfl rfl rfl (by show 4 < 7; decide) dX1_init_60 (fun H locs hM hN hS => ?_)
  rw [k_up_t] at hM hN
  replace hM : k_H G ad (k_up ct K i (.inr (2, [.int z, .int (x * (sp_sd z)), .int ((x * (sp_sd z)) + (sp_sd z)), .int (y * (sp_sd z)), .int ((y * (sp_sd z)) + (sp_sd z)), .int 0, .int 0]))) H := hM
  replace hN : k_N Z ad (k_up ct K i (.inr (2, [.int z, .int (x * (sp_sd z)), .int ((x * (sp_sd z)) + (sp_sd z)), .int (y * (sp_sd z)), .int ((y * (sp_sd z)) + (sp_sd z)), .int 0, .int 0]))) := hN
  exact kx_vret hx hb hr hlk hM hN hK hS (by decide) (by decide) (rfl) dX1_init_63
theorem ke_X2_init : wl_I yX2_init cX2_init 4 3 := ⟨wd_c_X2_init, wd_i_X2_init, wd_n_X2, by decide, by decide +kernel, rfl⟩
set_option maxHeartbeats 4000000 in
set_option maxRecDepth 100000 in
theorem m_X2_init (l : Launch) (hflag : l.stackTraces = false) (G : k_G) (Z : Nat → Prop) (ad : k_Ad) (ct : k_Ct) (i j ca : Nat) (v n0 : Int32) (x0 x1 x3 : Value) (he : ct 3 i = some (.inr (3, [.null, .int 0, .int 0, .null]))) (hj : ct 3 j = some (.inr (3, [x0, x1, .int n0, x3]))) (hji : ¬ j = i) : kx_v l yX2_init cX2_init 4 none 1 24 0 0 G Z ad ct [.ref (ad 3 i), .ref ca, .int v, .ref (ad 3 j)] (fun u => u = (ad, (k_up ct 3 i (.inr (3, [.ref ca, .int v, .int (n0 + 1), .ref (ad 3 j)]))))) (fun _ => False) := by
  refine kx_ofI (by decide) (Nat.le_of_ble_eq_true rfl) ?_
  intro p e s m args below meth c hx hb hr hF hlk hnt hin hB ls hl
  obtain ⟨⟨hM, hN⟩, hK, hP, hT⟩ := hB
  have hS : va_S Z s.heap s.heap [] := va_S.rf
  have hl : lv_has ls 4 [(0, .ref (ad 3 i)), (1, .ref ca), (2, .int v), (3, .ref (ad 3 j))] := hl
  refine lv_aload_n hx hb dX2_init_0 rfl (lv_at hl 0 rfl) ?_
  refine g_oini hF wd_l_X2_1 hl.1 dX2_init_1 (by decide) (Nat.le_of_ble_eq_true rfl) ?_
  refine lv_aload_n hx hb dX2_init_4 rfl (lv_at hl 0 rfl) ?_
  refine lv_aload_n hx hb dX2_init_5 rfl (lv_at hl 1 rfl) ?_
  refine k_putF (v := .ref ca) (fs := [.null, .int 0, .int 0, .null]) hF hK hM hN hS 3 i he rfl inlX2 tyX2 tyX2_ok nmX2 0 (by decide) rfl wd_f_X2_7 rfl hin rfl rfl rfl (by show 0 < 4; decide) dX2_init_6 (fun H locs hM hN hS => ?_)
  replace hM : k_H G ad (k_up ct 3 i (.inr (3, [.ref ca, .int 0, .int 0, .null]))) H := hM
  replace hN : k_N Z ad (k_up ct 3 i (.inr (3, [.ref ca, .int 0, .int 0, .null]))) := hN
  refine lv_aload_n hx hb dX2_init_9 rfl (lv_at hl 0 rfl) ?_
  refine lv_iload_n hx hb dX2_init_10 rfl (lv_at hl 2 rfl) ?_
  refine k_putF (v := .int v) (fs := [.ref ca, .int 0, .int 0, .null]) hF hK hM hN hS 3 i k_up_s rfl inlX2 tyX2 tyX2_ok nmX2 1 (by decide) rfl wd_f_X2_13 rfl hin rfl rfl rfl (by show 1 < 4; decide) dX2_init_11 (fun H locs hM hN hS => ?_)
  rw [k_up_t] at hM hN
  replace hM : k_H G ad (k_up ct 3 i (.inr (3, [.ref ca, .int v, .int 0, .null]))) H := hM
  replace hN : k_N Z ad (k_up ct 3 i (.inr (3, [.ref ca, .int v, .int 0, .null]))) := hN
  refine lv_aload_n hx hb dX2_init_14 rfl (lv_at hl 0 rfl) ?_
  refine lv_aload_n hx hb dX2_init_15 rfl (lv_at hl 3 rfl) ?_
  refine lv_ifnonnull (tgt := 23) hx hb dX2_init_16 (by decide) ?_
  refine lv_aload_n hx hb dX2_init_23 rfl (lv_at hl 3 rfl) ?_
  refine g_get (C := RX2) (T := TX2) (N := 4) (v := .int n0) hF hK (hM 3 j _ ((k_up_o (fun z => hji z.2)).trans hj)) rfl inlX2 2 (by decide) rfl wd_f_X2_17 rfl dX2_init_24 ?_
  refine lv_iconst (v := 1) hx hb dX2_init_27 (by decide) ?_
  refine lv_iadd hx hb dX2_init_28 ?_
  refine k_putF (v := .int (n0 + 1)) (fs := [.ref ca, .int v, .int 0, .null]) hF hK hM hN hS 3 i k_up_s rfl inlX2 tyX2 tyX2_ok nmX2 2 (by decide) rfl wd_f_X2_17 rfl hin rfl rfl rfl (by show 2 < 4; decide) dX2_init_29 (fun H locs hM hN hS => ?_)
  rw [k_up_t] at hM hN
  replace hM : k_H G ad (k_up ct 3 i (.inr (3, [.ref ca, .int v, .int (n0 + 1), .null]))) H := hM
  replace hN : k_N Z ad (k_up ct 3 i (.inr (3, [.ref ca, .int v, .int (n0 + 1), .null]))) := hN
  refine lv_aload_n hx hb dX2_init_32 rfl (lv_at hl 0 rfl) ?_
  refine lv_aload_n hx hb dX2_init_33 rfl (lv_at hl 3 rfl) ?_
  refine k_putF (v := .ref (ad 3 j)) (fs := [.ref ca, .int v, .int (n0 + 1), .null]) hF hK hM hN hS 3 i k_up_s rfl inlX2 tyX2 tyX2_ok nmX2 3 (by decide) rfl wd_f_X2_20 rfl hin rfl rfl rfl (by show 3 < 4; decide) dX2_init_34 (fun H locs hM hN hS => ?_)
  rw [k_up_t] at hM hN
  replace hM : k_H G ad (k_up ct 3 i (.inr (3, [.ref ca, .int v, .int (n0 + 1), .ref (ad 3 j)]))) H := hM
  replace hN : k_N Z ad (k_up ct 3 i (.inr (3, [.ref ca, .int v, .int (n0 + 1), .ref (ad 3 j)]))) := hN
  exact kx_vret hx hb hr hlk hM hN hK hS (by decide) (by decide) (rfl) dX2_init_37
set_option maxHeartbeats 4000000 in
set_option maxRecDepth 100000 in
theorem m_X2_init0 (l : Launch) (hflag : l.stackTraces = false) (G : k_G) (Z : Nat → Prop) (ad : k_Ad) (ct : k_Ct) (i ca : Nat) (v : Int32) (he : ct 3 i = some (.inr (3, [.null, .int 0, .int 0, .null]))) : kx_v l yX2_init cX2_init 4 none 1 24 0 0 G Z ad ct [.ref (ad 3 i), .ref ca, .int v, .null] (fun u => u = (ad, (k_up ct 3 i (.inr (3, [.ref ca, .int v, .int 0, .null]))))) (fun _ => False) := by
  refine kx_ofI (by decide) (Nat.le_of_ble_eq_true rfl) ?_
  intro p e s m args below meth c hx hb hr hF hlk hnt hin hB ls hl
  obtain ⟨⟨hM, hN⟩, hK, hP, hT⟩ := hB
  have hS : va_S Z s.heap s.heap [] := va_S.rf
  have hl : lv_has ls 4 [(0, .ref (ad 3 i)), (1, .ref ca), (2, .int v), (3, .null)] := hl
  refine lv_aload_n hx hb dX2_init_0 rfl (lv_at hl 0 rfl) ?_
  refine g_oini hF wd_l_X2_1 hl.1 dX2_init_1 (by decide) (Nat.le_of_ble_eq_true rfl) ?_
  refine lv_aload_n hx hb dX2_init_4 rfl (lv_at hl 0 rfl) ?_
  refine lv_aload_n hx hb dX2_init_5 rfl (lv_at hl 1 rfl) ?_
  refine k_putF (v := .ref ca) (fs := [.null, .int 0, .int 0, .null]) hF hK hM hN hS 3 i he rfl inlX2 tyX2 tyX2_ok nmX2 0 (by decide) rfl wd_f_X2_7 rfl hin rfl rfl rfl (by show 0 < 4; decide) dX2_init_6 (fun H locs hM hN hS => ?_)
  replace hM : k_H G ad (k_up ct 3 i (.inr (3, [.ref ca, .int 0, .int 0, .null]))) H := hM
  replace hN : k_N Z ad (k_up ct 3 i (.inr (3, [.ref ca, .int 0, .int 0, .null]))) := hN
  refine lv_aload_n hx hb dX2_init_9 rfl (lv_at hl 0 rfl) ?_
  refine lv_iload_n hx hb dX2_init_10 rfl (lv_at hl 2 rfl) ?_
  refine k_putF (v := .int v) (fs := [.ref ca, .int 0, .int 0, .null]) hF hK hM hN hS 3 i k_up_s rfl inlX2 tyX2 tyX2_ok nmX2 1 (by decide) rfl wd_f_X2_13 rfl hin rfl rfl rfl (by show 1 < 4; decide) dX2_init_11 (fun H locs hM hN hS => ?_)
  rw [k_up_t] at hM hN
  replace hM : k_H G ad (k_up ct 3 i (.inr (3, [.ref ca, .int v, .int 0, .null]))) H := hM
  replace hN : k_N Z ad (k_up ct 3 i (.inr (3, [.ref ca, .int v, .int 0, .null]))) := hN
  refine lv_aload_n hx hb dX2_init_14 rfl (lv_at hl 0 rfl) ?_
  refine lv_aload_nN hx hb dX2_init_15 rfl (lv_at hl 3 rfl) ?_
  refine lv_ifnonnullN hx hb dX2_init_16 ?_
  refine lv_iconst (v := 0) hx hb dX2_init_19 (by decide) ?_
  refine lv_goto (tgt := 29) hx hb dX2_init_20 (by decide) ?_
  refine k_putF (v := .int 0) (fs := [.ref ca, .int v, .int 0, .null]) hF hK hM hN hS 3 i k_up_s rfl inlX2 tyX2 tyX2_ok nmX2 2 (by decide) rfl wd_f_X2_17 rfl hin rfl rfl rfl (by show 2 < 4; decide) dX2_init_29 (fun H locs hM hN hS => ?_)
  rw [k_up_t] at hM hN
  replace hM : k_H G ad (k_up ct 3 i (.inr (3, [.ref ca, .int v, .int 0, .null]))) H := hM
  replace hN : k_N Z ad (k_up ct 3 i (.inr (3, [.ref ca, .int v, .int 0, .null]))) := hN
  refine lv_aload_n hx hb dX2_init_32 rfl (lv_at hl 0 rfl) ?_
  refine lv_aload_nN hx hb dX2_init_33 rfl (lv_at hl 3 rfl) ?_
  refine k_putF (v := .null) (fs := [.ref ca, .int v, .int 0, .null]) hF hK hM hN hS 3 i k_up_s rfl inlX2 tyX2 tyX2_ok nmX2 3 (by decide) rfl wd_f_X2_20 rfl hin rfl rfl rfl (by show 3 < 4; decide) dX2_init_34 (fun H locs hM hN hS => ?_)
  rw [k_up_t] at hM hN
  replace hM : k_H G ad (k_up ct 3 i (.inr (3, [.ref ca, .int v, .int 0, .null]))) H := hM
  replace hN : k_N Z ad (k_up ct 3 i (.inr (3, [.ref ca, .int v, .int 0, .null]))) := hN
  exact kx_vret hx hb hr hlk hM hN hK hS (by decide) (by decide) (rfl) dX2_init_37
theorem ke_X3_init : wl_I yX3_init cX3_init 6 5 := ⟨wd_c_X3_init, wd_i_X3_init, wd_n_X3, by decide, by decide +kernel, rfl⟩
set_option maxHeartbeats 4000000 in
set_option maxRecDepth 100000 in
theorem m_X3_init (l : Launch) (hflag : l.stackTraces = false) (G : k_G) (Z : Nat → Prop) (ad : k_Ad) (ct : k_Ct) (i va : Nat) (bx by1 ex ey : Int32) (he : ct 1 i = some (.inr (4, [.int 0, .int 0, .int 0, .int 0, .int 0, .null, .null, .null]))) (hfree : ct 2 i = none)  : kx_v l yX3_init cX3_init 6 none 1 24 1 9 G Z ad ct [.ref (ad 1 i), .int bx, .int by1, .int ex, .int ey, .ref va] (fun u => ∃ q, u = (k_ad ad 2 i q, k_up (k_up ct 2 i (.inl (G.2.1, 9, .inl (fun j => if j < 9 then -1 else 0)))) 1 i (.inr (4, [.int bx, .int by1, .int ex, .int ey, .int 0, .ref va, .null, .ref q])))) (fun _ => False) := by
  refine kx_ofI (by decide) (Nat.le_of_ble_eq_true rfl) ?_
  intro p e s m args below meth c hx hb hr hF hlk hnt hin hB ls hl
  obtain ⟨⟨hM, hN⟩, hK, hP, hT⟩ := hB
  have hS : va_S Z s.heap s.heap [] := va_S.rf
  have hl : lv_has ls 6 [(0, .ref (ad 1 i)), (1, .int bx), (2, .int by1), (3, .int ex), (4, .int ey), (5, .ref va)] := hl
  refine lv_aload_n hx hb dX3_init_0 rfl (lv_at hl 0 rfl) ?_
  refine g_oini hF wd_l_X3_3 hl.1 dX3_init_1 (by decide) (Nat.le_of_ble_eq_true rfl) ?_
  refine lv_aload_n hx hb dX3_init_4 rfl (lv_at hl 0 rfl) ?_
  refine lv_iconst (v := 0) hx hb dX3_init_5 (by decide) ?_
  refine k_put (v := .int 0) (fs := [.int 0, .int 0, .int 0, .int 0, .int 0, .null, .null, .null]) hF hK hM hN hS 1 i he rfl inlX3 tyX3 tyX3_ok nmX3 4 (by decide) rfl wd_f_X3_9 rfl rfl rfl (by show 4 < 8; decide) dX3_init_6 (fun H locs hM hN hS => ?_)
  replace hM : k_H G ad (k_up ct 1 i (.inr (4, [.int 0, .int 0, .int 0, .int 0, .int 0, .null, .null, .null]))) H := hM
  replace hN : k_N Z ad (k_up ct 1 i (.inr (4, [.int 0, .int 0, .int 0, .int 0, .int 0, .null, .null, .null]))) := hN
  refine lv_aload_n hx hb dX3_init_9 rfl (lv_at hl 0 rfl) ?_
  refine lv_null hx hb dX3_init_10 ?_
  refine k_put (v := .null) (fs := [.int 0, .int 0, .int 0, .int 0, .int 0, .null, .null, .null]) hF hK hM hN hS 1 i k_up_s rfl inlX3 tyX3 tyX3_ok nmX3 6 (by decide) rfl wd_f_X3_15 rfl rfl rfl (by show 6 < 8; decide) dX3_init_11 (fun H locs hM hN hS => ?_)
  rw [k_up_t] at hM hN
  replace hM : k_H G ad (k_up ct 1 i (.inr (4, [.int 0, .int 0, .int 0, .int 0, .int 0, .null, .null, .null]))) H := hM
  replace hN : k_N Z ad (k_up ct 1 i (.inr (4, [.int 0, .int 0, .int 0, .int 0, .int 0, .null, .null, .null]))) := hN
  refine lv_aload_n hx hb dX3_init_14 rfl (lv_at hl 0 rfl) ?_
  refine lv_bipush (v := 9) hx hb dX3_init_15 (by decide) ?_
  refine k_newa hF hK hM hN hS hT.2.2.2.2 2 i ((k_up_o (fun z => absurd z.1 (by decide))).trans hfree) 9 (by decide) (by decide) (by decide) (by decide) (by decide) dX3_init_17 (fun q H hM hN hS => ?_)
  rw [k_up_c (fun z => absurd z.1 (by decide))] at hM hN
  replace hM : k_H G (k_ad ad 2 i q) (k_up (k_up ct 2 i (.inl (G.2.1, 9, .inl (fun _ => 0)))) 1 i (.inr (4, [.int 0, .int 0, .int 0, .int 0, .int 0, .null, .null, .null]))) H := hM
  replace hN : k_N Z (k_ad ad 2 i q) (k_up (k_up ct 2 i (.inl (G.2.1, 9, .inl (fun _ => 0)))) 1 i (.inr (4, [.int 0, .int 0, .int 0, .int 0, .int 0, .null, .null, .null]))) := hN
  refine k_putF (v := .ref q) (fs := [.int 0, .int 0, .int 0, .int 0, .int 0, .null, .null, .null]) hF hK hM hN hS 1 i k_up_s rfl inlX3 tyX3 tyX3_ok nmX3 7 (by decide) rfl wd_f_X3_19 rfl hin rfl rfl rfl (by show 7 < 8; decide) dX3_init_19 (fun H locs hM hN hS => ?_)
  rw [k_up_t] at hM hN
  replace hM : k_H G (k_ad ad 2 i q) (k_up (k_up ct 2 i (.inl (G.2.1, 9, .inl (fun _ => 0)))) 1 i (.inr (4, [.int 0, .int 0, .int 0, .int 0, .int 0, .null, .null, .ref q]))) H := hM
  replace hN : k_N Z (k_ad ad 2 i q) (k_up (k_up ct 2 i (.inl (G.2.1, 9, .inl (fun _ => 0)))) 1 i (.inr (4, [.int 0, .int 0, .int 0, .int 0, .int 0, .null, .null, .ref q]))) := hN
  refine lv_aload_n hx hb dX3_init_22 rfl (lv_at hl 0 rfl) ?_
  refine lv_iload_n hx hb dX3_init_23 rfl (lv_at hl 1 rfl) ?_
  refine k_putF (v := .int bx) (fs := [.int 0, .int 0, .int 0, .int 0, .int 0, .null, .null, .ref q]) hF hK hM hN hS 1 i k_up_s rfl inlX3 tyX3 tyX3_ok nmX3 0 (by decide) rfl wd_f_X3_23 rfl hin rfl rfl rfl (by show 0 < 8; decide) dX3_init_24 (fun H locs hM hN hS => ?_)
  rw [k_up_t] at hM hN
  replace hM : k_H G (k_ad ad 2 i q) (k_up (k_up ct 2 i (.inl (G.2.1, 9, .inl (fun _ => 0)))) 1 i (.inr (4, [.int bx, .int 0, .int 0, .int 0, .int 0, .null, .null, .ref q]))) H := hM
  replace hN : k_N Z (k_ad ad 2 i q) (k_up (k_up ct 2 i (.inl (G.2.1, 9, .inl (fun _ => 0)))) 1 i (.inr (4, [.int bx, .int 0, .int 0, .int 0, .int 0, .null, .null, .ref q]))) := hN
  refine lv_aload_n hx hb dX3_init_27 rfl (lv_at hl 0 rfl) ?_
  refine lv_iload_n hx hb dX3_init_28 rfl (lv_at hl 2 rfl) ?_
  refine k_putF (v := .int by1) (fs := [.int bx, .int 0, .int 0, .int 0, .int 0, .null, .null, .ref q]) hF hK hM hN hS 1 i k_up_s rfl inlX3 tyX3 tyX3_ok nmX3 1 (by decide) rfl wd_f_X3_26 rfl hin rfl rfl rfl (by show 1 < 8; decide) dX3_init_29 (fun H locs hM hN hS => ?_)
  rw [k_up_t] at hM hN
  replace hM : k_H G (k_ad ad 2 i q) (k_up (k_up ct 2 i (.inl (G.2.1, 9, .inl (fun _ => 0)))) 1 i (.inr (4, [.int bx, .int by1, .int 0, .int 0, .int 0, .null, .null, .ref q]))) H := hM
  replace hN : k_N Z (k_ad ad 2 i q) (k_up (k_up ct 2 i (.inl (G.2.1, 9, .inl (fun _ => 0)))) 1 i (.inr (4, [.int bx, .int by1, .int 0, .int 0, .int 0, .null, .null, .ref q]))) := hN
  refine lv_aload_n hx hb dX3_init_32 rfl (lv_at hl 0 rfl) ?_
  refine lv_iload_n hx hb dX3_init_33 rfl (lv_at hl 3 rfl) ?_
  refine k_putF (v := .int ex) (fs := [.int bx, .int by1, .int 0, .int 0, .int 0, .null, .null, .ref q]) hF hK hM hN hS 1 i k_up_s rfl inlX3 tyX3 tyX3_ok nmX3 2 (by decide) rfl wd_f_X3_29 rfl hin rfl rfl rfl (by show 2 < 8; decide) dX3_init_34 (fun H locs hM hN hS => ?_)
  rw [k_up_t] at hM hN
  replace hM : k_H G (k_ad ad 2 i q) (k_up (k_up ct 2 i (.inl (G.2.1, 9, .inl (fun _ => 0)))) 1 i (.inr (4, [.int bx, .int by1, .int ex, .int 0, .int 0, .null, .null, .ref q]))) H := hM
  replace hN : k_N Z (k_ad ad 2 i q) (k_up (k_up ct 2 i (.inl (G.2.1, 9, .inl (fun _ => 0)))) 1 i (.inr (4, [.int bx, .int by1, .int ex, .int 0, .int 0, .null, .null, .ref q]))) := hN
  refine lv_aload_n hx hb dX3_init_37 rfl (lv_at hl 0 rfl) ?_
  refine lv_iload hx hb dX3_init_38 (lv_at hl 4 rfl) ?_
  refine k_putF (v := .int ey) (fs := [.int bx, .int by1, .int ex, .int 0, .int 0, .null, .null, .ref q]) hF hK hM hN hS 1 i k_up_s rfl inlX3 tyX3 tyX3_ok nmX3 3 (by decide) rfl wd_f_X3_32 rfl hin rfl rfl rfl (by show 3 < 8; decide) dX3_init_40 (fun H locs hM hN hS => ?_)
  rw [k_up_t] at hM hN
  replace hM : k_H G (k_ad ad 2 i q) (k_up (k_up ct 2 i (.inl (G.2.1, 9, .inl (fun _ => 0)))) 1 i (.inr (4, [.int bx, .int by1, .int ex, .int ey, .int 0, .null, .null, .ref q]))) H := hM
  replace hN : k_N Z (k_ad ad 2 i q) (k_up (k_up ct 2 i (.inl (G.2.1, 9, .inl (fun _ => 0)))) 1 i (.inr (4, [.int bx, .int by1, .int ex, .int ey, .int 0, .null, .null, .ref q]))) := hN
  refine lv_aload_n hx hb dX3_init_43 rfl (lv_at hl 0 rfl) ?_
  refine lv_aload hx hb dX3_init_44 (lv_at hl 5 rfl) ?_
  refine k_put (v := .ref va) (fs := [.int bx, .int by1, .int ex, .int ey, .int 0, .null, .null, .ref q]) hF hK hM hN hS 1 i k_up_s rfl inlX3 tyX3 tyX3_ok nmX3 5 (by decide) rfl wd_f_X3_35 rfl rfl rfl (by show 5 < 8; decide) dX3_init_46 (fun H locs hM hN hS => ?_)
  rw [k_up_t] at hM hN
  replace hM : k_H G (k_ad ad 2 i q) (k_up (k_up ct 2 i (.inl (G.2.1, 9, .inl (fun _ => 0)))) 1 i (.inr (4, [.int bx, .int by1, .int ex, .int ey, .int 0, .ref va, .null, .ref q]))) H := hM
  replace hN : k_N Z (k_ad ad 2 i q) (k_up (k_up ct 2 i (.inl (G.2.1, 9, .inl (fun _ => 0)))) 1 i (.inr (4, [.int bx, .int by1, .int ex, .int ey, .int 0, .ref va, .null, .ref q]))) := hN
  refine lv_aload_n hx hb dX3_init_49 rfl (lv_at hl 0 rfl) ?_
  refine g_get (C := RX3) (T := TX3) (N := 8) (v := .ref q) hF hK (hM 1 i _ k_up_s) rfl inlX3 7 (by decide) rfl wd_f_X3_19 rfl dX3_init_50 ?_
  refine lv_iconst (v := (-1)) hx hb dX3_init_53 (by decide) ?_
  refine kx_vS (pX1 := fun _ => False) (post := fun u => u = (k_ad ad 2 i q, k_up (k_up (k_up ct 2 i (.inl (G.2.1, 9, .inl (fun _ => 0)))) 1 i (.inr (4, [.int bx, .int by1, .int ex, .int ey, .int 0, .ref va, .null, .ref q]))) 2 i (.inl (G.2.1, 9, .inl (fun j => if j < 9 then -1 else 0))))) (fr := 0) (lo := 0) (mc1 := 0) (ms1 := 0) (As := [.ref q, .int (-1)]) (rest := []) hF (by have h9 := m_J7_fill_53178 l hflag G Z (k_ad ad 2 i q) (k_up (k_up ct 2 i (.inl (G.2.1, 9, .inl (fun _ => 0)))) 1 i (.inr (4, [.int bx, .int by1, .int ex, .int ey, .int 0, .ref va, .null, .ref q]))) 2 i 9 (fun _ => 0) (-1) ((k_up_o (fun z => absurd z.1 (by decide))).trans k_up_s) (by decide); rw [k_ad_s] at h9; exact h9) ke_J7_fill_53178 wd_l_X3_39 (by decide) hM hN hK hP hT hS rfl hl.1 rfl (Nat.le_of_ble_eq_true rfl) dX3_init_54 (by decide) hnt hlk (fun E hE => False.elim hE) (by decide) (by decide) (fun u1 H locs hu1 hM hN hS _ _ => ?_)
  subst hu1
  have eC : k_up (k_up (k_up ct 2 i (.inl (G.2.1, 9, .inl (fun _ => 0)))) 1 i (.inr (4, [.int bx, .int by1, .int ex, .int ey, .int 0, .ref va, .null, .ref q]))) 2 i (.inl (G.2.1, 9, .inl (fun j => if j < 9 then -1 else 0))) = (k_up (k_up ct 2 i (.inl (G.2.1, 9, .inl (fun j => if j < 9 then -1 else 0)))) 1 i (.inr (4, [.int bx, .int by1, .int ex, .int ey, .int 0, .ref va, .null, .ref q]))) := by rw [k_up_c (fun z => absurd z.1 (by decide)), k_up_t]
  replace hM : k_H G (k_ad ad 2 i q) (k_up (k_up (k_up ct 2 i (.inl (G.2.1, 9, .inl (fun _ => 0)))) 1 i (.inr (4, [.int bx, .int by1, .int ex, .int ey, .int 0, .ref va, .null, .ref q]))) 2 i (.inl (G.2.1, 9, .inl (fun j => if j < 9 then -1 else 0)))) H := hM
  replace hN : k_N Z (k_ad ad 2 i q) (k_up (k_up (k_up ct 2 i (.inl (G.2.1, 9, .inl (fun _ => 0)))) 1 i (.inr (4, [.int bx, .int by1, .int ex, .int ey, .int 0, .ref va, .null, .ref q]))) 2 i (.inl (G.2.1, 9, .inl (fun j => if j < 9 then -1 else 0)))) := hN
  rw [eC] at hM hN
  exact kx_vret hx hb hr hlk hM hN hK hS (by decide) (by decide) (⟨q, rfl⟩) dX3_init_57
end
section
theorem dX4_addVersion_0 : decode cX4_addVersion 0 = .ok (.aload_n 1, 1) := by decide +kernel
theorem dX4_addVersion_1 : decode cX4_addVersion 1 = .ok (.aload_n 0, 1) := by decide +kernel
theorem dX4_addVersion_2 : decode cX4_addVersion 2 = .ok (.aload_n 2, 1) := by decide +kernel
theorem dX4_addVersion_3 : decode cX4_addVersion 3 = .ok (.aload_n 1, 1) := by decide +kernel
theorem dX4_addVersion_4 : decode cX4_addVersion 4 = .ok (.getfield 133, 3) := by decide +kernel
theorem dX4_addVersion_7 : decode cX4_addVersion 7 = .ok (.invokevirtual 85, 3) := by decide +kernel
theorem dX4_addVersion_10 : decode cX4_addVersion 10 = .ok (.putfield 133, 3) := by decide +kernel
theorem dX4_addVersion_13 : decode cX4_addVersion 13 = .ok (.aload_n 1, 1) := by decide +kernel
theorem dX4_addVersion_14 : decode cX4_addVersion 14 = .ok (.aconst_null, 1) := by decide +kernel
theorem dX4_addVersion_15 : decode cX4_addVersion 15 = .ok (.putfield 116, 3) := by decide +kernel
theorem dX4_addVersion_18 : decode cX4_addVersion 18 = .ok (.return_, 1) := by decide +kernel
theorem dX4_newVersion_0 : decode cX4_newVersion 0 = .ok (.aload_n 0, 1) := by decide +kernel
theorem dX4_newVersion_1 : decode cX4_newVersion 1 = .ok (.dup, 1) := by decide +kernel
theorem dX4_newVersion_2 : decode cX4_newVersion 2 = .ok (.getfield 32, 3) := by decide +kernel
theorem dX4_newVersion_5 : decode cX4_newVersion 5 = .ok (.iconst 1, 1) := by decide +kernel
theorem dX4_newVersion_6 : decode cX4_newVersion 6 = .ok (.iadd, 1) := by decide +kernel
theorem dX4_newVersion_7 : decode cX4_newVersion 7 = .ok (.putfield 32, 3) := by decide +kernel
theorem dX4_newVersion_10 : decode cX4_newVersion 10 = .ok (.new 138, 3) := by decide +kernel
theorem dX4_newVersion_13 : decode cX4_newVersion 13 = .ok (.dup, 1) := by decide +kernel
theorem dX4_newVersion_14 : decode cX4_newVersion 14 = .ok (.aload_n 1, 1) := by decide +kernel
theorem dX4_newVersion_15 : decode cX4_newVersion 15 = .ok (.aload_n 0, 1) := by decide +kernel
theorem dX4_newVersion_16 : decode cX4_newVersion 16 = .ok (.getfield 32, 3) := by decide +kernel
theorem dX4_newVersion_19 : decode cX4_newVersion 19 = .ok (.aload_n 2, 1) := by decide +kernel
theorem dX4_newVersion_20 : decode cX4_newVersion 20 = .ok (.invokespecial 281, 3) := by decide +kernel
theorem dX4_newVersion_23 : decode cX4_newVersion 23 = .ok (.areturn, 1) := by decide +kernel
theorem ke_X4_newVersion : wl_V RX4 yX4_newVersion cX4_newVersion 3 (some (.object "SignTiles$Version")) 2 := ⟨wd_c_X4_newVersion, wd_i_X4_newVersion, wd_s_X4_newVersion, wd_n_X4, by decide, by decide +kernel⟩
set_option maxHeartbeats 4000000 in
set_option maxRecDepth 100000 in
theorem m_X4_newVersion (l : Launch) (hflag : l.stackTraces = false) (G : k_G) (Z : Nat → Prop) (ad : k_Ad) (ct : k_Ct) (i j ca : Nat) (m0 m1 m2 m3 m4 : Value) (ch : Int32) (n0 : Int32) (x0 x1 x3 : Value) (he : ct 0 0 = some (.inr (5, [m0, m1, m2, m3, m4, .int ch]))) (hfree : ct 3 i = none) (hj : ct 3 j = some (.inr (3, [x0, x1, .int n0, x3]))) (hji : ¬ j = i) : kx_q l yX4_newVersion cX4_newVersion 3 (some (.object "SignTiles$Version")) 2 47 1 4 G Z ad ct [.ref (ad 0 0), .ref ca, .ref (ad 3 j)] (fun o u => ∃ q, o = some q ∧ u = ((k_ad ad 3 i q), k_up (k_up ct 0 0 (.inr (5, [m0, m1, m2, m3, m4, .int (ch + 1)]))) 3 i (.inr (3, [.ref ca, .int (ch + 1), .int (n0 + 1), .ref (ad 3 j)])))) (fun _ => False) := by
  refine kx_of (by decide) (Nat.le_of_ble_eq_true rfl) ?_
  intro p e s m args below meth c hx hb hr hF hlk hnt hB ls hl
  obtain ⟨⟨hM, hN⟩, hK, hP, hT⟩ := hB
  have hS : va_S Z s.heap s.heap [] := va_S.rf
  have hl : lv_has ls 3 [(0, .ref (ad 0 0)), (1, .ref ca), (2, .ref (ad 3 j))] := hl
  refine lv_aload_n hx hb dX4_newVersion_0 rfl (lv_at hl 0 rfl) ?_
  refine lv_dup hx hb dX4_newVersion_1 rfl ?_
  refine g_get (C := RX4) (T := TX4) (N := 6) (v := .int ch) hF hK (hM 0 0 _ he) rfl inlX4 5 (by decide) rfl wd_f_X4_32 rfl dX4_newVersion_2 ?_
  refine lv_iconst (v := 1) hx hb dX4_newVersion_5 (by decide) ?_
  refine lv_iadd hx hb dX4_newVersion_6 ?_
  refine k_put (v := .int (ch + 1)) (fs := [m0, m1, m2, m3, m4, .int ch]) hF hK hM hN hS 0 0 he rfl inlX4 tyX4 tyX4_ok nmX4 5 (by decide) rfl wd_f_X4_32 rfl rfl rfl (by show 5 < 6; decide) dX4_newVersion_7 (fun H locs hM hN hS => ?_)
  replace hM : k_H G ad (k_up ct 0 0 (.inr (5, [m0, m1, m2, m3, m4, .int (ch + 1)]))) H := hM
  replace hN : k_N Z ad (k_up ct 0 0 (.inr (5, [m0, m1, m2, m3, m4, .int (ch + 1)]))) := hN
  refine k_new hF hK hM hN hS hT.2.2.2.2 3 i ((k_up_o (fun z => absurd z.1 (by decide))).trans hfree) (ci := 3) (fs := [.null, .int 0, .int 0, .null]) rfl inlX2 tyX2 tyX2_ok wd_k_X4_138 wd_a_X2 wd_n_X2 (by decide) (by decide) (by decide) dX4_newVersion_10 (fun q H hM hN hS => ?_)
  replace hM : k_H G (k_ad ad 3 i q) (k_up (k_up ct 0 0 (.inr (5, [m0, m1, m2, m3, m4, .int (ch + 1)]))) 3 i (.inr (3, [.null, .int 0, .int 0, .null]))) H := hM
  replace hN : k_N Z (k_ad ad 3 i q) (k_up (k_up ct 0 0 (.inr (5, [m0, m1, m2, m3, m4, .int (ch + 1)]))) 3 i (.inr (3, [.null, .int 0, .int 0, .null]))) := hN
  refine lv_dup hx hb dX4_newVersion_13 rfl ?_
  refine lv_aload_n hx hb dX4_newVersion_14 rfl (lv_at hl 1 rfl) ?_
  refine lv_aload_n hx hb dX4_newVersion_15 rfl (lv_at hl 0 rfl) ?_
  refine g_get (C := RX4) (T := TX4) (N := 6) (v := .int (ch + 1)) hF hK (hM 0 0 _ ((k_up_o (fun z => absurd z.1 (by decide))).trans k_up_s)) rfl inlX4 5 (by decide) rfl wd_f_X4_32 rfl dX4_newVersion_16 ?_
  refine lv_aload_n hx hb dX4_newVersion_19 rfl (lv_at hl 2 rfl) ?_
  refine kx_vI (pX1 := fun _ => False) (post := fun u => u = ((k_ad ad 3 i q), k_up (k_up (k_up ct 0 0 (.inr (5, [m0, m1, m2, m3, m4, .int (ch + 1)]))) 3 i (.inr (3, [.null, .int 0, .int 0, .null]))) 3 i (.inr (3, [.ref ca, .int (ch + 1), .int (n0 + 1), .ref (ad 3 j)])))) (fr := 1) (lo := 24) (mc1 := 0) (ms1 := 0) (b := q) (As := [.ref ca, .int (ch + 1), .ref (ad 3 j)]) (rest := [.ref q]) hF (by have h9 := m_X2_init l hflag G Z (k_ad ad 3 i q) (k_up (k_up ct 0 0 (.inr (5, [m0, m1, m2, m3, m4, .int (ch + 1)]))) 3 i (.inr (3, [.null, .int 0, .int 0, .null]))) i j ca (ch + 1) n0 x0 x1 x3 k_up_s ((k_up_o (fun z => hji z.2)).trans ((k_up_o (fun z => absurd z.1 (by decide))).trans hj)) hji; rw [k_ad_s, k_ad_o (fun z => hji z.2)] at h9; exact h9) ke_X2_init wd_l_X4_281 (by decide) hM hN hK hP hT hS rfl hl.1 rfl (Nat.le_of_ble_eq_true rfl) dX4_newVersion_20 (by decide) hnt hlk (fun E hE => False.elim hE) (by decide) (by decide) (fun u1 H locs hu1 hM hN hS _ _ => ?_)
  subst hu1
  replace hM : k_H G (k_ad ad 3 i q) (k_up (k_up (k_up ct 0 0 (.inr (5, [m0, m1, m2, m3, m4, .int (ch + 1)]))) 3 i (.inr (3, [.null, .int 0, .int 0, .null]))) 3 i (.inr (3, [.ref ca, .int (ch + 1), .int (n0 + 1), .ref (ad 3 j)]))) H := hM
  replace hN : k_N Z (k_ad ad 3 i q) (k_up (k_up (k_up ct 0 0 (.inr (5, [m0, m1, m2, m3, m4, .int (ch + 1)]))) 3 i (.inr (3, [.null, .int 0, .int 0, .null]))) 3 i (.inr (3, [.ref ca, .int (ch + 1), .int (n0 + 1), .ref (ad 3 j)]))) := hN
  rw [k_up_t] at hM hN
  exact kx_qret (o := (some q)) hx hb hr hlk hM hN hK hS (by decide) (by decide) (⟨q, rfl, rfl⟩) dX4_newVersion_23
set_option maxHeartbeats 4000000 in
set_option maxRecDepth 100000 in
theorem m_X4_newVersion0 (l : Launch) (hflag : l.stackTraces = false) (G : k_G) (Z : Nat → Prop) (ad : k_Ad) (ct : k_Ct) (i ca : Nat) (m0 m1 m2 m3 m4 : Value) (ch : Int32) (he : ct 0 0 = some (.inr (5, [m0, m1, m2, m3, m4, .int ch]))) (hfree : ct 3 i = none) : kx_q l yX4_newVersion cX4_newVersion 3 (some (.object "SignTiles$Version")) 2 47 1 4 G Z ad ct [.ref (ad 0 0), .ref ca, .null] (fun o u => ∃ q, o = some q ∧ u = ((k_ad ad 3 i q), k_up (k_up ct 0 0 (.inr (5, [m0, m1, m2, m3, m4, .int (ch + 1)]))) 3 i (.inr (3, [.ref ca, .int (ch + 1), .int 0, .null])))) (fun _ => False) := by
  refine kx_of (by decide) (Nat.le_of_ble_eq_true rfl) ?_
  intro p e s m args below meth c hx hb hr hF hlk hnt hB ls hl
  obtain ⟨⟨hM, hN⟩, hK, hP, hT⟩ := hB
  have hS : va_S Z s.heap s.heap [] := va_S.rf
  have hl : lv_has ls 3 [(0, .ref (ad 0 0)), (1, .ref ca), (2, .null)] := hl
  refine lv_aload_n hx hb dX4_newVersion_0 rfl (lv_at hl 0 rfl) ?_
  refine lv_dup hx hb dX4_newVersion_1 rfl ?_
  refine g_get (C := RX4) (T := TX4) (N := 6) (v := .int ch) hF hK (hM 0 0 _ he) rfl inlX4 5 (by decide) rfl wd_f_X4_32 rfl dX4_newVersion_2 ?_
  refine lv_iconst (v := 1) hx hb dX4_newVersion_5 (by decide) ?_
  refine lv_iadd hx hb dX4_newVersion_6 ?_
  refine k_put (v := .int (ch + 1)) (fs := [m0, m1, m2, m3, m4, .int ch]) hF hK hM hN hS 0 0 he rfl inlX4 tyX4 tyX4_ok nmX4 5 (by decide) rfl wd_f_X4_32 rfl rfl rfl (by show 5 < 6; decide) dX4_newVersion_7 (fun H locs hM hN hS => ?_)
  replace hM : k_H G ad (k_up ct 0 0 (.inr (5, [m0, m1, m2, m3, m4, .int (ch + 1)]))) H := hM
  replace hN : k_N Z ad (k_up ct 0 0 (.inr (5, [m0, m1, m2, m3, m4, .int (ch + 1)]))) := hN
  refine k_new hF hK hM hN hS hT.2.2.2.2 3 i ((k_up_o (fun z => absurd z.1 (by decide))).trans hfree) (ci := 3) (fs := [.null, .int 0, .int 0, .null]) rfl inlX2 tyX2 tyX2_ok wd_k_X4_138 wd_a_X2 wd_n_X2 (by decide) (by decide) (by decide) dX4_newVersion_10 (fun q H hM hN hS => ?_)
  replace hM : k_H G (k_ad ad 3 i q) (k_up (k_up ct 0 0 (.inr (5, [m0, m1, m2, m3, m4, .int (ch + 1)]))) 3 i (.inr (3, [.null, .int 0, .int 0, .null]))) H := hM
  replace hN : k_N Z (k_ad ad 3 i q) (k_up (k_up ct 0 0 (.inr (5, [m0, m1, m2, m3, m4, .int (ch + 1)]))) 3 i (.inr (3, [.null, .int 0, .int 0, .null]))) := hN
  refine lv_dup hx hb dX4_newVersion_13 rfl ?_
  refine lv_aload_n hx hb dX4_newVersion_14 rfl (lv_at hl 1 rfl) ?_
  refine lv_aload_n hx hb dX4_newVersion_15 rfl (lv_at hl 0 rfl) ?_
  refine g_get (C := RX4) (T := TX4) (N := 6) (v := .int (ch + 1)) hF hK (hM 0 0 _ ((k_up_o (fun z => absurd z.1 (by decide))).trans k_up_s)) rfl inlX4 5 (by decide) rfl wd_f_X4_32 rfl dX4_newVersion_16 ?_
  refine lv_aload_nN hx hb dX4_newVersion_19 rfl (lv_at hl 2 rfl) ?_
  refine kx_vI (pX1 := fun _ => False) (post := fun u => u = ((k_ad ad 3 i q), k_up (k_up (k_up ct 0 0 (.inr (5, [m0, m1, m2, m3, m4, .int (ch + 1)]))) 3 i (.inr (3, [.null, .int 0, .int 0, .null]))) 3 i (.inr (3, [.ref ca, .int (ch + 1), .int 0, .null])))) (fr := 1) (lo := 24) (mc1 := 0) (ms1 := 0) (b := q) (As := [.ref ca, .int (ch + 1), .null]) (rest := [.ref q]) hF (by have h9 := m_X2_init0 l hflag G Z (k_ad ad 3 i q) (k_up (k_up ct 0 0 (.inr (5, [m0, m1, m2, m3, m4, .int (ch + 1)]))) 3 i (.inr (3, [.null, .int 0, .int 0, .null]))) i ca (ch + 1) k_up_s; rw [k_ad_s] at h9; exact h9) ke_X2_init wd_l_X4_281 (by decide) hM hN hK hP hT hS rfl hl.1 rfl (Nat.le_of_ble_eq_true rfl) dX4_newVersion_20 (by decide) hnt hlk (fun E hE => False.elim hE) (by decide) (by decide) (fun u1 H locs hu1 hM hN hS _ _ => ?_)
  subst hu1
  replace hM : k_H G (k_ad ad 3 i q) (k_up (k_up (k_up ct 0 0 (.inr (5, [m0, m1, m2, m3, m4, .int (ch + 1)]))) 3 i (.inr (3, [.null, .int 0, .int 0, .null]))) 3 i (.inr (3, [.ref ca, .int (ch + 1), .int 0, .null]))) H := hM
  replace hN : k_N Z (k_ad ad 3 i q) (k_up (k_up (k_up ct 0 0 (.inr (5, [m0, m1, m2, m3, m4, .int (ch + 1)]))) 3 i (.inr (3, [.null, .int 0, .int 0, .null]))) 3 i (.inr (3, [.ref ca, .int (ch + 1), .int 0, .null]))) := hN
  rw [k_up_t] at hM hN
  exact kx_qret (o := (some q)) hx hb hr hlk hM hN hK hS (by decide) (by decide) (⟨q, rfl, rfl⟩) dX4_newVersion_23
theorem ke_X4_addVersion : wl_V RX4 yX4_addVersion cX4_addVersion 3 none 2 := ⟨wd_c_X4_addVersion, wd_i_X4_addVersion, wd_s_X4_addVersion, wd_n_X4, by decide, by decide +kernel⟩
set_option maxHeartbeats 4000000 in
set_option maxRecDepth 100000 in
theorem m_X4_addVersion (l : Launch) (hflag : l.stackTraces = false) (G : k_G) (Z : Nat → Prop) (ad : k_Ad) (ct : k_Ct) (w1 i j ca : Nat) (m0 m1 m2 m3 m4 : Value) (ch : Int32) (n0 : Int32) (x0 x1 x3 b0 b1 b2 b3 b4 b6 b7 : Value) (he : ct 0 0 = some (.inr (5, [m0, m1, m2, m3, m4, .int ch]))) (hfree : ct 3 i = none) (hj : ct 3 j = some (.inr (3, [x0, x1, .int n0, x3]))) (hji : ¬ j = i) (hw1 : ct 1 w1 = some (.inr (4, [b0, b1, b2, b3, b4, .ref (ad 3 j), b6, b7]))) : kx_v l yX4_addVersion cX4_addVersion 3 none 3 69 1 4 G Z ad ct [.ref (ad 0 0), .ref (ad 1 w1), .ref ca] (fun u => ∃ q, u = ((k_ad ad 3 i q), k_up (k_up (k_up ct 0 0 (.inr (5, [m0, m1, m2, m3, m4, .int (ch + 1)]))) 3 i (.inr (3, [.ref ca, .int (ch + 1), .int (n0 + 1), .ref (ad 3 j)]))) 1 w1 (.inr (4, [b0, b1, b2, b3, b4, .ref q, .null, b7])))) (fun _ => False) := by
  refine kx_of (by decide) (Nat.le_of_ble_eq_true rfl) ?_
  intro p e s m args below meth c hx hb hr hF hlk hnt hB ls hl
  obtain ⟨⟨hM, hN⟩, hK, hP, hT⟩ := hB
  have hS : va_S Z s.heap s.heap [] := va_S.rf
  have hl : lv_has ls 3 [(0, .ref (ad 0 0)), (1, .ref (ad 1 w1)), (2, .ref ca)] := hl
  refine lv_aload_n hx hb dX4_addVersion_0 rfl (lv_at hl 1 rfl) ?_
  refine lv_aload_n hx hb dX4_addVersion_1 rfl (lv_at hl 0 rfl) ?_
  refine lv_aload_n hx hb dX4_addVersion_2 rfl (lv_at hl 2 rfl) ?_
  refine lv_aload_n hx hb dX4_addVersion_3 rfl (lv_at hl 1 rfl) ?_
  refine g_get (C := RX3) (T := TX3) (N := 8) (v := .ref (ad 3 j)) hF hK (hM 1 w1 _ hw1) rfl inlX3 5 (by decide) rfl wd_f_X4_133 rfl dX4_addVersion_4 ?_
  refine kx_qV (C := RX4) (pX1 := fun _ => False) (fr := 2) (lo := 47) (mc1 := 1) (ms1 := 4) (As := [.ref ca, .ref (ad 3 j)]) (rest := [.ref (ad 1 w1)]) hF (m_X4_newVersion l hflag G Z ad ct i j ca m0 m1 m2 m3 m4 ch n0 x0 x1 x3 he hfree hj hji) ke_X4_newVersion wd_l_X4_85 (by decide) hM hN hK hP hT hS (g_recv hK (hM 0 0 _ he) rfl) rfl hl.1 rfl (Nat.le_of_ble_eq_true rfl) dX4_addVersion_7 (by decide) hnt hlk (fun E hE => False.elim hE) (by decide) (by decide) (fun r1 u1 H locs hr1 hM hN hS _ _ => ?_)
  obtain ⟨q, rfl, rfl⟩ := hr1
  replace hM : k_H G (k_ad ad 3 i q) (k_up (k_up ct 0 0 (.inr (5, [m0, m1, m2, m3, m4, .int (ch + 1)]))) 3 i (.inr (3, [.ref ca, .int (ch + 1), .int (n0 + 1), .ref (ad 3 j)]))) H := hM
  replace hN : k_N Z (k_ad ad 3 i q) (k_up (k_up ct 0 0 (.inr (5, [m0, m1, m2, m3, m4, .int (ch + 1)]))) 3 i (.inr (3, [.ref ca, .int (ch + 1), .int (n0 + 1), .ref (ad 3 j)]))) := hN
  refine bo_toV (v := .ref q) rfl ?_
  refine k_put (v := .ref q) (fs := [b0, b1, b2, b3, b4, .ref (ad 3 j), b6, b7]) hF hK hM hN hS 1 w1 ((k_up_o (fun z => absurd z.1 (by decide))).trans ((k_up_o (fun z => absurd z.1 (by decide))).trans hw1)) rfl inlX3 tyX3 tyX3_ok nmX3 5 (by decide) rfl wd_f_X4_133 rfl rfl rfl (by show 5 < 8; decide) dX4_addVersion_10 (fun H locs hM hN hS => ?_)
  replace hM : k_H G (k_ad ad 3 i q) (k_up (k_up (k_up ct 0 0 (.inr (5, [m0, m1, m2, m3, m4, .int (ch + 1)]))) 3 i (.inr (3, [.ref ca, .int (ch + 1), .int (n0 + 1), .ref (ad 3 j)]))) 1 w1 (.inr (4, [b0, b1, b2, b3, b4, .ref q, b6, b7]))) H := hM
  replace hN : k_N Z (k_ad ad 3 i q) (k_up (k_up (k_up ct 0 0 (.inr (5, [m0, m1, m2, m3, m4, .int (ch + 1)]))) 3 i (.inr (3, [.ref ca, .int (ch + 1), .int (n0 + 1), .ref (ad 3 j)]))) 1 w1 (.inr (4, [b0, b1, b2, b3, b4, .ref q, b6, b7]))) := hN
  refine lv_aload_n hx hb dX4_addVersion_13 rfl (lv_at hl 1 rfl) ?_
  refine lv_null hx hb dX4_addVersion_14 ?_
  refine k_put (v := .null) (fs := [b0, b1, b2, b3, b4, .ref q, b6, b7]) hF hK hM hN hS 1 w1 k_up_s rfl inlX3 tyX3 tyX3_ok nmX3 6 (by decide) rfl wd_f_X4_116 rfl rfl rfl (by show 6 < 8; decide) dX4_addVersion_15 (fun H locs hM hN hS => ?_)
  rw [k_up_t] at hM hN
  replace hM : k_H G (k_ad ad 3 i q) (k_up (k_up (k_up ct 0 0 (.inr (5, [m0, m1, m2, m3, m4, .int (ch + 1)]))) 3 i (.inr (3, [.ref ca, .int (ch + 1), .int (n0 + 1), .ref (ad 3 j)]))) 1 w1 (.inr (4, [b0, b1, b2, b3, b4, .ref q, .null, b7]))) H := hM
  replace hN : k_N Z (k_ad ad 3 i q) (k_up (k_up (k_up ct 0 0 (.inr (5, [m0, m1, m2, m3, m4, .int (ch + 1)]))) 3 i (.inr (3, [.ref ca, .int (ch + 1), .int (n0 + 1), .ref (ad 3 j)]))) 1 w1 (.inr (4, [b0, b1, b2, b3, b4, .ref q, .null, b7]))) := hN
  exact kx_vret hx hb hr hlk hM hN hK hS (by decide) (by decide) (⟨q, rfl⟩) dX4_addVersion_18
end
section
/-! ===== cells forgotten, cells under another name ===== -/
def k_rm (ct : k_Ct) (k i : Nat) : k_Ct := fun a b => if a = k ∧ b = i then none else ct a b
theorem k_rm_s {ct : k_Ct} {k i : Nat} : k_rm ct k i k i = none := if_pos ⟨rfl, rfl⟩
theorem k_rm_o {ct : k_Ct} {k i a b : Nat} (h : ¬ (a = k ∧ b = i)) : k_rm ct k i a b = ct a b := if_neg h
theorem k_rm_in {ct : k_Ct} {k i a b : Nat} {e : va_E} (h : k_rm ct k i a b = some e) : ct a b = some e := by
  by_cases z : a = k ∧ b = i
  · obtain ⟨rfl, rfl⟩ := z; rw [k_rm_s] at h; cases h
  · rwa [k_rm_o z] at h
theorem k_rmH {G : k_G} {ad : k_Ad} {ct : k_Ct} {H : Heap} (k i : Nat) (h : k_H G ad ct H) : k_H G ad (k_rm ct k i) H := fun a b e he => h a b e (k_rm_in he)
theorem k_rmN {Z : Nat → Prop} {ad : k_Ad} {ct : k_Ct} (k i : Nat) (h : k_N Z ad ct) : k_N Z ad (k_rm ct k i) := ⟨fun a b c d e e2 h1 h2 h3 => h.1 a b c d e e2 (k_rm_in h1) (k_rm_in h2) h3, fun a b e h1 => h.2 a b e (k_rm_in h1)⟩
theorem k_mvH {G : k_G} {ad : k_Ad} {ct : k_Ct} {H : Heap} {k i k2 i2 : Nat} {e0 : va_E} (h : k_H G ad ct H) (he : ct k i = some e0) : k_H G (k_ad ad k2 i2 (ad k i)) (k_up (k_rm ct k i) k2 i2 e0) H := by
  intro a b e h1
  by_cases z : a = k2 ∧ b = i2
  · obtain ⟨rfl, rfl⟩ := z
    rw [k_up_s] at h1
    cases h1
    rw [k_ad_s]; exact h k i _ he
  · rw [k_up_o z] at h1
    rw [k_ad_o z]; exact h a b e (k_rm_in h1)
theorem k_mvN {Z : Nat → Prop} {ad : k_Ad} {ct : k_Ct} {k i k2 i2 : Nat} {e0 : va_E} (h : k_N Z ad ct) (he : ct k i = some e0) : k_N Z (k_ad ad k2 i2 (ad k i)) (k_up (k_rm ct k i) k2 i2 e0) := by
  have key : ∀ a b e, ¬ (a = k2 ∧ b = i2) → k_up (k_rm ct k i) k2 i2 e0 a b = some e → ct a b = some e ∧ ¬ (a = k ∧ b = i) := by
    intro a b e z h1
    rw [k_up_o z] at h1
    exact ⟨k_rm_in h1, fun y => by rw [y.1, y.2, k_rm_s] at h1; cases h1⟩
  refine ⟨fun a b c d e e2 h1 h2 h3 => ?_, fun a b e h1 => ?_⟩
  · by_cases z : a = k2 ∧ b = i2
    · by_cases y : c = k2 ∧ d = i2
      · exact ⟨z.1.trans y.1.symm, z.2.trans y.2.symm⟩
      · obtain ⟨g1, g2⟩ := key c d e2 y h2
        rw [z.1, z.2, k_ad_s, k_ad_o y] at h3
        have := h.1 k i c d e0 e2 he g1 h3
        exact absurd ⟨this.1.symm, this.2.symm⟩ g2
    · obtain ⟨g1, g2⟩ := key a b e z h1
      by_cases y : c = k2 ∧ d = i2
      · rw [y.1, y.2, k_ad_s, k_ad_o z] at h3
        exact absurd (h.1 a b k i e e0 g1 he h3) g2
      · obtain ⟨g3, g4⟩ := key c d e2 y h2
        rw [k_ad_o z, k_ad_o y] at h3
        exact h.1 a b c d e e2 g1 g3 h3
  · by_cases z : a = k2 ∧ b = i2
    · rw [z.1, z.2, k_ad_s]; exact h.2 k i e0 he
    · rw [k_ad_o z]; exact h.2 a b e (key a b e z h1).1
/-! ===== a version more, as numbers ===== -/
section
variable {G : k_G} {ad : k_Ad} {mm : q_Mem} {w ca q : Nat} {kk dd ff : Int32}
theorem mk_11 {j : Nat} : sp_make mm w kk dd ff 11 j = if j = sp_K mm then 1000 * nI w + 100 * kk + 10 * dd + ff + 1 else mm 11 j := by
  by_cases h : j = sp_K mm
  · subst h; simp [sp_make, up2]
  · simp [sp_make, up2, h]
theorem mk_12 {j : Nat} : sp_make mm w kk dd ff 12 j = if j = sp_K mm then (if mm 7 w = 0 then -1 else mm 8 w) else mm 12 j := by
  by_cases h : j = sp_K mm
  · subst h; simp [sp_make, up2]
  · simp [sp_make, up2, h]
theorem mk_21 {j : Nat} : sp_make mm w kk dd ff 21 j = if j = sp_K mm then (if mm 7 w = 0 then 0 else mm 21 (sp_L mm w) + 1) else mm 21 j := by
  show (if 21 = 21 ∧ j = sp_K mm then _ else _) = _
  by_cases h : j = sp_K mm
  · rw [if_pos h, if_pos ⟨rfl, h⟩]
  · rw [if_neg h, if_neg (fun z => h z.2)]; simp [up2]
theorem mk_8 {b : Nat} : sp_make mm w kk dd ff 8 b = if b = w then mm 10 0 else mm 8 b := by
  by_cases h : b = w
  · subst h; simp [sp_make, up2]
  · simp [sp_make, up2, h]
theorem mk_9 {b : Nat} : sp_make mm w kk dd ff 9 b = if b = w then -1 else mm 9 b := by
  by_cases h : b = w
  · subst h; simp [sp_make, up2]
  · simp [sp_make, up2, h]
theorem mk_10 : sp_make mm w kk dd ff 10 0 = mm 10 0 + 1 := by simp [sp_make, up2]
theorem mk_7 {b : Nat} : sp_make mm w kk dd ff 7 b = if b = w then mm 7 w + 1 else mm 7 b := by
  by_cases h : b = w
  · subst h; simp [sp_make, up2]
  · simp [sp_make, up2, h]
theorem mk_o {k : Nat} (h : k ≠ 11 ∧ k ≠ 12 ∧ k ≠ 8 ∧ k ≠ 7 ∧ k ≠ 9 ∧ k ≠ 10 ∧ k ≠ 21) : sp_make mm w kk dd ff k = mm k := by
  obtain ⟨a, b, c, d, e, f, g⟩ := h
  unfold sp_make
  rw [up2_k g, up2_k f, up2_k e, up2_k d, up2_k c, up2_k b, up2_k a]
theorem mk_K (hI : Inv mm) : sp_K (sp_make mm w kk dd ff) = sp_K mm + 1 := by
  have := hI.K512
  unfold sp_K
  rw [mk_10, hI.K, nI_1, nI_clamp (by omega), nI_clamp (by omega)]
theorem mk_W : sp_W (sp_make mm w kk dd ff) = sp_W mm := by unfold sp_W; rw [mk_o (by decide)]
theorem mk_L {b : Nat} : sp_L (sp_make mm w kk dd ff) b = if b = w then sp_K mm else sp_L mm b := by
  unfold sp_L
  rw [mk_8]
  by_cases h : b = w
  · rw [if_pos h, if_pos h]; rfl
  · rw [if_neg h, if_neg h]
theorem mk_A {j : Nat} (h : j ≠ sp_K mm) : sp_A (sp_make mm w kk dd ff) j = sp_A mm j := by
  unfold sp_A; rw [mk_12, if_neg h]
theorem mk_AK (h7 : ¬ mm 7 w = 0) : sp_A (sp_make mm w kk dd ff) (sp_K mm) = sp_L mm w := by
  unfold sp_A sp_L; rw [mk_12, if_pos rfl, if_neg h7]
/-- what is left when a way has got a version more -/
theorem kmake (hI : Inv mm) (hw : w < sp_W mm) (hv1 : sp_vk (1000 * nI w + 100 * kk + 10 * dd + ff + 1) = kk) (hv2 : sp_vd (1000 * nI w + 100 * kk + 10 * dd + ff + 1) = dd) (hv3 : sp_ve (1000 * nI w + 100 * kk + 10 * dd + ff + 1) = ff) :
    k_up (k_up (k_up (k_up (k_rm (k_C G ad mm) 5 w) 4 (sp_K mm) (.inr (1, [.int kk, .int dd, .int ff]))) 0 0 (.inr (5, [.ref (ad 0 1), .ref (ad 0 2), .ref (ad 0 3), .ref (ad 0 4), .ref (ad 0 5), .int (mm 10 0 + 1)]))) 3 (sp_K mm) (.inr (3, [.ref ca, .int (mm 10 0 + 1), .int (mm 21 (sp_L mm w) + 1), .ref (ad 3 (sp_L mm w))]))) 1 w (.inr (4, [.int (mm 2 w), .int (mm 3 w), .int (mm 4 w), .int (mm 5 w), .int (mm 6 w), .ref q, .null, .ref (ad 2 w)])) =
    k_C G (k_ad (k_ad ad 4 (sp_K mm) ca) 3 (sp_K mm) q) (sp_make mm w kk dd ff) := by
  have hK5 := hI.K512
  have hLK := hI.LK hw
  obtain ⟨n, hn, -, h7⟩ := hI.N hw
  have h70 : ¬ mm 7 w = 0 := by rw [h7]; exact nI_ne0 (by omega) (by omega)
  generalize hAD : k_ad (k_ad ad 4 (sp_K mm) ca) 3 (sp_K mm) q = ad2
  have a3 : ∀ b, b ≠ sp_K mm → ad2 3 b = ad 3 b := fun b hb => by rw [← hAD, k_ad_o (fun z => hb z.2), k_ad_o (fun z => absurd z.1 (by decide))]
  have a3K : ad2 3 (sp_K mm) = q := by rw [← hAD, k_ad_s]
  have a4K : ad2 4 (sp_K mm) = ca := by rw [← hAD, k_ad_o (fun z => absurd z.1 (by decide)), k_ad_s]
  have a4 : ∀ b, b ≠ sp_K mm → ad2 4 b = ad 4 b := fun b hb => by rw [← hAD, k_ad_o (fun z => absurd z.1 (by decide)), k_ad_o (fun z => hb z.2)]
  have ao : ∀ a b, a ≠ 3 → a ≠ 4 → ad2 a b = ad a b := fun a b h3 h4 => by rw [← hAD, k_ad_o (fun z => h3 z.1), k_ad_o (fun z => h4 z.1)]
  have r0 : k_mp ad2 (sp_make mm w kk dd ff) = [.ref (ad 0 1), .ref (ad 0 2), .ref (ad 0 3), .ref (ad 0 4), .ref (ad 0 5), .int (mm 10 0 + 1)] := by
    unfold k_mp
    rw [mk_10, ao 0 1 (by decide) (by decide), ao 0 2 (by decide) (by decide), ao 0 3 (by decide) (by decide), ao 0 4 (by decide) (by decide), ao 0 5 (by decide) (by decide)]
  have r1 : ∀ b, b < sp_W mm → b ≠ w → k_wy ad2 (sp_make mm w kk dd ff) b = k_wy ad mm b := fun b hb hbw => by
    have hLb := hI.LK hb
    unfold k_wy
    rw [mk_L, if_neg hbw, mk_9, if_neg hbw, a3 _ (by omega), ao 5 b (by decide) (by decide), ao 2 b (by decide) (by decide), mk_o (k := 2) (by decide), mk_o (k := 3) (by decide), mk_o (k := 4) (by decide), mk_o (k := 5) (by decide), mk_o (k := 6) (by decide)]
  have r1w : k_wy ad2 (sp_make mm w kk dd ff) w = [.int (mm 2 w), .int (mm 3 w), .int (mm 4 w), .int (mm 5 w), .int (mm 6 w), .ref q, .null, .ref (ad 2 w)] := by
    unfold k_wy
    rw [mk_L, if_pos rfl, a3K, mk_9, if_pos rfl, ao 2 w (by decide) (by decide), mk_o (k := 2) (by decide), mk_o (k := 3) (by decide), mk_o (k := 4) (by decide), mk_o (k := 5) (by decide), mk_o (k := 6) (by decide)]
    unfold k_rf
    rw [if_pos rfl]
  have r3 : ∀ j, j < sp_K mm → k_vs ad2 (sp_make mm w kk dd ff) j = k_vs ad mm j := fun j hj => by
    have hne : j ≠ sp_K mm := by omega
    unfold k_vs
    rw [a4 j hne, mk_21, if_neg hne, mk_12, if_neg hne, mk_A hne]
    rcases hI.A hj with ⟨b1, -⟩ | ⟨b1, b2, -⟩
    · unfold k_rf; rw [if_pos b1, if_pos b1]
    · rw [a3 _ (by omega)]
  have r3K : k_vs ad2 (sp_make mm w kk dd ff) (sp_K mm) = [.ref ca, .int (mm 10 0 + 1), .int (mm 21 (sp_L mm w) + 1), .ref (ad 3 (sp_L mm w))] := by
    unfold k_vs
    rw [a4K, mk_21, if_pos rfl, if_neg h70, mk_12, if_pos rfl, if_neg h70, mk_AK h70, a3 _ (by omega), hI.K, nI_1]
    unfold k_rf
    rw [if_neg (by rw [hI.L hw]; exact nI_nm1 (by omega))]
  have r4K : k_ch (sp_make mm w kk dd ff 11 (sp_K mm)) = [.int kk, .int dd, .int ff] := by
    unfold k_ch
    rw [mk_11, if_pos rfl, hv1, hv2, hv3]
  funext a b
  match a with
  | 0 =>
    match b with
    | 0 =>
      rw [k_up_o (by simp), k_up_o (by simp), k_up_s]
      show _ = (some (.inr (5, k_mp ad2 (sp_make mm w kk dd ff))) : Option va_E)
      rw [r0]
    | 1 =>
      rw [k_up_o (by simp), k_up_o (by simp), k_up_o (by simp), k_up_o (by simp), k_rm_o (by simp)]
      show (some (.inr (0, k_li G ad mm)) : Option va_E) = some (.inr (0, k_li G ad2 (sp_make mm w kk dd ff)))
      unfold k_li
      rw [mk_W, mk_o (k := 1) (by decide), ao 0 6 (by decide) (by decide)]
    | 2 =>
      rw [k_up_o (by simp), k_up_o (by simp), k_up_o (by simp), k_up_o (by simp), k_rm_o (by simp)]
      show (some (.inl (G.2.1, 6, .inl (mm 0))) : Option va_E) = some (.inl (G.2.1, 6, .inl (sp_make mm w kk dd ff 0)))
      rw [mk_o (k := 0) (by decide)]
    | 3 =>
      rw [k_up_o (by simp), k_up_o (by simp), k_up_o (by simp), k_up_o (by simp), k_rm_o (by simp)]
      show (some (.inl (G.2.1, 3, .inl (mm 15))) : Option va_E) = some (.inl (G.2.1, 3, .inl (sp_make mm w kk dd ff 15)))
      rw [mk_o (k := 15) (by decide)]
    | 4 =>
      rw [k_up_o (by simp), k_up_o (by simp), k_up_o (by simp), k_up_o (by simp), k_rm_o (by simp)]
      show (some (.inl (G.2.1, 3, .inl (mm 16))) : Option va_E) = some (.inl (G.2.1, 3, .inl (sp_make mm w kk dd ff 16)))
      rw [mk_o (k := 16) (by decide)]
    | 5 =>
      rw [k_up_o (by simp), k_up_o (by simp), k_up_o (by simp), k_up_o (by simp), k_rm_o (by simp)]
      show (some (.inl (G.2.2.1, 341, .inr (.inr (.inr (.inr (k_tr ad mm)))))) : Option va_E) = some (.inl (G.2.2.1, 341, .inr (.inr (.inr (.inr (k_tr ad2 (sp_make mm w kk dd ff)))))))
      have e : k_tr ad2 (sp_make mm w kk dd ff) = k_tr ad mm := by
        funext t
        unfold k_tr
        rw [mk_o (k := 13) (by decide), ao 6 t (by decide) (by decide)]
      rw [e]
    | 6 =>
      rw [k_up_o (by simp), k_up_o (by simp), k_up_o (by simp), k_up_o (by simp), k_rm_o (by simp)]
      show (if sp_W mm = 0 then none else some (.inl (G.2.2.2.1, k_cp (sp_W mm), .inr (.inr (.inr (.inr (k_er ad mm)))))) : Option va_E) = if sp_W (sp_make mm w kk dd ff) = 0 then none else some (.inl (G.2.2.2.1, k_cp (sp_W (sp_make mm w kk dd ff)), .inr (.inr (.inr (.inr (k_er ad2 (sp_make mm w kk dd ff)))))))
      have e : k_er ad2 (sp_make mm w kk dd ff) = k_er ad mm := by
        funext t
        unfold k_er
        rw [mk_W, ao 1 t (by decide) (by decide)]
      rw [e, mk_W]
    | n + 7 =>
      rw [k_up_o (by simp), k_up_o (by simp), k_up_o (by simp), k_up_o (by simp), k_rm_o (by simp)]
      show (none : Option va_E) = none
      rfl
  | 1 =>
    show _ = (if b < sp_W (sp_make mm w kk dd ff) then some (.inr (4, k_wy ad2 (sp_make mm w kk dd ff) b)) else none : Option va_E)
    rw [mk_W]
    by_cases h : b = w
    · subst h
      rw [k_up_s, if_pos hw, r1w]
    · rw [k_up_o (fun z => h z.2), k_up_o (by simp), k_up_o (by simp), k_up_o (by simp), k_rm_o (by simp)]
      show (if b < sp_W mm then some (.inr (4, k_wy ad mm b)) else none : Option va_E) = _
      by_cases hb : b < sp_W mm
      · rw [if_pos hb, if_pos hb, r1 b hb h]
      · rw [if_neg hb, if_neg hb]
  | 2 =>
    rw [k_up_o (by simp), k_up_o (by simp), k_up_o (by simp), k_up_o (by simp), k_rm_o (by simp)]
    show (if b < sp_W mm then some (.inl (G.2.1, 9, .inl (k_db mm b))) else none : Option va_E) = if b < sp_W (sp_make mm w kk dd ff) then some (.inl (G.2.1, 9, .inl (k_db (sp_make mm w kk dd ff) b))) else none
    have e : k_db (sp_make mm w kk dd ff) b = k_db mm b := by unfold k_db; rw [mk_o (k := 20) (by decide)]
    rw [e, mk_W]
  | 3 =>
    show _ = (if b < sp_K (sp_make mm w kk dd ff) then some (.inr (3, k_vs ad2 (sp_make mm w kk dd ff) b)) else none : Option va_E)
    rw [mk_K hI]
    by_cases h : b = sp_K mm
    · subst h
      rw [k_up_o (by simp), k_up_s, if_pos (by omega), r3K]
    · rw [k_up_o (by simp), k_up_o (fun z => h z.2), k_up_o (by simp), k_up_o (by simp), k_rm_o (by simp)]
      show (if b < sp_K mm then some (.inr (3, k_vs ad mm b)) else none : Option va_E) = _
      by_cases hb : b < sp_K mm
      · rw [if_pos hb, if_pos (by omega), r3 b hb]
      · rw [if_neg hb, if_neg (by omega)]
  | 4 =>
    show _ = (if b < sp_K (sp_make mm w kk dd ff) then some (.inr (1, k_ch (sp_make mm w kk dd ff 11 b))) else none : Option va_E)
    rw [mk_K hI]
    by_cases h : b = sp_K mm
    · subst h
      rw [k_up_o (by simp), k_up_o (by simp), k_up_o (by simp), k_up_s, if_pos (by omega), r4K]
    · rw [k_up_o (by simp), k_up_o (by simp), k_up_o (by simp), k_up_o (fun z => h z.2), k_rm_o (by simp)]
      show (if b < sp_K mm then some (.inr (1, k_ch (mm 11 b))) else none : Option va_E) = _
      rw [mk_11, if_neg h]
      by_cases hb : b < sp_K mm
      · rw [if_pos hb, if_pos (by omega)]
      · rw [if_neg hb, if_neg (by omega)]
  | 5 =>
    show _ = (if b < sp_W (sp_make mm w kk dd ff) ∧ ¬ sp_make mm w kk dd ff 9 b = -1 then some (.inr (1, k_wc (sp_make mm w kk dd ff 9 b))) else none : Option va_E)
    rw [mk_W, mk_9]
    rw [k_up_o (by simp), k_up_o (by simp), k_up_o (by simp), k_up_o (by simp)]
    by_cases h : b = w
    · subst h
      rw [k_rm_s, if_pos rfl, if_neg (fun z => z.2 rfl)]
    · rw [k_rm_o (fun z => h z.2), if_neg h]
      rfl
  | 6 =>
    rw [k_up_o (by simp), k_up_o (by simp), k_up_o (by simp), k_up_o (by simp), k_rm_o (by simp)]
    show (if b < 341 ∧ ¬ mm 13 b = 0 then some (.inr (2, k_tl mm b)) else none : Option va_E) = if b < 341 ∧ ¬ sp_make mm w kk dd ff 13 b = 0 then some (.inr (2, k_tl (sp_make mm w kk dd ff) b)) else none
    have e : k_tl (sp_make mm w kk dd ff) b = k_tl mm b := by unfold k_tl; rw [mk_o (k := 13) (by decide), mk_o (k := 14) (by decide)]
    rw [e, mk_o (k := 13) (by decide)]
  | n + 7 =>
    rw [k_up_o (by simp), k_up_o (by simp), k_up_o (by simp), k_up_o (by simp), k_rm_o (by simp)]
    show (none : Option va_E) = none
    rfl
end
end
section
section
variable {mm : q_Mem} {w : Nat} {kk dd ff : Int32}
theorem mk_19 : sp_make (up2 mm 19 0 0) w kk dd ff = up2 (sp_make mm w kk dd ff) 19 0 0 := by
  have r : ∀ k, k ≠ 19 → up2 mm 19 0 0 k = mm k := fun k h => up2_k h
  have eK : sp_K (up2 mm 19 0 0) = sp_K mm := rfl
  have eL : sp_L (up2 mm 19 0 0) w = sp_L mm w := rfl
  unfold sp_make
  rw [eK, eL, r 7 (by decide), r 8 (by decide), r 10 (by decide), r 21 (by decide), up2_comm (show (19 : Nat) ≠ 11 by decide), up2_comm (show (19 : Nat) ≠ 12 by decide), up2_comm (show (19 : Nat) ≠ 8 by decide), up2_comm (show (19 : Nat) ≠ 7 by decide), up2_comm (show (19 : Nat) ≠ 9 by decide), up2_comm (show (19 : Nat) ≠ 10 by decide), up2_comm (show (19 : Nat) ≠ 21 by decide)]
/-- a version's number, by its parts -/
theorem mk_co {k d e : Nat} {v : Int32} (hw : w < 40) (hk : k < 4) (hd : d < 3) (he : e < 7) (hv : v = nI e - 1) : 1000 * nI w + 100 * nI k + 10 * nI d + v + 1 = nI (1000 * w + 100 * k + 10 * d + e) := by
  rw [hv, show (1000 : Int32) = nI 1000 from rfl, show (100 : Int32) = nI 100 from rfl, show (10 : Int32) = nI 10 from rfl, pk_mul, pk_mul, pk_mul, nI_add, nI_add, Int32.add_assoc, Int32.sub_add_cancel, nI_add]
theorem mk_parts {k d e : Nat} {v : Int32} (hw : w < 40) (hk : k < 4) (hd : d < 3) (he : e < 7) (hv : v = nI e - 1) : sp_vk (1000 * nI w + 100 * nI k + 10 * nI d + v + 1) = nI k ∧ sp_vd (1000 * nI w + 100 * nI k + 10 * nI d + v + 1) = nI d ∧ sp_ve (1000 * nI w + 100 * nI k + 10 * nI d + v + 1) = v := by
  rw [mk_co hw hk hd he hv, vk_nI (by omega), vd_nI (by omega), ve_nI (by omega)]
  refine ⟨by congr 1; omega, by congr 1; omega, ?_⟩
  rw [hv]; congr 2; omega
end
set_option maxRecDepth 100000 in
/-- addVersion, in numbers: the change lies at ca, under the name that it will have -/
theorem m_X4_addV (l : Launch) (hflag : l.stackTraces = false) (G : k_G) (Z : Nat → Prop) (ad : k_Ad) (mm : q_Mem) (w ca : Nat) (kk dd ff : Int32) (hI : Inv mm) (hw : w < sp_W mm) (hv1 : sp_vk (1000 * nI w + 100 * kk + 10 * dd + ff + 1) = kk) (hv2 : sp_vd (1000 * nI w + 100 * kk + 10 * dd + ff + 1) = dd) (hv3 : sp_ve (1000 * nI w + 100 * kk + 10 * dd + ff + 1) = ff) :
    kx_v l yX4_addVersion cX4_addVersion 3 none 3 69 1 4 G Z (k_ad ad 4 (sp_K mm) ca) (k_up (k_rm (k_C G ad mm) 5 w) 4 (sp_K mm) (.inr (1, [.int kk, .int dd, .int ff]))) [.ref (ad 0 0), .ref (ad 1 w), .ref ca] (fun u => ∃ q, u = (k_ad (k_ad ad 4 (sp_K mm) ca) 3 (sp_K mm) q, k_C G (k_ad (k_ad ad 4 (sp_K mm) ca) 3 (sp_K mm) q) (sp_make mm w kk dd ff))) (fun _ => False) := by
  have hLK := hI.LK hw
  have h := m_X4_addVersion l hflag G Z (k_ad ad 4 (sp_K mm) ca) (k_up (k_rm (k_C G ad mm) 5 w) 4 (sp_K mm) (.inr (1, [.int kk, .int dd, .int ff]))) w (sp_K mm) (sp_L mm w) ca (.ref (ad 0 1)) (.ref (ad 0 2)) (.ref (ad 0 3)) (.ref (ad 0 4)) (.ref (ad 0 5)) (mm 10 0) (mm 21 (sp_L mm w)) (.ref (ad 4 (sp_L mm w))) (.int (nI (sp_L mm w + 1))) (k_rf (mm 12 (sp_L mm w) = -1) (ad 3 (sp_A mm (sp_L mm w)))) (.int (mm 2 w)) (.int (mm 3 w)) (.int (mm 4 w)) (.int (mm 5 w)) (.int (mm 6 w)) (k_rf (mm 9 w = -1) (ad 5 w)) (.ref (ad 2 w))
    ((k_up_o (by simp)).trans ((k_rm_o (by simp)).trans rfl)) ((k_up_o (by simp)).trans ((k_rm_o (by simp)).trans (if_neg (Nat.lt_irrefl _)))) ((k_up_o (by simp)).trans ((k_rm_o (by simp)).trans (kc_v hLK))) (by omega) ((k_up_o (by simp)).trans ((k_rm_o (by simp)).trans (by rw [kc_w hw, k_ad_o (by simp)]; rfl)))
  rw [k_ad_o (by simp), k_ad_o (by simp), k_ad_o (by simp)] at h
  have e : (fun u : k_Ad × k_Ct => ∃ q, u = (k_ad (k_ad ad 4 (sp_K mm) ca) 3 (sp_K mm) q, k_up (k_up (k_up (k_up (k_rm (k_C G ad mm) 5 w) 4 (sp_K mm) (.inr (1, [.int kk, .int dd, .int ff]))) 0 0 (.inr (5, [.ref (ad 0 1), .ref (ad 0 2), .ref (ad 0 3), .ref (ad 0 4), .ref (ad 0 5), .int (mm 10 0 + 1)]))) 3 (sp_K mm) (.inr (3, [.ref ca, .int (mm 10 0 + 1), .int (mm 21 (sp_L mm w) + 1), .ref (ad 3 (sp_L mm w))]))) 1 w (.inr (4, [.int (mm 2 w), .int (mm 3 w), .int (mm 4 w), .int (mm 5 w), .int (mm 6 w), .ref q, .null, .ref (ad 2 w)])))) = fun u => ∃ q, u = (k_ad (k_ad ad 4 (sp_K mm) ca) 3 (sp_K mm) q, k_C G (k_ad (k_ad ad 4 (sp_K mm) ca) 3 (sp_K mm) q) (sp_make mm w kk dd ff)) := by
    funext u
    refine propext ⟨fun ⟨q, hq⟩ => ⟨q, ?_⟩, fun ⟨q, hq⟩ => ⟨q, ?_⟩⟩
    · rw [hq, kmake hI hw hv1 hv2 hv3]
    · rw [hq, kmake hI hw hv1 hv2 hv3]
  rw [← e]
  exact h
/-- a change that waits, as numbers -/
theorem kwait {G : k_G} {ad : k_Ad} {mm : q_Mem} {w q : Nat} {kk dd ff v : Int32} (hw : w < sp_W mm) (hv : ¬ v = -1) (hv1 : v / 100 = kk) (hv2 : sp_vd v = dd) (hv3 : sp_ve v = ff) :
    k_up (k_up (k_rm (k_C G ad mm) 5 w) 5 w (.inr (1, [.int kk, .int dd, .int ff]))) 1 w (.inr (4, [.int (mm 2 w), .int (mm 3 w), .int (mm 4 w), .int (mm 5 w), .int (mm 6 w), .ref (ad 3 (sp_L mm w)), .ref q, .ref (ad 2 w)])) = k_C G (k_ad ad 5 w q) (up2 mm 9 w v) := by
  generalize hAD : k_ad ad 5 w q = ad2
  have a5 : ad2 5 w = q := by rw [← hAD, k_ad_s]
  have ao : ∀ a b, ¬ (a = 5 ∧ b = w) → ad2 a b = ad a b := fun a b h => by rw [← hAD, k_ad_o h]
  have e1 : ∀ k, k ≠ 9 → up2 mm 9 w v k = mm k := fun k h => up2_k h
  have eW : sp_W (up2 mm 9 w v) = sp_W mm := rfl
  have eK : sp_K (up2 mm 9 w v) = sp_K mm := rfl
  refine up_of ?_ fun a b z => ?_
  · show (if w < sp_W (up2 mm 9 w v) then some (.inr (4, k_wy ad2 (up2 mm 9 w v) w)) else none : Option va_E) = _
    rw [eW, if_pos hw]
    unfold k_wy
    rw [up2_s, a5, ao 3 _ (by simp), ao 2 _ (by simp), e1 2 (by decide), e1 3 (by decide), e1 4 (by decide), e1 5 (by decide), e1 6 (by decide)]
    unfold k_rf
    rw [if_neg hv]
    rfl
  · by_cases y : a = 5 ∧ b = w
    · obtain ⟨rfl, rfl⟩ := y
      rw [k_up_s]
      show _ = (if b < sp_W (up2 mm 9 b v) ∧ ¬ up2 mm 9 b v 9 b = -1 then some (.inr (1, k_wc (up2 mm 9 b v 9 b))) else none : Option va_E)
      rw [up2_s, eW, if_pos ⟨hw, hv⟩]
      unfold k_wc
      rw [hv1, hv2, hv3]
    · rw [k_up_o y, k_rm_o y]
      match a with
      | 0 =>
        match b with
        | 0 =>
          show (some (.inr (5, k_mp ad mm)) : Option va_E) = some (.inr (5, k_mp ad2 (up2 mm 9 w v)))
          unfold k_mp
          rw [ao 0 1 (by simp), ao 0 2 (by simp), ao 0 3 (by simp), ao 0 4 (by simp), ao 0 5 (by simp), e1 10 (by decide)]
        | 1 =>
          show (some (.inr (0, k_li G ad mm)) : Option va_E) = some (.inr (0, k_li G ad2 (up2 mm 9 w v)))
          unfold k_li
          rw [ao 0 6 (by simp), e1 1 (by decide), eW]
        | 2 => show (some (.inl (G.2.1, 6, .inl (mm 0))) : Option va_E) = some (.inl (G.2.1, 6, .inl (up2 mm 9 w v 0))); rw [e1 0 (by decide)]
        | 3 => show (some (.inl (G.2.1, 3, .inl (mm 15))) : Option va_E) = some (.inl (G.2.1, 3, .inl (up2 mm 9 w v 15))); rw [e1 15 (by decide)]
        | 4 => show (some (.inl (G.2.1, 3, .inl (mm 16))) : Option va_E) = some (.inl (G.2.1, 3, .inl (up2 mm 9 w v 16))); rw [e1 16 (by decide)]
        | 5 =>
          show (some (.inl (G.2.2.1, 341, .inr (.inr (.inr (.inr (k_tr ad mm)))))) : Option va_E) = some (.inl (G.2.2.1, 341, .inr (.inr (.inr (.inr (k_tr ad2 (up2 mm 9 w v)))))))
          have e : k_tr ad2 (up2 mm 9 w v) = k_tr ad mm := by
            funext t
            unfold k_tr
            rw [e1 13 (by decide), ao 6 t (by simp)]
          rw [e]
        | 6 =>
          show (if sp_W mm = 0 then none else some (.inl (G.2.2.2.1, k_cp (sp_W mm), .inr (.inr (.inr (.inr (k_er ad mm)))))) : Option va_E) = if sp_W (up2 mm 9 w v) = 0 then none else some (.inl (G.2.2.2.1, k_cp (sp_W (up2 mm 9 w v)), .inr (.inr (.inr (.inr (k_er ad2 (up2 mm 9 w v)))))))
          have e : k_er ad2 (up2 mm 9 w v) = k_er ad mm := by
            funext t
            unfold k_er
            rw [eW, ao 1 t (by simp)]
          rw [e, eW]
        | n + 7 => show (none : Option va_E) = none; rfl
      | 1 =>
        have hb : b ≠ w := fun x => z ⟨rfl, x⟩
        show (if b < sp_W mm then some (.inr (4, k_wy ad mm b)) else none : Option va_E) = if b < sp_W (up2 mm 9 w v) then some (.inr (4, k_wy ad2 (up2 mm 9 w v) b)) else none
        have e : k_wy ad2 (up2 mm 9 w v) b = k_wy ad mm b := by
          unfold k_wy
          rw [up2_i hb, ao 3 _ (by simp), ao 5 b (fun x => hb x.2), ao 2 _ (by simp), e1 2 (by decide), e1 3 (by decide), e1 4 (by decide), e1 5 (by decide), e1 6 (by decide)]
          rfl
        rw [e, eW]
      | 2 => show (if b < sp_W mm then some (.inl (G.2.1, 9, .inl (k_db mm b))) else none : Option va_E) = if b < sp_W (up2 mm 9 w v) then some (.inl (G.2.1, 9, .inl (k_db (up2 mm 9 w v) b))) else none; rfl
      | 3 =>
        show (if b < sp_K mm then some (.inr (3, k_vs ad mm b)) else none : Option va_E) = if b < sp_K (up2 mm 9 w v) then some (.inr (3, k_vs ad2 (up2 mm 9 w v) b)) else none
        have e : k_vs ad2 (up2 mm 9 w v) b = k_vs ad mm b := by
          unfold k_vs sp_A
          rw [ao 4 _ (by simp), ao 3 _ (by simp), e1 21 (by decide), e1 12 (by decide)]
        rw [e, eK]
      | 4 => show (if b < sp_K mm then some (.inr (1, k_ch (mm 11 b))) else none : Option va_E) = if b < sp_K (up2 mm 9 w v) then some (.inr (1, k_ch (up2 mm 9 w v 11 b))) else none; rfl
      | 5 =>
        have hb : b ≠ w := fun x => y ⟨rfl, x⟩
        show (if b < sp_W mm ∧ ¬ mm 9 b = -1 then some (.inr (1, k_wc (mm 9 b))) else none : Option va_E) = if b < sp_W (up2 mm 9 w v) ∧ ¬ up2 mm 9 w v 9 b = -1 then some (.inr (1, k_wc (up2 mm 9 w v 9 b))) else none
        rw [up2_i hb, eW]
      | 6 => show (if b < 341 ∧ ¬ mm 13 b = 0 then some (.inr (2, k_tl mm b)) else none : Option va_E) = if b < 341 ∧ ¬ up2 mm 9 w v 13 b = 0 then some (.inr (2, k_tl (up2 mm 9 w v) b)) else none; rfl
      | n + 7 => show (none : Option va_E) = none; rfl
end
section
theorem dX4_edit_0 : decode cX4_edit 0 = .ok (.iload_n 1, 1) := by decide +kernel
theorem dX4_edit_1 : decode cX4_edit 1 = .ok (.invokestatic 42, 3) := by decide +kernel
theorem dX4_edit_4 : decode cX4_edit 4 = .ok (.aload_n 0, 1) := by decide +kernel
theorem dX4_edit_5 : decode cX4_edit 5 = .ok (.iload_n 2, 1) := by decide +kernel
theorem dX4_edit_6 : decode cX4_edit 6 = .ok (.invokevirtual 96, 3) := by decide +kernel
theorem dX4_edit_9 : decode cX4_edit 9 = .ok (.astore 5, 2) := by decide +kernel
theorem dX4_edit_11 : decode cX4_edit 11 = .ok (.iload_n 3, 1) := by decide +kernel
theorem dX4_edit_12 : decode cX4_edit 12 = .ok (.invokestatic 54, 3) := by decide +kernel
theorem dX4_edit_15 : decode cX4_edit 15 = .ok (.ifCond .eq 11, 3) := by decide +kernel
theorem dX4_edit_18 : decode cX4_edit 18 = .ok (.iload 4, 2) := by decide +kernel
theorem dX4_edit_20 : decode cX4_edit 20 = .ok (.invokestatic 100, 3) := by decide +kernel
theorem dX4_edit_23 : decode cX4_edit 23 = .ok (.ifCond .ne 13, 3) := by decide +kernel
theorem dX4_edit_26 : decode cX4_edit 26 = .ok (.new 58, 3) := by decide +kernel
theorem dX4_edit_29 : decode cX4_edit 29 = .ok (.dup, 1) := by decide +kernel
theorem dX4_edit_30 : decode cX4_edit 30 = .ok (.ldc 103, 2) := by decide +kernel
theorem dX4_edit_32 : decode cX4_edit 32 = .ok (.invokespecial 62, 3) := by decide +kernel
theorem dX4_edit_35 : decode cX4_edit 35 = .ok (.athrow, 1) := by decide +kernel
theorem dX4_edit_36 : decode cX4_edit 36 = .ok (.aload 5, 2) := by decide +kernel
theorem dX4_edit_38 : decode cX4_edit 38 = .ok (.invokevirtual 105, 3) := by decide +kernel
theorem dX4_edit_41 : decode cX4_edit 41 = .ok (.iload_n 3, 1) := by decide +kernel
theorem dX4_edit_42 : decode cX4_edit 42 = .ok (.if_icmp .ne 13, 3) := by decide +kernel
theorem dX4_edit_45 : decode cX4_edit 45 = .ok (.aload 5, 2) := by decide +kernel
theorem dX4_edit_47 : decode cX4_edit 47 = .ok (.invokevirtual 108, 3) := by decide +kernel
theorem dX4_edit_50 : decode cX4_edit 50 = .ok (.iload 4, 2) := by decide +kernel
theorem dX4_edit_52 : decode cX4_edit 52 = .ok (.if_icmp .eq 10, 3) := by decide +kernel
theorem dX4_edit_55 : decode cX4_edit 55 = .ok (.aload_n 0, 1) := by decide +kernel
theorem dX4_edit_56 : decode cX4_edit 56 = .ok (.invokevirtual 69, 3) := by decide +kernel
theorem dX4_edit_59 : decode cX4_edit 59 = .ok (.ifCond .eq 13, 3) := by decide +kernel
theorem dX4_edit_62 : decode cX4_edit 62 = .ok (.new 73, 3) := by decide +kernel
theorem dX4_edit_65 : decode cX4_edit 65 = .ok (.dup, 1) := by decide +kernel
theorem dX4_edit_66 : decode cX4_edit 66 = .ok (.ldc 111, 2) := by decide +kernel
theorem dX4_edit_68 : decode cX4_edit 68 = .ok (.invokespecial 77, 3) := by decide +kernel
theorem dX4_edit_71 : decode cX4_edit 71 = .ok (.athrow, 1) := by decide +kernel
theorem dX4_edit_72 : decode cX4_edit 72 = .ok (.new 80, 3) := by decide +kernel
theorem dX4_edit_75 : decode cX4_edit 75 = .ok (.dup, 1) := by decide +kernel
theorem dX4_edit_76 : decode cX4_edit 76 = .ok (.iload_n 3, 1) := by decide +kernel
theorem dX4_edit_77 : decode cX4_edit 77 = .ok (.iload 4, 2) := by decide +kernel
theorem dX4_edit_79 : decode cX4_edit 79 = .ok (.iload_n 1, 1) := by decide +kernel
theorem dX4_edit_80 : decode cX4_edit 80 = .ok (.invokespecial 82, 3) := by decide +kernel
theorem dX4_edit_83 : decode cX4_edit 83 = .ok (.astore 6, 2) := by decide +kernel
theorem dX4_edit_85 : decode cX4_edit 85 = .ok (.aload_n 0, 1) := by decide +kernel
theorem dX4_edit_86 : decode cX4_edit 86 = .ok (.getfield 16, 3) := by decide +kernel
theorem dX4_edit_89 : decode cX4_edit 89 = .ok (.iload_n 1, 1) := by decide +kernel
theorem dX4_edit_90 : decode cX4_edit 90 = .ok (.iaload, 1) := by decide +kernel
theorem dX4_edit_91 : decode cX4_edit 91 = .ok (.aload 5, 2) := by decide +kernel
theorem dX4_edit_93 : decode cX4_edit 93 = .ok (.getfield 113, 3) := by decide +kernel
theorem dX4_edit_96 : decode cX4_edit 96 = .ok (.if_icmp .ge 12, 3) := by decide +kernel
theorem dX4_edit_99 : decode cX4_edit 99 = .ok (.aload 5, 2) := by decide +kernel
theorem dX4_edit_101 : decode cX4_edit 101 = .ok (.aload 6, 2) := by decide +kernel
theorem dX4_edit_103 : decode cX4_edit 103 = .ok (.putfield 116, 3) := by decide +kernel
theorem dX4_edit_106 : decode cX4_edit 106 = .ok (.iconst 0, 1) := by decide +kernel
theorem dX4_edit_107 : decode cX4_edit 107 = .ok (.ireturn, 1) := by decide +kernel
theorem dX4_edit_108 : decode cX4_edit 108 = .ok (.aload_n 0, 1) := by decide +kernel
theorem dX4_edit_109 : decode cX4_edit 109 = .ok (.aload 5, 2) := by decide +kernel
theorem dX4_edit_111 : decode cX4_edit 111 = .ok (.aload 6, 2) := by decide +kernel
theorem dX4_edit_113 : decode cX4_edit 113 = .ok (.invokevirtual 120, 3) := by decide +kernel
theorem dX4_edit_116 : decode cX4_edit 116 = .ok (.iconst 1, 1) := by decide +kernel
theorem dX4_edit_117 : decode cX4_edit 117 = .ok (.ireturn, 1) := by decide +kernel
theorem co_mk {k d f : Nat} : sp_co (nI k) (nI d) (nI f) = nI (100 * k + 10 * d + (f + 1)) := by
  unfold sp_co
  rw [show (100 : Int32) = nI 100 from rfl, show (10 : Int32) = nI 10 from rfl, pk_mul, pk_mul, nI_add, nI_add, nI_1]
  rfl
theorem co_parts {k d f : Nat} (hk : k < 4) (hd : d < 3) (hf : f < 6) : ¬ sp_co (nI k) (nI d) (nI f) = -1 ∧ sp_co (nI k) (nI d) (nI f) / 100 = nI k ∧ sp_vd (sp_co (nI k) (nI d) (nI f)) = nI d ∧ sp_ve (sp_co (nI k) (nI d) (nI f)) = nI f := by
  rw [co_mk, vd_nI (by omega), ve_nI (by omega), show (100 : Int32) = nI 100 from rfl, pk_div (by omega) (by decide) (by decide)]
  refine ⟨nI_nm1 (by omega), by congr 1; omega, by congr 1; omega, ?_⟩
  rw [nI_m1 (by omega)]; congr 1; omega
theorem nfull {mm : q_Mem} (hI : Inv mm) (h : sp_K mm < 512) : ¬ 512 ≤ mm 10 0 := by
  rw [hI.K]
  exact nI_ge (b := 512) h (by decide)
theorem ke_X4_edit : wl_V RX4 yX4_edit cX4_edit 7 (some .boolean) 4 := ⟨wd_c_X4_edit, wd_i_X4_edit, wd_s_X4_edit, wd_n_X4, by decide, by decide +kernel⟩
set_option maxHeartbeats 4000000 in
set_option maxRecDepth 100000 in
theorem m_X4_edit (l : Launch) (hflag : l.stackTraces = false) (G : k_G) (Z : Nat → Prop) (ad : k_Ad) (mm : q_Mem) (x y k d : Int32) (hI : Inv mm) (hK1 : sp_K mm < 512) : kx_i l yX4_edit cX4_edit 7 (some .boolean) 7 111 4 19 G Z ad (k_C G ad mm) [.ref (ad 0 0), .int x, .int y, .int k, .int d] (k_po G (sp_edit mm x y k d)) (k_px k_n3 (sp_edit mm x y k d) mm) := by
  refine kx_of (by decide) (Nat.le_of_ble_eq_true rfl) ?_
  intro p e s m args below meth c hx hb hr hF hlk hnt hB ls hl
  obtain ⟨⟨hM, hN⟩, hK, hP, hT⟩ := hB
  have hS : va_S Z s.heap s.heap [] := va_S.rf
  have hl : lv_has ls 7 [(0, .ref (ad 0 0)), (1, .int x), (2, .int y), (3, .int k), (4, .int d)] := hl
  refine lv_iload_n hx hb dX4_edit_0 rfl (lv_at hl 1 rfl) ?_
  refine kx_vS (fr := 6) (lo := 90) (mc1 := 1) (ms1 := 6) (As := [.int x]) (rest := []) hF (m_X4_requireEditor l hflag G Z ad (k_C G ad mm) x) ke_X4_requireEditor wd_l_X4_42 (by decide) hM hN hK hP hT hS rfl hl.1 rfl (Nat.le_of_ble_eq_true rfl) dX4_edit_1 (by decide) hnt hlk (fun E hE => ⟨⟨1, by decide, by rw [sp_edit, if_neg (fun q => hE.2 q.1)], hE.1⟩, rfl, rfl⟩) (by decide) (by decide) (fun ur1 H locs hr1 hM hN hS _ _ => ?_)
  obtain ⟨cE, rfl⟩ := hr1
  replace hM : k_H G ad (k_C G ad mm) H := hM
  replace hN : k_N Z ad (k_C G ad mm) := hN
  obtain ⟨fi, hf6, hfe⟩ := nt_ed cE
  subst hfe
  refine lv_aload_n hx hb dX4_edit_4 rfl (lv_at hl 0 rfl) ?_
  refine lv_iload_n hx hb dX4_edit_5 rfl (lv_at hl 2 rfl) ?_
  refine kx_qV (fr := 6) (lo := 90) (mc1 := 1) (ms1 := 6) (As := [.int y]) (rest := []) hF (m_X4_wayAt l hflag G Z ad mm y hI) ke_X4_wayAt wd_l_X4_96 (by decide) hM hN hK hP hT hS (g_recv hK (hM 0 0 _ rfl) rfl) rfl hl.1 rfl (Nat.le_of_ble_eq_true rfl) dX4_edit_6 (by decide) hnt hlk (fun E hE => ⟨⟨1, by decide, by rw [sp_edit, if_neg (fun q => hE.2 q.2)], hE.1⟩, rfl, rfl⟩) (by decide) (by decide) (fun r2 ur2 H locs hr2 hM hN hS _ _ => ?_)
  obtain ⟨cW, hro, rfl⟩ := hr2
  replace hM : k_H G ad (k_C G ad mm) H := hM
  replace hN : k_N Z ad (k_C G ad mm) := hN
  obtain ⟨wi, hwi, hwe⟩ := nt_wy hI cW
  have hW40 := hI.W40
  have hKK := hI.K512
  subst hwe
  have hwc : (nI wi).toNatClampNeg = wi := nt_c (by omega)
  rw [hwc] at hro
  subst hro
  have hJ : sp_edit mm (nI fi) (nI wi) k d = (if (0 ≤ k ∧ k ≤ 3) ∧ (0 ≤ d ∧ d ≤ 2) then (if k = sp_vk (mm 11 (sp_L mm wi)) ∧ d = sp_vd (mm 11 (sp_L mm wi)) then (0, up2 (up2 mm 19 0 0) 19 0 3) else if mm 6 wi ≤ mm 0 fi then (1, sp_make (up2 mm 19 0 0) wi k d (nI fi)) else (0, up2 (up2 mm 19 0 0) 9 wi (sp_co k d (nI fi)))) else (0, up2 (up2 mm 19 0 0) 19 0 2)) := by
    rw [sp_edit, if_pos (And.intro cE cW), nt_c (by omega), nt_c (by omega)]; rfl
  refine bo_toV (v := .ref (ad 1 wi)) rfl ?_
  refine lv_astore (lv' := [(5, .ref (ad 1 wi)), (0, .ref (ad 0 0)), (1, .int (nI fi)), (2, .int (nI wi)), (3, .int k), (4, .int d)]) hx hb dX4_edit_9 hl (by decide) rfl (fun ls hl => ?_)
  refine lv_iload_n hx hb dX4_edit_11 rfl (lv_at hl 4 rfl) ?_
  refine rc_S (fr := 1) (lo := 22) (As := [.int k]) (rest := []) hF (m_X4_isKind l k) ke_X4_isKind wd_l_X4_54 (by decide) bl_true (fun _ _ _ => trivial) rfl hl.1 rfl (Nat.le_of_ble_eq_true rfl) dX4_edit_12 (by decide) (fun r3 hr3 => ?_)
  refine bo_eq (tgt := 26) hr3 hx hb dX4_edit_15 (by decide) (fun c3 => ?_) (fun c3 => ?_)
  · skip
    exact kx_thr (text := "kind or direction is out of range") hF hflag hP hT k_E_IAE wd_k_X4_58 (by decide) hM hN hK hS hl.1 dX4_edit_26 dX4_edit_29 dX4_edit_30 dX4_edit_32 dX4_edit_35 hnt (by decide) (Nat.le_of_ble_eq_true rfl) (by decide) (by decide) hlk (by decide) (by decide) (⟨2, by decide, by rw [hJ, if_neg (fun q => by first | exact c3 q.1 | exact c4 q.2), up2_twice], rfl⟩)
  · skip
    refine lv_iload hx hb dX4_edit_18 (lv_at hl 5 rfl) ?_
    refine rc_S (fr := 1) (lo := 22) (As := [.int d]) (rest := []) hF (m_X4_isDirection l d) ke_X4_isDirection wd_l_X4_100 (by decide) bl_true (fun _ _ _ => trivial) rfl hl.1 rfl (Nat.le_of_ble_eq_true rfl) dX4_edit_20 (by decide) (fun r4 hr4 => ?_)
    refine bo_ne (tgt := 36) hr4 hx hb dX4_edit_23 (by decide) (fun c4 => ?_) (fun c4 => ?_)
    · skip
      have cR : (0 ≤ k ∧ k ≤ 3) ∧ (0 ≤ d ∧ d ≤ 2) := ⟨c3, c4⟩
      rw [if_pos cR] at hJ
      obtain ⟨ki, hki0, hke⟩ := nt_le (n := 3) (by decide) c3
      subst hke
      obtain ⟨di, hdi0, hde⟩ := nt_le (n := 2) (by decide) c4
      subst hde
      have hki : ki < 4 := by omega
      have hdi : di < 3 := by omega
      refine lv_aload hx hb dX4_edit_36 (lv_at hl 0 rfl) ?_
      refine kr_V (fr := 0) (lo := 0) (As := []) (rest := []) hF (m_X3_kind l G Z ad mm wi hI hwi) ke_X3_kind wd_l_X4_105 (by decide) hM hK hP hT hS (g_recv hK (hM 1 wi _ (kc_w (by assumption))) rfl) rfl hl.1 rfl (Nat.le_of_ble_eq_true rfl) dX4_edit_38 (by decide) (fun r5 hr5 => ?_)
      replace hr5 : r5 = sp_vk (mm 11 (sp_L mm wi)) := hr5
      subst hr5
      refine lv_iload_n hx hb dX4_edit_41 rfl (lv_at hl 4 rfl) ?_
      refine lv_icmp_ne (tgt := 55) hx hb dX4_edit_42 (by decide) (fun c5 => ?_) (fun c5 => ?_)
      · skip
        have hNE : ¬ (nI ki = (sp_vk (mm 11 (sp_L mm wi))) ∧ nI di = (sp_vd (mm 11 (sp_L mm wi)))) := fun q => c5 q.1.symm
        refine lv_aload_n hx hb dX4_edit_55 rfl (lv_at hl 1 rfl) ?_
        refine kr_V (fr := 0) (lo := 0) (As := []) (rest := []) hF (m_X4_isFull l G Z ad mm) ke_X4_isFull wd_l_X4_69 (by decide) hM hK hP hT hS (g_recv hK (hM 0 0 _ rfl) rfl) rfl hl.1 rfl (Nat.le_of_ble_eq_true rfl) dX4_edit_56 (by decide) (fun r6 hr6 => ?_)
        refine bo_eq (tgt := 72) hr6 hx hb dX4_edit_59 (by decide) (fun c7 => ?_) (fun c7 => ?_)
        · skip
          by_cases hg : mm 6 wi ≤ mm 0 fi
          · skip
            replace hM := k_rmH 5 wi hM
            replace hN := k_rmN 5 wi hN
            refine k_new hF hK hM hN hS hT.2.2.2.2 4 (sp_K mm) ((k_rm_o (by simp)).trans (if_neg (Nat.lt_irrefl _))) (ci := 1) (fs := [.int 0, .int 0, .int 0]) rfl inlX0 tyX0 tyX0_ok wd_k_X4_80 wd_a_X0 wd_n_X0 (by decide) (by decide) (by decide) dX4_edit_72 (fun q H hM hN hS => ?_)
            refine lv_dup hx hb dX4_edit_75 rfl ?_
            refine lv_iload_n hx hb dX4_edit_76 rfl (lv_at hl 4 rfl) ?_
            refine lv_iload hx hb dX4_edit_77 (lv_at hl 5 rfl) ?_
            refine lv_iload_n hx hb dX4_edit_79 rfl (lv_at hl 2 rfl) ?_
            refine kx_vI (pX1 := fun _ => False) (post := fun u => u = ((k_ad ad 4 (sp_K mm) q), k_up (k_up (k_rm (k_C G ad mm) 5 wi) 4 (sp_K mm) (.inr (1, [.int 0, .int 0, .int 0]))) 4 (sp_K mm) (.inr (1, [.int (nI ki), .int (nI di), .int (nI fi)])))) (fr := 1) (lo := 24) (mc1 := 0) (ms1 := 0) (b := q) (As := [.int (nI ki), .int (nI di), .int (nI fi)]) (rest := [.ref q]) hF (by have h9 := m_X0_init l hflag G Z (k_ad ad 4 (sp_K mm) q) (k_up (k_rm (k_C G ad mm) 5 wi) 4 (sp_K mm) (.inr (1, [.int 0, .int 0, .int 0]))) 4 (sp_K mm) (nI ki) (nI di) (nI fi) k_up_s; rw [k_ad_s] at h9; exact h9) ke_X0_init wd_l_X4_82 (by decide) hM hN hK hP hT hS rfl hl.1 rfl (Nat.le_of_ble_eq_true rfl) dX4_edit_80 (by decide) hnt hlk (fun E hE => False.elim hE) (by decide) (by decide) (fun u1 H locs hu1 hM hN hS _ _ => ?_)
            subst hu1
            replace hM : k_H G (k_ad ad 4 (sp_K mm) q) (k_up (k_up (k_rm (k_C G ad mm) 5 wi) 4 (sp_K mm) (.inr (1, [.int 0, .int 0, .int 0]))) 4 (sp_K mm) (.inr (1, [.int (nI ki), .int (nI di), .int (nI fi)]))) H := hM
            replace hN : k_N Z (k_ad ad 4 (sp_K mm) q) (k_up (k_up (k_rm (k_C G ad mm) 5 wi) 4 (sp_K mm) (.inr (1, [.int 0, .int 0, .int 0]))) 4 (sp_K mm) (.inr (1, [.int (nI ki), .int (nI di), .int (nI fi)]))) := hN
            rw [k_up_t] at hM hN
            refine lv_astore (lv' := [(6, .ref q), (5, .ref (ad 1 wi)), (0, .ref (ad 0 0)), (1, .int (nI fi)), (2, .int (nI wi)), (3, .int (nI ki)), (4, .int (nI di))]) hx hb dX4_edit_83 hl (by decide) rfl (fun ls hl => ?_)
            refine lv_aload_n hx hb dX4_edit_85 rfl (lv_at hl 2 rfl) ?_
            refine g_get (C := RX4) (T := TX4) (N := 6) (v := .ref (ad 0 2)) hF hK (hM 0 0 _ ((k_up_o (by simp)).trans ((k_rm_o (by simp)).trans rfl))) rfl inlX4 1 (by decide) rfl wd_f_X4_16 rfl dX4_edit_86 ?_
            refine lv_iload_n hx hb dX4_edit_89 rfl (lv_at hl 3 rfl) ?_
            refine g_ald (t0 := 0) (i := fi) hF hK (hM 0 2 _ ((k_up_o (by simp)).trans ((k_rm_o (by simp)).trans rfl))) rfl rfl hf6 (by decide) dX4_edit_90 ?_
            refine bo_to (v := (mm 0 fi)) rfl ?_
            refine lv_aload hx hb dX4_edit_91 (lv_at hl 1 rfl) ?_
            refine g_get (C := RX3) (T := TX3) (N := 8) (v := .int (mm 6 wi)) hF hK (hM 1 wi _ ((k_up_o (by simp)).trans ((k_rm_o (by simp)).trans (kc_w (by assumption))))) rfl inlX3 4 (by decide) rfl wd_f_X4_113 rfl dX4_edit_93 ?_
            refine lv_icmp_ge (tgt := 108) hx hb dX4_edit_96 (by decide) (fun c8 => ?_) (fun c8 => ?_)
            · skip
              refine lv_aload_n hx hb dX4_edit_108 rfl (lv_at hl 2 rfl) ?_
              refine lv_aload hx hb dX4_edit_109 (lv_at hl 1 rfl) ?_
              refine lv_aload hx hb dX4_edit_111 (lv_at hl 0 rfl) ?_
              obtain ⟨pv1, pv2, pv3⟩ := mk_parts (w := wi) (e := fi + 1) (by omega) hki hdi (by omega) (nI_pred fi).symm
              refine kx_vV (C := RX4) (pX1 := fun _ => False) (fr := 3) (lo := 69) (mc1 := 1) (ms1 := 4) (As := [.ref (ad 1 wi), .ref q]) (rest := []) hF (m_X4_addV l hflag G Z ad mm wi q (nI ki) (nI di) (nI fi) hI hwi pv1 pv2 pv3) ke_X4_addVersion wd_l_X4_120 (by decide) hM hN hK hP hT hS (g_recv hK (hM 0 0 _ ((k_up_o (by simp)).trans ((k_rm_o (by simp)).trans rfl))) rfl) rfl hl.1 rfl (Nat.le_of_ble_eq_true rfl) dX4_edit_113 (by decide) hnt hlk (fun E hE => False.elim hE) (by decide) (by decide) (fun u1 H locs hu1 hM hN hS _ _ => ?_)
              obtain ⟨q2, rfl⟩ := hu1
              replace hM : k_H G (k_ad (k_ad ad 4 (sp_K mm) q) 3 (sp_K mm) q2) (k_C G (k_ad (k_ad ad 4 (sp_K mm) q) 3 (sp_K mm) q2) (sp_make mm wi (nI ki) (nI di) (nI fi))) H := hM
              replace hN : k_N Z (k_ad (k_ad ad 4 (sp_K mm) q) 3 (sp_K mm) q2) (k_C G (k_ad (k_ad ad 4 (sp_K mm) q) 3 (sp_K mm) q2) (sp_make mm wi (nI ki) (nI di) (nI fi))) := hN
              refine lv_iconst (v := 1) hx hb dX4_edit_116 (by decide) ?_
              exact kx_zret hx hb hr hlk hM hN hK hS (by decide) (by decide) (by first | exact Or.inl rfl | exact Or.inr rfl) (k_po.of2 (m2 := sp_make (up2 mm 19 0 0) wi (nI ki) (nI di) (nI fi)) (by rw [hJ, if_neg hNE, if_pos hg]) (by rw [mk_19, up2_s]) (by rw [mk_19, kc_19])) dX4_edit_117
            · skip
              exact absurd hg c8
          · skip
            replace hM := k_rmH 5 wi hM
            replace hN := k_rmN 5 wi hN
            refine k_new hF hK hM hN hS hT.2.2.2.2 5 wi k_rm_s (ci := 1) (fs := [.int 0, .int 0, .int 0]) rfl inlX0 tyX0 tyX0_ok wd_k_X4_80 wd_a_X0 wd_n_X0 (by decide) (by decide) (by decide) dX4_edit_72 (fun q H hM hN hS => ?_)
            refine lv_dup hx hb dX4_edit_75 rfl ?_
            refine lv_iload_n hx hb dX4_edit_76 rfl (lv_at hl 4 rfl) ?_
            refine lv_iload hx hb dX4_edit_77 (lv_at hl 5 rfl) ?_
            refine lv_iload_n hx hb dX4_edit_79 rfl (lv_at hl 2 rfl) ?_
            refine kx_vI (pX1 := fun _ => False) (post := fun u => u = ((k_ad ad 5 wi q), k_up (k_up (k_rm (k_C G ad mm) 5 wi) 5 wi (.inr (1, [.int 0, .int 0, .int 0]))) 5 wi (.inr (1, [.int (nI ki), .int (nI di), .int (nI fi)])))) (fr := 1) (lo := 24) (mc1 := 0) (ms1 := 0) (b := q) (As := [.int (nI ki), .int (nI di), .int (nI fi)]) (rest := [.ref q]) hF (by have h9 := m_X0_init l hflag G Z (k_ad ad 5 wi q) (k_up (k_rm (k_C G ad mm) 5 wi) 5 wi (.inr (1, [.int 0, .int 0, .int 0]))) 5 wi (nI ki) (nI di) (nI fi) k_up_s; rw [k_ad_s] at h9; exact h9) ke_X0_init wd_l_X4_82 (by decide) hM hN hK hP hT hS rfl hl.1 rfl (Nat.le_of_ble_eq_true rfl) dX4_edit_80 (by decide) hnt hlk (fun E hE => False.elim hE) (by decide) (by decide) (fun u1 H locs hu1 hM hN hS _ _ => ?_)
            subst hu1
            replace hM : k_H G (k_ad ad 5 wi q) (k_up (k_up (k_rm (k_C G ad mm) 5 wi) 5 wi (.inr (1, [.int 0, .int 0, .int 0]))) 5 wi (.inr (1, [.int (nI ki), .int (nI di), .int (nI fi)]))) H := hM
            replace hN : k_N Z (k_ad ad 5 wi q) (k_up (k_up (k_rm (k_C G ad mm) 5 wi) 5 wi (.inr (1, [.int 0, .int 0, .int 0]))) 5 wi (.inr (1, [.int (nI ki), .int (nI di), .int (nI fi)]))) := hN
            rw [k_up_t] at hM hN
            refine lv_astore (lv' := [(6, .ref q), (5, .ref (ad 1 wi)), (0, .ref (ad 0 0)), (1, .int (nI fi)), (2, .int (nI wi)), (3, .int (nI ki)), (4, .int (nI di))]) hx hb dX4_edit_83 hl (by decide) rfl (fun ls hl => ?_)
            refine lv_aload_n hx hb dX4_edit_85 rfl (lv_at hl 2 rfl) ?_
            refine g_get (C := RX4) (T := TX4) (N := 6) (v := .ref (ad 0 2)) hF hK (hM 0 0 _ ((k_up_o (by simp)).trans ((k_rm_o (by simp)).trans rfl))) rfl inlX4 1 (by decide) rfl wd_f_X4_16 rfl dX4_edit_86 ?_
            refine lv_iload_n hx hb dX4_edit_89 rfl (lv_at hl 3 rfl) ?_
            refine g_ald (t0 := 0) (i := fi) hF hK (hM 0 2 _ ((k_up_o (by simp)).trans ((k_rm_o (by simp)).trans rfl))) rfl rfl hf6 (by decide) dX4_edit_90 ?_
            refine bo_to (v := (mm 0 fi)) rfl ?_
            refine lv_aload hx hb dX4_edit_91 (lv_at hl 1 rfl) ?_
            refine g_get (C := RX3) (T := TX3) (N := 8) (v := .int (mm 6 wi)) hF hK (hM 1 wi _ ((k_up_o (by simp)).trans ((k_rm_o (by simp)).trans (kc_w (by assumption))))) rfl inlX3 4 (by decide) rfl wd_f_X4_113 rfl dX4_edit_93 ?_
            refine lv_icmp_ge (tgt := 108) hx hb dX4_edit_96 (by decide) (fun c8 => ?_) (fun c8 => ?_)
            · skip
              exact absurd c8 hg
            · skip
              refine lv_aload hx hb dX4_edit_99 (lv_at hl 1 rfl) ?_
              refine lv_aload hx hb dX4_edit_101 (lv_at hl 0 rfl) ?_
              obtain ⟨pv0, pv1, pv2, pv3⟩ := co_parts hki hdi hf6
              refine k_put (v := .ref q) hF hK hM hN hS 1 wi ((k_up_o (by simp)).trans ((k_rm_o (by simp)).trans (kc_w hwi))) rfl inlX3 tyX3 tyX3_ok nmX3 6 (by decide) rfl wd_f_X4_116 rfl rfl rfl (by show 6 < 8; decide) dX4_edit_103 (fun H locs hM hN hS => ?_)
              replace hM : k_H G (k_ad ad 5 wi q) (k_up (k_up (k_rm (k_C G ad mm) 5 wi) 5 wi (.inr (1, [.int (nI ki), .int (nI di), .int (nI fi)]))) 1 wi (.inr (4, [.int (mm 2 wi), .int (mm 3 wi), .int (mm 4 wi), .int (mm 5 wi), .int (mm 6 wi), .ref (ad 3 (sp_L mm wi)), .ref q, .ref (ad 2 wi)]))) H := hM
              replace hN : k_N Z (k_ad ad 5 wi q) (k_up (k_up (k_rm (k_C G ad mm) 5 wi) 5 wi (.inr (1, [.int (nI ki), .int (nI di), .int (nI fi)]))) 1 wi (.inr (4, [.int (mm 2 wi), .int (mm 3 wi), .int (mm 4 wi), .int (mm 5 wi), .int (mm 6 wi), .ref (ad 3 (sp_L mm wi)), .ref q, .ref (ad 2 wi)]))) := hN
              rw [kwait (v := sp_co (nI ki) (nI di) (nI fi)) hwi pv0 pv1 pv2 pv3] at hM hN
              refine lv_iconst (v := 0) hx hb dX4_edit_106 (by decide) ?_
              exact kx_zret hx hb hr hlk hM hN hK hS (by decide) (by decide) (by first | exact Or.inl rfl | exact Or.inr rfl) (k_po.of2 (m2 := up2 (up2 mm 19 0 0) 9 wi (sp_co (nI ki) (nI di) (nI fi))) (by rw [hJ, if_neg hNE, if_neg hg]) rfl (by rw [up2_comm (show (19 : Nat) ≠ 9 by decide), kc_19])) dX4_edit_107
        · skip
          exact absurd c7 (nfull hI hK1)
      · skip
        refine lv_aload hx hb dX4_edit_45 (lv_at hl 0 rfl) ?_
        refine kr_V (fr := 0) (lo := 0) (As := []) (rest := []) hF (m_X3_direction l G Z ad mm wi hI hwi) ke_X3_direction wd_l_X4_108 (by decide) hM hK hP hT hS (g_recv hK (hM 1 wi _ (kc_w (by assumption))) rfl) rfl hl.1 rfl (Nat.le_of_ble_eq_true rfl) dX4_edit_47 (by decide) (fun r7 hr7 => ?_)
        replace hr7 : r7 = sp_vd (mm 11 (sp_L mm wi)) := hr7
        subst hr7
        refine lv_iload hx hb dX4_edit_50 (lv_at hl 5 rfl) ?_
        refine lv_icmp_eq (tgt := 62) hx hb dX4_edit_52 (by decide) (fun c6 => ?_) (fun c6 => ?_)
        · skip
          exact kx_thr (text := "there is nothing to change") hF hflag hP hT k_E_ISE wd_k_X4_73 (by decide) hM hN hK hS hl.1 dX4_edit_62 dX4_edit_65 dX4_edit_66 dX4_edit_68 dX4_edit_71 hnt (by decide) (Nat.le_of_ble_eq_true rfl) (by decide) (by decide) hlk (by decide) (by decide) (⟨3, by decide, by rw [hJ, if_pos (And.intro c5.symm c6.symm), up2_twice], rfl⟩)
        · skip
          have hNE : ¬ (nI ki = (sp_vk (mm 11 (sp_L mm wi))) ∧ nI di = (sp_vd (mm 11 (sp_L mm wi)))) := fun q => c6 q.2.symm
          refine lv_aload_n hx hb dX4_edit_55 rfl (lv_at hl 1 rfl) ?_
          refine kr_V (fr := 0) (lo := 0) (As := []) (rest := []) hF (m_X4_isFull l G Z ad mm) ke_X4_isFull wd_l_X4_69 (by decide) hM hK hP hT hS (g_recv hK (hM 0 0 _ rfl) rfl) rfl hl.1 rfl (Nat.le_of_ble_eq_true rfl) dX4_edit_56 (by decide) (fun r8 hr8 => ?_)
          refine bo_eq (tgt := 72) hr8 hx hb dX4_edit_59 (by decide) (fun c7 => ?_) (fun c7 => ?_)
          · skip
            by_cases hg : mm 6 wi ≤ mm 0 fi
            · skip
              replace hM := k_rmH 5 wi hM
              replace hN := k_rmN 5 wi hN
              refine k_new hF hK hM hN hS hT.2.2.2.2 4 (sp_K mm) ((k_rm_o (by simp)).trans (if_neg (Nat.lt_irrefl _))) (ci := 1) (fs := [.int 0, .int 0, .int 0]) rfl inlX0 tyX0 tyX0_ok wd_k_X4_80 wd_a_X0 wd_n_X0 (by decide) (by decide) (by decide) dX4_edit_72 (fun q H hM hN hS => ?_)
              refine lv_dup hx hb dX4_edit_75 rfl ?_
              refine lv_iload_n hx hb dX4_edit_76 rfl (lv_at hl 4 rfl) ?_
              refine lv_iload hx hb dX4_edit_77 (lv_at hl 5 rfl) ?_
              refine lv_iload_n hx hb dX4_edit_79 rfl (lv_at hl 2 rfl) ?_
              refine kx_vI (pX1 := fun _ => False) (post := fun u => u = ((k_ad ad 4 (sp_K mm) q), k_up (k_up (k_rm (k_C G ad mm) 5 wi) 4 (sp_K mm) (.inr (1, [.int 0, .int 0, .int 0]))) 4 (sp_K mm) (.inr (1, [.int (nI ki), .int (nI di), .int (nI fi)])))) (fr := 1) (lo := 24) (mc1 := 0) (ms1 := 0) (b := q) (As := [.int (nI ki), .int (nI di), .int (nI fi)]) (rest := [.ref q]) hF (by have h9 := m_X0_init l hflag G Z (k_ad ad 4 (sp_K mm) q) (k_up (k_rm (k_C G ad mm) 5 wi) 4 (sp_K mm) (.inr (1, [.int 0, .int 0, .int 0]))) 4 (sp_K mm) (nI ki) (nI di) (nI fi) k_up_s; rw [k_ad_s] at h9; exact h9) ke_X0_init wd_l_X4_82 (by decide) hM hN hK hP hT hS rfl hl.1 rfl (Nat.le_of_ble_eq_true rfl) dX4_edit_80 (by decide) hnt hlk (fun E hE => False.elim hE) (by decide) (by decide) (fun u1 H locs hu1 hM hN hS _ _ => ?_)
              subst hu1
              replace hM : k_H G (k_ad ad 4 (sp_K mm) q) (k_up (k_up (k_rm (k_C G ad mm) 5 wi) 4 (sp_K mm) (.inr (1, [.int 0, .int 0, .int 0]))) 4 (sp_K mm) (.inr (1, [.int (nI ki), .int (nI di), .int (nI fi)]))) H := hM
              replace hN : k_N Z (k_ad ad 4 (sp_K mm) q) (k_up (k_up (k_rm (k_C G ad mm) 5 wi) 4 (sp_K mm) (.inr (1, [.int 0, .int 0, .int 0]))) 4 (sp_K mm) (.inr (1, [.int (nI ki), .int (nI di), .int (nI fi)]))) := hN
              rw [k_up_t] at hM hN
              refine lv_astore (lv' := [(6, .ref q), (5, .ref (ad 1 wi)), (0, .ref (ad 0 0)), (1, .int (nI fi)), (2, .int (nI wi)), (3, .int (nI ki)), (4, .int (nI di))]) hx hb dX4_edit_83 hl (by decide) rfl (fun ls hl => ?_)
              refine lv_aload_n hx hb dX4_edit_85 rfl (lv_at hl 2 rfl) ?_
              refine g_get (C := RX4) (T := TX4) (N := 6) (v := .ref (ad 0 2)) hF hK (hM 0 0 _ ((k_up_o (by simp)).trans ((k_rm_o (by simp)).trans rfl))) rfl inlX4 1 (by decide) rfl wd_f_X4_16 rfl dX4_edit_86 ?_
              refine lv_iload_n hx hb dX4_edit_89 rfl (lv_at hl 3 rfl) ?_
              refine g_ald (t0 := 0) (i := fi) hF hK (hM 0 2 _ ((k_up_o (by simp)).trans ((k_rm_o (by simp)).trans rfl))) rfl rfl hf6 (by decide) dX4_edit_90 ?_
              refine bo_to (v := (mm 0 fi)) rfl ?_
              refine lv_aload hx hb dX4_edit_91 (lv_at hl 1 rfl) ?_
              refine g_get (C := RX3) (T := TX3) (N := 8) (v := .int (mm 6 wi)) hF hK (hM 1 wi _ ((k_up_o (by simp)).trans ((k_rm_o (by simp)).trans (kc_w (by assumption))))) rfl inlX3 4 (by decide) rfl wd_f_X4_113 rfl dX4_edit_93 ?_
              refine lv_icmp_ge (tgt := 108) hx hb dX4_edit_96 (by decide) (fun c8 => ?_) (fun c8 => ?_)
              · skip
                refine lv_aload_n hx hb dX4_edit_108 rfl (lv_at hl 2 rfl) ?_
                refine lv_aload hx hb dX4_edit_109 (lv_at hl 1 rfl) ?_
                refine lv_aload hx hb dX4_edit_111 (lv_at hl 0 rfl) ?_
                obtain ⟨pv1, pv2, pv3⟩ := mk_parts (w := wi) (e := fi + 1) (by omega) hki hdi (by omega) (nI_pred fi).symm
                refine kx_vV (C := RX4) (pX1 := fun _ => False) (fr := 3) (lo := 69) (mc1 := 1) (ms1 := 4) (As := [.ref (ad 1 wi), .ref q]) (rest := []) hF (m_X4_addV l hflag G Z ad mm wi q (nI ki) (nI di) (nI fi) hI hwi pv1 pv2 pv3) ke_X4_addVersion wd_l_X4_120 (by decide) hM hN hK hP hT hS (g_recv hK (hM 0 0 _ ((k_up_o (by simp)).trans ((k_rm_o (by simp)).trans rfl))) rfl) rfl hl.1 rfl (Nat.le_of_ble_eq_true rfl) dX4_edit_113 (by decide) hnt hlk (fun E hE => False.elim hE) (by decide) (by decide) (fun u1 H locs hu1 hM hN hS _ _ => ?_)
                obtain ⟨q2, rfl⟩ := hu1
                replace hM : k_H G (k_ad (k_ad ad 4 (sp_K mm) q) 3 (sp_K mm) q2) (k_C G (k_ad (k_ad ad 4 (sp_K mm) q) 3 (sp_K mm) q2) (sp_make mm wi (nI ki) (nI di) (nI fi))) H := hM
                replace hN : k_N Z (k_ad (k_ad ad 4 (sp_K mm) q) 3 (sp_K mm) q2) (k_C G (k_ad (k_ad ad 4 (sp_K mm) q) 3 (sp_K mm) q2) (sp_make mm wi (nI ki) (nI di) (nI fi))) := hN
                refine lv_iconst (v := 1) hx hb dX4_edit_116 (by decide) ?_
                exact kx_zret hx hb hr hlk hM hN hK hS (by decide) (by decide) (by first | exact Or.inl rfl | exact Or.inr rfl) (k_po.of2 (m2 := sp_make (up2 mm 19 0 0) wi (nI ki) (nI di) (nI fi)) (by rw [hJ, if_neg hNE, if_pos hg]) (by rw [mk_19, up2_s]) (by rw [mk_19, kc_19])) dX4_edit_117
              · skip
                exact absurd hg c8
            · skip
              replace hM := k_rmH 5 wi hM
              replace hN := k_rmN 5 wi hN
              refine k_new hF hK hM hN hS hT.2.2.2.2 5 wi k_rm_s (ci := 1) (fs := [.int 0, .int 0, .int 0]) rfl inlX0 tyX0 tyX0_ok wd_k_X4_80 wd_a_X0 wd_n_X0 (by decide) (by decide) (by decide) dX4_edit_72 (fun q H hM hN hS => ?_)
              refine lv_dup hx hb dX4_edit_75 rfl ?_
              refine lv_iload_n hx hb dX4_edit_76 rfl (lv_at hl 4 rfl) ?_
              refine lv_iload hx hb dX4_edit_77 (lv_at hl 5 rfl) ?_
              refine lv_iload_n hx hb dX4_edit_79 rfl (lv_at hl 2 rfl) ?_
              refine kx_vI (pX1 := fun _ => False) (post := fun u => u = ((k_ad ad 5 wi q), k_up (k_up (k_rm (k_C G ad mm) 5 wi) 5 wi (.inr (1, [.int 0, .int 0, .int 0]))) 5 wi (.inr (1, [.int (nI ki), .int (nI di), .int (nI fi)])))) (fr := 1) (lo := 24) (mc1 := 0) (ms1 := 0) (b := q) (As := [.int (nI ki), .int (nI di), .int (nI fi)]) (rest := [.ref q]) hF (by have h9 := m_X0_init l hflag G Z (k_ad ad 5 wi q) (k_up (k_rm (k_C G ad mm) 5 wi) 5 wi (.inr (1, [.int 0, .int 0, .int 0]))) 5 wi (nI ki) (nI di) (nI fi) k_up_s; rw [k_ad_s] at h9; exact h9) ke_X0_init wd_l_X4_82 (by decide) hM hN hK hP hT hS rfl hl.1 rfl (Nat.le_of_ble_eq_true rfl) dX4_edit_80 (by decide) hnt hlk (fun E hE => False.elim hE) (by decide) (by decide) (fun u1 H locs hu1 hM hN hS _ _ => ?_)
              subst hu1
              replace hM : k_H G (k_ad ad 5 wi q) (k_up (k_up (k_rm (k_C G ad mm) 5 wi) 5 wi (.inr (1, [.int 0, .int 0, .int 0]))) 5 wi (.inr (1, [.int (nI ki), .int (nI di), .int (nI fi)]))) H := hM
              replace hN : k_N Z (k_ad ad 5 wi q) (k_up (k_up (k_rm (k_C G ad mm) 5 wi) 5 wi (.inr (1, [.int 0, .int 0, .int 0]))) 5 wi (.inr (1, [.int (nI ki), .int (nI di), .int (nI fi)]))) := hN
              rw [k_up_t] at hM hN
              refine lv_astore (lv' := [(6, .ref q), (5, .ref (ad 1 wi)), (0, .ref (ad 0 0)), (1, .int (nI fi)), (2, .int (nI wi)), (3, .int (nI ki)), (4, .int (nI di))]) hx hb dX4_edit_83 hl (by decide) rfl (fun ls hl => ?_)
              refine lv_aload_n hx hb dX4_edit_85 rfl (lv_at hl 2 rfl) ?_
              refine g_get (C := RX4) (T := TX4) (N := 6) (v := .ref (ad 0 2)) hF hK (hM 0 0 _ ((k_up_o (by simp)).trans ((k_rm_o (by simp)).trans rfl))) rfl inlX4 1 (by decide) rfl wd_f_X4_16 rfl dX4_edit_86 ?_
              refine lv_iload_n hx hb dX4_edit_89 rfl (lv_at hl 3 rfl) ?_
              refine g_ald (t0 := 0) (i := fi) hF hK (hM 0 2 _ ((k_up_o (by simp)).trans ((k_rm_o (by simp)).trans rfl))) rfl rfl hf6 (by decide) dX4_edit_90 ?_
              refine bo_to (v := (mm 0 fi)) rfl ?_
              refine lv_aload hx hb dX4_edit_91 (lv_at hl 1 rfl) ?_
              refine g_get (C := RX3) (T := TX3) (N := 8) (v := .int (mm 6 wi)) hF hK (hM 1 wi _ ((k_up_o (by simp)).trans ((k_rm_o (by simp)).trans (kc_w (by assumption))))) rfl inlX3 4 (by decide) rfl wd_f_X4_113 rfl dX4_edit_93 ?_
              refine lv_icmp_ge (tgt := 108) hx hb dX4_edit_96 (by decide) (fun c8 => ?_) (fun c8 => ?_)
              · skip
                exact absurd c8 hg
              · skip
                refine lv_aload hx hb dX4_edit_99 (lv_at hl 1 rfl) ?_
                refine lv_aload hx hb dX4_edit_101 (lv_at hl 0 rfl) ?_
                obtain ⟨pv0, pv1, pv2, pv3⟩ := co_parts hki hdi hf6
                refine k_put (v := .ref q) hF hK hM hN hS 1 wi ((k_up_o (by simp)).trans ((k_rm_o (by simp)).trans (kc_w hwi))) rfl inlX3 tyX3 tyX3_ok nmX3 6 (by decide) rfl wd_f_X4_116 rfl rfl rfl (by show 6 < 8; decide) dX4_edit_103 (fun H locs hM hN hS => ?_)
                replace hM : k_H G (k_ad ad 5 wi q) (k_up (k_up (k_rm (k_C G ad mm) 5 wi) 5 wi (.inr (1, [.int (nI ki), .int (nI di), .int (nI fi)]))) 1 wi (.inr (4, [.int (mm 2 wi), .int (mm 3 wi), .int (mm 4 wi), .int (mm 5 wi), .int (mm 6 wi), .ref (ad 3 (sp_L mm wi)), .ref q, .ref (ad 2 wi)]))) H := hM
                replace hN : k_N Z (k_ad ad 5 wi q) (k_up (k_up (k_rm (k_C G ad mm) 5 wi) 5 wi (.inr (1, [.int (nI ki), .int (nI di), .int (nI fi)]))) 1 wi (.inr (4, [.int (mm 2 wi), .int (mm 3 wi), .int (mm 4 wi), .int (mm 5 wi), .int (mm 6 wi), .ref (ad 3 (sp_L mm wi)), .ref q, .ref (ad 2 wi)]))) := hN
                rw [kwait (v := sp_co (nI ki) (nI di) (nI fi)) hwi pv0 pv1 pv2 pv3] at hM hN
                refine lv_iconst (v := 0) hx hb dX4_edit_106 (by decide) ?_
                exact kx_zret hx hb hr hlk hM hN hK hS (by decide) (by decide) (by first | exact Or.inl rfl | exact Or.inr rfl) (k_po.of2 (m2 := up2 (up2 mm 19 0 0) 9 wi (sp_co (nI ki) (nI di) (nI fi))) (by rw [hJ, if_neg hNE, if_neg hg]) rfl (by rw [up2_comm (show (19 : Nat) ≠ 9 by decide), kc_19])) dX4_edit_107
          · skip
            exact absurd c7 (nfull hI hK1)
    · skip
      exact kx_thr (text := "kind or direction is out of range") hF hflag hP hT k_E_IAE wd_k_X4_58 (by decide) hM hN hK hS hl.1 dX4_edit_26 dX4_edit_29 dX4_edit_30 dX4_edit_32 dX4_edit_35 hnt (by decide) (Nat.le_of_ble_eq_true rfl) (by decide) (by decide) hlk (by decide) (by decide) (⟨2, by decide, by rw [hJ, if_neg (fun q => by first | exact c3 q.1 | exact c4 q.2), up2_twice], rfl⟩)
end
