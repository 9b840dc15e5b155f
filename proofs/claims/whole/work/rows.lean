section
-- ===== PART A: goes FIRST, ahead of the names: the tables' words, and 'selects' of the private methods out of them =====
/-- a private method of a class that the tables say can be made, by its rows of tables_1 -/
def lw_okq (q : MethodName × Nat) : Prop := (q.1.cls ≠ "java/lang/invoke/MethodHandle" ∧ q.1.cls ≠ "java/lang/invoke/VarHandle") ∧ Cond.instantiable q.1.cls q.2 ∈ tables_1 ∧ Cond.privateMethod q.1 ∈ tables_1 ∧ Cond.instanceMethod q.1 ∈ tables_1
theorem lw_p0 : lw_okq (⟨"DotsOnGrass$Shape", "put", "(II)V"⟩, 3) := ⟨⟨by decide +kernel, by decide +kernel⟩, List.mem_of_getElem? (i := 103) (by decide +kernel), List.mem_of_getElem? (i := 271) (by decide +kernel), List.mem_of_getElem? (i := 272) (by decide +kernel)⟩
theorem lw_p1 : lw_okq (⟨"DotsOnGrass", "draw", "(I)I"⟩, 6) := ⟨⟨by decide +kernel, by decide +kernel⟩, List.mem_of_getElem? (i := 12) (by decide +kernel), List.mem_of_getElem? (i := 275) (by decide +kernel), List.mem_of_getElem? (i := 276) (by decide +kernel)⟩
theorem lw_p2 : lw_okq (⟨"DotsOnGrass$Picture", "hasDotAt", "(II)Z"⟩, 5) := ⟨⟨by decide +kernel, by decide +kernel⟩, List.mem_of_getElem? (i := 27) (by decide +kernel), List.mem_of_getElem? (i := 286) (by decide +kernel), List.mem_of_getElem? (i := 287) (by decide +kernel)⟩
theorem lw_p3 : lw_okq (⟨"DotsOnGrass", "refusalOf", "(II)I"⟩, 6) := ⟨⟨by decide +kernel, by decide +kernel⟩, List.mem_of_getElem? (i := 12) (by decide +kernel), List.mem_of_getElem? (i := 352) (by decide +kernel), List.mem_of_getElem? (i := 353) (by decide +kernel)⟩
theorem lw_p4 : lw_okq (⟨"DotsOnGrass$Plan", "settle", "(LDotsOnGrass$Show;II)V"⟩, 6) := ⟨⟨by decide +kernel, by decide +kernel⟩, List.mem_of_getElem? (i := 168) (by decide +kernel), List.mem_of_getElem? (i := 360) (by decide +kernel), List.mem_of_getElem? (i := 361) (by decide +kernel)⟩
theorem lw_p5 : lw_okq (⟨"DotsOnGrass$Search", "measureSteps", "(LDotsOnGrass$Picture;II)V"⟩, 12) := ⟨⟨by decide +kernel, by decide +kernel⟩, List.mem_of_getElem? (i := 122) (by decide +kernel), List.mem_of_getElem? (i := 382) (by decide +kernel), List.mem_of_getElem? (i := 383) (by decide +kernel)⟩
theorem lw_p6 : lw_okq (⟨"DotsOnGrass$Search", "choose", "(LDotsOnGrass$Picture;IIIII)V"⟩, 12) := ⟨⟨by decide +kernel, by decide +kernel⟩, List.mem_of_getElem? (i := 122) (by decide +kernel), List.mem_of_getElem? (i := 396) (by decide +kernel), List.mem_of_getElem? (i := 397) (by decide +kernel)⟩
theorem lw_p7 : lw_okq (⟨"DotsOnGrass$Search", "remember", "(II)V"⟩, 12) := ⟨⟨by decide +kernel, by decide +kernel⟩, List.mem_of_getElem? (i := 122) (by decide +kernel), List.mem_of_getElem? (i := 400) (by decide +kernel), List.mem_of_getElem? (i := 401) (by decide +kernel)⟩
theorem lw_p8 : lw_okq (⟨"DotsOnGrass$Search", "isBetter", "(II)Z"⟩, 12) := ⟨⟨by decide +kernel, by decide +kernel⟩, List.mem_of_getElem? (i := 122) (by decide +kernel), List.mem_of_getElem? (i := 407) (by decide +kernel), List.mem_of_getElem? (i := 408) (by decide +kernel)⟩
theorem lw_p9 : lw_okq (⟨"DotsOnGrass$Search", "isClear", "(LDotsOnGrass$Picture;II)Z"⟩, 12) := ⟨⟨by decide +kernel, by decide +kernel⟩, List.mem_of_getElem? (i := 122) (by decide +kernel), List.mem_of_getElem? (i := 411) (by decide +kernel), List.mem_of_getElem? (i := 412) (by decide +kernel)⟩
theorem lw_p10 : lw_okq (⟨"DotsOnGrass", "xIn", "(II)I"⟩, 6) := ⟨⟨by decide +kernel, by decide +kernel⟩, List.mem_of_getElem? (i := 12) (by decide +kernel), List.mem_of_getElem? (i := 443) (by decide +kernel), List.mem_of_getElem? (i := 444) (by decide +kernel)⟩
theorem lw_p11 : lw_okq (⟨"DotsOnGrass", "yIn", "(II)I"⟩, 6) := ⟨⟨by decide +kernel, by decide +kernel⟩, List.mem_of_getElem? (i := 12) (by decide +kernel), List.mem_of_getElem? (i := 447) (by decide +kernel), List.mem_of_getElem? (i := 448) (by decide +kernel)⟩
theorem lw_p12 : lw_okq (⟨"DotsOnGrass", "changesIn", "(II)I"⟩, 6) := ⟨⟨by decide +kernel, by decide +kernel⟩, List.mem_of_getElem? (i := 12) (by decide +kernel), List.mem_of_getElem? (i := 467) (by decide +kernel), List.mem_of_getElem? (i := 468) (by decide +kernel)⟩
theorem lw_p13 : lw_okq (⟨"DotsOnGrass", "allDots", "()I"⟩, 6) := ⟨⟨by decide +kernel, by decide +kernel⟩, List.mem_of_getElem? (i := 12) (by decide +kernel), List.mem_of_getElem? (i := 479) (by decide +kernel), List.mem_of_getElem? (i := 480) (by decide +kernel)⟩
theorem lw_p14 : lw_okq (⟨"DotsOnGrass", "allSolos", "()I"⟩, 6) := ⟨⟨by decide +kernel, by decide +kernel⟩, List.mem_of_getElem? (i := 12) (by decide +kernel), List.mem_of_getElem? (i := 483) (by decide +kernel), List.mem_of_getElem? (i := 484) (by decide +kernel)⟩
theorem lw_p15 : lw_okq (⟨"DotsOnGrass", "allSteps", "()I"⟩, 6) := ⟨⟨by decide +kernel, by decide +kernel⟩, List.mem_of_getElem? (i := 12) (by decide +kernel), List.mem_of_getElem? (i := 488) (by decide +kernel), List.mem_of_getElem? (i := 489) (by decide +kernel)⟩
def lw_privs_1 : List (MethodName × Nat) := [(⟨"DotsOnGrass$Shape", "put", "(II)V"⟩, 3), (⟨"DotsOnGrass", "draw", "(I)I"⟩, 6), (⟨"DotsOnGrass$Picture", "hasDotAt", "(II)Z"⟩, 5), (⟨"DotsOnGrass", "refusalOf", "(II)I"⟩, 6), (⟨"DotsOnGrass$Plan", "settle", "(LDotsOnGrass$Show;II)V"⟩, 6), (⟨"DotsOnGrass$Search", "measureSteps", "(LDotsOnGrass$Picture;II)V"⟩, 12), (⟨"DotsOnGrass$Search", "choose", "(LDotsOnGrass$Picture;IIIII)V"⟩, 12), (⟨"DotsOnGrass$Search", "remember", "(II)V"⟩, 12), (⟨"DotsOnGrass$Search", "isBetter", "(II)Z"⟩, 12), (⟨"DotsOnGrass$Search", "isClear", "(LDotsOnGrass$Picture;II)Z"⟩, 12), (⟨"DotsOnGrass", "xIn", "(II)I"⟩, 6), (⟨"DotsOnGrass", "yIn", "(II)I"⟩, 6), (⟨"DotsOnGrass", "changesIn", "(II)I"⟩, 6), (⟨"DotsOnGrass", "allDots", "()I"⟩, 6), (⟨"DotsOnGrass", "allSolos", "()I"⟩, 6), (⟨"DotsOnGrass", "allSteps", "()I"⟩, 6)]
theorem lw_r1 : ∀ q ∈ lw_privs_1, lw_okq q := List.forall_mem_cons.mpr ⟨lw_p0, List.forall_mem_cons.mpr ⟨lw_p1, List.forall_mem_cons.mpr ⟨lw_p2, List.forall_mem_cons.mpr ⟨lw_p3, List.forall_mem_cons.mpr ⟨lw_p4, List.forall_mem_cons.mpr ⟨lw_p5, List.forall_mem_cons.mpr ⟨lw_p6, List.forall_mem_cons.mpr ⟨lw_p7, List.forall_mem_cons.mpr ⟨lw_p8, List.forall_mem_cons.mpr ⟨lw_p9, List.forall_mem_cons.mpr ⟨lw_p10, List.forall_mem_cons.mpr ⟨lw_p11, List.forall_mem_cons.mpr ⟨lw_p12, List.forall_mem_cons.mpr ⟨lw_p13, List.forall_mem_cons.mpr ⟨lw_p14, List.forall_mem_cons.mpr ⟨lw_p15, fun _ h => absurd h List.not_mem_nil⟩⟩⟩⟩⟩⟩⟩⟩⟩⟩⟩⟩⟩⟩⟩⟩
theorem lw_p16 : lw_okq (⟨"DotsOnGrassModel", "isMarcher", "(I)Z"⟩, 18) := ⟨⟨by decide +kernel, by decide +kernel⟩, List.mem_of_getElem? (i := 510) (by decide +kernel), List.mem_of_getElem? (i := 584) (by decide +kernel), List.mem_of_getElem? (i := 585) (by decide +kernel)⟩
theorem lw_p17 : lw_okq (⟨"DotsOnGrassModel", "isPicture", "(I)Z"⟩, 18) := ⟨⟨by decide +kernel, by decide +kernel⟩, List.mem_of_getElem? (i := 510) (by decide +kernel), List.mem_of_getElem? (i := 601) (by decide +kernel), List.mem_of_getElem? (i := 602) (by decide +kernel)⟩
theorem lw_p18 : lw_okq (⟨"DotsOnGrassModel", "lay", "(JJ)V"⟩, 18) := ⟨⟨by decide +kernel, by decide +kernel⟩, List.mem_of_getElem? (i := 510) (by decide +kernel), List.mem_of_getElem? (i := 612) (by decide +kernel), List.mem_of_getElem? (i := 613) (by decide +kernel)⟩
theorem lw_p19 : lw_okq (⟨"DotsOnGrassModel", "comes", "(I)I"⟩, 18) := ⟨⟨by decide +kernel, by decide +kernel⟩, List.mem_of_getElem? (i := 510) (by decide +kernel), List.mem_of_getElem? (i := 616) (by decide +kernel), List.mem_of_getElem? (i := 617) (by decide +kernel)⟩
theorem lw_p20 : lw_okq (⟨"DotsOnGrassModel", "dotMany", "(I)I"⟩, 18) := ⟨⟨by decide +kernel, by decide +kernel⟩, List.mem_of_getElem? (i := 510) (by decide +kernel), List.mem_of_getElem? (i := 620) (by decide +kernel), List.mem_of_getElem? (i := 621) (by decide +kernel)⟩
theorem lw_p21 : lw_okq (⟨"DotsOnGrassModel", "isFree", "(II)Z"⟩, 18) := ⟨⟨by decide +kernel, by decide +kernel⟩, List.mem_of_getElem? (i := 510) (by decide +kernel), List.mem_of_getElem? (i := 624) (by decide +kernel), List.mem_of_getElem? (i := 625) (by decide +kernel)⟩
theorem lw_p22 : lw_okq (⟨"DotsOnGrassModel", "isDot", "(II)Z"⟩, 18) := ⟨⟨by decide +kernel, by decide +kernel⟩, List.mem_of_getElem? (i := 510) (by decide +kernel), List.mem_of_getElem? (i := 642) (by decide +kernel), List.mem_of_getElem? (i := 643) (by decide +kernel)⟩
theorem lw_p23 : lw_okq (⟨"DotsOnGrassModel", "isIll", "(I)Z"⟩, 18) := ⟨⟨by decide +kernel, by decide +kernel⟩, List.mem_of_getElem? (i := 510) (by decide +kernel), List.mem_of_getElem? (i := 669) (by decide +kernel), List.mem_of_getElem? (i := 670) (by decide +kernel)⟩
theorem lw_p24 : lw_okq (⟨"DotsOnGrassModel", "findAll", "()V"⟩, 18) := ⟨⟨by decide +kernel, by decide +kernel⟩, List.mem_of_getElem? (i := 510) (by decide +kernel), List.mem_of_getElem? (i := 673) (by decide +kernel), List.mem_of_getElem? (i := 674) (by decide +kernel)⟩
theorem lw_p25 : lw_okq (⟨"DotsOnGrassModel", "seek", "(I)V"⟩, 18) := ⟨⟨by decide +kernel, by decide +kernel⟩, List.mem_of_getElem? (i := 510) (by decide +kernel), List.mem_of_getElem? (i := 677) (by decide +kernel), List.mem_of_getElem? (i := 678) (by decide +kernel)⟩
theorem lw_p26 : lw_okq (⟨"DotsOnGrassModel", "takes", "(I)V"⟩, 18) := ⟨⟨by decide +kernel, by decide +kernel⟩, List.mem_of_getElem? (i := 510) (by decide +kernel), List.mem_of_getElem? (i := 681) (by decide +kernel), List.mem_of_getElem? (i := 682) (by decide +kernel)⟩
theorem lw_p27 : lw_okq (⟨"DotsOnGrassModel", "areSolosGiven", "(I)Z"⟩, 18) := ⟨⟨by decide +kernel, by decide +kernel⟩, List.mem_of_getElem? (i := 510) (by decide +kernel), List.mem_of_getElem? (i := 685) (by decide +kernel), List.mem_of_getElem? (i := 686) (by decide +kernel)⟩
theorem lw_p28 : lw_okq (⟨"DotsOnGrassModel", "stepTo", "(III)I"⟩, 18) := ⟨⟨by decide +kernel, by decide +kernel⟩, List.mem_of_getElem? (i := 510) (by decide +kernel), List.mem_of_getElem? (i := 689) (by decide +kernel), List.mem_of_getElem? (i := 690) (by decide +kernel)⟩
theorem lw_p29 : lw_okq (⟨"DotsOnGrassModel", "x", "(II)I"⟩, 18) := ⟨⟨by decide +kernel, by decide +kernel⟩, List.mem_of_getElem? (i := 510) (by decide +kernel), List.mem_of_getElem? (i := 693) (by decide +kernel), List.mem_of_getElem? (i := 694) (by decide +kernel)⟩
theorem lw_p30 : lw_okq (⟨"DotsOnGrassModel", "y", "(II)I"⟩, 18) := ⟨⟨by decide +kernel, by decide +kernel⟩, List.mem_of_getElem? (i := 510) (by decide +kernel), List.mem_of_getElem? (i := 700) (by decide +kernel), List.mem_of_getElem? (i := 701) (by decide +kernel)⟩
theorem lw_p31 : lw_okq (⟨"DotsOnGrassModel", "mayGo", "(II)Z"⟩, 18) := ⟨⟨by decide +kernel, by decide +kernel⟩, List.mem_of_getElem? (i := 510) (by decide +kernel), List.mem_of_getElem? (i := 707) (by decide +kernel), List.mem_of_getElem? (i := 708) (by decide +kernel)⟩
def lw_privs_2 : List (MethodName × Nat) := [(⟨"DotsOnGrassModel", "isMarcher", "(I)Z"⟩, 18), (⟨"DotsOnGrassModel", "isPicture", "(I)Z"⟩, 18), (⟨"DotsOnGrassModel", "lay", "(JJ)V"⟩, 18), (⟨"DotsOnGrassModel", "comes", "(I)I"⟩, 18), (⟨"DotsOnGrassModel", "dotMany", "(I)I"⟩, 18), (⟨"DotsOnGrassModel", "isFree", "(II)Z"⟩, 18), (⟨"DotsOnGrassModel", "isDot", "(II)Z"⟩, 18), (⟨"DotsOnGrassModel", "isIll", "(I)Z"⟩, 18), (⟨"DotsOnGrassModel", "findAll", "()V"⟩, 18), (⟨"DotsOnGrassModel", "seek", "(I)V"⟩, 18), (⟨"DotsOnGrassModel", "takes", "(I)V"⟩, 18), (⟨"DotsOnGrassModel", "areSolosGiven", "(I)Z"⟩, 18), (⟨"DotsOnGrassModel", "stepTo", "(III)I"⟩, 18), (⟨"DotsOnGrassModel", "x", "(II)I"⟩, 18), (⟨"DotsOnGrassModel", "y", "(II)I"⟩, 18), (⟨"DotsOnGrassModel", "mayGo", "(II)Z"⟩, 18)]
theorem lw_r2 : ∀ q ∈ lw_privs_2, lw_okq q := List.forall_mem_cons.mpr ⟨lw_p16, List.forall_mem_cons.mpr ⟨lw_p17, List.forall_mem_cons.mpr ⟨lw_p18, List.forall_mem_cons.mpr ⟨lw_p19, List.forall_mem_cons.mpr ⟨lw_p20, List.forall_mem_cons.mpr ⟨lw_p21, List.forall_mem_cons.mpr ⟨lw_p22, List.forall_mem_cons.mpr ⟨lw_p23, List.forall_mem_cons.mpr ⟨lw_p24, List.forall_mem_cons.mpr ⟨lw_p25, List.forall_mem_cons.mpr ⟨lw_p26, List.forall_mem_cons.mpr ⟨lw_p27, List.forall_mem_cons.mpr ⟨lw_p28, List.forall_mem_cons.mpr ⟨lw_p29, List.forall_mem_cons.mpr ⟨lw_p30, List.forall_mem_cons.mpr ⟨lw_p31, fun _ h => absurd h List.not_mem_nil⟩⟩⟩⟩⟩⟩⟩⟩⟩⟩⟩⟩⟩⟩⟩⟩
theorem lw_p32 : lw_okq (⟨"DotsOnGrassModel", "nearest", "(IIIII)I"⟩, 18) := ⟨⟨by decide +kernel, by decide +kernel⟩, List.mem_of_getElem? (i := 510) (by decide +kernel), List.mem_of_getElem? (i := 711) (by decide +kernel), List.mem_of_getElem? (i := 712) (by decide +kernel)⟩
theorem lw_p33 : lw_okq (⟨"DotsOnGrassModel", "present", "()I"⟩, 18) := ⟨⟨by decide +kernel, by decide +kernel⟩, List.mem_of_getElem? (i := 510) (by decide +kernel), List.mem_of_getElem? (i := 720) (by decide +kernel), List.mem_of_getElem? (i := 721) (by decide +kernel)⟩
theorem lw_p34 : lw_okq (⟨"DotsOnGrassModel", "allDots", "()I"⟩, 18) := ⟨⟨by decide +kernel, by decide +kernel⟩, List.mem_of_getElem? (i := 510) (by decide +kernel), List.mem_of_getElem? (i := 751) (by decide +kernel), List.mem_of_getElem? (i := 752) (by decide +kernel)⟩
theorem lw_p35 : lw_okq (⟨"DotsOnGrassModel", "soloMany", "()I"⟩, 18) := ⟨⟨by decide +kernel, by decide +kernel⟩, List.mem_of_getElem? (i := 510) (by decide +kernel), List.mem_of_getElem? (i := 755) (by decide +kernel), List.mem_of_getElem? (i := 756) (by decide +kernel)⟩
theorem lw_p36 : lw_okq (⟨"DotsOnGrassModel", "allSteps", "()I"⟩, 18) := ⟨⟨by decide +kernel, by decide +kernel⟩, List.mem_of_getElem? (i := 510) (by decide +kernel), List.mem_of_getElem? (i := 759) (by decide +kernel), List.mem_of_getElem? (i := 760) (by decide +kernel)⟩
theorem lw_p37 : lw_okq (⟨"DotsOnGrassModel", "moveAll", "(Z)V"⟩, 18) := ⟨⟨by decide +kernel, by decide +kernel⟩, List.mem_of_getElem? (i := 510) (by decide +kernel), List.mem_of_getElem? (i := 767) (by decide +kernel), List.mem_of_getElem? (i := 768) (by decide +kernel)⟩
theorem lw_p38 : lw_okq (⟨"DotsOnGrassModel", "move", "([IIZ)V"⟩, 18) := ⟨⟨by decide +kernel, by decide +kernel⟩, List.mem_of_getElem? (i := 510) (by decide +kernel), List.mem_of_getElem? (i := 771) (by decide +kernel), List.mem_of_getElem? (i := 772) (by decide +kernel)⟩
def lw_privs_3 : List (MethodName × Nat) := [(⟨"DotsOnGrassModel", "nearest", "(IIIII)I"⟩, 18), (⟨"DotsOnGrassModel", "present", "()I"⟩, 18), (⟨"DotsOnGrassModel", "allDots", "()I"⟩, 18), (⟨"DotsOnGrassModel", "soloMany", "()I"⟩, 18), (⟨"DotsOnGrassModel", "allSteps", "()I"⟩, 18), (⟨"DotsOnGrassModel", "moveAll", "(Z)V"⟩, 18), (⟨"DotsOnGrassModel", "move", "([IIZ)V"⟩, 18)]
theorem lw_r3 : ∀ q ∈ lw_privs_3, lw_okq q := List.forall_mem_cons.mpr ⟨lw_p32, List.forall_mem_cons.mpr ⟨lw_p33, List.forall_mem_cons.mpr ⟨lw_p34, List.forall_mem_cons.mpr ⟨lw_p35, List.forall_mem_cons.mpr ⟨lw_p36, List.forall_mem_cons.mpr ⟨lw_p37, List.forall_mem_cons.mpr ⟨lw_p38, fun _ h => absurd h List.not_mem_nil⟩⟩⟩⟩⟩⟩⟩
def lw_privs : List (MethodName × Nat) := lw_privs_1 ++ (lw_privs_2 ++ (lw_privs_3))
def lw_tbl : List Cond := k2_sels lw_privs ++ tables_1
theorem lw_privs_ok : ∀ q ∈ lw_privs, lw_okq q := by
  show ∀ q ∈ lw_privs_1 ++ (lw_privs_2 ++ (lw_privs_3)), lw_okq q
  exact List.forall_mem_append.mpr ⟨lw_r1, List.forall_mem_append.mpr ⟨lw_r2, lw_r3⟩⟩
end
section
def RX0 : String := "DotsOnGrass$Picture"
def TX0 : u_T := fun k => match k with
  | 0 => ("DotsOnGrass$Picture", "x", "[I", true)
  | 1 => ("DotsOnGrass$Picture", "y", "[I", true)
  | 2 => ("DotsOnGrass$Picture", "isSolo", "[Z", true)
  | 3 => ("DotsOnGrass$Picture", "dots", "I", false)
  | _ => ("DotsOnGrass$Picture", "counts", "I", false)
def tyX0 : Nat → FieldType := fun k => match k with
  | 0 => .array .int
  | 1 => .array .int
  | 2 => .array .boolean
  | 3 => .int
  | _ => .int
abbrev wsX00 : List Cond := u_ws RX0 TX0 5
theorem nmX0 : ∀ a, a < 5 → ∀ b, b < 5 → a ≠ b → (TX0 a).2.1 ≠ (TX0 b).2.1 := by decide +kernel
theorem tyX0_ok : ∀ k, k < 5 → parseFieldDescriptor (TX0 k).2.2.1 = some (tyX0 k) := by decide +kernel
abbrev cX0_init : ByteArray := prog_2_method_1_code
def yX0_init : MethodName := ⟨RX0, "<init>", "()V"⟩
abbrev cX0_begin : ByteArray := prog_2_method_2_code
def yX0_begin : MethodName := ⟨RX0, "begin", "(I)V"⟩
abbrev cX0_become : ByteArray := prog_2_method_3_code
def yX0_become : MethodName := ⟨RX0, "become", "(LDotsOnGrass$Picture;)V"⟩
abbrev cX0_hasDot : ByteArray := prog_2_method_4_code
def yX0_hasDot : MethodName := ⟨RX0, "hasDot", "(I)Z"⟩
abbrev cX0_xOf : ByteArray := prog_2_method_5_code
def yX0_xOf : MethodName := ⟨RX0, "xOf", "(I)I"⟩
abbrev cX0_yOf : ByteArray := prog_2_method_6_code
def yX0_yOf : MethodName := ⟨RX0, "yOf", "(I)I"⟩
abbrev cX0_solos : ByteArray := prog_2_method_7_code
def yX0_solos : MethodName := ⟨RX0, "solos", "()I"⟩
abbrev cX0_hasRoomFor : ByteArray := prog_2_method_8_code
def yX0_hasRoomFor : MethodName := ⟨RX0, "hasRoomFor", "(I)Z"⟩
abbrev cX0_canTake : ByteArray := prog_2_method_9_code
def yX0_canTake : MethodName := ⟨RX0, "canTake", "(LDotsOnGrass$Shape;)Z"⟩
abbrev cX0_hasDotAt : ByteArray := prog_2_method_10_code
def yX0_hasDotAt : MethodName := ⟨RX0, "hasDotAt", "(II)Z"⟩
abbrev cX0_take : ByteArray := prog_2_method_11_code
def yX0_take : MethodName := ⟨RX0, "take", "(LDotsOnGrass$Shape;)V"⟩
def RX1 : String := "DotsOnGrass$Plan"
def TX1 : u_T := fun k => match k with
  | 0 => ("DotsOnGrass$Plan", "isFound", "[Z", true)
  | 1 => ("DotsOnGrass$Plan", "greatest", "[I", true)
  | 2 => ("DotsOnGrass$Plan", "sum", "[I", true)
  | 3 => ("DotsOnGrass$Plan", "given", "[[I", true)
  | 4 => ("DotsOnGrass$Plan", "search", "LDotsOnGrass$Search;", true)
  | _ => ("DotsOnGrass$Plan", "known", "I", false)
def tyX1 : Nat → FieldType := fun k => match k with
  | 0 => .array .boolean
  | 1 => .array .int
  | 2 => .array .int
  | 3 => .array (.array .int)
  | 4 => .object "DotsOnGrass$Search"
  | _ => .int
abbrev wsX10 : List Cond := u_ws RX1 TX1 6
theorem nmX1 : ∀ a, a < 6 → ∀ b, b < 6 → a ≠ b → (TX1 a).2.1 ≠ (TX1 b).2.1 := by decide +kernel
theorem tyX1_ok : ∀ k, k < 6 → parseFieldDescriptor (TX1 k).2.2.1 = some (tyX1 k) := by decide +kernel
abbrev cX1_init : ByteArray := prog_3_method_1_code
def yX1_init : MethodName := ⟨RX1, "<init>", "(LDotsOnGrass$Search;)V"⟩
abbrev cX1_forgetFrom : ByteArray := prog_3_method_2_code
def yX1_forgetFrom : MethodName := ⟨RX1, "forgetFrom", "(I)V"⟩
abbrev cX1_dotOf : ByteArray := prog_3_method_3_code
def yX1_dotOf : MethodName := ⟨RX1, "dotOf", "(II)I"⟩
abbrev cX1_settleTo : ByteArray := prog_3_method_4_code
def yX1_settleTo : MethodName := ⟨RX1, "settleTo", "(LDotsOnGrass$Show;II)V"⟩
abbrev cX1_settle : ByteArray := prog_3_method_5_code
def yX1_settle : MethodName := ⟨RX1, "settle", "(LDotsOnGrass$Show;II)V"⟩
def RX2 : String := "DotsOnGrass$Search"
def TX2 : u_T := fun k => match k with
  | 0 => ("DotsOnGrass$Search", "isFound", "Z", false)
  | 1 => ("DotsOnGrass$Search", "bestGreatest", "I", false)
  | 2 => ("DotsOnGrass$Search", "bestSum", "I", false)
  | 3 => ("DotsOnGrass$Search", "best", "[I", true)
  | 4 => ("DotsOnGrass$Search", "who", "[I", true)
  | 5 => ("DotsOnGrass$Search", "turns", "I", false)
  | 6 => ("DotsOnGrass$Search", "startX", "[I", true)
  | 7 => ("DotsOnGrass$Search", "startY", "[I", true)
  | 8 => ("DotsOnGrass$Search", "taken", "[I", true)
  | 9 => ("DotsOnGrass$Search", "steps", "[I", true)
  | 10 => ("DotsOnGrass$Search", "pairs", "[I", true)
  | _ => ("DotsOnGrass$Search", "apart", "I", false)
def tyX2 : Nat → FieldType := fun k => match k with
  | 0 => .boolean
  | 1 => .int
  | 2 => .int
  | 3 => .array .int
  | 4 => .array .int
  | 5 => .int
  | 6 => .array .int
  | 7 => .array .int
  | 8 => .array .int
  | 9 => .array .int
  | 10 => .array .int
  | _ => .int
abbrev wsX20 : List Cond := u_ws RX2 TX2 12
theorem nmX2 : ∀ a, a < 12 → ∀ b, b < 12 → a ≠ b → (TX2 a).2.1 ≠ (TX2 b).2.1 := by decide +kernel
theorem tyX2_ok : ∀ k, k < 12 → parseFieldDescriptor (TX2 k).2.2.1 = some (tyX2 k) := by decide +kernel
abbrev cX2_init : ByteArray := prog_4_method_1_code
def yX2_init : MethodName := ⟨RX2, "<init>", "()V"⟩
abbrev cX2_begin : ByteArray := prog_4_method_2_code
def yX2_begin : MethodName := ⟨RX2, "begin", "(LDotsOnGrass$Show;I)V"⟩
abbrev cX2_startAnywhere : ByteArray := prog_4_method_3_code
def yX2_startAnywhere : MethodName := ⟨RX2, "startAnywhere", "()V"⟩
abbrev cX2_startFrom : ByteArray := prog_4_method_4_code
def yX2_startFrom : MethodName := ⟨RX2, "startFrom", "(LDotsOnGrass$Show;I[I)V"⟩
abbrev cX2_measureSteps : ByteArray := prog_4_method_5_code
def yX2_measureSteps : MethodName := ⟨RX2, "measureSteps", "(LDotsOnGrass$Picture;II)V"⟩
abbrev cX2_tell : ByteArray := prog_4_method_6_code
def yX2_tell : MethodName := ⟨RX2, "tell", "([I)V"⟩
abbrev cX2_choose : ByteArray := prog_4_method_7_code
def yX2_choose : MethodName := ⟨RX2, "choose", "(LDotsOnGrass$Picture;IIIII)V"⟩
abbrev cX2_isBetter : ByteArray := prog_4_method_8_code
def yX2_isBetter : MethodName := ⟨RX2, "isBetter", "(II)Z"⟩
abbrev cX2_remember : ByteArray := prog_4_method_9_code
def yX2_remember : MethodName := ⟨RX2, "remember", "(II)V"⟩
abbrev cX2_isClear : ByteArray := prog_4_method_10_code
def yX2_isClear : MethodName := ⟨RX2, "isClear", "(LDotsOnGrass$Picture;II)Z"⟩
def RX3 : String := "DotsOnGrass$Shape"
def TX3 : u_T := fun k => match k with
  | 0 => ("DotsOnGrass$Shape", "x", "[I", true)
  | 1 => ("DotsOnGrass$Shape", "y", "[I", true)
  | _ => ("DotsOnGrass$Shape", "dots", "I", false)
def tyX3 : Nat → FieldType := fun k => match k with
  | 0 => .array .int
  | 1 => .array .int
  | _ => .int
abbrev wsX30 : List Cond := u_ws RX3 TX3 3
theorem nmX3 : ∀ a, a < 3 → ∀ b, b < 3 → a ≠ b → (TX3 a).2.1 ≠ (TX3 b).2.1 := by decide +kernel
theorem tyX3_ok : ∀ k, k < 3 → parseFieldDescriptor (TX3 k).2.2.1 = some (tyX3 k) := by decide +kernel
abbrev cX3_init : ByteArray := prog_5_method_1_code
def yX3_init : MethodName := ⟨RX3, "<init>", "()V"⟩
abbrev cX3_becomeLine : ByteArray := prog_5_method_2_code
def yX3_becomeLine : MethodName := ⟨RX3, "becomeLine", "(IIIII)V"⟩
abbrev cX3_becomeBlock : ByteArray := prog_5_method_3_code
def yX3_becomeBlock : MethodName := ⟨RX3, "becomeBlock", "(IIIII)V"⟩
abbrev cX3_becomeCorner : ByteArray := prog_5_method_4_code
def yX3_becomeCorner : MethodName := ⟨RX3, "becomeCorner", "(IIII)V"⟩
abbrev cX3_put : ByteArray := prog_5_method_5_code
def yX3_put : MethodName := ⟨RX3, "put", "(II)V"⟩
abbrev cX3_hasTwins : ByteArray := prog_5_method_6_code
def yX3_hasTwins : MethodName := ⟨RX3, "hasTwins", "()Z"⟩
def RX4 : String := "DotsOnGrass$Show"
def TX4 : u_T := fun k => match k with
  | 0 => ("DotsOnGrass$Show", "bounds", "[I", true)
  | 1 => ("DotsOnGrass$Show", "isIll", "[Z", true)
  | 2 => ("DotsOnGrass$Show", "marchers", "I", false)
  | 3 => ("DotsOnGrass$Show", "album", "[LDotsOnGrass$Picture;", true)
  | 4 => ("DotsOnGrass$Show", "pictures", "I", false)
  | 5 => ("DotsOnGrass$Show", "apart", "I", false)
  | 6 => ("DotsOnGrass$Show", "speed", "I", false)
  | 7 => ("DotsOnGrass$Show", "drumsX", "I", false)
  | _ => ("DotsOnGrass$Show", "drumsY", "I", false)
def tyX4 : Nat → FieldType := fun k => match k with
  | 0 => .array .int
  | 1 => .array .boolean
  | 2 => .int
  | 3 => .array (.object "DotsOnGrass$Picture")
  | 4 => .int
  | 5 => .int
  | 6 => .int
  | 7 => .int
  | _ => .int
abbrev wsX40 : List Cond := u_ws RX4 TX4 9
theorem nmX4 : ∀ a, a < 9 → ∀ b, b < 9 → a ≠ b → (TX4 a).2.1 ≠ (TX4 b).2.1 := by decide +kernel
theorem tyX4_ok : ∀ k, k < 9 → parseFieldDescriptor (TX4 k).2.2.1 = some (tyX4 k) := by decide +kernel
abbrev cX4_init : ByteArray := prog_6_method_1_code
def yX4_init : MethodName := ⟨RX4, "<init>", "()V"⟩
abbrev cX4_become : ByteArray := prog_6_method_2_code
def yX4_become : MethodName := ⟨RX4, "become", "(LDotsOnGrass$Show;)V"⟩
abbrev cX4_hasMarcher : ByteArray := prog_6_method_3_code
def yX4_hasMarcher : MethodName := ⟨RX4, "hasMarcher", "(I)Z"⟩
abbrev cX4_hasPicture : ByteArray := prog_6_method_4_code
def yX4_hasPicture : MethodName := ⟨RX4, "hasPicture", "(I)Z"⟩
abbrev cX4_present : ByteArray := prog_6_method_5_code
def yX4_present : MethodName := ⟨RX4, "present", "()I"⟩
def RX5 : String := "DotsOnGrass"
def TX5 : u_T := fun k => match k with
  | 0 => ("DotsOnGrass", "now", "LDotsOnGrass$Show;", true)
  | 1 => ("DotsOnGrass", "kept", "LDotsOnGrass$Show;", true)
  | 2 => ("DotsOnGrass", "isKept", "Z", false)
  | 3 => ("DotsOnGrass", "shape", "LDotsOnGrass$Shape;", true)
  | 4 => ("DotsOnGrass", "plan", "LDotsOnGrass$Plan;", true)
  | _ => ("DotsOnGrass", "holed", "LDotsOnGrass$Plan;", true)
def tyX5 : Nat → FieldType := fun k => match k with
  | 0 => .object "DotsOnGrass$Show"
  | 1 => .object "DotsOnGrass$Show"
  | 2 => .boolean
  | 3 => .object "DotsOnGrass$Shape"
  | 4 => .object "DotsOnGrass$Plan"
  | _ => .object "DotsOnGrass$Plan"
abbrev wsX50 : List Cond := u_ws RX5 TX5 6
theorem nmX5 : ∀ a, a < 6 → ∀ b, b < 6 → a ≠ b → (TX5 a).2.1 ≠ (TX5 b).2.1 := by decide +kernel
theorem tyX5_ok : ∀ k, k < 6 → parseFieldDescriptor (TX5 k).2.2.1 = some (tyX5 k) := by decide +kernel
abbrev cX5_init : ByteArray := prog_1_method_1_code
def yX5_init : MethodName := ⟨RX5, "<init>", "()V"⟩
abbrev cX5_marcher : ByteArray := prog_1_method_2_code
def yX5_marcher : MethodName := ⟨RX5, "marcher", "(I)I"⟩
abbrev cX5_ill : ByteArray := prog_1_method_3_code
def yX5_ill : MethodName := ⟨RX5, "ill", "(IZ)I"⟩
abbrev cX5_bound : ByteArray := prog_1_method_4_code
def yX5_bound : MethodName := ⟨RX5, "bound", "(II)I"⟩
abbrev cX5_picture : ByteArray := prog_1_method_5_code
def yX5_picture : MethodName := ⟨RX5, "picture", "(I)I"⟩
abbrev cX5_counts : ByteArray := prog_1_method_6_code
def yX5_counts : MethodName := ⟨RX5, "counts", "(II)I"⟩
abbrev cX5_line : ByteArray := prog_1_method_7_code
def yX5_line : MethodName := ⟨RX5, "line", "(IIIIII)I"⟩
abbrev cX5_block : ByteArray := prog_1_method_8_code
def yX5_block : MethodName := ⟨RX5, "block", "(IIIIII)I"⟩
abbrev cX5_corner : ByteArray := prog_1_method_9_code
def yX5_corner : MethodName := ⟨RX5, "corner", "(IIIII)I"⟩
abbrev cX5_solo : ByteArray := prog_1_method_10_code
def yX5_solo : MethodName := ⟨RX5, "solo", "(IIZ)I"⟩
abbrev cX5_scrub : ByteArray := prog_1_method_11_code
def yX5_scrub : MethodName := ⟨RX5, "scrub", "(I)I"⟩
abbrev cX5_rule : ByteArray := prog_1_method_12_code
def yX5_rule : MethodName := ⟨RX5, "rule", "(II)I"⟩
abbrev cX5_drums : ByteArray := prog_1_method_13_code
def yX5_drums : MethodName := ⟨RX5, "drums", "(II)I"⟩
abbrev cX5_dot : ByteArray := prog_1_method_14_code
def yX5_dot : MethodName := ⟨RX5, "dot", "(III)I"⟩
abbrev cX5_set : ByteArray := prog_1_method_15_code
def yX5_set : MethodName := ⟨RX5, "set", "(II)I"⟩
abbrev cX5_steps : ByteArray := prog_1_method_16_code
def yX5_steps : MethodName := ⟨RX5, "steps", "(II)I"⟩
abbrev cX5_way : ByteArray := prog_1_method_17_code
def yX5_way : MethodName := ⟨RX5, "way", "(IIII)I"⟩
abbrev cX5_closest : ByteArray := prog_1_method_18_code
def yX5_closest : MethodName := ⟨RX5, "closest", "(III)I"⟩
abbrev cX5_late : ByteArray := prog_1_method_19_code
def yX5_late : MethodName := ⟨RX5, "late", "(II)I"⟩
abbrev cX5_hole : ByteArray := prog_1_method_20_code
def yX5_hole : MethodName := ⟨RX5, "hole", "(I)I"⟩
abbrev cX5_ready : ByteArray := prog_1_method_21_code
def yX5_ready : MethodName := ⟨RX5, "ready", "()I"⟩
abbrev cX5_many : ByteArray := prog_1_method_22_code
def yX5_many : MethodName := ⟨RX5, "many", "(I)I"⟩
abbrev cX5_keep : ByteArray := prog_1_method_23_code
def yX5_keep : MethodName := ⟨RX5, "keep", "()I"⟩
abbrev cX5_back : ByteArray := prog_1_method_24_code
def yX5_back : MethodName := ⟨RX5, "back", "()I"⟩
abbrev cX5_isOutside : ByteArray := prog_1_method_25_code
def yX5_isOutside : MethodName := ⟨RX5, "isOutside", "(III)Z"⟩
abbrev cX5_isOnGrass : ByteArray := prog_1_method_26_code
def yX5_isOnGrass : MethodName := ⟨RX5, "isOnGrass", "(II)Z"⟩
abbrev cX5_leastStep : ByteArray := prog_1_method_27_code
def yX5_leastStep : MethodName := ⟨RX5, "leastStep", "(IIIII)I"⟩
abbrev cX5_cleared : ByteArray := prog_1_method_28_code
def yX5_cleared : MethodName := ⟨RX5, "cleared", "(III)I"⟩
abbrev cX5_draw : ByteArray := prog_1_method_29_code
def yX5_draw : MethodName := ⟨RX5, "draw", "(I)I"⟩
abbrev cX5_refusalOf : ByteArray := prog_1_method_30_code
def yX5_refusalOf : MethodName := ⟨RX5, "refusalOf", "(II)I"⟩
abbrev cX5_xIn : ByteArray := prog_1_method_31_code
def yX5_xIn : MethodName := ⟨RX5, "xIn", "(II)I"⟩
abbrev cX5_yIn : ByteArray := prog_1_method_32_code
def yX5_yIn : MethodName := ⟨RX5, "yIn", "(II)I"⟩
abbrev cX5_changesIn : ByteArray := prog_1_method_33_code
def yX5_changesIn : MethodName := ⟨RX5, "changesIn", "(II)I"⟩
abbrev cX5_allDots : ByteArray := prog_1_method_34_code
def yX5_allDots : MethodName := ⟨RX5, "allDots", "()I"⟩
abbrev cX5_allSolos : ByteArray := prog_1_method_35_code
def yX5_allSolos : MethodName := ⟨RX5, "allSolos", "()I"⟩
abbrev cX5_allSteps : ByteArray := prog_1_method_36_code
def yX5_allSteps : MethodName := ⟨RX5, "allSteps", "()I"⟩
def RX6 : String := "DotsOnGrassModel"
def TX6 : u_T := fun k => match k with
  | 0 => ("DotsOnGrassModel", "numbers", "[I", true)
  | 1 => ("DotsOnGrassModel", "marchers", "[I", true)
  | 2 => ("DotsOnGrassModel", "pictures", "[I", true)
  | 3 => ("DotsOnGrassModel", "dots", "[I", true)
  | 4 => ("DotsOnGrassModel", "isKept", "Z", false)
  | 5 => ("DotsOnGrassModel", "kept", "[I", true)
  | 6 => ("DotsOnGrassModel", "shapeX", "[J", true)
  | 7 => ("DotsOnGrassModel", "shapeY", "[J", true)
  | 8 => ("DotsOnGrassModel", "shapeMany", "I", false)
  | 9 => ("DotsOnGrassModel", "given", "[I", true)
  | 10 => ("DotsOnGrassModel", "isSet", "[Z", true)
  | 11 => ("DotsOnGrassModel", "greatest", "[I", true)
  | 12 => ("DotsOnGrassModel", "sums", "[I", true)
  | 13 => ("DotsOnGrassModel", "tried", "[I", true)
  | 14 => ("DotsOnGrassModel", "who", "[I", true)
  | 15 => ("DotsOnGrassModel", "before", "[I", true)
  | 16 => ("DotsOnGrassModel", "wasSet", "[Z", true)
  | _ => ("DotsOnGrassModel", "place", "I", false)
def tyX6 : Nat → FieldType := fun k => match k with
  | 0 => .array .int
  | 1 => .array .int
  | 2 => .array .int
  | 3 => .array .int
  | 4 => .boolean
  | 5 => .array .int
  | 6 => .array .long
  | 7 => .array .long
  | 8 => .int
  | 9 => .array .int
  | 10 => .array .boolean
  | 11 => .array .int
  | 12 => .array .int
  | 13 => .array .int
  | 14 => .array .int
  | 15 => .array .int
  | 16 => .array .boolean
  | _ => .int
abbrev wsX60 : List Cond := u_ws RX6 TX6 18
theorem nmX6 : ∀ a, a < 18 → ∀ b, b < 18 → a ≠ b → (TX6 a).2.1 ≠ (TX6 b).2.1 := by decide +kernel
theorem tyX6_ok : ∀ k, k < 18 → parseFieldDescriptor (TX6 k).2.2.1 = some (tyX6 k) := by decide +kernel
abbrev cX6_init : ByteArray := prog_8_method_1_code
def yX6_init : MethodName := ⟨RX6, "<init>", "()V"⟩
abbrev cX6_in : ByteArray := prog_8_method_2_code
def yX6_in : MethodName := ⟨RX6, "in", "(JJJ)Z"⟩
abbrev cX6_isMarcher : ByteArray := prog_8_method_3_code
def yX6_isMarcher : MethodName := ⟨RX6, "isMarcher", "(I)Z"⟩
abbrev cX6_isPicture : ByteArray := prog_8_method_4_code
def yX6_isPicture : MethodName := ⟨RX6, "isPicture", "(I)Z"⟩
abbrev cX6_dotMany : ByteArray := prog_8_method_5_code
def yX6_dotMany : MethodName := ⟨RX6, "dotMany", "(I)I"⟩
abbrev cX6_isDot : ByteArray := prog_8_method_6_code
def yX6_isDot : MethodName := ⟨RX6, "isDot", "(II)Z"⟩
abbrev cX6_isIll : ByteArray := prog_8_method_7_code
def yX6_isIll : MethodName := ⟨RX6, "isIll", "(I)Z"⟩
abbrev cX6_marcher : ByteArray := prog_8_method_8_code
def yX6_marcher : MethodName := ⟨RX6, "marcher", "(I)I"⟩
abbrev cX6_ill : ByteArray := prog_8_method_9_code
def yX6_ill : MethodName := ⟨RX6, "ill", "(IZ)I"⟩
abbrev cX6_bound : ByteArray := prog_8_method_10_code
def yX6_bound : MethodName := ⟨RX6, "bound", "(II)I"⟩
abbrev cX6_picture : ByteArray := prog_8_method_11_code
def yX6_picture : MethodName := ⟨RX6, "picture", "(I)I"⟩
abbrev cX6_counts : ByteArray := prog_8_method_12_code
def yX6_counts : MethodName := ⟨RX6, "counts", "(II)I"⟩
abbrev cX6_lay : ByteArray := prog_8_method_13_code
def yX6_lay : MethodName := ⟨RX6, "lay", "(JJ)V"⟩
abbrev cX6_isFree : ByteArray := prog_8_method_14_code
def yX6_isFree : MethodName := ⟨RX6, "isFree", "(II)Z"⟩
abbrev cX6_comes : ByteArray := prog_8_method_15_code
def yX6_comes : MethodName := ⟨RX6, "comes", "(I)I"⟩
abbrev cX6_line : ByteArray := prog_8_method_16_code
def yX6_line : MethodName := ⟨RX6, "line", "(IIIIII)I"⟩
abbrev cX6_block : ByteArray := prog_8_method_17_code
def yX6_block : MethodName := ⟨RX6, "block", "(IIIIII)I"⟩
abbrev cX6_corner : ByteArray := prog_8_method_18_code
def yX6_corner : MethodName := ⟨RX6, "corner", "(IIIII)I"⟩
abbrev cX6_solo : ByteArray := prog_8_method_19_code
def yX6_solo : MethodName := ⟨RX6, "solo", "(IIZ)I"⟩
abbrev cX6_scrub : ByteArray := prog_8_method_20_code
def yX6_scrub : MethodName := ⟨RX6, "scrub", "(I)I"⟩
abbrev cX6_rule : ByteArray := prog_8_method_21_code
def yX6_rule : MethodName := ⟨RX6, "rule", "(II)I"⟩
abbrev cX6_drums : ByteArray := prog_8_method_22_code
def yX6_drums : MethodName := ⟨RX6, "drums", "(II)I"⟩
abbrev cX6_dot : ByteArray := prog_8_method_23_code
def yX6_dot : MethodName := ⟨RX6, "dot", "(III)I"⟩
abbrev cX6_size : ByteArray := prog_8_method_24_code
def yX6_size : MethodName := ⟨RX6, "size", "(I)I"⟩
abbrev cX6_greater : ByteArray := prog_8_method_25_code
def yX6_greater : MethodName := ⟨RX6, "greater", "(II)I"⟩
abbrev cX6_x : ByteArray := prog_8_method_26_code
def yX6_x : MethodName := ⟨RX6, "x", "(II)I"⟩
abbrev cX6_y : ByteArray := prog_8_method_27_code
def yX6_y : MethodName := ⟨RX6, "y", "(II)I"⟩
abbrev cX6_stepTo : ByteArray := prog_8_method_28_code
def yX6_stepTo : MethodName := ⟨RX6, "stepTo", "(III)I"⟩
abbrev cX6_nearest : ByteArray := prog_8_method_29_code
def yX6_nearest : MethodName := ⟨RX6, "nearest", "(IIIII)I"⟩
abbrev cX6_mayGo : ByteArray := prog_8_method_30_code
def yX6_mayGo : MethodName := ⟨RX6, "mayGo", "(II)Z"⟩
abbrev cX6_areSolosGiven : ByteArray := prog_8_method_31_code
def yX6_areSolosGiven : MethodName := ⟨RX6, "areSolosGiven", "(I)Z"⟩
abbrev cX6_takes : ByteArray := prog_8_method_32_code
def yX6_takes : MethodName := ⟨RX6, "takes", "(I)V"⟩
abbrev cX6_seek : ByteArray := prog_8_method_33_code
def yX6_seek : MethodName := ⟨RX6, "seek", "(I)V"⟩
abbrev cX6_findAll : ByteArray := prog_8_method_34_code
def yX6_findAll : MethodName := ⟨RX6, "findAll", "()V"⟩
abbrev cX6_set : ByteArray := prog_8_method_35_code
def yX6_set : MethodName := ⟨RX6, "set", "(II)I"⟩
abbrev cX6_steps : ByteArray := prog_8_method_36_code
def yX6_steps : MethodName := ⟨RX6, "steps", "(II)I"⟩
abbrev cX6_present : ByteArray := prog_8_method_37_code
def yX6_present : MethodName := ⟨RX6, "present", "()I"⟩
abbrev cX6_divisor : ByteArray := prog_8_method_38_code
def yX6_divisor : MethodName := ⟨RX6, "divisor", "(II)I"⟩
abbrev cX6_way : ByteArray := prog_8_method_39_code
def yX6_way : MethodName := ⟨RX6, "way", "(IIII)I"⟩
abbrev cX6_closest : ByteArray := prog_8_method_40_code
def yX6_closest : MethodName := ⟨RX6, "closest", "(III)I"⟩
abbrev cX6_late : ByteArray := prog_8_method_41_code
def yX6_late : MethodName := ⟨RX6, "late", "(II)I"⟩
abbrev cX6_hole : ByteArray := prog_8_method_42_code
def yX6_hole : MethodName := ⟨RX6, "hole", "(I)I"⟩
abbrev cX6_ready : ByteArray := prog_8_method_43_code
def yX6_ready : MethodName := ⟨RX6, "ready", "()I"⟩
abbrev cX6_soloMany : ByteArray := prog_8_method_44_code
def yX6_soloMany : MethodName := ⟨RX6, "soloMany", "()I"⟩
abbrev cX6_allDots : ByteArray := prog_8_method_45_code
def yX6_allDots : MethodName := ⟨RX6, "allDots", "()I"⟩
abbrev cX6_allSteps : ByteArray := prog_8_method_46_code
def yX6_allSteps : MethodName := ⟨RX6, "allSteps", "()I"⟩
abbrev cX6_many : ByteArray := prog_8_method_47_code
def yX6_many : MethodName := ⟨RX6, "many", "(I)I"⟩
abbrev cX6_move : ByteArray := prog_8_method_48_code
def yX6_move : MethodName := ⟨RX6, "move", "([IIZ)V"⟩
abbrev cX6_moveAll : ByteArray := prog_8_method_49_code
def yX6_moveAll : MethodName := ⟨RX6, "moveAll", "(Z)V"⟩
abbrev cX6_keep : ByteArray := prog_8_method_50_code
def yX6_keep : MethodName := ⟨RX6, "keep", "()I"⟩
abbrev cX6_back : ByteArray := prog_8_method_51_code
def yX6_back : MethodName := ⟨RX6, "back", "()I"⟩
def RJ9 : String := "java/lang/Math"
def TJ9 : u_T := fun k => match k with
  | _ => ("", "", "", false)
def tyJ9 : Nat → FieldType := fun k => match k with
  | _ => .int
abbrev wsJ90 : List Cond := u_ws RJ9 TJ9 0
theorem nmJ9 : ∀ a, a < 0 → ∀ b, b < 0 → a ≠ b → (TJ9 a).2.1 ≠ (TJ9 b).2.1 := by decide +kernel
theorem tyJ9_ok : ∀ k, k < 0 → parseFieldDescriptor (TJ9 k).2.2.1 = some (tyJ9 k) := by decide +kernel
abbrev cJ9_abs_0f7a4 : ByteArray := prog_9_method_59_code
def yJ9_abs_0f7a4 : MethodName := ⟨RJ9, "abs", "(I)I"⟩
abbrev cJ9_max_7cf53 : ByteArray := prog_9_method_65_code
def yJ9_max_7cf53 : MethodName := ⟨RJ9, "max", "(II)I"⟩
abbrev cJ9_min_7cf53 : ByteArray := prog_9_method_69_code
def yJ9_min_7cf53 : MethodName := ⟨RJ9, "min", "(II)I"⟩
def RJ10 : String := "java/lang/System"
def TJ10 : u_T := fun k => match k with
  | _ => ("", "", "", false)
def tyJ10 : Nat → FieldType := fun k => match k with
  | _ => .int
abbrev wsJ100 : List Cond := u_ws RJ10 TJ10 0
theorem nmJ10 : ∀ a, a < 0 → ∀ b, b < 0 → a ≠ b → (TJ10 a).2.1 ≠ (TJ10 b).2.1 := by decide +kernel
theorem tyJ10_ok : ∀ k, k < 0 → parseFieldDescriptor (TJ10 k).2.2.1 = some (tyJ10 k) := by decide +kernel
def RJ7 : String := "java/util/Arrays"
def TJ7 : u_T := fun k => match k with
  | _ => ("", "", "", false)
def tyJ7 : Nat → FieldType := fun k => match k with
  | _ => .int
abbrev wsJ70 : List Cond := u_ws RJ7 TJ7 0
theorem nmJ7 : ∀ a, a < 0 → ∀ b, b < 0 → a ≠ b → (TJ7 a).2.1 ≠ (TJ7 b).2.1 := by decide +kernel
theorem tyJ7_ok : ∀ k, k < 0 → parseFieldDescriptor (TJ7 k).2.2.1 = some (tyJ7 k) := by decide +kernel
abbrev cJ7_fill_53178 : ByteArray := prog_11_method_103_code
def yJ7_fill_53178 : MethodName := ⟨RJ7, "fill", "([II)V"⟩
def RL : String := "DotsOnGrassLaw"
abbrev cL_law : ByteArray := code
def yL_law : MethodName := ⟨RL, "law", "([I)Z"⟩
abbrev vwCl : List vw_C := [(RX0, TX0, 5), (RX1, TX1, 6), (RX2, TX2, 12), (RX3, TX3, 3), (RX4, TX4, 9), (RX5, TX5, 6), (RX6, TX6, 18)]
end
section
/-- all good words of the tables -/
def z_TT : List Cond := lw_tbl.filter goodWord
theorem z_mem {w : Cond} (i : Nat) (h : lw_tbl[i]? = some w) (g : goodWord w = true) : w ∈ z_TT := List.mem_filter.mpr ⟨List.mem_of_getElem? h, g⟩
theorem z_mems {l : List Cond} (h : ∀ w ∈ l, w ∈ lw_tbl) (g : l.all goodWord = true) : ∀ w ∈ l, w ∈ z_TT := fun w hw => List.mem_filter.mpr ⟨h w hw, List.all_eq_true.mp g w hw⟩
theorem z_TT_in {w : Cond} (h : w ∈ z_TT) : w ∈ lw_tbl := (List.mem_filter.mp h).1
theorem z_TT_good {w : Cond} (h : w ∈ z_TT) : w ∈ z_TT ∧ ((w.onTables && w.keeps) = true ∨ ∃ ty, w = .arrayClass ty) := ⟨h, good_of_word (List.mem_filter.mp h).2⟩
theorem z_goodV {own C : String} {ix maxL : Nat} {y : MethodName} {bytes : ByteArray} {ret : Option FieldType} (h1 : Cond.methodLink own ix y ∈ z_TT) (h2 : Cond.instanceMethod y ∈ z_TT) (h3 : Cond.selects C y y ∈ z_TT) (h4 : Cond.initialized C ∈ z_TT) (h5 : Cond.code y bytes maxL ret ∈ z_TT) : GoodIn z_TT (wsV own ix C y (.code y bytes maxL ret :: z_TT)) := by
  intro w hw
  unfold wsV at hw
  rcases List.mem_append.mp hw with h | h
  · simp only [List.mem_cons, List.not_mem_nil, or_false] at h
    rcases h with rfl | rfl | rfl | rfl
    · exact z_TT_good h1
    · exact z_TT_good h2
    · exact z_TT_good h3
    · exact z_TT_good h4
  · rcases List.mem_cons.mp h with rfl | h
    · exact z_TT_good h5
    · exact z_TT_good h
theorem z_goodS {own : String} {ix maxL : Nat} {y : MethodName} {bytes : ByteArray} {ret : Option FieldType} (h1 : Cond.methodLink own ix y ∈ z_TT) (h2 : Cond.static y ∈ z_TT) (h4 : Cond.initialized y.cls ∈ z_TT) (h5 : Cond.code y bytes maxL ret ∈ z_TT) : GoodIn z_TT (va_wsS own ix y (.code y bytes maxL ret :: z_TT)) := by
  intro w hw
  unfold va_wsS at hw
  rcases List.mem_append.mp hw with h | h
  · simp only [List.mem_cons, List.not_mem_nil, or_false] at h
    rcases h with rfl | rfl | rfl
    · exact z_TT_good h1
    · exact z_TT_good h2
    · exact z_TT_good h4
  · rcases List.mem_cons.mp h with rfl | h
    · exact z_TT_good h5
    · exact z_TT_good h
theorem z_goodN {maxL : Nat} {y : MethodName} {bytes : ByteArray} {ret : Option FieldType} (h5 : Cond.code y bytes maxL ret ∈ z_TT) : GoodIn z_TT (.code y bytes maxL ret :: z_TT) := by
  intro w hw
  rcases List.mem_cons.mp hw with rfl | h
  · exact z_TT_good h5
  · exact z_TT_good h
theorem in_X0 : ∀ w ∈ wsX00, w ∈ z_TT := z_mems (by decide +kernel) (by decide +kernel)
theorem in_X1 : ∀ w ∈ wsX10, w ∈ z_TT := z_mems (by decide +kernel) (by decide +kernel)
theorem in_X2 : ∀ w ∈ wsX20, w ∈ z_TT := z_mems (by decide +kernel) (by decide +kernel)
theorem in_X3 : ∀ w ∈ wsX30, w ∈ z_TT := z_mems (by decide +kernel) (by decide +kernel)
theorem in_X4 : ∀ w ∈ wsX40, w ∈ z_TT := z_mems (by decide +kernel) (by decide +kernel)
theorem in_X5 : ∀ w ∈ wsX50, w ∈ z_TT := z_mems (by decide +kernel) (by decide +kernel)
theorem in_X6 : ∀ w ∈ wsX60, w ∈ z_TT := z_mems (by decide +kernel) (by decide +kernel)
theorem tw_0 : (Cond.selects "DotsOnGrass$Shape" ⟨"DotsOnGrass$Shape", "put", "(II)V"⟩ ⟨"DotsOnGrass$Shape", "put", "(II)V"⟩ : Cond) ∈ z_TT := z_mem 0 (by decide +kernel) (by decide +kernel)
theorem tw_1 : (Cond.selects "DotsOnGrass" ⟨"DotsOnGrass", "draw", "(I)I"⟩ ⟨"DotsOnGrass", "draw", "(I)I"⟩ : Cond) ∈ z_TT := z_mem 1 (by decide +kernel) (by decide +kernel)
theorem tw_2 : (Cond.selects "DotsOnGrass$Picture" ⟨"DotsOnGrass$Picture", "hasDotAt", "(II)Z"⟩ ⟨"DotsOnGrass$Picture", "hasDotAt", "(II)Z"⟩ : Cond) ∈ z_TT := z_mem 2 (by decide +kernel) (by decide +kernel)
theorem tw_3 : (Cond.selects "DotsOnGrass" ⟨"DotsOnGrass", "refusalOf", "(II)I"⟩ ⟨"DotsOnGrass", "refusalOf", "(II)I"⟩ : Cond) ∈ z_TT := z_mem 3 (by decide +kernel) (by decide +kernel)
theorem tw_4 : (Cond.selects "DotsOnGrass$Plan" ⟨"DotsOnGrass$Plan", "settle", "(LDotsOnGrass$Show;II)V"⟩ ⟨"DotsOnGrass$Plan", "settle", "(LDotsOnGrass$Show;II)V"⟩ : Cond) ∈ z_TT := z_mem 4 (by decide +kernel) (by decide +kernel)
theorem tw_5 : (Cond.selects "DotsOnGrass$Search" ⟨"DotsOnGrass$Search", "measureSteps", "(LDotsOnGrass$Picture;II)V"⟩ ⟨"DotsOnGrass$Search", "measureSteps", "(LDotsOnGrass$Picture;II)V"⟩ : Cond) ∈ z_TT := z_mem 5 (by decide +kernel) (by decide +kernel)
theorem tw_6 : (Cond.selects "DotsOnGrass$Search" ⟨"DotsOnGrass$Search", "choose", "(LDotsOnGrass$Picture;IIIII)V"⟩ ⟨"DotsOnGrass$Search", "choose", "(LDotsOnGrass$Picture;IIIII)V"⟩ : Cond) ∈ z_TT := z_mem 6 (by decide +kernel) (by decide +kernel)
theorem tw_7 : (Cond.selects "DotsOnGrass$Search" ⟨"DotsOnGrass$Search", "remember", "(II)V"⟩ ⟨"DotsOnGrass$Search", "remember", "(II)V"⟩ : Cond) ∈ z_TT := z_mem 7 (by decide +kernel) (by decide +kernel)
theorem tw_8 : (Cond.selects "DotsOnGrass$Search" ⟨"DotsOnGrass$Search", "isBetter", "(II)Z"⟩ ⟨"DotsOnGrass$Search", "isBetter", "(II)Z"⟩ : Cond) ∈ z_TT := z_mem 8 (by decide +kernel) (by decide +kernel)
theorem tw_9 : (Cond.selects "DotsOnGrass$Search" ⟨"DotsOnGrass$Search", "isClear", "(LDotsOnGrass$Picture;II)Z"⟩ ⟨"DotsOnGrass$Search", "isClear", "(LDotsOnGrass$Picture;II)Z"⟩ : Cond) ∈ z_TT := z_mem 9 (by decide +kernel) (by decide +kernel)
theorem tw_10 : (Cond.selects "DotsOnGrass" ⟨"DotsOnGrass", "xIn", "(II)I"⟩ ⟨"DotsOnGrass", "xIn", "(II)I"⟩ : Cond) ∈ z_TT := z_mem 10 (by decide +kernel) (by decide +kernel)
theorem tw_11 : (Cond.selects "DotsOnGrass" ⟨"DotsOnGrass", "yIn", "(II)I"⟩ ⟨"DotsOnGrass", "yIn", "(II)I"⟩ : Cond) ∈ z_TT := z_mem 11 (by decide +kernel) (by decide +kernel)
theorem tw_12 : (Cond.selects "DotsOnGrass" ⟨"DotsOnGrass", "changesIn", "(II)I"⟩ ⟨"DotsOnGrass", "changesIn", "(II)I"⟩ : Cond) ∈ z_TT := z_mem 12 (by decide +kernel) (by decide +kernel)
theorem tw_13 : (Cond.selects "DotsOnGrass" ⟨"DotsOnGrass", "allDots", "()I"⟩ ⟨"DotsOnGrass", "allDots", "()I"⟩ : Cond) ∈ z_TT := z_mem 13 (by decide +kernel) (by decide +kernel)
theorem tw_14 : (Cond.selects "DotsOnGrass" ⟨"DotsOnGrass", "allSolos", "()I"⟩ ⟨"DotsOnGrass", "allSolos", "()I"⟩ : Cond) ∈ z_TT := z_mem 14 (by decide +kernel) (by decide +kernel)
theorem tw_15 : (Cond.selects "DotsOnGrass" ⟨"DotsOnGrass", "allSteps", "()I"⟩ ⟨"DotsOnGrass", "allSteps", "()I"⟩ : Cond) ∈ z_TT := z_mem 15 (by decide +kernel) (by decide +kernel)
theorem tw_16 : (Cond.selects "DotsOnGrassModel" ⟨"DotsOnGrassModel", "isMarcher", "(I)Z"⟩ ⟨"DotsOnGrassModel", "isMarcher", "(I)Z"⟩ : Cond) ∈ z_TT := z_mem 16 (by decide +kernel) (by decide +kernel)
theorem tw_17 : (Cond.selects "DotsOnGrassModel" ⟨"DotsOnGrassModel", "isPicture", "(I)Z"⟩ ⟨"DotsOnGrassModel", "isPicture", "(I)Z"⟩ : Cond) ∈ z_TT := z_mem 17 (by decide +kernel) (by decide +kernel)
theorem tw_18 : (Cond.selects "DotsOnGrassModel" ⟨"DotsOnGrassModel", "lay", "(JJ)V"⟩ ⟨"DotsOnGrassModel", "lay", "(JJ)V"⟩ : Cond) ∈ z_TT := z_mem 18 (by decide +kernel) (by decide +kernel)
theorem tw_19 : (Cond.selects "DotsOnGrassModel" ⟨"DotsOnGrassModel", "comes", "(I)I"⟩ ⟨"DotsOnGrassModel", "comes", "(I)I"⟩ : Cond) ∈ z_TT := z_mem 19 (by decide +kernel) (by decide +kernel)
theorem tw_20 : (Cond.selects "DotsOnGrassModel" ⟨"DotsOnGrassModel", "dotMany", "(I)I"⟩ ⟨"DotsOnGrassModel", "dotMany", "(I)I"⟩ : Cond) ∈ z_TT := z_mem 20 (by decide +kernel) (by decide +kernel)
theorem tw_21 : (Cond.selects "DotsOnGrassModel" ⟨"DotsOnGrassModel", "isFree", "(II)Z"⟩ ⟨"DotsOnGrassModel", "isFree", "(II)Z"⟩ : Cond) ∈ z_TT := z_mem 21 (by decide +kernel) (by decide +kernel)
theorem tw_22 : (Cond.selects "DotsOnGrassModel" ⟨"DotsOnGrassModel", "isDot", "(II)Z"⟩ ⟨"DotsOnGrassModel", "isDot", "(II)Z"⟩ : Cond) ∈ z_TT := z_mem 22 (by decide +kernel) (by decide +kernel)
theorem tw_23 : (Cond.selects "DotsOnGrassModel" ⟨"DotsOnGrassModel", "isIll", "(I)Z"⟩ ⟨"DotsOnGrassModel", "isIll", "(I)Z"⟩ : Cond) ∈ z_TT := z_mem 23 (by decide +kernel) (by decide +kernel)
theorem tw_24 : (Cond.selects "DotsOnGrassModel" ⟨"DotsOnGrassModel", "findAll", "()V"⟩ ⟨"DotsOnGrassModel", "findAll", "()V"⟩ : Cond) ∈ z_TT := z_mem 24 (by decide +kernel) (by decide +kernel)
theorem tw_25 : (Cond.selects "DotsOnGrassModel" ⟨"DotsOnGrassModel", "seek", "(I)V"⟩ ⟨"DotsOnGrassModel", "seek", "(I)V"⟩ : Cond) ∈ z_TT := z_mem 25 (by decide +kernel) (by decide +kernel)
theorem tw_26 : (Cond.selects "DotsOnGrassModel" ⟨"DotsOnGrassModel", "takes", "(I)V"⟩ ⟨"DotsOnGrassModel", "takes", "(I)V"⟩ : Cond) ∈ z_TT := z_mem 26 (by decide +kernel) (by decide +kernel)
theorem tw_27 : (Cond.selects "DotsOnGrassModel" ⟨"DotsOnGrassModel", "areSolosGiven", "(I)Z"⟩ ⟨"DotsOnGrassModel", "areSolosGiven", "(I)Z"⟩ : Cond) ∈ z_TT := z_mem 27 (by decide +kernel) (by decide +kernel)
theorem tw_28 : (Cond.selects "DotsOnGrassModel" ⟨"DotsOnGrassModel", "stepTo", "(III)I"⟩ ⟨"DotsOnGrassModel", "stepTo", "(III)I"⟩ : Cond) ∈ z_TT := z_mem 28 (by decide +kernel) (by decide +kernel)
theorem tw_29 : (Cond.selects "DotsOnGrassModel" ⟨"DotsOnGrassModel", "x", "(II)I"⟩ ⟨"DotsOnGrassModel", "x", "(II)I"⟩ : Cond) ∈ z_TT := z_mem 29 (by decide +kernel) (by decide +kernel)
theorem tw_30 : (Cond.selects "DotsOnGrassModel" ⟨"DotsOnGrassModel", "y", "(II)I"⟩ ⟨"DotsOnGrassModel", "y", "(II)I"⟩ : Cond) ∈ z_TT := z_mem 30 (by decide +kernel) (by decide +kernel)
theorem tw_31 : (Cond.selects "DotsOnGrassModel" ⟨"DotsOnGrassModel", "mayGo", "(II)Z"⟩ ⟨"DotsOnGrassModel", "mayGo", "(II)Z"⟩ : Cond) ∈ z_TT := z_mem 31 (by decide +kernel) (by decide +kernel)
theorem tw_32 : (Cond.selects "DotsOnGrassModel" ⟨"DotsOnGrassModel", "nearest", "(IIIII)I"⟩ ⟨"DotsOnGrassModel", "nearest", "(IIIII)I"⟩ : Cond) ∈ z_TT := z_mem 32 (by decide +kernel) (by decide +kernel)
theorem tw_33 : (Cond.selects "DotsOnGrassModel" ⟨"DotsOnGrassModel", "present", "()I"⟩ ⟨"DotsOnGrassModel", "present", "()I"⟩ : Cond) ∈ z_TT := z_mem 33 (by decide +kernel) (by decide +kernel)
theorem tw_34 : (Cond.selects "DotsOnGrassModel" ⟨"DotsOnGrassModel", "allDots", "()I"⟩ ⟨"DotsOnGrassModel", "allDots", "()I"⟩ : Cond) ∈ z_TT := z_mem 34 (by decide +kernel) (by decide +kernel)
theorem tw_35 : (Cond.selects "DotsOnGrassModel" ⟨"DotsOnGrassModel", "soloMany", "()I"⟩ ⟨"DotsOnGrassModel", "soloMany", "()I"⟩ : Cond) ∈ z_TT := z_mem 35 (by decide +kernel) (by decide +kernel)
theorem tw_36 : (Cond.selects "DotsOnGrassModel" ⟨"DotsOnGrassModel", "allSteps", "()I"⟩ ⟨"DotsOnGrassModel", "allSteps", "()I"⟩ : Cond) ∈ z_TT := z_mem 36 (by decide +kernel) (by decide +kernel)
theorem tw_37 : (Cond.selects "DotsOnGrassModel" ⟨"DotsOnGrassModel", "moveAll", "(Z)V"⟩ ⟨"DotsOnGrassModel", "moveAll", "(Z)V"⟩ : Cond) ∈ z_TT := z_mem 37 (by decide +kernel) (by decide +kernel)
theorem tw_38 : (Cond.selects "DotsOnGrassModel" ⟨"DotsOnGrassModel", "move", "([IIZ)V"⟩ ⟨"DotsOnGrassModel", "move", "([IIZ)V"⟩ : Cond) ∈ z_TT := z_mem 38 (by decide +kernel) (by decide +kernel)
theorem tw_39 : ((Jvm.Cond.initialized "DotsOnGrassLaw") : Cond) ∈ z_TT := z_mem 39 (by decide +kernel) (by decide +kernel)
theorem tw_40 : ((Jvm.Cond.initialized "DotsOnGrass") : Cond) ∈ z_TT := z_mem 40 (by decide +kernel) (by decide +kernel)
theorem tw_41 : ((Jvm.Cond.initialized "DotsOnGrass$Show") : Cond) ∈ z_TT := z_mem 41 (by decide +kernel) (by decide +kernel)
theorem tw_42 : ((Jvm.Cond.initialized "DotsOnGrass$Picture") : Cond) ∈ z_TT := z_mem 42 (by decide +kernel) (by decide +kernel)
theorem tw_43 : ((Jvm.Cond.initialized "DotsOnGrass$Shape") : Cond) ∈ z_TT := z_mem 43 (by decide +kernel) (by decide +kernel)
theorem tw_44 : ((Jvm.Cond.initialized "DotsOnGrass$Search") : Cond) ∈ z_TT := z_mem 44 (by decide +kernel) (by decide +kernel)
theorem tw_45 : ((Jvm.Cond.initialized "DotsOnGrass$Plan") : Cond) ∈ z_TT := z_mem 45 (by decide +kernel) (by decide +kernel)
theorem tw_46 : ((Jvm.Cond.initialized "DotsOnGrassModel") : Cond) ∈ z_TT := z_mem 46 (by decide +kernel) (by decide +kernel)
theorem tw_47 : ((Jvm.Cond.initialized "java/lang/Math") : Cond) ∈ z_TT := z_mem 47 (by decide +kernel) (by decide +kernel)
theorem tw_48 : ((Jvm.Cond.initialized "java/util/Arrays") : Cond) ∈ z_TT := z_mem 48 (by decide +kernel) (by decide +kernel)
theorem tw_49 : ((Jvm.Cond.initialized "java/lang/System") : Cond) ∈ z_TT := z_mem 49 (by decide +kernel) (by decide +kernel)
theorem tw_50 : ((Jvm.Cond.classLink "DotsOnGrassLaw" (7 : Nat) "DotsOnGrass") : Cond) ∈ z_TT := z_mem 50 (by decide +kernel) (by decide +kernel)
theorem tw_51 : ((Jvm.Cond.instantiable "DotsOnGrass" (6 : Nat)) : Cond) ∈ z_TT := z_mem 51 (by decide +kernel) (by decide +kernel)
theorem tw_52 : ((Jvm.Cond.methodLink "DotsOnGrassLaw" (9 : Nat) ({ cls := "DotsOnGrass", name := "<init>", desc := "()V" } : Jvm.MethodName)) : Cond) ∈ z_TT := z_mem 52 (by decide +kernel) (by decide +kernel)
theorem tw_53 : ((Jvm.Cond.instanceMethod ({ cls := "DotsOnGrass", name := "<init>", desc := "()V" } : Jvm.MethodName)) : Cond) ∈ z_TT := z_mem 53 (by decide +kernel) (by decide +kernel)
theorem tw_54 : ((Jvm.Cond.code ({ cls := "DotsOnGrass", name := "<init>", desc := "()V" } : Jvm.MethodName) prog_1_method_1_code (2 : Nat) (Option.none : Option Jvm.ClassFile.FieldType)) : Cond) ∈ z_TT := z_mem 54 (by decide +kernel) (by decide +kernel)
theorem tw_55 : ((Jvm.Cond.methodLink "DotsOnGrass" (1 : Nat) ({ cls := "java/lang/Object", name := "<init>", desc := "()V" } : Jvm.MethodName)) : Cond) ∈ z_TT := z_mem 55 (by decide +kernel) (by decide +kernel)
theorem tw_56 : ((Jvm.Cond.instanceMethod ({ cls := "java/lang/Object", name := "<init>", desc := "()V" } : Jvm.MethodName)) : Cond) ∈ z_TT := z_mem 56 (by decide +kernel) (by decide +kernel)
theorem tw_57 : ((Jvm.Cond.code ({ cls := "java/lang/Object", name := "<init>", desc := "()V" } : Jvm.MethodName) object_method_1_code (1 : Nat) (Option.none : Option Jvm.ClassFile.FieldType)) : Cond) ∈ z_TT := z_mem 57 (by decide +kernel) (by decide +kernel)
theorem tw_58 : ((Jvm.Cond.classLink "DotsOnGrass" (7 : Nat) "DotsOnGrass$Show") : Cond) ∈ z_TT := z_mem 58 (by decide +kernel) (by decide +kernel)
theorem tw_59 : ((Jvm.Cond.instantiable "DotsOnGrass$Show" (9 : Nat)) : Cond) ∈ z_TT := z_mem 59 (by decide +kernel) (by decide +kernel)
theorem tw_60 : ((Jvm.Cond.methodLink "DotsOnGrass" (9 : Nat) ({ cls := "DotsOnGrass$Show", name := "<init>", desc := "()V" } : Jvm.MethodName)) : Cond) ∈ z_TT := z_mem 60 (by decide +kernel) (by decide +kernel)
theorem tw_61 : ((Jvm.Cond.instanceMethod ({ cls := "DotsOnGrass$Show", name := "<init>", desc := "()V" } : Jvm.MethodName)) : Cond) ∈ z_TT := z_mem 61 (by decide +kernel) (by decide +kernel)
theorem tw_62 : ((Jvm.Cond.code ({ cls := "DotsOnGrass$Show", name := "<init>", desc := "()V" } : Jvm.MethodName) prog_6_method_1_code (2 : Nat) (Option.none : Option Jvm.ClassFile.FieldType)) : Cond) ∈ z_TT := z_mem 62 (by decide +kernel) (by decide +kernel)
theorem tw_63 : ((Jvm.Cond.methodLink "DotsOnGrass$Show" (3 : Nat) ({ cls := "java/lang/Object", name := "<init>", desc := "()V" } : Jvm.MethodName)) : Cond) ∈ z_TT := z_mem 63 (by decide +kernel) (by decide +kernel)
theorem tw_64 : ((Jvm.Cond.classLink "DotsOnGrass$Show" (19 : Nat) "DotsOnGrass$Picture") : Cond) ∈ z_TT := z_mem 64 (by decide +kernel) (by decide +kernel)
theorem tw_66 : ((Jvm.Cond.instantiable "DotsOnGrass$Picture" (5 : Nat)) : Cond) ∈ z_TT := z_mem 66 (by decide +kernel) (by decide +kernel)
theorem tw_68 : ((Jvm.Cond.instanceMethod ({ cls := "DotsOnGrass$Picture", name := "<init>", desc := "()V" } : Jvm.MethodName)) : Cond) ∈ z_TT := z_mem 68 (by decide +kernel) (by decide +kernel)
theorem tw_69 : ((Jvm.Cond.code ({ cls := "DotsOnGrass$Picture", name := "<init>", desc := "()V" } : Jvm.MethodName) prog_2_method_1_code (1 : Nat) (Option.none : Option Jvm.ClassFile.FieldType)) : Cond) ∈ z_TT := z_mem 69 (by decide +kernel) (by decide +kernel)
theorem tw_70 : ((Jvm.Cond.methodLink "DotsOnGrass$Picture" (3 : Nat) ({ cls := "java/lang/Object", name := "<init>", desc := "()V" } : Jvm.MethodName)) : Cond) ∈ z_TT := z_mem 70 (by decide +kernel) (by decide +kernel)
theorem tw_71 : ((Jvm.Cond.fieldLink "DotsOnGrass$Picture" (9 : Nat) "DotsOnGrass$Picture" "x" "[I") : Cond) ∈ z_TT := z_mem 71 (by decide +kernel) (by decide +kernel)
theorem tw_72 : ((Jvm.Cond.fieldLink "DotsOnGrass$Search" (92 : Nat) "DotsOnGrass$Picture" "x" "[I") : Cond) ∈ z_TT := z_mem 72 (by decide +kernel) (by decide +kernel)
theorem tw_73 : ((Jvm.Cond.fieldLink "DotsOnGrass$Picture" (15 : Nat) "DotsOnGrass$Picture" "y" "[I") : Cond) ∈ z_TT := z_mem 73 (by decide +kernel) (by decide +kernel)
theorem tw_74 : ((Jvm.Cond.fieldLink "DotsOnGrass$Search" (100 : Nat) "DotsOnGrass$Picture" "y" "[I") : Cond) ∈ z_TT := z_mem 74 (by decide +kernel) (by decide +kernel)
theorem tw_75 : ((Jvm.Cond.fieldLink "DotsOnGrass$Picture" (18 : Nat) "DotsOnGrass$Picture" "isSolo" "[Z") : Cond) ∈ z_TT := z_mem 75 (by decide +kernel) (by decide +kernel)
theorem tw_76 : ((Jvm.Cond.fieldLink "DotsOnGrass$Search" (119 : Nat) "DotsOnGrass$Picture" "isSolo" "[Z") : Cond) ∈ z_TT := z_mem 76 (by decide +kernel) (by decide +kernel)
theorem tw_77 : ((Jvm.Cond.fieldLink "DotsOnGrass" (108 : Nat) "DotsOnGrass$Picture" "isSolo" "[Z") : Cond) ∈ z_TT := z_mem 77 (by decide +kernel) (by decide +kernel)
theorem tw_78 : ((Jvm.Cond.fieldLink "DotsOnGrass$Picture" (26 : Nat) "DotsOnGrass$Picture" "dots" "I") : Cond) ∈ z_TT := z_mem 78 (by decide +kernel) (by decide +kernel)
theorem tw_79 : ((Jvm.Cond.fieldLink "DotsOnGrass$Search" (89 : Nat) "DotsOnGrass$Picture" "dots" "I") : Cond) ∈ z_TT := z_mem 79 (by decide +kernel) (by decide +kernel)
theorem tw_80 : ((Jvm.Cond.fieldLink "DotsOnGrass" (111 : Nat) "DotsOnGrass$Picture" "dots" "I") : Cond) ∈ z_TT := z_mem 80 (by decide +kernel) (by decide +kernel)
theorem tw_81 : ((Jvm.Cond.fieldLink "DotsOnGrass$Picture" (22 : Nat) "DotsOnGrass$Picture" "counts" "I") : Cond) ∈ z_TT := z_mem 81 (by decide +kernel) (by decide +kernel)
theorem tw_82 : ((Jvm.Cond.fieldLink "DotsOnGrass$Search" (82 : Nat) "DotsOnGrass$Picture" "counts" "I") : Cond) ∈ z_TT := z_mem 82 (by decide +kernel) (by decide +kernel)
theorem tw_83 : ((Jvm.Cond.fieldLink "DotsOnGrass" (84 : Nat) "DotsOnGrass$Picture" "counts" "I") : Cond) ∈ z_TT := z_mem 83 (by decide +kernel) (by decide +kernel)
theorem tw_95 : ((Jvm.Cond.arrayClass Jvm.ClassFile.FieldType.int) : Cond) ∈ z_TT := z_mem 95 (by decide +kernel) (by decide +kernel)
theorem tw_96 : ((Jvm.Cond.arrayClass Jvm.ClassFile.FieldType.boolean) : Cond) ∈ z_TT := z_mem 96 (by decide +kernel) (by decide +kernel)
theorem tw_97 : ((Jvm.Cond.fieldLink "DotsOnGrass$Show" (9 : Nat) "DotsOnGrass$Show" "bounds" "[I") : Cond) ∈ z_TT := z_mem 97 (by decide +kernel) (by decide +kernel)
theorem tw_98 : ((Jvm.Cond.fieldLink "DotsOnGrass" (53 : Nat) "DotsOnGrass$Show" "bounds" "[I") : Cond) ∈ z_TT := z_mem 98 (by decide +kernel) (by decide +kernel)
theorem tw_99 : ((Jvm.Cond.fieldLink "DotsOnGrass$Search" (79 : Nat) "DotsOnGrass$Show" "bounds" "[I") : Cond) ∈ z_TT := z_mem 99 (by decide +kernel) (by decide +kernel)
theorem tw_100 : ((Jvm.Cond.fieldLink "DotsOnGrass$Show" (15 : Nat) "DotsOnGrass$Show" "isIll" "[Z") : Cond) ∈ z_TT := z_mem 100 (by decide +kernel) (by decide +kernel)
theorem tw_101 : ((Jvm.Cond.fieldLink "DotsOnGrass$Search" (52 : Nat) "DotsOnGrass$Show" "isIll" "[Z") : Cond) ∈ z_TT := z_mem 101 (by decide +kernel) (by decide +kernel)
theorem tw_102 : ((Jvm.Cond.fieldLink "DotsOnGrass" (57 : Nat) "DotsOnGrass$Show" "isIll" "[Z") : Cond) ∈ z_TT := z_mem 102 (by decide +kernel) (by decide +kernel)
theorem tw_103 : ((Jvm.Cond.fieldLink "DotsOnGrass" (49 : Nat) "DotsOnGrass$Show" "marchers" "I") : Cond) ∈ z_TT := z_mem 103 (by decide +kernel) (by decide +kernel)
theorem tw_104 : ((Jvm.Cond.fieldLink "DotsOnGrass$Search" (47 : Nat) "DotsOnGrass$Show" "marchers" "I") : Cond) ∈ z_TT := z_mem 104 (by decide +kernel) (by decide +kernel)
theorem tw_105 : ((Jvm.Cond.fieldLink "DotsOnGrass$Show" (42 : Nat) "DotsOnGrass$Show" "marchers" "I") : Cond) ∈ z_TT := z_mem 105 (by decide +kernel) (by decide +kernel)
theorem tw_106 : ((Jvm.Cond.fieldLink "DotsOnGrass$Show" (21 : Nat) "DotsOnGrass$Show" "album" "[LDotsOnGrass$Picture;") : Cond) ∈ z_TT := z_mem 106 (by decide +kernel) (by decide +kernel)
theorem tw_107 : ((Jvm.Cond.fieldLink "DotsOnGrass$Search" (62 : Nat) "DotsOnGrass$Show" "album" "[LDotsOnGrass$Picture;") : Cond) ∈ z_TT := z_mem 107 (by decide +kernel) (by decide +kernel)
theorem tw_108 : ((Jvm.Cond.fieldLink "DotsOnGrass" (72 : Nat) "DotsOnGrass$Show" "album" "[LDotsOnGrass$Picture;") : Cond) ∈ z_TT := z_mem 108 (by decide +kernel) (by decide +kernel)
theorem tw_109 : ((Jvm.Cond.fieldLink "DotsOnGrass$Plan" (69 : Nat) "DotsOnGrass$Show" "album" "[LDotsOnGrass$Picture;") : Cond) ∈ z_TT := z_mem 109 (by decide +kernel) (by decide +kernel)
theorem tw_110 : ((Jvm.Cond.fieldLink "DotsOnGrass$Show" (49 : Nat) "DotsOnGrass$Show" "pictures" "I") : Cond) ∈ z_TT := z_mem 110 (by decide +kernel) (by decide +kernel)
theorem tw_111 : ((Jvm.Cond.fieldLink "DotsOnGrass$Plan" (41 : Nat) "DotsOnGrass$Show" "pictures" "I") : Cond) ∈ z_TT := z_mem 111 (by decide +kernel) (by decide +kernel)
theorem tw_112 : ((Jvm.Cond.fieldLink "DotsOnGrass" (69 : Nat) "DotsOnGrass$Show" "pictures" "I") : Cond) ∈ z_TT := z_mem 112 (by decide +kernel) (by decide +kernel)
theorem tw_113 : ((Jvm.Cond.fieldLink "DotsOnGrass$Show" (25 : Nat) "DotsOnGrass$Show" "apart" "I") : Cond) ∈ z_TT := z_mem 113 (by decide +kernel) (by decide +kernel)
theorem tw_114 : ((Jvm.Cond.fieldLink "DotsOnGrass$Search" (66 : Nat) "DotsOnGrass$Show" "apart" "I") : Cond) ∈ z_TT := z_mem 114 (by decide +kernel) (by decide +kernel)
theorem tw_115 : ((Jvm.Cond.fieldLink "DotsOnGrass" (114 : Nat) "DotsOnGrass$Show" "apart" "I") : Cond) ∈ z_TT := z_mem 115 (by decide +kernel) (by decide +kernel)
theorem tw_116 : ((Jvm.Cond.fieldLink "DotsOnGrass$Show" (29 : Nat) "DotsOnGrass$Show" "speed" "I") : Cond) ∈ z_TT := z_mem 116 (by decide +kernel) (by decide +kernel)
theorem tw_117 : ((Jvm.Cond.fieldLink "DotsOnGrass" (117 : Nat) "DotsOnGrass$Show" "speed" "I") : Cond) ∈ z_TT := z_mem 117 (by decide +kernel) (by decide +kernel)
theorem tw_118 : ((Jvm.Cond.fieldLink "DotsOnGrass$Show" (32 : Nat) "DotsOnGrass$Show" "drumsX" "I") : Cond) ∈ z_TT := z_mem 118 (by decide +kernel) (by decide +kernel)
theorem tw_119 : ((Jvm.Cond.fieldLink "DotsOnGrass" (124 : Nat) "DotsOnGrass$Show" "drumsX" "I") : Cond) ∈ z_TT := z_mem 119 (by decide +kernel) (by decide +kernel)
theorem tw_120 : ((Jvm.Cond.fieldLink "DotsOnGrass$Show" (52 : Nat) "DotsOnGrass$Show" "drumsY" "I") : Cond) ∈ z_TT := z_mem 120 (by decide +kernel) (by decide +kernel)
theorem tw_121 : ((Jvm.Cond.fieldLink "DotsOnGrass" (127 : Nat) "DotsOnGrass$Show" "drumsY" "I") : Cond) ∈ z_TT := z_mem 121 (by decide +kernel) (by decide +kernel)
theorem tw_141 : ((Jvm.Cond.classLink "DotsOnGrass" (23 : Nat) "DotsOnGrass$Shape") : Cond) ∈ z_TT := z_mem 141 (by decide +kernel) (by decide +kernel)
theorem tw_142 : ((Jvm.Cond.instantiable "DotsOnGrass$Shape" (3 : Nat)) : Cond) ∈ z_TT := z_mem 142 (by decide +kernel) (by decide +kernel)
theorem tw_144 : ((Jvm.Cond.instanceMethod ({ cls := "DotsOnGrass$Shape", name := "<init>", desc := "()V" } : Jvm.MethodName)) : Cond) ∈ z_TT := z_mem 144 (by decide +kernel) (by decide +kernel)
theorem tw_145 : ((Jvm.Cond.code ({ cls := "DotsOnGrass$Shape", name := "<init>", desc := "()V" } : Jvm.MethodName) prog_5_method_1_code (1 : Nat) (Option.none : Option Jvm.ClassFile.FieldType)) : Cond) ∈ z_TT := z_mem 145 (by decide +kernel) (by decide +kernel)
theorem tw_146 : ((Jvm.Cond.methodLink "DotsOnGrass$Shape" (3 : Nat) ({ cls := "java/lang/Object", name := "<init>", desc := "()V" } : Jvm.MethodName)) : Cond) ∈ z_TT := z_mem 146 (by decide +kernel) (by decide +kernel)
theorem tw_147 : ((Jvm.Cond.fieldLink "DotsOnGrass$Shape" (9 : Nat) "DotsOnGrass$Shape" "x" "[I") : Cond) ∈ z_TT := z_mem 147 (by decide +kernel) (by decide +kernel)
theorem tw_148 : ((Jvm.Cond.fieldLink "DotsOnGrass$Picture" (42 : Nat) "DotsOnGrass$Shape" "x" "[I") : Cond) ∈ z_TT := z_mem 148 (by decide +kernel) (by decide +kernel)
theorem tw_149 : ((Jvm.Cond.fieldLink "DotsOnGrass$Shape" (15 : Nat) "DotsOnGrass$Shape" "y" "[I") : Cond) ∈ z_TT := z_mem 149 (by decide +kernel) (by decide +kernel)
theorem tw_150 : ((Jvm.Cond.fieldLink "DotsOnGrass$Picture" (43 : Nat) "DotsOnGrass$Shape" "y" "[I") : Cond) ∈ z_TT := z_mem 150 (by decide +kernel) (by decide +kernel)
theorem tw_151 : ((Jvm.Cond.fieldLink "DotsOnGrass$Shape" (18 : Nat) "DotsOnGrass$Shape" "dots" "I") : Cond) ∈ z_TT := z_mem 151 (by decide +kernel) (by decide +kernel)
theorem tw_152 : ((Jvm.Cond.fieldLink "DotsOnGrass$Picture" (39 : Nat) "DotsOnGrass$Shape" "dots" "I") : Cond) ∈ z_TT := z_mem 152 (by decide +kernel) (by decide +kernel)
theorem tw_160 : ((Jvm.Cond.classLink "DotsOnGrass" (30 : Nat) "DotsOnGrass$Search") : Cond) ∈ z_TT := z_mem 160 (by decide +kernel) (by decide +kernel)
theorem tw_161 : ((Jvm.Cond.instantiable "DotsOnGrass$Search" (12 : Nat)) : Cond) ∈ z_TT := z_mem 161 (by decide +kernel) (by decide +kernel)
theorem tw_163 : ((Jvm.Cond.instanceMethod ({ cls := "DotsOnGrass$Search", name := "<init>", desc := "()V" } : Jvm.MethodName)) : Cond) ∈ z_TT := z_mem 163 (by decide +kernel) (by decide +kernel)
theorem tw_164 : ((Jvm.Cond.code ({ cls := "DotsOnGrass$Search", name := "<init>", desc := "()V" } : Jvm.MethodName) prog_4_method_1_code (1 : Nat) (Option.none : Option Jvm.ClassFile.FieldType)) : Cond) ∈ z_TT := z_mem 164 (by decide +kernel) (by decide +kernel)
theorem tw_165 : ((Jvm.Cond.methodLink "DotsOnGrass$Search" (3 : Nat) ({ cls := "java/lang/Object", name := "<init>", desc := "()V" } : Jvm.MethodName)) : Cond) ∈ z_TT := z_mem 165 (by decide +kernel) (by decide +kernel)
theorem tw_166 : ((Jvm.Cond.fieldLink "DotsOnGrass$Search" (33 : Nat) "DotsOnGrass$Search" "isFound" "Z") : Cond) ∈ z_TT := z_mem 166 (by decide +kernel) (by decide +kernel)
theorem tw_167 : ((Jvm.Cond.fieldLink "DotsOnGrass$Plan" (83 : Nat) "DotsOnGrass$Search" "isFound" "Z") : Cond) ∈ z_TT := z_mem 167 (by decide +kernel) (by decide +kernel)
theorem tw_168 : ((Jvm.Cond.fieldLink "DotsOnGrass$Search" (37 : Nat) "DotsOnGrass$Search" "bestGreatest" "I") : Cond) ∈ z_TT := z_mem 168 (by decide +kernel) (by decide +kernel)
theorem tw_169 : ((Jvm.Cond.fieldLink "DotsOnGrass$Plan" (86 : Nat) "DotsOnGrass$Search" "bestGreatest" "I") : Cond) ∈ z_TT := z_mem 169 (by decide +kernel) (by decide +kernel)
theorem tw_170 : ((Jvm.Cond.fieldLink "DotsOnGrass$Search" (41 : Nat) "DotsOnGrass$Search" "bestSum" "I") : Cond) ∈ z_TT := z_mem 170 (by decide +kernel) (by decide +kernel)
theorem tw_171 : ((Jvm.Cond.fieldLink "DotsOnGrass$Plan" (89 : Nat) "DotsOnGrass$Search" "bestSum" "I") : Cond) ∈ z_TT := z_mem 171 (by decide +kernel) (by decide +kernel)
theorem tw_172 : ((Jvm.Cond.fieldLink "DotsOnGrass$Search" (9 : Nat) "DotsOnGrass$Search" "best" "[I") : Cond) ∈ z_TT := z_mem 172 (by decide +kernel) (by decide +kernel)
theorem tw_173 : ((Jvm.Cond.fieldLink "DotsOnGrass$Search" (15 : Nat) "DotsOnGrass$Search" "who" "[I") : Cond) ∈ z_TT := z_mem 173 (by decide +kernel) (by decide +kernel)
theorem tw_174 : ((Jvm.Cond.fieldLink "DotsOnGrass$Search" (44 : Nat) "DotsOnGrass$Search" "turns" "I") : Cond) ∈ z_TT := z_mem 174 (by decide +kernel) (by decide +kernel)
theorem tw_175 : ((Jvm.Cond.fieldLink "DotsOnGrass$Search" (18 : Nat) "DotsOnGrass$Search" "startX" "[I") : Cond) ∈ z_TT := z_mem 175 (by decide +kernel) (by decide +kernel)
theorem tw_176 : ((Jvm.Cond.fieldLink "DotsOnGrass$Search" (21 : Nat) "DotsOnGrass$Search" "startY" "[I") : Cond) ∈ z_TT := z_mem 176 (by decide +kernel) (by decide +kernel)
theorem tw_177 : ((Jvm.Cond.fieldLink "DotsOnGrass$Search" (24 : Nat) "DotsOnGrass$Search" "taken" "[I") : Cond) ∈ z_TT := z_mem 177 (by decide +kernel) (by decide +kernel)
theorem tw_178 : ((Jvm.Cond.fieldLink "DotsOnGrass$Search" (27 : Nat) "DotsOnGrass$Search" "steps" "[I") : Cond) ∈ z_TT := z_mem 178 (by decide +kernel) (by decide +kernel)
theorem tw_179 : ((Jvm.Cond.fieldLink "DotsOnGrass$Search" (30 : Nat) "DotsOnGrass$Search" "pairs" "[I") : Cond) ∈ z_TT := z_mem 179 (by decide +kernel) (by decide +kernel)
theorem tw_180 : ((Jvm.Cond.fieldLink "DotsOnGrass$Search" (69 : Nat) "DotsOnGrass$Search" "apart" "I") : Cond) ∈ z_TT := z_mem 180 (by decide +kernel) (by decide +kernel)
theorem tw_206 : ((Jvm.Cond.classLink "DotsOnGrass" (33 : Nat) "DotsOnGrass$Plan") : Cond) ∈ z_TT := z_mem 206 (by decide +kernel) (by decide +kernel)
theorem tw_207 : ((Jvm.Cond.instantiable "DotsOnGrass$Plan" (6 : Nat)) : Cond) ∈ z_TT := z_mem 207 (by decide +kernel) (by decide +kernel)
theorem tw_208 : ((Jvm.Cond.methodLink "DotsOnGrass" (35 : Nat) ({ cls := "DotsOnGrass$Plan", name := "<init>", desc := "(LDotsOnGrass$Search;)V" } : Jvm.MethodName)) : Cond) ∈ z_TT := z_mem 208 (by decide +kernel) (by decide +kernel)
theorem tw_209 : ((Jvm.Cond.instanceMethod ({ cls := "DotsOnGrass$Plan", name := "<init>", desc := "(LDotsOnGrass$Search;)V" } : Jvm.MethodName)) : Cond) ∈ z_TT := z_mem 209 (by decide +kernel) (by decide +kernel)
theorem tw_210 : ((Jvm.Cond.code ({ cls := "DotsOnGrass$Plan", name := "<init>", desc := "(LDotsOnGrass$Search;)V" } : Jvm.MethodName) prog_3_method_1_code (2 : Nat) (Option.none : Option Jvm.ClassFile.FieldType)) : Cond) ∈ z_TT := z_mem 210 (by decide +kernel) (by decide +kernel)
theorem tw_211 : ((Jvm.Cond.methodLink "DotsOnGrass$Plan" (3 : Nat) ({ cls := "java/lang/Object", name := "<init>", desc := "()V" } : Jvm.MethodName)) : Cond) ∈ z_TT := z_mem 211 (by decide +kernel) (by decide +kernel)
theorem tw_212 : ((Jvm.Cond.classLink "DotsOnGrass$Plan" (22 : Nat) "[[I") : Cond) ∈ z_TT := z_mem 212 (by decide +kernel) (by decide +kernel)
theorem tw_214 : ((Jvm.Cond.fieldLink "DotsOnGrass$Plan" (9 : Nat) "DotsOnGrass$Plan" "isFound" "[Z") : Cond) ∈ z_TT := z_mem 214 (by decide +kernel) (by decide +kernel)
theorem tw_215 : ((Jvm.Cond.fieldLink "DotsOnGrass" (147 : Nat) "DotsOnGrass$Plan" "isFound" "[Z") : Cond) ∈ z_TT := z_mem 215 (by decide +kernel) (by decide +kernel)
theorem tw_216 : ((Jvm.Cond.fieldLink "DotsOnGrass$Plan" (15 : Nat) "DotsOnGrass$Plan" "greatest" "[I") : Cond) ∈ z_TT := z_mem 216 (by decide +kernel) (by decide +kernel)
theorem tw_217 : ((Jvm.Cond.fieldLink "DotsOnGrass" (154 : Nat) "DotsOnGrass$Plan" "greatest" "[I") : Cond) ∈ z_TT := z_mem 217 (by decide +kernel) (by decide +kernel)
theorem tw_218 : ((Jvm.Cond.fieldLink "DotsOnGrass$Plan" (19 : Nat) "DotsOnGrass$Plan" "sum" "[I") : Cond) ∈ z_TT := z_mem 218 (by decide +kernel) (by decide +kernel)
theorem tw_219 : ((Jvm.Cond.fieldLink "DotsOnGrass" (157 : Nat) "DotsOnGrass$Plan" "sum" "[I") : Cond) ∈ z_TT := z_mem 219 (by decide +kernel) (by decide +kernel)
theorem tw_220 : ((Jvm.Cond.fieldLink "DotsOnGrass$Plan" (24 : Nat) "DotsOnGrass$Plan" "given" "[[I") : Cond) ∈ z_TT := z_mem 220 (by decide +kernel) (by decide +kernel)
theorem tw_221 : ((Jvm.Cond.fieldLink "DotsOnGrass$Plan" (27 : Nat) "DotsOnGrass$Plan" "search" "LDotsOnGrass$Search;") : Cond) ∈ z_TT := z_mem 221 (by decide +kernel) (by decide +kernel)
theorem tw_222 : ((Jvm.Cond.fieldLink "DotsOnGrass$Plan" (31 : Nat) "DotsOnGrass$Plan" "known" "I") : Cond) ∈ z_TT := z_mem 222 (by decide +kernel) (by decide +kernel)
theorem tw_236 : ((Jvm.Cond.fieldLink "DotsOnGrass" (10 : Nat) "DotsOnGrass" "now" "LDotsOnGrass$Show;") : Cond) ∈ z_TT := z_mem 236 (by decide +kernel) (by decide +kernel)
theorem tw_237 : ((Jvm.Cond.fieldLink "DotsOnGrass" (16 : Nat) "DotsOnGrass" "kept" "LDotsOnGrass$Show;") : Cond) ∈ z_TT := z_mem 237 (by decide +kernel) (by decide +kernel)
theorem tw_238 : ((Jvm.Cond.fieldLink "DotsOnGrass" (19 : Nat) "DotsOnGrass" "isKept" "Z") : Cond) ∈ z_TT := z_mem 238 (by decide +kernel) (by decide +kernel)
theorem tw_239 : ((Jvm.Cond.fieldLink "DotsOnGrass" (26 : Nat) "DotsOnGrass" "shape" "LDotsOnGrass$Shape;") : Cond) ∈ z_TT := z_mem 239 (by decide +kernel) (by decide +kernel)
theorem tw_240 : ((Jvm.Cond.fieldLink "DotsOnGrass" (38 : Nat) "DotsOnGrass" "plan" "LDotsOnGrass$Plan;") : Cond) ∈ z_TT := z_mem 240 (by decide +kernel) (by decide +kernel)
theorem tw_241 : ((Jvm.Cond.fieldLink "DotsOnGrass" (42 : Nat) "DotsOnGrass" "holed" "LDotsOnGrass$Plan;") : Cond) ∈ z_TT := z_mem 241 (by decide +kernel) (by decide +kernel)
theorem tw_255 : ((Jvm.Cond.methodLink "DotsOnGrassLaw" (13 : Nat) ({ cls := "DotsOnGrass", name := "marcher", desc := "(I)I" } : Jvm.MethodName)) : Cond) ∈ z_TT := z_mem 255 (by decide +kernel) (by decide +kernel)
theorem tw_256 : ((Jvm.Cond.instanceMethod ({ cls := "DotsOnGrass", name := "marcher", desc := "(I)I" } : Jvm.MethodName)) : Cond) ∈ z_TT := z_mem 256 (by decide +kernel) (by decide +kernel)
theorem tw_257 : ((Jvm.Cond.selects "DotsOnGrass" ({ cls := "DotsOnGrass", name := "marcher", desc := "(I)I" } : Jvm.MethodName) ({ cls := "DotsOnGrass", name := "marcher", desc := "(I)I" } : Jvm.MethodName)) : Cond) ∈ z_TT := z_mem 257 (by decide +kernel) (by decide +kernel)
theorem tw_258 : ((Jvm.Cond.code ({ cls := "DotsOnGrass", name := "marcher", desc := "(I)I" } : Jvm.MethodName) prog_1_method_2_code (3 : Nat) (Option.some Jvm.ClassFile.FieldType.int)) : Cond) ∈ z_TT := z_mem 258 (by decide +kernel) (by decide +kernel)
theorem tw_259 : ((Jvm.Cond.methodLink "DotsOnGrass" (45 : Nat) ({ cls := "DotsOnGrass", name := "isOutside", desc := "(III)Z" } : Jvm.MethodName)) : Cond) ∈ z_TT := z_mem 259 (by decide +kernel) (by decide +kernel)
theorem tw_260 : ((Jvm.Cond.static ({ cls := "DotsOnGrass", name := "isOutside", desc := "(III)Z" } : Jvm.MethodName)) : Cond) ∈ z_TT := z_mem 260 (by decide +kernel) (by decide +kernel)
theorem tw_261 : ((Jvm.Cond.code ({ cls := "DotsOnGrass", name := "isOutside", desc := "(III)Z" } : Jvm.MethodName) prog_1_method_25_code (3 : Nat) (Option.some Jvm.ClassFile.FieldType.boolean)) : Cond) ∈ z_TT := z_mem 261 (by decide +kernel) (by decide +kernel)
theorem tw_262 : ((Jvm.Cond.methodLink "DotsOnGrass" (61 : Nat) ({ cls := "DotsOnGrass$Plan", name := "forgetFrom", desc := "(I)V" } : Jvm.MethodName)) : Cond) ∈ z_TT := z_mem 262 (by decide +kernel) (by decide +kernel)
theorem tw_263 : ((Jvm.Cond.instanceMethod ({ cls := "DotsOnGrass$Plan", name := "forgetFrom", desc := "(I)V" } : Jvm.MethodName)) : Cond) ∈ z_TT := z_mem 263 (by decide +kernel) (by decide +kernel)
theorem tw_264 : ((Jvm.Cond.selects "DotsOnGrass$Plan" ({ cls := "DotsOnGrass$Plan", name := "forgetFrom", desc := "(I)V" } : Jvm.MethodName) ({ cls := "DotsOnGrass$Plan", name := "forgetFrom", desc := "(I)V" } : Jvm.MethodName)) : Cond) ∈ z_TT := z_mem 264 (by decide +kernel) (by decide +kernel)
theorem tw_265 : ((Jvm.Cond.code ({ cls := "DotsOnGrass$Plan", name := "forgetFrom", desc := "(I)V" } : Jvm.MethodName) prog_3_method_2_code (2 : Nat) (Option.none : Option Jvm.ClassFile.FieldType)) : Cond) ∈ z_TT := z_mem 265 (by decide +kernel) (by decide +kernel)
theorem tw_266 : ((Jvm.Cond.methodLink "DotsOnGrass$Plan" (35 : Nat) ({ cls := "java/lang/Math", name := "min", desc := "(II)I" } : Jvm.MethodName)) : Cond) ∈ z_TT := z_mem 266 (by decide +kernel) (by decide +kernel)
theorem tw_267 : ((Jvm.Cond.static ({ cls := "java/lang/Math", name := "min", desc := "(II)I" } : Jvm.MethodName)) : Cond) ∈ z_TT := z_mem 267 (by decide +kernel) (by decide +kernel)
theorem tw_268 : ((Jvm.Cond.code ({ cls := "java/lang/Math", name := "min", desc := "(II)I" } : Jvm.MethodName) prog_9_method_69_code (2 : Nat) (Option.some Jvm.ClassFile.FieldType.int)) : Cond) ∈ z_TT := z_mem 268 (by decide +kernel) (by decide +kernel)
theorem tw_269 : ((Jvm.Cond.methodLink "DotsOnGrassLaw" (18 : Nat) ({ cls := "DotsOnGrass", name := "ill", desc := "(IZ)I" } : Jvm.MethodName)) : Cond) ∈ z_TT := z_mem 269 (by decide +kernel) (by decide +kernel)
theorem tw_270 : ((Jvm.Cond.instanceMethod ({ cls := "DotsOnGrass", name := "ill", desc := "(IZ)I" } : Jvm.MethodName)) : Cond) ∈ z_TT := z_mem 270 (by decide +kernel) (by decide +kernel)
theorem tw_271 : ((Jvm.Cond.selects "DotsOnGrass" ({ cls := "DotsOnGrass", name := "ill", desc := "(IZ)I" } : Jvm.MethodName) ({ cls := "DotsOnGrass", name := "ill", desc := "(IZ)I" } : Jvm.MethodName)) : Cond) ∈ z_TT := z_mem 271 (by decide +kernel) (by decide +kernel)
theorem tw_272 : ((Jvm.Cond.code ({ cls := "DotsOnGrass", name := "ill", desc := "(IZ)I" } : Jvm.MethodName) prog_1_method_3_code (3 : Nat) (Option.some Jvm.ClassFile.FieldType.int)) : Cond) ∈ z_TT := z_mem 272 (by decide +kernel) (by decide +kernel)
theorem tw_273 : ((Jvm.Cond.methodLink "DotsOnGrass" (65 : Nat) ({ cls := "DotsOnGrass$Show", name := "hasMarcher", desc := "(I)Z" } : Jvm.MethodName)) : Cond) ∈ z_TT := z_mem 273 (by decide +kernel) (by decide +kernel)
theorem tw_274 : ((Jvm.Cond.instanceMethod ({ cls := "DotsOnGrass$Show", name := "hasMarcher", desc := "(I)Z" } : Jvm.MethodName)) : Cond) ∈ z_TT := z_mem 274 (by decide +kernel) (by decide +kernel)
theorem tw_275 : ((Jvm.Cond.selects "DotsOnGrass$Show" ({ cls := "DotsOnGrass$Show", name := "hasMarcher", desc := "(I)Z" } : Jvm.MethodName) ({ cls := "DotsOnGrass$Show", name := "hasMarcher", desc := "(I)Z" } : Jvm.MethodName)) : Cond) ∈ z_TT := z_mem 275 (by decide +kernel) (by decide +kernel)
theorem tw_276 : ((Jvm.Cond.code ({ cls := "DotsOnGrass$Show", name := "hasMarcher", desc := "(I)Z" } : Jvm.MethodName) prog_6_method_3_code (2 : Nat) (Option.some Jvm.ClassFile.FieldType.boolean)) : Cond) ∈ z_TT := z_mem 276 (by decide +kernel) (by decide +kernel)
theorem tw_277 : ((Jvm.Cond.methodLink "DotsOnGrassLaw" (23 : Nat) ({ cls := "DotsOnGrass", name := "bound", desc := "(II)I" } : Jvm.MethodName)) : Cond) ∈ z_TT := z_mem 277 (by decide +kernel) (by decide +kernel)
theorem tw_278 : ((Jvm.Cond.instanceMethod ({ cls := "DotsOnGrass", name := "bound", desc := "(II)I" } : Jvm.MethodName)) : Cond) ∈ z_TT := z_mem 278 (by decide +kernel) (by decide +kernel)
theorem tw_279 : ((Jvm.Cond.selects "DotsOnGrass" ({ cls := "DotsOnGrass", name := "bound", desc := "(II)I" } : Jvm.MethodName) ({ cls := "DotsOnGrass", name := "bound", desc := "(II)I" } : Jvm.MethodName)) : Cond) ∈ z_TT := z_mem 279 (by decide +kernel) (by decide +kernel)
theorem tw_280 : ((Jvm.Cond.code ({ cls := "DotsOnGrass", name := "bound", desc := "(II)I" } : Jvm.MethodName) prog_1_method_4_code (4 : Nat) (Option.some Jvm.ClassFile.FieldType.int)) : Cond) ∈ z_TT := z_mem 280 (by decide +kernel) (by decide +kernel)
theorem tw_281 : ((Jvm.Cond.methodLink "DotsOnGrassLaw" (28 : Nat) ({ cls := "DotsOnGrass", name := "picture", desc := "(I)I" } : Jvm.MethodName)) : Cond) ∈ z_TT := z_mem 281 (by decide +kernel) (by decide +kernel)
theorem tw_282 : ((Jvm.Cond.instanceMethod ({ cls := "DotsOnGrass", name := "picture", desc := "(I)I" } : Jvm.MethodName)) : Cond) ∈ z_TT := z_mem 282 (by decide +kernel) (by decide +kernel)
theorem tw_283 : ((Jvm.Cond.selects "DotsOnGrass" ({ cls := "DotsOnGrass", name := "picture", desc := "(I)I" } : Jvm.MethodName) ({ cls := "DotsOnGrass", name := "picture", desc := "(I)I" } : Jvm.MethodName)) : Cond) ∈ z_TT := z_mem 283 (by decide +kernel) (by decide +kernel)
theorem tw_284 : ((Jvm.Cond.code ({ cls := "DotsOnGrass", name := "picture", desc := "(I)I" } : Jvm.MethodName) prog_1_method_5_code (3 : Nat) (Option.some Jvm.ClassFile.FieldType.int)) : Cond) ∈ z_TT := z_mem 284 (by decide +kernel) (by decide +kernel)
theorem tw_285 : ((Jvm.Cond.methodLink "DotsOnGrass" (76 : Nat) ({ cls := "DotsOnGrass$Picture", name := "begin", desc := "(I)V" } : Jvm.MethodName)) : Cond) ∈ z_TT := z_mem 285 (by decide +kernel) (by decide +kernel)
theorem tw_286 : ((Jvm.Cond.instanceMethod ({ cls := "DotsOnGrass$Picture", name := "begin", desc := "(I)V" } : Jvm.MethodName)) : Cond) ∈ z_TT := z_mem 286 (by decide +kernel) (by decide +kernel)
theorem tw_287 : ((Jvm.Cond.selects "DotsOnGrass$Picture" ({ cls := "DotsOnGrass$Picture", name := "begin", desc := "(I)V" } : Jvm.MethodName) ({ cls := "DotsOnGrass$Picture", name := "begin", desc := "(I)V" } : Jvm.MethodName)) : Cond) ∈ z_TT := z_mem 287 (by decide +kernel) (by decide +kernel)
theorem tw_288 : ((Jvm.Cond.code ({ cls := "DotsOnGrass$Picture", name := "begin", desc := "(I)V" } : Jvm.MethodName) prog_2_method_2_code (2 : Nat) (Option.none : Option Jvm.ClassFile.FieldType)) : Cond) ∈ z_TT := z_mem 288 (by decide +kernel) (by decide +kernel)
theorem tw_289 : ((Jvm.Cond.methodLink "DotsOnGrassLaw" (32 : Nat) ({ cls := "DotsOnGrass", name := "counts", desc := "(II)I" } : Jvm.MethodName)) : Cond) ∈ z_TT := z_mem 289 (by decide +kernel) (by decide +kernel)
theorem tw_290 : ((Jvm.Cond.instanceMethod ({ cls := "DotsOnGrass", name := "counts", desc := "(II)I" } : Jvm.MethodName)) : Cond) ∈ z_TT := z_mem 290 (by decide +kernel) (by decide +kernel)
theorem tw_291 : ((Jvm.Cond.selects "DotsOnGrass" ({ cls := "DotsOnGrass", name := "counts", desc := "(II)I" } : Jvm.MethodName) ({ cls := "DotsOnGrass", name := "counts", desc := "(II)I" } : Jvm.MethodName)) : Cond) ∈ z_TT := z_mem 291 (by decide +kernel) (by decide +kernel)
theorem tw_292 : ((Jvm.Cond.code ({ cls := "DotsOnGrass", name := "counts", desc := "(II)I" } : Jvm.MethodName) prog_1_method_6_code (5 : Nat) (Option.some Jvm.ClassFile.FieldType.int)) : Cond) ∈ z_TT := z_mem 292 (by decide +kernel) (by decide +kernel)
theorem tw_293 : ((Jvm.Cond.methodLink "DotsOnGrass" (81 : Nat) ({ cls := "DotsOnGrass$Show", name := "hasPicture", desc := "(I)Z" } : Jvm.MethodName)) : Cond) ∈ z_TT := z_mem 293 (by decide +kernel) (by decide +kernel)
theorem tw_294 : ((Jvm.Cond.instanceMethod ({ cls := "DotsOnGrass$Show", name := "hasPicture", desc := "(I)Z" } : Jvm.MethodName)) : Cond) ∈ z_TT := z_mem 294 (by decide +kernel) (by decide +kernel)
theorem tw_295 : ((Jvm.Cond.selects "DotsOnGrass$Show" ({ cls := "DotsOnGrass$Show", name := "hasPicture", desc := "(I)Z" } : Jvm.MethodName) ({ cls := "DotsOnGrass$Show", name := "hasPicture", desc := "(I)Z" } : Jvm.MethodName)) : Cond) ∈ z_TT := z_mem 295 (by decide +kernel) (by decide +kernel)
theorem tw_296 : ((Jvm.Cond.code ({ cls := "DotsOnGrass$Show", name := "hasPicture", desc := "(I)Z" } : Jvm.MethodName) prog_6_method_4_code (2 : Nat) (Option.some Jvm.ClassFile.FieldType.boolean)) : Cond) ∈ z_TT := z_mem 296 (by decide +kernel) (by decide +kernel)
theorem tw_297 : ((Jvm.Cond.methodLink "DotsOnGrassLaw" (36 : Nat) ({ cls := "DotsOnGrass", name := "line", desc := "(IIIIII)I" } : Jvm.MethodName)) : Cond) ∈ z_TT := z_mem 297 (by decide +kernel) (by decide +kernel)
theorem tw_298 : ((Jvm.Cond.instanceMethod ({ cls := "DotsOnGrass", name := "line", desc := "(IIIIII)I" } : Jvm.MethodName)) : Cond) ∈ z_TT := z_mem 298 (by decide +kernel) (by decide +kernel)
theorem tw_299 : ((Jvm.Cond.selects "DotsOnGrass" ({ cls := "DotsOnGrass", name := "line", desc := "(IIIIII)I" } : Jvm.MethodName) ({ cls := "DotsOnGrass", name := "line", desc := "(IIIIII)I" } : Jvm.MethodName)) : Cond) ∈ z_TT := z_mem 299 (by decide +kernel) (by decide +kernel)
theorem tw_300 : ((Jvm.Cond.code ({ cls := "DotsOnGrass", name := "line", desc := "(IIIIII)I" } : Jvm.MethodName) prog_1_method_7_code (7 : Nat) (Option.some Jvm.ClassFile.FieldType.int)) : Cond) ∈ z_TT := z_mem 300 (by decide +kernel) (by decide +kernel)
theorem tw_301 : ((Jvm.Cond.methodLink "DotsOnGrass" (87 : Nat) ({ cls := "DotsOnGrass$Picture", name := "hasRoomFor", desc := "(I)Z" } : Jvm.MethodName)) : Cond) ∈ z_TT := z_mem 301 (by decide +kernel) (by decide +kernel)
theorem tw_302 : ((Jvm.Cond.instanceMethod ({ cls := "DotsOnGrass$Picture", name := "hasRoomFor", desc := "(I)Z" } : Jvm.MethodName)) : Cond) ∈ z_TT := z_mem 302 (by decide +kernel) (by decide +kernel)
theorem tw_303 : ((Jvm.Cond.selects "DotsOnGrass$Picture" ({ cls := "DotsOnGrass$Picture", name := "hasRoomFor", desc := "(I)Z" } : Jvm.MethodName) ({ cls := "DotsOnGrass$Picture", name := "hasRoomFor", desc := "(I)Z" } : Jvm.MethodName)) : Cond) ∈ z_TT := z_mem 303 (by decide +kernel) (by decide +kernel)
theorem tw_304 : ((Jvm.Cond.code ({ cls := "DotsOnGrass$Picture", name := "hasRoomFor", desc := "(I)Z" } : Jvm.MethodName) prog_2_method_8_code (2 : Nat) (Option.some Jvm.ClassFile.FieldType.boolean)) : Cond) ∈ z_TT := z_mem 304 (by decide +kernel) (by decide +kernel)
theorem tw_305 : ((Jvm.Cond.methodLink "DotsOnGrass" (90 : Nat) ({ cls := "DotsOnGrass$Shape", name := "becomeLine", desc := "(IIIII)V" } : Jvm.MethodName)) : Cond) ∈ z_TT := z_mem 305 (by decide +kernel) (by decide +kernel)
theorem tw_306 : ((Jvm.Cond.instanceMethod ({ cls := "DotsOnGrass$Shape", name := "becomeLine", desc := "(IIIII)V" } : Jvm.MethodName)) : Cond) ∈ z_TT := z_mem 306 (by decide +kernel) (by decide +kernel)
theorem tw_307 : ((Jvm.Cond.selects "DotsOnGrass$Shape" ({ cls := "DotsOnGrass$Shape", name := "becomeLine", desc := "(IIIII)V" } : Jvm.MethodName) ({ cls := "DotsOnGrass$Shape", name := "becomeLine", desc := "(IIIII)V" } : Jvm.MethodName)) : Cond) ∈ z_TT := z_mem 307 (by decide +kernel) (by decide +kernel)
theorem tw_308 : ((Jvm.Cond.code ({ cls := "DotsOnGrass$Shape", name := "becomeLine", desc := "(IIIII)V" } : Jvm.MethodName) prog_5_method_2_code (7 : Nat) (Option.none : Option Jvm.ClassFile.FieldType)) : Cond) ∈ z_TT := z_mem 308 (by decide +kernel) (by decide +kernel)
theorem tw_309 : ((Jvm.Cond.methodLink "DotsOnGrass$Shape" (22 : Nat) ({ cls := "DotsOnGrass$Shape", name := "put", desc := "(II)V" } : Jvm.MethodName)) : Cond) ∈ z_TT := z_mem 309 (by decide +kernel) (by decide +kernel)
theorem tw_311 : ((Jvm.Cond.instanceMethod ({ cls := "DotsOnGrass$Shape", name := "put", desc := "(II)V" } : Jvm.MethodName)) : Cond) ∈ z_TT := z_mem 311 (by decide +kernel) (by decide +kernel)
theorem tw_312 : ((Jvm.Cond.code ({ cls := "DotsOnGrass$Shape", name := "put", desc := "(II)V" } : Jvm.MethodName) prog_5_method_5_code (3 : Nat) (Option.none : Option Jvm.ClassFile.FieldType)) : Cond) ∈ z_TT := z_mem 312 (by decide +kernel) (by decide +kernel)
theorem tw_313 : ((Jvm.Cond.methodLink "DotsOnGrass" (94 : Nat) ({ cls := "DotsOnGrass", name := "draw", desc := "(I)I" } : Jvm.MethodName)) : Cond) ∈ z_TT := z_mem 313 (by decide +kernel) (by decide +kernel)
theorem tw_315 : ((Jvm.Cond.instanceMethod ({ cls := "DotsOnGrass", name := "draw", desc := "(I)I" } : Jvm.MethodName)) : Cond) ∈ z_TT := z_mem 315 (by decide +kernel) (by decide +kernel)
theorem tw_316 : ((Jvm.Cond.code ({ cls := "DotsOnGrass", name := "draw", desc := "(I)I" } : Jvm.MethodName) prog_1_method_29_code (3 : Nat) (Option.some Jvm.ClassFile.FieldType.int)) : Cond) ∈ z_TT := z_mem 316 (by decide +kernel) (by decide +kernel)
theorem tw_317 : ((Jvm.Cond.methodLink "DotsOnGrass" (204 : Nat) ({ cls := "DotsOnGrass$Picture", name := "canTake", desc := "(LDotsOnGrass$Shape;)Z" } : Jvm.MethodName)) : Cond) ∈ z_TT := z_mem 317 (by decide +kernel) (by decide +kernel)
theorem tw_318 : ((Jvm.Cond.instanceMethod ({ cls := "DotsOnGrass$Picture", name := "canTake", desc := "(LDotsOnGrass$Shape;)Z" } : Jvm.MethodName)) : Cond) ∈ z_TT := z_mem 318 (by decide +kernel) (by decide +kernel)
theorem tw_319 : ((Jvm.Cond.selects "DotsOnGrass$Picture" ({ cls := "DotsOnGrass$Picture", name := "canTake", desc := "(LDotsOnGrass$Shape;)Z" } : Jvm.MethodName) ({ cls := "DotsOnGrass$Picture", name := "canTake", desc := "(LDotsOnGrass$Shape;)Z" } : Jvm.MethodName)) : Cond) ∈ z_TT := z_mem 319 (by decide +kernel) (by decide +kernel)
theorem tw_320 : ((Jvm.Cond.code ({ cls := "DotsOnGrass$Picture", name := "canTake", desc := "(LDotsOnGrass$Shape;)Z" } : Jvm.MethodName) prog_2_method_9_code (3 : Nat) (Option.some Jvm.ClassFile.FieldType.boolean)) : Cond) ∈ z_TT := z_mem 320 (by decide +kernel) (by decide +kernel)
theorem tw_322 : ((Jvm.Cond.static ({ cls := "DotsOnGrass", name := "isOnGrass", desc := "(II)Z" } : Jvm.MethodName)) : Cond) ∈ z_TT := z_mem 322 (by decide +kernel) (by decide +kernel)
theorem tw_323 : ((Jvm.Cond.code ({ cls := "DotsOnGrass", name := "isOnGrass", desc := "(II)Z" } : Jvm.MethodName) prog_1_method_26_code (2 : Nat) (Option.some Jvm.ClassFile.FieldType.boolean)) : Cond) ∈ z_TT := z_mem 323 (by decide +kernel) (by decide +kernel)
theorem tw_324 : ((Jvm.Cond.methodLink "DotsOnGrass$Picture" (48 : Nat) ({ cls := "DotsOnGrass$Picture", name := "hasDotAt", desc := "(II)Z" } : Jvm.MethodName)) : Cond) ∈ z_TT := z_mem 324 (by decide +kernel) (by decide +kernel)
theorem tw_326 : ((Jvm.Cond.instanceMethod ({ cls := "DotsOnGrass$Picture", name := "hasDotAt", desc := "(II)Z" } : Jvm.MethodName)) : Cond) ∈ z_TT := z_mem 326 (by decide +kernel) (by decide +kernel)
theorem tw_327 : ((Jvm.Cond.code ({ cls := "DotsOnGrass$Picture", name := "hasDotAt", desc := "(II)Z" } : Jvm.MethodName) prog_2_method_10_code (4 : Nat) (Option.some Jvm.ClassFile.FieldType.boolean)) : Cond) ∈ z_TT := z_mem 327 (by decide +kernel) (by decide +kernel)
theorem tw_328 : ((Jvm.Cond.methodLink "DotsOnGrass$Picture" (51 : Nat) ({ cls := "DotsOnGrass$Shape", name := "hasTwins", desc := "()Z" } : Jvm.MethodName)) : Cond) ∈ z_TT := z_mem 328 (by decide +kernel) (by decide +kernel)
theorem tw_329 : ((Jvm.Cond.instanceMethod ({ cls := "DotsOnGrass$Shape", name := "hasTwins", desc := "()Z" } : Jvm.MethodName)) : Cond) ∈ z_TT := z_mem 329 (by decide +kernel) (by decide +kernel)
theorem tw_330 : ((Jvm.Cond.selects "DotsOnGrass$Shape" ({ cls := "DotsOnGrass$Shape", name := "hasTwins", desc := "()Z" } : Jvm.MethodName) ({ cls := "DotsOnGrass$Shape", name := "hasTwins", desc := "()Z" } : Jvm.MethodName)) : Cond) ∈ z_TT := z_mem 330 (by decide +kernel) (by decide +kernel)
theorem tw_331 : ((Jvm.Cond.code ({ cls := "DotsOnGrass$Shape", name := "hasTwins", desc := "()Z" } : Jvm.MethodName) prog_5_method_6_code (3 : Nat) (Option.some Jvm.ClassFile.FieldType.boolean)) : Cond) ∈ z_TT := z_mem 331 (by decide +kernel) (by decide +kernel)
theorem tw_332 : ((Jvm.Cond.methodLink "DotsOnGrass" (208 : Nat) ({ cls := "DotsOnGrass$Picture", name := "take", desc := "(LDotsOnGrass$Shape;)V" } : Jvm.MethodName)) : Cond) ∈ z_TT := z_mem 332 (by decide +kernel) (by decide +kernel)
theorem tw_333 : ((Jvm.Cond.instanceMethod ({ cls := "DotsOnGrass$Picture", name := "take", desc := "(LDotsOnGrass$Shape;)V" } : Jvm.MethodName)) : Cond) ∈ z_TT := z_mem 333 (by decide +kernel) (by decide +kernel)
theorem tw_334 : ((Jvm.Cond.selects "DotsOnGrass$Picture" ({ cls := "DotsOnGrass$Picture", name := "take", desc := "(LDotsOnGrass$Shape;)V" } : Jvm.MethodName) ({ cls := "DotsOnGrass$Picture", name := "take", desc := "(LDotsOnGrass$Shape;)V" } : Jvm.MethodName)) : Cond) ∈ z_TT := z_mem 334 (by decide +kernel) (by decide +kernel)
theorem tw_335 : ((Jvm.Cond.code ({ cls := "DotsOnGrass$Picture", name := "take", desc := "(LDotsOnGrass$Shape;)V" } : Jvm.MethodName) prog_2_method_11_code (3 : Nat) (Option.none : Option Jvm.ClassFile.FieldType)) : Cond) ∈ z_TT := z_mem 335 (by decide +kernel) (by decide +kernel)
theorem tw_336 : ((Jvm.Cond.methodLink "DotsOnGrassLaw" (41 : Nat) ({ cls := "DotsOnGrass", name := "block", desc := "(IIIIII)I" } : Jvm.MethodName)) : Cond) ∈ z_TT := z_mem 336 (by decide +kernel) (by decide +kernel)
theorem tw_337 : ((Jvm.Cond.instanceMethod ({ cls := "DotsOnGrass", name := "block", desc := "(IIIIII)I" } : Jvm.MethodName)) : Cond) ∈ z_TT := z_mem 337 (by decide +kernel) (by decide +kernel)
theorem tw_338 : ((Jvm.Cond.selects "DotsOnGrass" ({ cls := "DotsOnGrass", name := "block", desc := "(IIIIII)I" } : Jvm.MethodName) ({ cls := "DotsOnGrass", name := "block", desc := "(IIIIII)I" } : Jvm.MethodName)) : Cond) ∈ z_TT := z_mem 338 (by decide +kernel) (by decide +kernel)
theorem tw_339 : ((Jvm.Cond.code ({ cls := "DotsOnGrass", name := "block", desc := "(IIIIII)I" } : Jvm.MethodName) prog_1_method_8_code (7 : Nat) (Option.some Jvm.ClassFile.FieldType.int)) : Cond) ∈ z_TT := z_mem 339 (by decide +kernel) (by decide +kernel)
theorem tw_340 : ((Jvm.Cond.methodLink "DotsOnGrass" (98 : Nat) ({ cls := "DotsOnGrass$Shape", name := "becomeBlock", desc := "(IIIII)V" } : Jvm.MethodName)) : Cond) ∈ z_TT := z_mem 340 (by decide +kernel) (by decide +kernel)
theorem tw_341 : ((Jvm.Cond.instanceMethod ({ cls := "DotsOnGrass$Shape", name := "becomeBlock", desc := "(IIIII)V" } : Jvm.MethodName)) : Cond) ∈ z_TT := z_mem 341 (by decide +kernel) (by decide +kernel)
theorem tw_342 : ((Jvm.Cond.selects "DotsOnGrass$Shape" ({ cls := "DotsOnGrass$Shape", name := "becomeBlock", desc := "(IIIII)V" } : Jvm.MethodName) ({ cls := "DotsOnGrass$Shape", name := "becomeBlock", desc := "(IIIII)V" } : Jvm.MethodName)) : Cond) ∈ z_TT := z_mem 342 (by decide +kernel) (by decide +kernel)
theorem tw_343 : ((Jvm.Cond.code ({ cls := "DotsOnGrass$Shape", name := "becomeBlock", desc := "(IIIII)V" } : Jvm.MethodName) prog_5_method_3_code (8 : Nat) (Option.none : Option Jvm.ClassFile.FieldType)) : Cond) ∈ z_TT := z_mem 343 (by decide +kernel) (by decide +kernel)
theorem tw_344 : ((Jvm.Cond.methodLink "DotsOnGrassLaw" (45 : Nat) ({ cls := "DotsOnGrass", name := "corner", desc := "(IIIII)I" } : Jvm.MethodName)) : Cond) ∈ z_TT := z_mem 344 (by decide +kernel) (by decide +kernel)
theorem tw_345 : ((Jvm.Cond.instanceMethod ({ cls := "DotsOnGrass", name := "corner", desc := "(IIIII)I" } : Jvm.MethodName)) : Cond) ∈ z_TT := z_mem 345 (by decide +kernel) (by decide +kernel)
theorem tw_346 : ((Jvm.Cond.selects "DotsOnGrass" ({ cls := "DotsOnGrass", name := "corner", desc := "(IIIII)I" } : Jvm.MethodName) ({ cls := "DotsOnGrass", name := "corner", desc := "(IIIII)I" } : Jvm.MethodName)) : Cond) ∈ z_TT := z_mem 346 (by decide +kernel) (by decide +kernel)
theorem tw_347 : ((Jvm.Cond.code ({ cls := "DotsOnGrass", name := "corner", desc := "(IIIII)I" } : Jvm.MethodName) prog_1_method_9_code (6 : Nat) (Option.some Jvm.ClassFile.FieldType.int)) : Cond) ∈ z_TT := z_mem 347 (by decide +kernel) (by decide +kernel)
theorem tw_348 : ((Jvm.Cond.methodLink "DotsOnGrass" (101 : Nat) ({ cls := "DotsOnGrass$Shape", name := "becomeCorner", desc := "(IIII)V" } : Jvm.MethodName)) : Cond) ∈ z_TT := z_mem 348 (by decide +kernel) (by decide +kernel)
theorem tw_349 : ((Jvm.Cond.instanceMethod ({ cls := "DotsOnGrass$Shape", name := "becomeCorner", desc := "(IIII)V" } : Jvm.MethodName)) : Cond) ∈ z_TT := z_mem 349 (by decide +kernel) (by decide +kernel)
theorem tw_350 : ((Jvm.Cond.selects "DotsOnGrass$Shape" ({ cls := "DotsOnGrass$Shape", name := "becomeCorner", desc := "(IIII)V" } : Jvm.MethodName) ({ cls := "DotsOnGrass$Shape", name := "becomeCorner", desc := "(IIII)V" } : Jvm.MethodName)) : Cond) ∈ z_TT := z_mem 350 (by decide +kernel) (by decide +kernel)
theorem tw_351 : ((Jvm.Cond.code ({ cls := "DotsOnGrass$Shape", name := "becomeCorner", desc := "(IIII)V" } : Jvm.MethodName) prog_5_method_4_code (6 : Nat) (Option.none : Option Jvm.ClassFile.FieldType)) : Cond) ∈ z_TT := z_mem 351 (by decide +kernel) (by decide +kernel)
theorem tw_352 : ((Jvm.Cond.methodLink "DotsOnGrassLaw" (50 : Nat) ({ cls := "DotsOnGrass", name := "solo", desc := "(IIZ)I" } : Jvm.MethodName)) : Cond) ∈ z_TT := z_mem 352 (by decide +kernel) (by decide +kernel)
theorem tw_353 : ((Jvm.Cond.instanceMethod ({ cls := "DotsOnGrass", name := "solo", desc := "(IIZ)I" } : Jvm.MethodName)) : Cond) ∈ z_TT := z_mem 353 (by decide +kernel) (by decide +kernel)
theorem tw_354 : ((Jvm.Cond.selects "DotsOnGrass" ({ cls := "DotsOnGrass", name := "solo", desc := "(IIZ)I" } : Jvm.MethodName) ({ cls := "DotsOnGrass", name := "solo", desc := "(IIZ)I" } : Jvm.MethodName)) : Cond) ∈ z_TT := z_mem 354 (by decide +kernel) (by decide +kernel)
theorem tw_355 : ((Jvm.Cond.code ({ cls := "DotsOnGrass", name := "solo", desc := "(IIZ)I" } : Jvm.MethodName) prog_1_method_10_code (5 : Nat) (Option.some Jvm.ClassFile.FieldType.int)) : Cond) ∈ z_TT := z_mem 355 (by decide +kernel) (by decide +kernel)
theorem tw_356 : ((Jvm.Cond.methodLink "DotsOnGrass" (105 : Nat) ({ cls := "DotsOnGrass$Picture", name := "hasDot", desc := "(I)Z" } : Jvm.MethodName)) : Cond) ∈ z_TT := z_mem 356 (by decide +kernel) (by decide +kernel)
theorem tw_357 : ((Jvm.Cond.instanceMethod ({ cls := "DotsOnGrass$Picture", name := "hasDot", desc := "(I)Z" } : Jvm.MethodName)) : Cond) ∈ z_TT := z_mem 357 (by decide +kernel) (by decide +kernel)
theorem tw_358 : ((Jvm.Cond.selects "DotsOnGrass$Picture" ({ cls := "DotsOnGrass$Picture", name := "hasDot", desc := "(I)Z" } : Jvm.MethodName) ({ cls := "DotsOnGrass$Picture", name := "hasDot", desc := "(I)Z" } : Jvm.MethodName)) : Cond) ∈ z_TT := z_mem 358 (by decide +kernel) (by decide +kernel)
theorem tw_359 : ((Jvm.Cond.code ({ cls := "DotsOnGrass$Picture", name := "hasDot", desc := "(I)Z" } : Jvm.MethodName) prog_2_method_4_code (2 : Nat) (Option.some Jvm.ClassFile.FieldType.boolean)) : Cond) ∈ z_TT := z_mem 359 (by decide +kernel) (by decide +kernel)
theorem tw_360 : ((Jvm.Cond.methodLink "DotsOnGrassLaw" (55 : Nat) ({ cls := "DotsOnGrass", name := "scrub", desc := "(I)I" } : Jvm.MethodName)) : Cond) ∈ z_TT := z_mem 360 (by decide +kernel) (by decide +kernel)
theorem tw_361 : ((Jvm.Cond.instanceMethod ({ cls := "DotsOnGrass", name := "scrub", desc := "(I)I" } : Jvm.MethodName)) : Cond) ∈ z_TT := z_mem 361 (by decide +kernel) (by decide +kernel)
theorem tw_362 : ((Jvm.Cond.selects "DotsOnGrass" ({ cls := "DotsOnGrass", name := "scrub", desc := "(I)I" } : Jvm.MethodName) ({ cls := "DotsOnGrass", name := "scrub", desc := "(I)I" } : Jvm.MethodName)) : Cond) ∈ z_TT := z_mem 362 (by decide +kernel) (by decide +kernel)
theorem tw_363 : ((Jvm.Cond.code ({ cls := "DotsOnGrass", name := "scrub", desc := "(I)I" } : Jvm.MethodName) prog_1_method_11_code (3 : Nat) (Option.some Jvm.ClassFile.FieldType.int)) : Cond) ∈ z_TT := z_mem 363 (by decide +kernel) (by decide +kernel)
theorem tw_364 : ((Jvm.Cond.methodLink "DotsOnGrassLaw" (59 : Nat) ({ cls := "DotsOnGrass", name := "rule", desc := "(II)I" } : Jvm.MethodName)) : Cond) ∈ z_TT := z_mem 364 (by decide +kernel) (by decide +kernel)
theorem tw_365 : ((Jvm.Cond.instanceMethod ({ cls := "DotsOnGrass", name := "rule", desc := "(II)I" } : Jvm.MethodName)) : Cond) ∈ z_TT := z_mem 365 (by decide +kernel) (by decide +kernel)
theorem tw_366 : ((Jvm.Cond.selects "DotsOnGrass" ({ cls := "DotsOnGrass", name := "rule", desc := "(II)I" } : Jvm.MethodName) ({ cls := "DotsOnGrass", name := "rule", desc := "(II)I" } : Jvm.MethodName)) : Cond) ∈ z_TT := z_mem 366 (by decide +kernel) (by decide +kernel)
theorem tw_367 : ((Jvm.Cond.code ({ cls := "DotsOnGrass", name := "rule", desc := "(II)I" } : Jvm.MethodName) prog_1_method_12_code (4 : Nat) (Option.some Jvm.ClassFile.FieldType.int)) : Cond) ∈ z_TT := z_mem 367 (by decide +kernel) (by decide +kernel)
theorem tw_368 : ((Jvm.Cond.methodLink "DotsOnGrassLaw" (63 : Nat) ({ cls := "DotsOnGrass", name := "drums", desc := "(II)I" } : Jvm.MethodName)) : Cond) ∈ z_TT := z_mem 368 (by decide +kernel) (by decide +kernel)
theorem tw_369 : ((Jvm.Cond.instanceMethod ({ cls := "DotsOnGrass", name := "drums", desc := "(II)I" } : Jvm.MethodName)) : Cond) ∈ z_TT := z_mem 369 (by decide +kernel) (by decide +kernel)
theorem tw_370 : ((Jvm.Cond.selects "DotsOnGrass" ({ cls := "DotsOnGrass", name := "drums", desc := "(II)I" } : Jvm.MethodName) ({ cls := "DotsOnGrass", name := "drums", desc := "(II)I" } : Jvm.MethodName)) : Cond) ∈ z_TT := z_mem 370 (by decide +kernel) (by decide +kernel)
theorem tw_371 : ((Jvm.Cond.code ({ cls := "DotsOnGrass", name := "drums", desc := "(II)I" } : Jvm.MethodName) prog_1_method_13_code (3 : Nat) (Option.some Jvm.ClassFile.FieldType.int)) : Cond) ∈ z_TT := z_mem 371 (by decide +kernel) (by decide +kernel)
theorem tw_372 : ((Jvm.Cond.methodLink "DotsOnGrass" (120 : Nat) ({ cls := "DotsOnGrass", name := "isOnGrass", desc := "(II)Z" } : Jvm.MethodName)) : Cond) ∈ z_TT := z_mem 372 (by decide +kernel) (by decide +kernel)
theorem tw_373 : ((Jvm.Cond.methodLink "DotsOnGrassLaw" (67 : Nat) ({ cls := "DotsOnGrass", name := "dot", desc := "(III)I" } : Jvm.MethodName)) : Cond) ∈ z_TT := z_mem 373 (by decide +kernel) (by decide +kernel)
theorem tw_374 : ((Jvm.Cond.instanceMethod ({ cls := "DotsOnGrass", name := "dot", desc := "(III)I" } : Jvm.MethodName)) : Cond) ∈ z_TT := z_mem 374 (by decide +kernel) (by decide +kernel)
theorem tw_375 : ((Jvm.Cond.selects "DotsOnGrass" ({ cls := "DotsOnGrass", name := "dot", desc := "(III)I" } : Jvm.MethodName) ({ cls := "DotsOnGrass", name := "dot", desc := "(III)I" } : Jvm.MethodName)) : Cond) ∈ z_TT := z_mem 375 (by decide +kernel) (by decide +kernel)
theorem tw_376 : ((Jvm.Cond.code ({ cls := "DotsOnGrass", name := "dot", desc := "(III)I" } : Jvm.MethodName) prog_1_method_14_code (5 : Nat) (Option.some Jvm.ClassFile.FieldType.int)) : Cond) ∈ z_TT := z_mem 376 (by decide +kernel) (by decide +kernel)
theorem tw_377 : ((Jvm.Cond.methodLink "DotsOnGrass" (130 : Nat) ({ cls := "DotsOnGrass$Picture", name := "xOf", desc := "(I)I" } : Jvm.MethodName)) : Cond) ∈ z_TT := z_mem 377 (by decide +kernel) (by decide +kernel)
theorem tw_378 : ((Jvm.Cond.instanceMethod ({ cls := "DotsOnGrass$Picture", name := "xOf", desc := "(I)I" } : Jvm.MethodName)) : Cond) ∈ z_TT := z_mem 378 (by decide +kernel) (by decide +kernel)
theorem tw_379 : ((Jvm.Cond.selects "DotsOnGrass$Picture" ({ cls := "DotsOnGrass$Picture", name := "xOf", desc := "(I)I" } : Jvm.MethodName) ({ cls := "DotsOnGrass$Picture", name := "xOf", desc := "(I)I" } : Jvm.MethodName)) : Cond) ∈ z_TT := z_mem 379 (by decide +kernel) (by decide +kernel)
theorem tw_380 : ((Jvm.Cond.code ({ cls := "DotsOnGrass$Picture", name := "xOf", desc := "(I)I" } : Jvm.MethodName) prog_2_method_5_code (2 : Nat) (Option.some Jvm.ClassFile.FieldType.int)) : Cond) ∈ z_TT := z_mem 380 (by decide +kernel) (by decide +kernel)
theorem tw_381 : ((Jvm.Cond.methodLink "DotsOnGrass$Picture" (35 : Nat) ({ cls := "DotsOnGrass$Picture", name := "hasDot", desc := "(I)Z" } : Jvm.MethodName)) : Cond) ∈ z_TT := z_mem 381 (by decide +kernel) (by decide +kernel)
theorem tw_382 : ((Jvm.Cond.methodLink "DotsOnGrass" (133 : Nat) ({ cls := "DotsOnGrass$Picture", name := "yOf", desc := "(I)I" } : Jvm.MethodName)) : Cond) ∈ z_TT := z_mem 382 (by decide +kernel) (by decide +kernel)
theorem tw_383 : ((Jvm.Cond.instanceMethod ({ cls := "DotsOnGrass$Picture", name := "yOf", desc := "(I)I" } : Jvm.MethodName)) : Cond) ∈ z_TT := z_mem 383 (by decide +kernel) (by decide +kernel)
theorem tw_384 : ((Jvm.Cond.selects "DotsOnGrass$Picture" ({ cls := "DotsOnGrass$Picture", name := "yOf", desc := "(I)I" } : Jvm.MethodName) ({ cls := "DotsOnGrass$Picture", name := "yOf", desc := "(I)I" } : Jvm.MethodName)) : Cond) ∈ z_TT := z_mem 384 (by decide +kernel) (by decide +kernel)
theorem tw_385 : ((Jvm.Cond.code ({ cls := "DotsOnGrass$Picture", name := "yOf", desc := "(I)I" } : Jvm.MethodName) prog_2_method_6_code (2 : Nat) (Option.some Jvm.ClassFile.FieldType.int)) : Cond) ∈ z_TT := z_mem 385 (by decide +kernel) (by decide +kernel)
theorem tw_386 : ((Jvm.Cond.methodLink "DotsOnGrassLaw" (72 : Nat) ({ cls := "DotsOnGrass", name := "set", desc := "(II)I" } : Jvm.MethodName)) : Cond) ∈ z_TT := z_mem 386 (by decide +kernel) (by decide +kernel)
theorem tw_387 : ((Jvm.Cond.instanceMethod ({ cls := "DotsOnGrass", name := "set", desc := "(II)I" } : Jvm.MethodName)) : Cond) ∈ z_TT := z_mem 387 (by decide +kernel) (by decide +kernel)
theorem tw_388 : ((Jvm.Cond.selects "DotsOnGrass" ({ cls := "DotsOnGrass", name := "set", desc := "(II)I" } : Jvm.MethodName) ({ cls := "DotsOnGrass", name := "set", desc := "(II)I" } : Jvm.MethodName)) : Cond) ∈ z_TT := z_mem 388 (by decide +kernel) (by decide +kernel)
theorem tw_389 : ((Jvm.Cond.code ({ cls := "DotsOnGrass", name := "set", desc := "(II)I" } : Jvm.MethodName) prog_1_method_15_code (4 : Nat) (Option.some Jvm.ClassFile.FieldType.int)) : Cond) ∈ z_TT := z_mem 389 (by decide +kernel) (by decide +kernel)
theorem tw_390 : ((Jvm.Cond.methodLink "DotsOnGrass" (136 : Nat) ({ cls := "DotsOnGrass", name := "refusalOf", desc := "(II)I" } : Jvm.MethodName)) : Cond) ∈ z_TT := z_mem 390 (by decide +kernel) (by decide +kernel)
theorem tw_392 : ((Jvm.Cond.instanceMethod ({ cls := "DotsOnGrass", name := "refusalOf", desc := "(II)I" } : Jvm.MethodName)) : Cond) ∈ z_TT := z_mem 392 (by decide +kernel) (by decide +kernel)
theorem tw_393 : ((Jvm.Cond.code ({ cls := "DotsOnGrass", name := "refusalOf", desc := "(II)I" } : Jvm.MethodName) prog_1_method_30_code (3 : Nat) (Option.some Jvm.ClassFile.FieldType.int)) : Cond) ∈ z_TT := z_mem 393 (by decide +kernel) (by decide +kernel)
theorem tw_394 : ((Jvm.Cond.methodLink "DotsOnGrass" (143 : Nat) ({ cls := "DotsOnGrass$Plan", name := "settleTo", desc := "(LDotsOnGrass$Show;II)V" } : Jvm.MethodName)) : Cond) ∈ z_TT := z_mem 394 (by decide +kernel) (by decide +kernel)
theorem tw_395 : ((Jvm.Cond.instanceMethod ({ cls := "DotsOnGrass$Plan", name := "settleTo", desc := "(LDotsOnGrass$Show;II)V" } : Jvm.MethodName)) : Cond) ∈ z_TT := z_mem 395 (by decide +kernel) (by decide +kernel)
theorem tw_396 : ((Jvm.Cond.selects "DotsOnGrass$Plan" ({ cls := "DotsOnGrass$Plan", name := "settleTo", desc := "(LDotsOnGrass$Show;II)V" } : Jvm.MethodName) ({ cls := "DotsOnGrass$Plan", name := "settleTo", desc := "(LDotsOnGrass$Show;II)V" } : Jvm.MethodName)) : Cond) ∈ z_TT := z_mem 396 (by decide +kernel) (by decide +kernel)
theorem tw_397 : ((Jvm.Cond.code ({ cls := "DotsOnGrass$Plan", name := "settleTo", desc := "(LDotsOnGrass$Show;II)V" } : Jvm.MethodName) prog_3_method_4_code (5 : Nat) (Option.none : Option Jvm.ClassFile.FieldType)) : Cond) ∈ z_TT := z_mem 397 (by decide +kernel) (by decide +kernel)
theorem tw_398 : ((Jvm.Cond.methodLink "DotsOnGrass$Plan" (46 : Nat) ({ cls := "DotsOnGrass$Plan", name := "settle", desc := "(LDotsOnGrass$Show;II)V" } : Jvm.MethodName)) : Cond) ∈ z_TT := z_mem 398 (by decide +kernel) (by decide +kernel)
theorem tw_400 : ((Jvm.Cond.instanceMethod ({ cls := "DotsOnGrass$Plan", name := "settle", desc := "(LDotsOnGrass$Show;II)V" } : Jvm.MethodName)) : Cond) ∈ z_TT := z_mem 400 (by decide +kernel) (by decide +kernel)
theorem tw_401 : ((Jvm.Cond.code ({ cls := "DotsOnGrass$Plan", name := "settle", desc := "(LDotsOnGrass$Show;II)V" } : Jvm.MethodName) prog_3_method_5_code (5 : Nat) (Option.none : Option Jvm.ClassFile.FieldType)) : Cond) ∈ z_TT := z_mem 401 (by decide +kernel) (by decide +kernel)
theorem tw_402 : ((Jvm.Cond.methodLink "DotsOnGrass$Plan" (50 : Nat) ({ cls := "java/util/Arrays", name := "fill", desc := "([II)V" } : Jvm.MethodName)) : Cond) ∈ z_TT := z_mem 402 (by decide +kernel) (by decide +kernel)
theorem tw_403 : ((Jvm.Cond.static ({ cls := "java/util/Arrays", name := "fill", desc := "([II)V" } : Jvm.MethodName)) : Cond) ∈ z_TT := z_mem 403 (by decide +kernel) (by decide +kernel)
theorem tw_404 : ((Jvm.Cond.code ({ cls := "java/util/Arrays", name := "fill", desc := "([II)V" } : Jvm.MethodName) prog_11_method_103_code (4 : Nat) (Option.none : Option Jvm.ClassFile.FieldType)) : Cond) ∈ z_TT := z_mem 404 (by decide +kernel) (by decide +kernel)
theorem tw_405 : ((Jvm.Cond.methodLink "DotsOnGrass$Plan" (56 : Nat) ({ cls := "DotsOnGrass$Search", name := "begin", desc := "(LDotsOnGrass$Show;I)V" } : Jvm.MethodName)) : Cond) ∈ z_TT := z_mem 405 (by decide +kernel) (by decide +kernel)
theorem tw_406 : ((Jvm.Cond.instanceMethod ({ cls := "DotsOnGrass$Search", name := "begin", desc := "(LDotsOnGrass$Show;I)V" } : Jvm.MethodName)) : Cond) ∈ z_TT := z_mem 406 (by decide +kernel) (by decide +kernel)
theorem tw_407 : ((Jvm.Cond.selects "DotsOnGrass$Search" ({ cls := "DotsOnGrass$Search", name := "begin", desc := "(LDotsOnGrass$Show;I)V" } : Jvm.MethodName) ({ cls := "DotsOnGrass$Search", name := "begin", desc := "(LDotsOnGrass$Show;I)V" } : Jvm.MethodName)) : Cond) ∈ z_TT := z_mem 407 (by decide +kernel) (by decide +kernel)
theorem tw_408 : ((Jvm.Cond.code ({ cls := "DotsOnGrass$Search", name := "begin", desc := "(LDotsOnGrass$Show;I)V" } : Jvm.MethodName) prog_4_method_2_code (4 : Nat) (Option.none : Option Jvm.ClassFile.FieldType)) : Cond) ∈ z_TT := z_mem 408 (by decide +kernel) (by decide +kernel)
theorem tw_409 : ((Jvm.Cond.methodLink "DotsOnGrass$Plan" (62 : Nat) ({ cls := "DotsOnGrass$Search", name := "startAnywhere", desc := "()V" } : Jvm.MethodName)) : Cond) ∈ z_TT := z_mem 409 (by decide +kernel) (by decide +kernel)
theorem tw_410 : ((Jvm.Cond.instanceMethod ({ cls := "DotsOnGrass$Search", name := "startAnywhere", desc := "()V" } : Jvm.MethodName)) : Cond) ∈ z_TT := z_mem 410 (by decide +kernel) (by decide +kernel)
theorem tw_411 : ((Jvm.Cond.selects "DotsOnGrass$Search" ({ cls := "DotsOnGrass$Search", name := "startAnywhere", desc := "()V" } : Jvm.MethodName) ({ cls := "DotsOnGrass$Search", name := "startAnywhere", desc := "()V" } : Jvm.MethodName)) : Cond) ∈ z_TT := z_mem 411 (by decide +kernel) (by decide +kernel)
theorem tw_412 : ((Jvm.Cond.code ({ cls := "DotsOnGrass$Search", name := "startAnywhere", desc := "()V" } : Jvm.MethodName) prog_4_method_3_code (1 : Nat) (Option.none : Option Jvm.ClassFile.FieldType)) : Cond) ∈ z_TT := z_mem 412 (by decide +kernel) (by decide +kernel)
theorem tw_413 : ((Jvm.Cond.methodLink "DotsOnGrass$Search" (56 : Nat) ({ cls := "java/util/Arrays", name := "fill", desc := "([II)V" } : Jvm.MethodName)) : Cond) ∈ z_TT := z_mem 413 (by decide +kernel) (by decide +kernel)
theorem tw_414 : ((Jvm.Cond.methodLink "DotsOnGrass$Plan" (65 : Nat) ({ cls := "DotsOnGrass$Search", name := "startFrom", desc := "(LDotsOnGrass$Show;I[I)V" } : Jvm.MethodName)) : Cond) ∈ z_TT := z_mem 414 (by decide +kernel) (by decide +kernel)
theorem tw_415 : ((Jvm.Cond.instanceMethod ({ cls := "DotsOnGrass$Search", name := "startFrom", desc := "(LDotsOnGrass$Show;I[I)V" } : Jvm.MethodName)) : Cond) ∈ z_TT := z_mem 415 (by decide +kernel) (by decide +kernel)
theorem tw_416 : ((Jvm.Cond.selects "DotsOnGrass$Search" ({ cls := "DotsOnGrass$Search", name := "startFrom", desc := "(LDotsOnGrass$Show;I[I)V" } : Jvm.MethodName) ({ cls := "DotsOnGrass$Search", name := "startFrom", desc := "(LDotsOnGrass$Show;I[I)V" } : Jvm.MethodName)) : Cond) ∈ z_TT := z_mem 416 (by decide +kernel) (by decide +kernel)
theorem tw_417 : ((Jvm.Cond.code ({ cls := "DotsOnGrass$Search", name := "startFrom", desc := "(LDotsOnGrass$Show;I[I)V" } : Jvm.MethodName) prog_4_method_4_code (7 : Nat) (Option.none : Option Jvm.ClassFile.FieldType)) : Cond) ∈ z_TT := z_mem 417 (by decide +kernel) (by decide +kernel)
theorem tw_418 : ((Jvm.Cond.methodLink "DotsOnGrass$Search" (70 : Nat) ({ cls := "DotsOnGrass$Picture", name := "xOf", desc := "(I)I" } : Jvm.MethodName)) : Cond) ∈ z_TT := z_mem 418 (by decide +kernel) (by decide +kernel)
theorem tw_419 : ((Jvm.Cond.methodLink "DotsOnGrass$Search" (76 : Nat) ({ cls := "DotsOnGrass$Picture", name := "yOf", desc := "(I)I" } : Jvm.MethodName)) : Cond) ∈ z_TT := z_mem 419 (by decide +kernel) (by decide +kernel)
theorem tw_420 : ((Jvm.Cond.methodLink "DotsOnGrass$Search" (85 : Nat) ({ cls := "DotsOnGrass$Search", name := "measureSteps", desc := "(LDotsOnGrass$Picture;II)V" } : Jvm.MethodName)) : Cond) ∈ z_TT := z_mem 420 (by decide +kernel) (by decide +kernel)
theorem tw_422 : ((Jvm.Cond.instanceMethod ({ cls := "DotsOnGrass$Search", name := "measureSteps", desc := "(LDotsOnGrass$Picture;II)V" } : Jvm.MethodName)) : Cond) ∈ z_TT := z_mem 422 (by decide +kernel) (by decide +kernel)
theorem tw_423 : ((Jvm.Cond.code ({ cls := "DotsOnGrass$Search", name := "measureSteps", desc := "(LDotsOnGrass$Picture;II)V" } : Jvm.MethodName) prog_4_method_5_code (8 : Nat) (Option.none : Option Jvm.ClassFile.FieldType)) : Cond) ∈ z_TT := z_mem 423 (by decide +kernel) (by decide +kernel)
theorem tw_424 : ((Jvm.Cond.methodLink "DotsOnGrass$Search" (95 : Nat) ({ cls := "java/lang/Math", name := "abs", desc := "(I)I" } : Jvm.MethodName)) : Cond) ∈ z_TT := z_mem 424 (by decide +kernel) (by decide +kernel)
theorem tw_425 : ((Jvm.Cond.static ({ cls := "java/lang/Math", name := "abs", desc := "(I)I" } : Jvm.MethodName)) : Cond) ∈ z_TT := z_mem 425 (by decide +kernel) (by decide +kernel)
theorem tw_426 : ((Jvm.Cond.code ({ cls := "java/lang/Math", name := "abs", desc := "(I)I" } : Jvm.MethodName) prog_9_method_59_code (1 : Nat) (Option.some Jvm.ClassFile.FieldType.int)) : Cond) ∈ z_TT := z_mem 426 (by decide +kernel) (by decide +kernel)
theorem tw_427 : ((Jvm.Cond.methodLink "DotsOnGrass$Search" (103 : Nat) ({ cls := "java/lang/Math", name := "max", desc := "(II)I" } : Jvm.MethodName)) : Cond) ∈ z_TT := z_mem 427 (by decide +kernel) (by decide +kernel)
theorem tw_428 : ((Jvm.Cond.static ({ cls := "java/lang/Math", name := "max", desc := "(II)I" } : Jvm.MethodName)) : Cond) ∈ z_TT := z_mem 428 (by decide +kernel) (by decide +kernel)
theorem tw_429 : ((Jvm.Cond.code ({ cls := "java/lang/Math", name := "max", desc := "(II)I" } : Jvm.MethodName) prog_9_method_65_code (2 : Nat) (Option.some Jvm.ClassFile.FieldType.int)) : Cond) ∈ z_TT := z_mem 429 (by decide +kernel) (by decide +kernel)
theorem tw_430 : ((Jvm.Cond.methodLink "DotsOnGrass$Plan" (73 : Nat) ({ cls := "DotsOnGrass$Picture", name := "solos", desc := "()I" } : Jvm.MethodName)) : Cond) ∈ z_TT := z_mem 430 (by decide +kernel) (by decide +kernel)
theorem tw_431 : ((Jvm.Cond.instanceMethod ({ cls := "DotsOnGrass$Picture", name := "solos", desc := "()I" } : Jvm.MethodName)) : Cond) ∈ z_TT := z_mem 431 (by decide +kernel) (by decide +kernel)
theorem tw_432 : ((Jvm.Cond.selects "DotsOnGrass$Picture" ({ cls := "DotsOnGrass$Picture", name := "solos", desc := "()I" } : Jvm.MethodName) ({ cls := "DotsOnGrass$Picture", name := "solos", desc := "()I" } : Jvm.MethodName)) : Cond) ∈ z_TT := z_mem 432 (by decide +kernel) (by decide +kernel)
theorem tw_433 : ((Jvm.Cond.code ({ cls := "DotsOnGrass$Picture", name := "solos", desc := "()I" } : Jvm.MethodName) prog_2_method_7_code (3 : Nat) (Option.some Jvm.ClassFile.FieldType.int)) : Cond) ∈ z_TT := z_mem 433 (by decide +kernel) (by decide +kernel)
theorem tw_436 : ((Jvm.Cond.instanceMethod ({ cls := "DotsOnGrass$Search", name := "choose", desc := "(LDotsOnGrass$Picture;IIIII)V" } : Jvm.MethodName)) : Cond) ∈ z_TT := z_mem 436 (by decide +kernel) (by decide +kernel)
theorem tw_437 : ((Jvm.Cond.code ({ cls := "DotsOnGrass$Search", name := "choose", desc := "(LDotsOnGrass$Picture;IIIII)V" } : Jvm.MethodName) prog_4_method_7_code (9 : Nat) (Option.none : Option Jvm.ClassFile.FieldType)) : Cond) ∈ z_TT := z_mem 437 (by decide +kernel) (by decide +kernel)
theorem tw_438 : ((Jvm.Cond.methodLink "DotsOnGrass$Search" (107 : Nat) ({ cls := "DotsOnGrass$Search", name := "remember", desc := "(II)V" } : Jvm.MethodName)) : Cond) ∈ z_TT := z_mem 438 (by decide +kernel) (by decide +kernel)
theorem tw_440 : ((Jvm.Cond.instanceMethod ({ cls := "DotsOnGrass$Search", name := "remember", desc := "(II)V" } : Jvm.MethodName)) : Cond) ∈ z_TT := z_mem 440 (by decide +kernel) (by decide +kernel)
theorem tw_441 : ((Jvm.Cond.code ({ cls := "DotsOnGrass$Search", name := "remember", desc := "(II)V" } : Jvm.MethodName) prog_4_method_9_code (3 : Nat) (Option.none : Option Jvm.ClassFile.FieldType)) : Cond) ∈ z_TT := z_mem 441 (by decide +kernel) (by decide +kernel)
theorem tw_442 : ((Jvm.Cond.methodLink "DotsOnGrass$Search" (126 : Nat) ({ cls := "java/lang/System", name := "arraycopy", desc := "(Ljava/lang/Object;ILjava/lang/Object;II)V" } : Jvm.MethodName)) : Cond) ∈ z_TT := z_mem 442 (by decide +kernel) (by decide +kernel)
theorem tw_443 : ((Jvm.Cond.static ({ cls := "java/lang/System", name := "arraycopy", desc := "(Ljava/lang/Object;ILjava/lang/Object;II)V" } : Jvm.MethodName)) : Cond) ∈ z_TT := z_mem 443 (by decide +kernel) (by decide +kernel)
theorem tw_444 : ((Jvm.Cond.native ({ cls := "java/lang/System", name := "arraycopy", desc := "(Ljava/lang/Object;ILjava/lang/Object;II)V" } : Jvm.MethodName)) : Cond) ∈ z_TT := z_mem 444 (by decide +kernel) (by decide +kernel)
theorem tw_445 : ((Jvm.Cond.methodLink "DotsOnGrass$Search" (111 : Nat) ({ cls := "DotsOnGrass$Search", name := "isBetter", desc := "(II)Z" } : Jvm.MethodName)) : Cond) ∈ z_TT := z_mem 445 (by decide +kernel) (by decide +kernel)
theorem tw_447 : ((Jvm.Cond.instanceMethod ({ cls := "DotsOnGrass$Search", name := "isBetter", desc := "(II)Z" } : Jvm.MethodName)) : Cond) ∈ z_TT := z_mem 447 (by decide +kernel) (by decide +kernel)
theorem tw_448 : ((Jvm.Cond.code ({ cls := "DotsOnGrass$Search", name := "isBetter", desc := "(II)Z" } : Jvm.MethodName) prog_4_method_8_code (3 : Nat) (Option.some Jvm.ClassFile.FieldType.boolean)) : Cond) ∈ z_TT := z_mem 448 (by decide +kernel) (by decide +kernel)
theorem tw_449 : ((Jvm.Cond.methodLink "DotsOnGrass$Search" (115 : Nat) ({ cls := "DotsOnGrass$Search", name := "isClear", desc := "(LDotsOnGrass$Picture;II)Z" } : Jvm.MethodName)) : Cond) ∈ z_TT := z_mem 449 (by decide +kernel) (by decide +kernel)
theorem tw_451 : ((Jvm.Cond.instanceMethod ({ cls := "DotsOnGrass$Search", name := "isClear", desc := "(LDotsOnGrass$Picture;II)Z" } : Jvm.MethodName)) : Cond) ∈ z_TT := z_mem 451 (by decide +kernel) (by decide +kernel)
theorem tw_452 : ((Jvm.Cond.code ({ cls := "DotsOnGrass$Search", name := "isClear", desc := "(LDotsOnGrass$Picture;II)Z" } : Jvm.MethodName) prog_4_method_10_code (8 : Nat) (Option.some Jvm.ClassFile.FieldType.boolean)) : Cond) ∈ z_TT := z_mem 452 (by decide +kernel) (by decide +kernel)
theorem tw_454 : ((Jvm.Cond.static ({ cls := "DotsOnGrass", name := "leastStep", desc := "(IIIII)I" } : Jvm.MethodName)) : Cond) ∈ z_TT := z_mem 454 (by decide +kernel) (by decide +kernel)
theorem tw_455 : ((Jvm.Cond.code ({ cls := "DotsOnGrass", name := "leastStep", desc := "(IIIII)I" } : Jvm.MethodName) prog_1_method_27_code (10 : Nat) (Option.some Jvm.ClassFile.FieldType.int)) : Cond) ∈ z_TT := z_mem 455 (by decide +kernel) (by decide +kernel)
theorem tw_456 : ((Jvm.Cond.constant "DotsOnGrass" (197 : Nat) (2147483647 : Int32)) : Cond) ∈ z_TT := z_mem 456 (by decide +kernel) (by decide +kernel)
theorem tw_457 : ((Jvm.Cond.methodLink "DotsOnGrass" (174 : Nat) ({ cls := "java/lang/Math", name := "abs", desc := "(I)I" } : Jvm.MethodName)) : Cond) ∈ z_TT := z_mem 457 (by decide +kernel) (by decide +kernel)
theorem tw_458 : ((Jvm.Cond.methodLink "DotsOnGrass" (198 : Nat) ({ cls := "java/lang/Math", name := "max", desc := "(II)I" } : Jvm.MethodName)) : Cond) ∈ z_TT := z_mem 458 (by decide +kernel) (by decide +kernel)
theorem tw_459 : ((Jvm.Cond.methodLink "DotsOnGrass" (201 : Nat) ({ cls := "java/lang/Math", name := "min", desc := "(II)I" } : Jvm.MethodName)) : Cond) ∈ z_TT := z_mem 459 (by decide +kernel) (by decide +kernel)
theorem tw_460 : ((Jvm.Cond.methodLink "DotsOnGrass$Search" (122 : Nat) ({ cls := "DotsOnGrass$Search", name := "choose", desc := "(LDotsOnGrass$Picture;IIIII)V" } : Jvm.MethodName)) : Cond) ∈ z_TT := z_mem 460 (by decide +kernel) (by decide +kernel)
theorem tw_461 : ((Jvm.Cond.methodLink "DotsOnGrass$Plan" (92 : Nat) ({ cls := "DotsOnGrass$Search", name := "tell", desc := "([I)V" } : Jvm.MethodName)) : Cond) ∈ z_TT := z_mem 461 (by decide +kernel) (by decide +kernel)
theorem tw_462 : ((Jvm.Cond.instanceMethod ({ cls := "DotsOnGrass$Search", name := "tell", desc := "([I)V" } : Jvm.MethodName)) : Cond) ∈ z_TT := z_mem 462 (by decide +kernel) (by decide +kernel)
theorem tw_463 : ((Jvm.Cond.selects "DotsOnGrass$Search" ({ cls := "DotsOnGrass$Search", name := "tell", desc := "([I)V" } : Jvm.MethodName) ({ cls := "DotsOnGrass$Search", name := "tell", desc := "([I)V" } : Jvm.MethodName)) : Cond) ∈ z_TT := z_mem 463 (by decide +kernel) (by decide +kernel)
theorem tw_464 : ((Jvm.Cond.code ({ cls := "DotsOnGrass$Search", name := "tell", desc := "([I)V" } : Jvm.MethodName) prog_4_method_6_code (3 : Nat) (Option.none : Option Jvm.ClassFile.FieldType)) : Cond) ∈ z_TT := z_mem 464 (by decide +kernel) (by decide +kernel)
theorem tw_465 : ((Jvm.Cond.methodLink "DotsOnGrass" (140 : Nat) ({ cls := "DotsOnGrass$Plan", name := "dotOf", desc := "(II)I" } : Jvm.MethodName)) : Cond) ∈ z_TT := z_mem 465 (by decide +kernel) (by decide +kernel)
theorem tw_466 : ((Jvm.Cond.instanceMethod ({ cls := "DotsOnGrass$Plan", name := "dotOf", desc := "(II)I" } : Jvm.MethodName)) : Cond) ∈ z_TT := z_mem 466 (by decide +kernel) (by decide +kernel)
theorem tw_467 : ((Jvm.Cond.selects "DotsOnGrass$Plan" ({ cls := "DotsOnGrass$Plan", name := "dotOf", desc := "(II)I" } : Jvm.MethodName) ({ cls := "DotsOnGrass$Plan", name := "dotOf", desc := "(II)I" } : Jvm.MethodName)) : Cond) ∈ z_TT := z_mem 467 (by decide +kernel) (by decide +kernel)
theorem tw_468 : ((Jvm.Cond.code ({ cls := "DotsOnGrass$Plan", name := "dotOf", desc := "(II)I" } : Jvm.MethodName) prog_3_method_3_code (3 : Nat) (Option.some Jvm.ClassFile.FieldType.int)) : Cond) ∈ z_TT := z_mem 468 (by decide +kernel) (by decide +kernel)
theorem tw_469 : ((Jvm.Cond.methodLink "DotsOnGrassLaw" (76 : Nat) ({ cls := "DotsOnGrass", name := "steps", desc := "(II)I" } : Jvm.MethodName)) : Cond) ∈ z_TT := z_mem 469 (by decide +kernel) (by decide +kernel)
theorem tw_470 : ((Jvm.Cond.instanceMethod ({ cls := "DotsOnGrass", name := "steps", desc := "(II)I" } : Jvm.MethodName)) : Cond) ∈ z_TT := z_mem 470 (by decide +kernel) (by decide +kernel)
theorem tw_471 : ((Jvm.Cond.selects "DotsOnGrass" ({ cls := "DotsOnGrass", name := "steps", desc := "(II)I" } : Jvm.MethodName) ({ cls := "DotsOnGrass", name := "steps", desc := "(II)I" } : Jvm.MethodName)) : Cond) ∈ z_TT := z_mem 471 (by decide +kernel) (by decide +kernel)
theorem tw_472 : ((Jvm.Cond.code ({ cls := "DotsOnGrass", name := "steps", desc := "(II)I" } : Jvm.MethodName) prog_1_method_16_code (3 : Nat) (Option.some Jvm.ClassFile.FieldType.int)) : Cond) ∈ z_TT := z_mem 472 (by decide +kernel) (by decide +kernel)
theorem tw_473 : ((Jvm.Cond.methodLink "DotsOnGrass" (150 : Nat) ({ cls := "DotsOnGrass$Show", name := "present", desc := "()I" } : Jvm.MethodName)) : Cond) ∈ z_TT := z_mem 473 (by decide +kernel) (by decide +kernel)
theorem tw_474 : ((Jvm.Cond.instanceMethod ({ cls := "DotsOnGrass$Show", name := "present", desc := "()I" } : Jvm.MethodName)) : Cond) ∈ z_TT := z_mem 474 (by decide +kernel) (by decide +kernel)
theorem tw_475 : ((Jvm.Cond.selects "DotsOnGrass$Show" ({ cls := "DotsOnGrass$Show", name := "present", desc := "()I" } : Jvm.MethodName) ({ cls := "DotsOnGrass$Show", name := "present", desc := "()I" } : Jvm.MethodName)) : Cond) ∈ z_TT := z_mem 475 (by decide +kernel) (by decide +kernel)
theorem tw_476 : ((Jvm.Cond.code ({ cls := "DotsOnGrass$Show", name := "present", desc := "()I" } : Jvm.MethodName) prog_6_method_5_code (3 : Nat) (Option.some Jvm.ClassFile.FieldType.int)) : Cond) ∈ z_TT := z_mem 476 (by decide +kernel) (by decide +kernel)
theorem tw_477 : ((Jvm.Cond.methodLink "DotsOnGrassLaw" (80 : Nat) ({ cls := "DotsOnGrass", name := "way", desc := "(IIII)I" } : Jvm.MethodName)) : Cond) ∈ z_TT := z_mem 477 (by decide +kernel) (by decide +kernel)
theorem tw_478 : ((Jvm.Cond.instanceMethod ({ cls := "DotsOnGrass", name := "way", desc := "(IIII)I" } : Jvm.MethodName)) : Cond) ∈ z_TT := z_mem 478 (by decide +kernel) (by decide +kernel)
theorem tw_479 : ((Jvm.Cond.selects "DotsOnGrass" ({ cls := "DotsOnGrass", name := "way", desc := "(IIII)I" } : Jvm.MethodName) ({ cls := "DotsOnGrass", name := "way", desc := "(IIII)I" } : Jvm.MethodName)) : Cond) ∈ z_TT := z_mem 479 (by decide +kernel) (by decide +kernel)
theorem tw_480 : ((Jvm.Cond.code ({ cls := "DotsOnGrass", name := "way", desc := "(IIII)I" } : Jvm.MethodName) prog_1_method_17_code (12 : Nat) (Option.some Jvm.ClassFile.FieldType.int)) : Cond) ∈ z_TT := z_mem 480 (by decide +kernel) (by decide +kernel)
theorem tw_481 : ((Jvm.Cond.methodLink "DotsOnGrass" (160 : Nat) ({ cls := "DotsOnGrass", name := "xIn", desc := "(II)I" } : Jvm.MethodName)) : Cond) ∈ z_TT := z_mem 481 (by decide +kernel) (by decide +kernel)
theorem tw_483 : ((Jvm.Cond.instanceMethod ({ cls := "DotsOnGrass", name := "xIn", desc := "(II)I" } : Jvm.MethodName)) : Cond) ∈ z_TT := z_mem 483 (by decide +kernel) (by decide +kernel)
theorem tw_484 : ((Jvm.Cond.code ({ cls := "DotsOnGrass", name := "xIn", desc := "(II)I" } : Jvm.MethodName) prog_1_method_31_code (3 : Nat) (Option.some Jvm.ClassFile.FieldType.int)) : Cond) ∈ z_TT := z_mem 484 (by decide +kernel) (by decide +kernel)
theorem tw_485 : ((Jvm.Cond.methodLink "DotsOnGrass" (163 : Nat) ({ cls := "DotsOnGrass", name := "yIn", desc := "(II)I" } : Jvm.MethodName)) : Cond) ∈ z_TT := z_mem 485 (by decide +kernel) (by decide +kernel)
theorem tw_487 : ((Jvm.Cond.instanceMethod ({ cls := "DotsOnGrass", name := "yIn", desc := "(II)I" } : Jvm.MethodName)) : Cond) ∈ z_TT := z_mem 487 (by decide +kernel) (by decide +kernel)
theorem tw_488 : ((Jvm.Cond.code ({ cls := "DotsOnGrass", name := "yIn", desc := "(II)I" } : Jvm.MethodName) prog_1_method_32_code (3 : Nat) (Option.some Jvm.ClassFile.FieldType.int)) : Cond) ∈ z_TT := z_mem 488 (by decide +kernel) (by decide +kernel)
theorem tw_489 : ((Jvm.Cond.methodLink "DotsOnGrass" (166 : Nat) ({ cls := "DotsOnGrass", name := "cleared", desc := "(III)I" } : Jvm.MethodName)) : Cond) ∈ z_TT := z_mem 489 (by decide +kernel) (by decide +kernel)
theorem tw_490 : ((Jvm.Cond.static ({ cls := "DotsOnGrass", name := "cleared", desc := "(III)I" } : Jvm.MethodName)) : Cond) ∈ z_TT := z_mem 490 (by decide +kernel) (by decide +kernel)
theorem tw_491 : ((Jvm.Cond.code ({ cls := "DotsOnGrass", name := "cleared", desc := "(III)I" } : Jvm.MethodName) prog_1_method_28_code (4 : Nat) (Option.some Jvm.ClassFile.FieldType.int)) : Cond) ∈ z_TT := z_mem 491 (by decide +kernel) (by decide +kernel)
theorem tw_492 : ((Jvm.Cond.methodLink "DotsOnGrassLaw" (85 : Nat) ({ cls := "DotsOnGrass", name := "closest", desc := "(III)I" } : Jvm.MethodName)) : Cond) ∈ z_TT := z_mem 492 (by decide +kernel) (by decide +kernel)
theorem tw_493 : ((Jvm.Cond.instanceMethod ({ cls := "DotsOnGrass", name := "closest", desc := "(III)I" } : Jvm.MethodName)) : Cond) ∈ z_TT := z_mem 493 (by decide +kernel) (by decide +kernel)
theorem tw_494 : ((Jvm.Cond.selects "DotsOnGrass" ({ cls := "DotsOnGrass", name := "closest", desc := "(III)I" } : Jvm.MethodName) ({ cls := "DotsOnGrass", name := "closest", desc := "(III)I" } : Jvm.MethodName)) : Cond) ∈ z_TT := z_mem 494 (by decide +kernel) (by decide +kernel)
theorem tw_495 : ((Jvm.Cond.code ({ cls := "DotsOnGrass", name := "closest", desc := "(III)I" } : Jvm.MethodName) prog_1_method_18_code (4 : Nat) (Option.some Jvm.ClassFile.FieldType.int)) : Cond) ∈ z_TT := z_mem 495 (by decide +kernel) (by decide +kernel)
theorem tw_496 : ((Jvm.Cond.methodLink "DotsOnGrass" (170 : Nat) ({ cls := "DotsOnGrass", name := "leastStep", desc := "(IIIII)I" } : Jvm.MethodName)) : Cond) ∈ z_TT := z_mem 496 (by decide +kernel) (by decide +kernel)
theorem tw_497 : ((Jvm.Cond.methodLink "DotsOnGrassLaw" (89 : Nat) ({ cls := "DotsOnGrass", name := "late", desc := "(II)I" } : Jvm.MethodName)) : Cond) ∈ z_TT := z_mem 497 (by decide +kernel) (by decide +kernel)
theorem tw_498 : ((Jvm.Cond.instanceMethod ({ cls := "DotsOnGrass", name := "late", desc := "(II)I" } : Jvm.MethodName)) : Cond) ∈ z_TT := z_mem 498 (by decide +kernel) (by decide +kernel)
theorem tw_499 : ((Jvm.Cond.selects "DotsOnGrass" ({ cls := "DotsOnGrass", name := "late", desc := "(II)I" } : Jvm.MethodName) ({ cls := "DotsOnGrass", name := "late", desc := "(II)I" } : Jvm.MethodName)) : Cond) ∈ z_TT := z_mem 499 (by decide +kernel) (by decide +kernel)
theorem tw_500 : ((Jvm.Cond.code ({ cls := "DotsOnGrass", name := "late", desc := "(II)I" } : Jvm.MethodName) prog_1_method_19_code (5 : Nat) (Option.some Jvm.ClassFile.FieldType.int)) : Cond) ∈ z_TT := z_mem 500 (by decide +kernel) (by decide +kernel)
theorem tw_501 : ((Jvm.Cond.methodLink "DotsOnGrassLaw" (93 : Nat) ({ cls := "DotsOnGrass", name := "hole", desc := "(I)I" } : Jvm.MethodName)) : Cond) ∈ z_TT := z_mem 501 (by decide +kernel) (by decide +kernel)
theorem tw_502 : ((Jvm.Cond.instanceMethod ({ cls := "DotsOnGrass", name := "hole", desc := "(I)I" } : Jvm.MethodName)) : Cond) ∈ z_TT := z_mem 502 (by decide +kernel) (by decide +kernel)
theorem tw_503 : ((Jvm.Cond.selects "DotsOnGrass" ({ cls := "DotsOnGrass", name := "hole", desc := "(I)I" } : Jvm.MethodName) ({ cls := "DotsOnGrass", name := "hole", desc := "(I)I" } : Jvm.MethodName)) : Cond) ∈ z_TT := z_mem 503 (by decide +kernel) (by decide +kernel)
theorem tw_504 : ((Jvm.Cond.code ({ cls := "DotsOnGrass", name := "hole", desc := "(I)I" } : Jvm.MethodName) prog_1_method_20_code (4 : Nat) (Option.some Jvm.ClassFile.FieldType.int)) : Cond) ∈ z_TT := z_mem 504 (by decide +kernel) (by decide +kernel)
theorem tw_505 : ((Jvm.Cond.methodLink "DotsOnGrass" (179 : Nat) ({ cls := "DotsOnGrass", name := "changesIn", desc := "(II)I" } : Jvm.MethodName)) : Cond) ∈ z_TT := z_mem 505 (by decide +kernel) (by decide +kernel)
theorem tw_507 : ((Jvm.Cond.instanceMethod ({ cls := "DotsOnGrass", name := "changesIn", desc := "(II)I" } : Jvm.MethodName)) : Cond) ∈ z_TT := z_mem 507 (by decide +kernel) (by decide +kernel)
theorem tw_508 : ((Jvm.Cond.code ({ cls := "DotsOnGrass", name := "changesIn", desc := "(II)I" } : Jvm.MethodName) prog_1_method_33_code (5 : Nat) (Option.some Jvm.ClassFile.FieldType.int)) : Cond) ∈ z_TT := z_mem 508 (by decide +kernel) (by decide +kernel)
theorem tw_509 : ((Jvm.Cond.methodLink "DotsOnGrassLaw" (97 : Nat) ({ cls := "DotsOnGrass", name := "ready", desc := "()I" } : Jvm.MethodName)) : Cond) ∈ z_TT := z_mem 509 (by decide +kernel) (by decide +kernel)
theorem tw_510 : ((Jvm.Cond.instanceMethod ({ cls := "DotsOnGrass", name := "ready", desc := "()I" } : Jvm.MethodName)) : Cond) ∈ z_TT := z_mem 510 (by decide +kernel) (by decide +kernel)
theorem tw_511 : ((Jvm.Cond.selects "DotsOnGrass" ({ cls := "DotsOnGrass", name := "ready", desc := "()I" } : Jvm.MethodName) ({ cls := "DotsOnGrass", name := "ready", desc := "()I" } : Jvm.MethodName)) : Cond) ∈ z_TT := z_mem 511 (by decide +kernel) (by decide +kernel)
theorem tw_512 : ((Jvm.Cond.code ({ cls := "DotsOnGrass", name := "ready", desc := "()I" } : Jvm.MethodName) prog_1_method_21_code (3 : Nat) (Option.some Jvm.ClassFile.FieldType.int)) : Cond) ∈ z_TT := z_mem 512 (by decide +kernel) (by decide +kernel)
theorem tw_513 : ((Jvm.Cond.methodLink "DotsOnGrassLaw" (102 : Nat) ({ cls := "DotsOnGrass", name := "many", desc := "(I)I" } : Jvm.MethodName)) : Cond) ∈ z_TT := z_mem 513 (by decide +kernel) (by decide +kernel)
theorem tw_514 : ((Jvm.Cond.instanceMethod ({ cls := "DotsOnGrass", name := "many", desc := "(I)I" } : Jvm.MethodName)) : Cond) ∈ z_TT := z_mem 514 (by decide +kernel) (by decide +kernel)
theorem tw_515 : ((Jvm.Cond.selects "DotsOnGrass" ({ cls := "DotsOnGrass", name := "many", desc := "(I)I" } : Jvm.MethodName) ({ cls := "DotsOnGrass", name := "many", desc := "(I)I" } : Jvm.MethodName)) : Cond) ∈ z_TT := z_mem 515 (by decide +kernel) (by decide +kernel)
theorem tw_516 : ((Jvm.Cond.code ({ cls := "DotsOnGrass", name := "many", desc := "(I)I" } : Jvm.MethodName) prog_1_method_22_code (2 : Nat) (Option.some Jvm.ClassFile.FieldType.int)) : Cond) ∈ z_TT := z_mem 516 (by decide +kernel) (by decide +kernel)
theorem tw_517 : ((Jvm.Cond.methodLink "DotsOnGrass" (182 : Nat) ({ cls := "DotsOnGrass", name := "allDots", desc := "()I" } : Jvm.MethodName)) : Cond) ∈ z_TT := z_mem 517 (by decide +kernel) (by decide +kernel)
theorem tw_519 : ((Jvm.Cond.instanceMethod ({ cls := "DotsOnGrass", name := "allDots", desc := "()I" } : Jvm.MethodName)) : Cond) ∈ z_TT := z_mem 519 (by decide +kernel) (by decide +kernel)
theorem tw_520 : ((Jvm.Cond.code ({ cls := "DotsOnGrass", name := "allDots", desc := "()I" } : Jvm.MethodName) prog_1_method_34_code (3 : Nat) (Option.some Jvm.ClassFile.FieldType.int)) : Cond) ∈ z_TT := z_mem 520 (by decide +kernel) (by decide +kernel)
theorem tw_521 : ((Jvm.Cond.methodLink "DotsOnGrass" (185 : Nat) ({ cls := "DotsOnGrass", name := "allSolos", desc := "()I" } : Jvm.MethodName)) : Cond) ∈ z_TT := z_mem 521 (by decide +kernel) (by decide +kernel)
theorem tw_523 : ((Jvm.Cond.instanceMethod ({ cls := "DotsOnGrass", name := "allSolos", desc := "()I" } : Jvm.MethodName)) : Cond) ∈ z_TT := z_mem 523 (by decide +kernel) (by decide +kernel)
theorem tw_524 : ((Jvm.Cond.code ({ cls := "DotsOnGrass", name := "allSolos", desc := "()I" } : Jvm.MethodName) prog_1_method_35_code (3 : Nat) (Option.some Jvm.ClassFile.FieldType.int)) : Cond) ∈ z_TT := z_mem 524 (by decide +kernel) (by decide +kernel)
theorem tw_525 : ((Jvm.Cond.methodLink "DotsOnGrass" (212 : Nat) ({ cls := "DotsOnGrass$Picture", name := "solos", desc := "()I" } : Jvm.MethodName)) : Cond) ∈ z_TT := z_mem 525 (by decide +kernel) (by decide +kernel)
theorem tw_526 : ((Jvm.Cond.methodLink "DotsOnGrass" (188 : Nat) ({ cls := "DotsOnGrass", name := "allSteps", desc := "()I" } : Jvm.MethodName)) : Cond) ∈ z_TT := z_mem 526 (by decide +kernel) (by decide +kernel)
theorem tw_528 : ((Jvm.Cond.instanceMethod ({ cls := "DotsOnGrass", name := "allSteps", desc := "()I" } : Jvm.MethodName)) : Cond) ∈ z_TT := z_mem 528 (by decide +kernel) (by decide +kernel)
theorem tw_529 : ((Jvm.Cond.code ({ cls := "DotsOnGrass", name := "allSteps", desc := "()I" } : Jvm.MethodName) prog_1_method_36_code (3 : Nat) (Option.some Jvm.ClassFile.FieldType.int)) : Cond) ∈ z_TT := z_mem 529 (by decide +kernel) (by decide +kernel)
theorem tw_530 : ((Jvm.Cond.methodLink "DotsOnGrassLaw" (106 : Nat) ({ cls := "DotsOnGrass", name := "keep", desc := "()I" } : Jvm.MethodName)) : Cond) ∈ z_TT := z_mem 530 (by decide +kernel) (by decide +kernel)
theorem tw_531 : ((Jvm.Cond.instanceMethod ({ cls := "DotsOnGrass", name := "keep", desc := "()I" } : Jvm.MethodName)) : Cond) ∈ z_TT := z_mem 531 (by decide +kernel) (by decide +kernel)
theorem tw_532 : ((Jvm.Cond.selects "DotsOnGrass" ({ cls := "DotsOnGrass", name := "keep", desc := "()I" } : Jvm.MethodName) ({ cls := "DotsOnGrass", name := "keep", desc := "()I" } : Jvm.MethodName)) : Cond) ∈ z_TT := z_mem 532 (by decide +kernel) (by decide +kernel)
theorem tw_533 : ((Jvm.Cond.code ({ cls := "DotsOnGrass", name := "keep", desc := "()I" } : Jvm.MethodName) prog_1_method_23_code (1 : Nat) (Option.some Jvm.ClassFile.FieldType.int)) : Cond) ∈ z_TT := z_mem 533 (by decide +kernel) (by decide +kernel)
theorem tw_534 : ((Jvm.Cond.methodLink "DotsOnGrass" (191 : Nat) ({ cls := "DotsOnGrass$Show", name := "become", desc := "(LDotsOnGrass$Show;)V" } : Jvm.MethodName)) : Cond) ∈ z_TT := z_mem 534 (by decide +kernel) (by decide +kernel)
theorem tw_535 : ((Jvm.Cond.instanceMethod ({ cls := "DotsOnGrass$Show", name := "become", desc := "(LDotsOnGrass$Show;)V" } : Jvm.MethodName)) : Cond) ∈ z_TT := z_mem 535 (by decide +kernel) (by decide +kernel)
theorem tw_536 : ((Jvm.Cond.selects "DotsOnGrass$Show" ({ cls := "DotsOnGrass$Show", name := "become", desc := "(LDotsOnGrass$Show;)V" } : Jvm.MethodName) ({ cls := "DotsOnGrass$Show", name := "become", desc := "(LDotsOnGrass$Show;)V" } : Jvm.MethodName)) : Cond) ∈ z_TT := z_mem 536 (by decide +kernel) (by decide +kernel)
theorem tw_537 : ((Jvm.Cond.code ({ cls := "DotsOnGrass$Show", name := "become", desc := "(LDotsOnGrass$Show;)V" } : Jvm.MethodName) prog_6_method_2_code (3 : Nat) (Option.none : Option Jvm.ClassFile.FieldType)) : Cond) ∈ z_TT := z_mem 537 (by decide +kernel) (by decide +kernel)
theorem tw_538 : ((Jvm.Cond.methodLink "DotsOnGrass$Show" (36 : Nat) ({ cls := "java/lang/System", name := "arraycopy", desc := "(Ljava/lang/Object;ILjava/lang/Object;II)V" } : Jvm.MethodName)) : Cond) ∈ z_TT := z_mem 538 (by decide +kernel) (by decide +kernel)
theorem tw_539 : ((Jvm.Cond.methodLink "DotsOnGrass$Show" (45 : Nat) ({ cls := "DotsOnGrass$Picture", name := "become", desc := "(LDotsOnGrass$Picture;)V" } : Jvm.MethodName)) : Cond) ∈ z_TT := z_mem 539 (by decide +kernel) (by decide +kernel)
theorem tw_540 : ((Jvm.Cond.instanceMethod ({ cls := "DotsOnGrass$Picture", name := "become", desc := "(LDotsOnGrass$Picture;)V" } : Jvm.MethodName)) : Cond) ∈ z_TT := z_mem 540 (by decide +kernel) (by decide +kernel)
theorem tw_541 : ((Jvm.Cond.selects "DotsOnGrass$Picture" ({ cls := "DotsOnGrass$Picture", name := "become", desc := "(LDotsOnGrass$Picture;)V" } : Jvm.MethodName) ({ cls := "DotsOnGrass$Picture", name := "become", desc := "(LDotsOnGrass$Picture;)V" } : Jvm.MethodName)) : Cond) ∈ z_TT := z_mem 541 (by decide +kernel) (by decide +kernel)
theorem tw_542 : ((Jvm.Cond.code ({ cls := "DotsOnGrass$Picture", name := "become", desc := "(LDotsOnGrass$Picture;)V" } : Jvm.MethodName) prog_2_method_3_code (2 : Nat) (Option.none : Option Jvm.ClassFile.FieldType)) : Cond) ∈ z_TT := z_mem 542 (by decide +kernel) (by decide +kernel)
theorem tw_543 : ((Jvm.Cond.methodLink "DotsOnGrass$Picture" (29 : Nat) ({ cls := "java/lang/System", name := "arraycopy", desc := "(Ljava/lang/Object;ILjava/lang/Object;II)V" } : Jvm.MethodName)) : Cond) ∈ z_TT := z_mem 543 (by decide +kernel) (by decide +kernel)
theorem tw_544 : ((Jvm.Cond.methodLink "DotsOnGrassLaw" (110 : Nat) ({ cls := "DotsOnGrass", name := "back", desc := "()I" } : Jvm.MethodName)) : Cond) ∈ z_TT := z_mem 544 (by decide +kernel) (by decide +kernel)
theorem tw_545 : ((Jvm.Cond.instanceMethod ({ cls := "DotsOnGrass", name := "back", desc := "()I" } : Jvm.MethodName)) : Cond) ∈ z_TT := z_mem 545 (by decide +kernel) (by decide +kernel)
theorem tw_546 : ((Jvm.Cond.selects "DotsOnGrass" ({ cls := "DotsOnGrass", name := "back", desc := "()I" } : Jvm.MethodName) ({ cls := "DotsOnGrass", name := "back", desc := "()I" } : Jvm.MethodName)) : Cond) ∈ z_TT := z_mem 546 (by decide +kernel) (by decide +kernel)
theorem tw_547 : ((Jvm.Cond.code ({ cls := "DotsOnGrass", name := "back", desc := "()I" } : Jvm.MethodName) prog_1_method_24_code (1 : Nat) (Option.some Jvm.ClassFile.FieldType.int)) : Cond) ∈ z_TT := z_mem 547 (by decide +kernel) (by decide +kernel)
theorem tw_548 : ((Jvm.Cond.classLink "DotsOnGrassLaw" (10 : Nat) "DotsOnGrassModel") : Cond) ∈ z_TT := z_mem 548 (by decide +kernel) (by decide +kernel)
theorem tw_549 : ((Jvm.Cond.instantiable "DotsOnGrassModel" (18 : Nat)) : Cond) ∈ z_TT := z_mem 549 (by decide +kernel) (by decide +kernel)
theorem tw_550 : ((Jvm.Cond.methodLink "DotsOnGrassLaw" (12 : Nat) ({ cls := "DotsOnGrassModel", name := "<init>", desc := "()V" } : Jvm.MethodName)) : Cond) ∈ z_TT := z_mem 550 (by decide +kernel) (by decide +kernel)
theorem tw_551 : ((Jvm.Cond.instanceMethod ({ cls := "DotsOnGrassModel", name := "<init>", desc := "()V" } : Jvm.MethodName)) : Cond) ∈ z_TT := z_mem 551 (by decide +kernel) (by decide +kernel)
theorem tw_552 : ((Jvm.Cond.code ({ cls := "DotsOnGrassModel", name := "<init>", desc := "()V" } : Jvm.MethodName) prog_8_method_1_code (1 : Nat) (Option.none : Option Jvm.ClassFile.FieldType)) : Cond) ∈ z_TT := z_mem 552 (by decide +kernel) (by decide +kernel)
theorem tw_553 : ((Jvm.Cond.methodLink "DotsOnGrassModel" (1 : Nat) ({ cls := "java/lang/Object", name := "<init>", desc := "()V" } : Jvm.MethodName)) : Cond) ∈ z_TT := z_mem 553 (by decide +kernel) (by decide +kernel)
theorem tw_554 : ((Jvm.Cond.fieldLink "DotsOnGrassModel" (7 : Nat) "DotsOnGrassModel" "numbers" "[I") : Cond) ∈ z_TT := z_mem 554 (by decide +kernel) (by decide +kernel)
theorem tw_555 : ((Jvm.Cond.fieldLink "DotsOnGrassModel" (13 : Nat) "DotsOnGrassModel" "marchers" "[I") : Cond) ∈ z_TT := z_mem 555 (by decide +kernel) (by decide +kernel)
theorem tw_556 : ((Jvm.Cond.fieldLink "DotsOnGrassModel" (16 : Nat) "DotsOnGrassModel" "pictures" "[I") : Cond) ∈ z_TT := z_mem 556 (by decide +kernel) (by decide +kernel)
theorem tw_557 : ((Jvm.Cond.fieldLink "DotsOnGrassModel" (19 : Nat) "DotsOnGrassModel" "dots" "[I") : Cond) ∈ z_TT := z_mem 557 (by decide +kernel) (by decide +kernel)
theorem tw_558 : ((Jvm.Cond.fieldLink "DotsOnGrassModel" (178 : Nat) "DotsOnGrassModel" "isKept" "Z") : Cond) ∈ z_TT := z_mem 558 (by decide +kernel) (by decide +kernel)
theorem tw_559 : ((Jvm.Cond.fieldLink "DotsOnGrassModel" (22 : Nat) "DotsOnGrassModel" "kept" "[I") : Cond) ∈ z_TT := z_mem 559 (by decide +kernel) (by decide +kernel)
theorem tw_560 : ((Jvm.Cond.fieldLink "DotsOnGrassModel" (25 : Nat) "DotsOnGrassModel" "shapeX" "[J") : Cond) ∈ z_TT := z_mem 560 (by decide +kernel) (by decide +kernel)
theorem tw_561 : ((Jvm.Cond.fieldLink "DotsOnGrassModel" (29 : Nat) "DotsOnGrassModel" "shapeY" "[J") : Cond) ∈ z_TT := z_mem 561 (by decide +kernel) (by decide +kernel)
theorem tw_562 : ((Jvm.Cond.fieldLink "DotsOnGrassModel" (76 : Nat) "DotsOnGrassModel" "shapeMany" "I") : Cond) ∈ z_TT := z_mem 562 (by decide +kernel) (by decide +kernel)
theorem tw_563 : ((Jvm.Cond.fieldLink "DotsOnGrassModel" (32 : Nat) "DotsOnGrassModel" "given" "[I") : Cond) ∈ z_TT := z_mem 563 (by decide +kernel) (by decide +kernel)
theorem tw_564 : ((Jvm.Cond.fieldLink "DotsOnGrassModel" (35 : Nat) "DotsOnGrassModel" "isSet" "[Z") : Cond) ∈ z_TT := z_mem 564 (by decide +kernel) (by decide +kernel)
theorem tw_565 : ((Jvm.Cond.fieldLink "DotsOnGrassModel" (39 : Nat) "DotsOnGrassModel" "greatest" "[I") : Cond) ∈ z_TT := z_mem 565 (by decide +kernel) (by decide +kernel)
theorem tw_566 : ((Jvm.Cond.fieldLink "DotsOnGrassModel" (42 : Nat) "DotsOnGrassModel" "sums" "[I") : Cond) ∈ z_TT := z_mem 566 (by decide +kernel) (by decide +kernel)
theorem tw_567 : ((Jvm.Cond.fieldLink "DotsOnGrassModel" (45 : Nat) "DotsOnGrassModel" "tried" "[I") : Cond) ∈ z_TT := z_mem 567 (by decide +kernel) (by decide +kernel)
theorem tw_568 : ((Jvm.Cond.fieldLink "DotsOnGrassModel" (48 : Nat) "DotsOnGrassModel" "who" "[I") : Cond) ∈ z_TT := z_mem 568 (by decide +kernel) (by decide +kernel)
theorem tw_569 : ((Jvm.Cond.fieldLink "DotsOnGrassModel" (51 : Nat) "DotsOnGrassModel" "before" "[I") : Cond) ∈ z_TT := z_mem 569 (by decide +kernel) (by decide +kernel)
theorem tw_570 : ((Jvm.Cond.fieldLink "DotsOnGrassModel" (54 : Nat) "DotsOnGrassModel" "wasSet" "[Z") : Cond) ∈ z_TT := z_mem 570 (by decide +kernel) (by decide +kernel)
theorem tw_571 : ((Jvm.Cond.fieldLink "DotsOnGrassModel" (167 : Nat) "DotsOnGrassModel" "place" "I") : Cond) ∈ z_TT := z_mem 571 (by decide +kernel) (by decide +kernel)
theorem tw_609 : ((Jvm.Cond.arrayClass Jvm.ClassFile.FieldType.long) : Cond) ∈ z_TT := z_mem 609 (by decide +kernel) (by decide +kernel)
theorem tw_610 : ((Jvm.Cond.methodLink "DotsOnGrassLaw" (17 : Nat) ({ cls := "DotsOnGrassModel", name := "marcher", desc := "(I)I" } : Jvm.MethodName)) : Cond) ∈ z_TT := z_mem 610 (by decide +kernel) (by decide +kernel)
theorem tw_611 : ((Jvm.Cond.instanceMethod ({ cls := "DotsOnGrassModel", name := "marcher", desc := "(I)I" } : Jvm.MethodName)) : Cond) ∈ z_TT := z_mem 611 (by decide +kernel) (by decide +kernel)
theorem tw_612 : ((Jvm.Cond.selects "DotsOnGrassModel" ({ cls := "DotsOnGrassModel", name := "marcher", desc := "(I)I" } : Jvm.MethodName) ({ cls := "DotsOnGrassModel", name := "marcher", desc := "(I)I" } : Jvm.MethodName)) : Cond) ∈ z_TT := z_mem 612 (by decide +kernel) (by decide +kernel)
theorem tw_613 : ((Jvm.Cond.code ({ cls := "DotsOnGrassModel", name := "marcher", desc := "(I)I" } : Jvm.MethodName) prog_8_method_8_code (2 : Nat) (Option.some Jvm.ClassFile.FieldType.int)) : Cond) ∈ z_TT := z_mem 613 (by decide +kernel) (by decide +kernel)
theorem tw_614 : ((Jvm.Cond.constantLong "DotsOnGrassModel" (69 : Nat) (4 : Int64)) : Cond) ∈ z_TT := z_mem 614 (by decide +kernel) (by decide +kernel)
theorem tw_615 : ((Jvm.Cond.methodLink "DotsOnGrassModel" (57 : Nat) ({ cls := "DotsOnGrassModel", name := "in", desc := "(JJJ)Z" } : Jvm.MethodName)) : Cond) ∈ z_TT := z_mem 615 (by decide +kernel) (by decide +kernel)
theorem tw_616 : ((Jvm.Cond.static ({ cls := "DotsOnGrassModel", name := "in", desc := "(JJJ)Z" } : Jvm.MethodName)) : Cond) ∈ z_TT := z_mem 616 (by decide +kernel) (by decide +kernel)
theorem tw_617 : ((Jvm.Cond.code ({ cls := "DotsOnGrassModel", name := "in", desc := "(JJJ)Z" } : Jvm.MethodName) prog_8_method_2_code (6 : Nat) (Option.some Jvm.ClassFile.FieldType.boolean)) : Cond) ∈ z_TT := z_mem 617 (by decide +kernel) (by decide +kernel)
theorem tw_618 : ((Jvm.Cond.methodLink "DotsOnGrassLaw" (22 : Nat) ({ cls := "DotsOnGrassModel", name := "ill", desc := "(IZ)I" } : Jvm.MethodName)) : Cond) ∈ z_TT := z_mem 618 (by decide +kernel) (by decide +kernel)
theorem tw_619 : ((Jvm.Cond.instanceMethod ({ cls := "DotsOnGrassModel", name := "ill", desc := "(IZ)I" } : Jvm.MethodName)) : Cond) ∈ z_TT := z_mem 619 (by decide +kernel) (by decide +kernel)
theorem tw_620 : ((Jvm.Cond.selects "DotsOnGrassModel" ({ cls := "DotsOnGrassModel", name := "ill", desc := "(IZ)I" } : Jvm.MethodName) ({ cls := "DotsOnGrassModel", name := "ill", desc := "(IZ)I" } : Jvm.MethodName)) : Cond) ∈ z_TT := z_mem 620 (by decide +kernel) (by decide +kernel)
theorem tw_621 : ((Jvm.Cond.code ({ cls := "DotsOnGrassModel", name := "ill", desc := "(IZ)I" } : Jvm.MethodName) prog_8_method_9_code (5 : Nat) (Option.some Jvm.ClassFile.FieldType.int)) : Cond) ∈ z_TT := z_mem 621 (by decide +kernel) (by decide +kernel)
theorem tw_622 : ((Jvm.Cond.methodLink "DotsOnGrassModel" (71 : Nat) ({ cls := "DotsOnGrassModel", name := "isMarcher", desc := "(I)Z" } : Jvm.MethodName)) : Cond) ∈ z_TT := z_mem 622 (by decide +kernel) (by decide +kernel)
theorem tw_624 : ((Jvm.Cond.instanceMethod ({ cls := "DotsOnGrassModel", name := "isMarcher", desc := "(I)Z" } : Jvm.MethodName)) : Cond) ∈ z_TT := z_mem 624 (by decide +kernel) (by decide +kernel)
theorem tw_625 : ((Jvm.Cond.code ({ cls := "DotsOnGrassModel", name := "isMarcher", desc := "(I)Z" } : Jvm.MethodName) prog_8_method_3_code (2 : Nat) (Option.some Jvm.ClassFile.FieldType.boolean)) : Cond) ∈ z_TT := z_mem 625 (by decide +kernel) (by decide +kernel)
theorem tw_626 : ((Jvm.Cond.methodLink "DotsOnGrassLaw" (27 : Nat) ({ cls := "DotsOnGrassModel", name := "bound", desc := "(II)I" } : Jvm.MethodName)) : Cond) ∈ z_TT := z_mem 626 (by decide +kernel) (by decide +kernel)
theorem tw_627 : ((Jvm.Cond.instanceMethod ({ cls := "DotsOnGrassModel", name := "bound", desc := "(II)I" } : Jvm.MethodName)) : Cond) ∈ z_TT := z_mem 627 (by decide +kernel) (by decide +kernel)
theorem tw_628 : ((Jvm.Cond.selects "DotsOnGrassModel" ({ cls := "DotsOnGrassModel", name := "bound", desc := "(II)I" } : Jvm.MethodName) ({ cls := "DotsOnGrassModel", name := "bound", desc := "(II)I" } : Jvm.MethodName)) : Cond) ∈ z_TT := z_mem 628 (by decide +kernel) (by decide +kernel)
theorem tw_629 : ((Jvm.Cond.code ({ cls := "DotsOnGrassModel", name := "bound", desc := "(II)I" } : Jvm.MethodName) prog_8_method_10_code (4 : Nat) (Option.some Jvm.ClassFile.FieldType.int)) : Cond) ∈ z_TT := z_mem 629 (by decide +kernel) (by decide +kernel)
theorem tw_630 : ((Jvm.Cond.methodLink "DotsOnGrassLaw" (31 : Nat) ({ cls := "DotsOnGrassModel", name := "picture", desc := "(I)I" } : Jvm.MethodName)) : Cond) ∈ z_TT := z_mem 630 (by decide +kernel) (by decide +kernel)
theorem tw_631 : ((Jvm.Cond.instanceMethod ({ cls := "DotsOnGrassModel", name := "picture", desc := "(I)I" } : Jvm.MethodName)) : Cond) ∈ z_TT := z_mem 631 (by decide +kernel) (by decide +kernel)
theorem tw_632 : ((Jvm.Cond.selects "DotsOnGrassModel" ({ cls := "DotsOnGrassModel", name := "picture", desc := "(I)I" } : Jvm.MethodName) ({ cls := "DotsOnGrassModel", name := "picture", desc := "(I)I" } : Jvm.MethodName)) : Cond) ∈ z_TT := z_mem 632 (by decide +kernel) (by decide +kernel)
theorem tw_633 : ((Jvm.Cond.code ({ cls := "DotsOnGrassModel", name := "picture", desc := "(I)I" } : Jvm.MethodName) prog_8_method_11_code (2 : Nat) (Option.some Jvm.ClassFile.FieldType.int)) : Cond) ∈ z_TT := z_mem 633 (by decide +kernel) (by decide +kernel)
theorem tw_634 : ((Jvm.Cond.constantLong "DotsOnGrassModel" (74 : Nat) (16 : Int64)) : Cond) ∈ z_TT := z_mem 634 (by decide +kernel) (by decide +kernel)
theorem tw_635 : ((Jvm.Cond.methodLink "DotsOnGrassLaw" (35 : Nat) ({ cls := "DotsOnGrassModel", name := "counts", desc := "(II)I" } : Jvm.MethodName)) : Cond) ∈ z_TT := z_mem 635 (by decide +kernel) (by decide +kernel)
theorem tw_636 : ((Jvm.Cond.instanceMethod ({ cls := "DotsOnGrassModel", name := "counts", desc := "(II)I" } : Jvm.MethodName)) : Cond) ∈ z_TT := z_mem 636 (by decide +kernel) (by decide +kernel)
theorem tw_637 : ((Jvm.Cond.selects "DotsOnGrassModel" ({ cls := "DotsOnGrassModel", name := "counts", desc := "(II)I" } : Jvm.MethodName) ({ cls := "DotsOnGrassModel", name := "counts", desc := "(II)I" } : Jvm.MethodName)) : Cond) ∈ z_TT := z_mem 637 (by decide +kernel) (by decide +kernel)
theorem tw_638 : ((Jvm.Cond.code ({ cls := "DotsOnGrassModel", name := "counts", desc := "(II)I" } : Jvm.MethodName) prog_8_method_12_code (4 : Nat) (Option.some Jvm.ClassFile.FieldType.int)) : Cond) ∈ z_TT := z_mem 638 (by decide +kernel) (by decide +kernel)
theorem tw_639 : ((Jvm.Cond.methodLink "DotsOnGrassModel" (61 : Nat) ({ cls := "DotsOnGrassModel", name := "isPicture", desc := "(I)Z" } : Jvm.MethodName)) : Cond) ∈ z_TT := z_mem 639 (by decide +kernel) (by decide +kernel)
theorem tw_641 : ((Jvm.Cond.instanceMethod ({ cls := "DotsOnGrassModel", name := "isPicture", desc := "(I)Z" } : Jvm.MethodName)) : Cond) ∈ z_TT := z_mem 641 (by decide +kernel) (by decide +kernel)
theorem tw_642 : ((Jvm.Cond.code ({ cls := "DotsOnGrassModel", name := "isPicture", desc := "(I)Z" } : Jvm.MethodName) prog_8_method_4_code (2 : Nat) (Option.some Jvm.ClassFile.FieldType.boolean)) : Cond) ∈ z_TT := z_mem 642 (by decide +kernel) (by decide +kernel)
theorem tw_643 : ((Jvm.Cond.methodLink "DotsOnGrassLaw" (40 : Nat) ({ cls := "DotsOnGrassModel", name := "line", desc := "(IIIIII)I" } : Jvm.MethodName)) : Cond) ∈ z_TT := z_mem 643 (by decide +kernel) (by decide +kernel)
theorem tw_644 : ((Jvm.Cond.instanceMethod ({ cls := "DotsOnGrassModel", name := "line", desc := "(IIIIII)I" } : Jvm.MethodName)) : Cond) ∈ z_TT := z_mem 644 (by decide +kernel) (by decide +kernel)
theorem tw_645 : ((Jvm.Cond.selects "DotsOnGrassModel" ({ cls := "DotsOnGrassModel", name := "line", desc := "(IIIIII)I" } : Jvm.MethodName) ({ cls := "DotsOnGrassModel", name := "line", desc := "(IIIIII)I" } : Jvm.MethodName)) : Cond) ∈ z_TT := z_mem 645 (by decide +kernel) (by decide +kernel)
theorem tw_646 : ((Jvm.Cond.code ({ cls := "DotsOnGrassModel", name := "line", desc := "(IIIIII)I" } : Jvm.MethodName) prog_8_method_16_code (8 : Nat) (Option.some Jvm.ClassFile.FieldType.int)) : Cond) ∈ z_TT := z_mem 646 (by decide +kernel) (by decide +kernel)
theorem tw_647 : ((Jvm.Cond.constantLong "DotsOnGrassModel" (86 : Nat) (7 : Int64)) : Cond) ∈ z_TT := z_mem 647 (by decide +kernel) (by decide +kernel)
theorem tw_648 : ((Jvm.Cond.constantLong "DotsOnGrassModel" (88 : Nat) (-10 : Int64)) : Cond) ∈ z_TT := z_mem 648 (by decide +kernel) (by decide +kernel)
theorem tw_649 : ((Jvm.Cond.constantLong "DotsOnGrassModel" (90 : Nat) (10 : Int64)) : Cond) ∈ z_TT := z_mem 649 (by decide +kernel) (by decide +kernel)
theorem tw_650 : ((Jvm.Cond.methodLink "DotsOnGrassModel" (92 : Nat) ({ cls := "DotsOnGrassModel", name := "lay", desc := "(JJ)V" } : Jvm.MethodName)) : Cond) ∈ z_TT := z_mem 650 (by decide +kernel) (by decide +kernel)
theorem tw_652 : ((Jvm.Cond.instanceMethod ({ cls := "DotsOnGrassModel", name := "lay", desc := "(JJ)V" } : Jvm.MethodName)) : Cond) ∈ z_TT := z_mem 652 (by decide +kernel) (by decide +kernel)
theorem tw_653 : ((Jvm.Cond.code ({ cls := "DotsOnGrassModel", name := "lay", desc := "(JJ)V" } : Jvm.MethodName) prog_8_method_13_code (5 : Nat) (Option.none : Option Jvm.ClassFile.FieldType)) : Cond) ∈ z_TT := z_mem 653 (by decide +kernel) (by decide +kernel)
theorem tw_654 : ((Jvm.Cond.methodLink "DotsOnGrassModel" (96 : Nat) ({ cls := "DotsOnGrassModel", name := "comes", desc := "(I)I" } : Jvm.MethodName)) : Cond) ∈ z_TT := z_mem 654 (by decide +kernel) (by decide +kernel)
theorem tw_656 : ((Jvm.Cond.instanceMethod ({ cls := "DotsOnGrassModel", name := "comes", desc := "(I)I" } : Jvm.MethodName)) : Cond) ∈ z_TT := z_mem 656 (by decide +kernel) (by decide +kernel)
theorem tw_657 : ((Jvm.Cond.code ({ cls := "DotsOnGrassModel", name := "comes", desc := "(I)I" } : Jvm.MethodName) prog_8_method_15_code (4 : Nat) (Option.some Jvm.ClassFile.FieldType.int)) : Cond) ∈ z_TT := z_mem 657 (by decide +kernel) (by decide +kernel)
theorem tw_658 : ((Jvm.Cond.methodLink "DotsOnGrassModel" (65 : Nat) ({ cls := "DotsOnGrassModel", name := "dotMany", desc := "(I)I" } : Jvm.MethodName)) : Cond) ∈ z_TT := z_mem 658 (by decide +kernel) (by decide +kernel)
theorem tw_660 : ((Jvm.Cond.instanceMethod ({ cls := "DotsOnGrassModel", name := "dotMany", desc := "(I)I" } : Jvm.MethodName)) : Cond) ∈ z_TT := z_mem 660 (by decide +kernel) (by decide +kernel)
theorem tw_661 : ((Jvm.Cond.code ({ cls := "DotsOnGrassModel", name := "dotMany", desc := "(I)I" } : Jvm.MethodName) prog_8_method_5_code (2 : Nat) (Option.some Jvm.ClassFile.FieldType.int)) : Cond) ∈ z_TT := z_mem 661 (by decide +kernel) (by decide +kernel)
theorem tw_662 : ((Jvm.Cond.methodLink "DotsOnGrassModel" (82 : Nat) ({ cls := "DotsOnGrassModel", name := "isFree", desc := "(II)Z" } : Jvm.MethodName)) : Cond) ∈ z_TT := z_mem 662 (by decide +kernel) (by decide +kernel)
theorem tw_664 : ((Jvm.Cond.instanceMethod ({ cls := "DotsOnGrassModel", name := "isFree", desc := "(II)Z" } : Jvm.MethodName)) : Cond) ∈ z_TT := z_mem 664 (by decide +kernel) (by decide +kernel)
theorem tw_665 : ((Jvm.Cond.code ({ cls := "DotsOnGrassModel", name := "isFree", desc := "(II)Z" } : Jvm.MethodName) prog_8_method_14_code (6 : Nat) (Option.some Jvm.ClassFile.FieldType.boolean)) : Cond) ∈ z_TT := z_mem 665 (by decide +kernel) (by decide +kernel)
theorem tw_666 : ((Jvm.Cond.constantLong "DotsOnGrassModel" (80 : Nat) (40 : Int64)) : Cond) ∈ z_TT := z_mem 666 (by decide +kernel) (by decide +kernel)
theorem tw_667 : ((Jvm.Cond.methodLink "DotsOnGrassLaw" (44 : Nat) ({ cls := "DotsOnGrassModel", name := "block", desc := "(IIIIII)I" } : Jvm.MethodName)) : Cond) ∈ z_TT := z_mem 667 (by decide +kernel) (by decide +kernel)
theorem tw_668 : ((Jvm.Cond.instanceMethod ({ cls := "DotsOnGrassModel", name := "block", desc := "(IIIIII)I" } : Jvm.MethodName)) : Cond) ∈ z_TT := z_mem 668 (by decide +kernel) (by decide +kernel)
theorem tw_669 : ((Jvm.Cond.selects "DotsOnGrassModel" ({ cls := "DotsOnGrassModel", name := "block", desc := "(IIIIII)I" } : Jvm.MethodName) ({ cls := "DotsOnGrassModel", name := "block", desc := "(IIIIII)I" } : Jvm.MethodName)) : Cond) ∈ z_TT := z_mem 669 (by decide +kernel) (by decide +kernel)
theorem tw_670 : ((Jvm.Cond.code ({ cls := "DotsOnGrassModel", name := "block", desc := "(IIIIII)I" } : Jvm.MethodName) prog_8_method_17_code (8 : Nat) (Option.some Jvm.ClassFile.FieldType.int)) : Cond) ∈ z_TT := z_mem 670 (by decide +kernel) (by decide +kernel)
theorem tw_671 : ((Jvm.Cond.constantLong "DotsOnGrassModel" (99 : Nat) (5 : Int64)) : Cond) ∈ z_TT := z_mem 671 (by decide +kernel) (by decide +kernel)
theorem tw_672 : ((Jvm.Cond.methodLink "DotsOnGrassLaw" (49 : Nat) ({ cls := "DotsOnGrassModel", name := "corner", desc := "(IIIII)I" } : Jvm.MethodName)) : Cond) ∈ z_TT := z_mem 672 (by decide +kernel) (by decide +kernel)
theorem tw_673 : ((Jvm.Cond.instanceMethod ({ cls := "DotsOnGrassModel", name := "corner", desc := "(IIIII)I" } : Jvm.MethodName)) : Cond) ∈ z_TT := z_mem 673 (by decide +kernel) (by decide +kernel)
theorem tw_674 : ((Jvm.Cond.selects "DotsOnGrassModel" ({ cls := "DotsOnGrassModel", name := "corner", desc := "(IIIII)I" } : Jvm.MethodName) ({ cls := "DotsOnGrassModel", name := "corner", desc := "(IIIII)I" } : Jvm.MethodName)) : Cond) ∈ z_TT := z_mem 674 (by decide +kernel) (by decide +kernel)
theorem tw_675 : ((Jvm.Cond.code ({ cls := "DotsOnGrassModel", name := "corner", desc := "(IIIII)I" } : Jvm.MethodName) prog_8_method_18_code (7 : Nat) (Option.some Jvm.ClassFile.FieldType.int)) : Cond) ∈ z_TT := z_mem 675 (by decide +kernel) (by decide +kernel)
theorem tw_676 : ((Jvm.Cond.methodLink "DotsOnGrassLaw" (54 : Nat) ({ cls := "DotsOnGrassModel", name := "solo", desc := "(IIZ)I" } : Jvm.MethodName)) : Cond) ∈ z_TT := z_mem 676 (by decide +kernel) (by decide +kernel)
theorem tw_677 : ((Jvm.Cond.instanceMethod ({ cls := "DotsOnGrassModel", name := "solo", desc := "(IIZ)I" } : Jvm.MethodName)) : Cond) ∈ z_TT := z_mem 677 (by decide +kernel) (by decide +kernel)
theorem tw_678 : ((Jvm.Cond.selects "DotsOnGrassModel" ({ cls := "DotsOnGrassModel", name := "solo", desc := "(IIZ)I" } : Jvm.MethodName) ({ cls := "DotsOnGrassModel", name := "solo", desc := "(IIZ)I" } : Jvm.MethodName)) : Cond) ∈ z_TT := z_mem 678 (by decide +kernel) (by decide +kernel)
theorem tw_679 : ((Jvm.Cond.code ({ cls := "DotsOnGrassModel", name := "solo", desc := "(IIZ)I" } : Jvm.MethodName) prog_8_method_19_code (7 : Nat) (Option.some Jvm.ClassFile.FieldType.int)) : Cond) ∈ z_TT := z_mem 679 (by decide +kernel) (by decide +kernel)
theorem tw_680 : ((Jvm.Cond.methodLink "DotsOnGrassModel" (101 : Nat) ({ cls := "DotsOnGrassModel", name := "isDot", desc := "(II)Z" } : Jvm.MethodName)) : Cond) ∈ z_TT := z_mem 680 (by decide +kernel) (by decide +kernel)
theorem tw_682 : ((Jvm.Cond.instanceMethod ({ cls := "DotsOnGrassModel", name := "isDot", desc := "(II)Z" } : Jvm.MethodName)) : Cond) ∈ z_TT := z_mem 682 (by decide +kernel) (by decide +kernel)
theorem tw_683 : ((Jvm.Cond.code ({ cls := "DotsOnGrassModel", name := "isDot", desc := "(II)Z" } : Jvm.MethodName) prog_8_method_6_code (3 : Nat) (Option.some Jvm.ClassFile.FieldType.boolean)) : Cond) ∈ z_TT := z_mem 683 (by decide +kernel) (by decide +kernel)
theorem tw_684 : ((Jvm.Cond.methodLink "DotsOnGrassLaw" (58 : Nat) ({ cls := "DotsOnGrassModel", name := "scrub", desc := "(I)I" } : Jvm.MethodName)) : Cond) ∈ z_TT := z_mem 684 (by decide +kernel) (by decide +kernel)
theorem tw_685 : ((Jvm.Cond.instanceMethod ({ cls := "DotsOnGrassModel", name := "scrub", desc := "(I)I" } : Jvm.MethodName)) : Cond) ∈ z_TT := z_mem 685 (by decide +kernel) (by decide +kernel)
theorem tw_686 : ((Jvm.Cond.selects "DotsOnGrassModel" ({ cls := "DotsOnGrassModel", name := "scrub", desc := "(I)I" } : Jvm.MethodName) ({ cls := "DotsOnGrassModel", name := "scrub", desc := "(I)I" } : Jvm.MethodName)) : Cond) ∈ z_TT := z_mem 686 (by decide +kernel) (by decide +kernel)
theorem tw_687 : ((Jvm.Cond.code ({ cls := "DotsOnGrassModel", name := "scrub", desc := "(I)I" } : Jvm.MethodName) prog_8_method_20_code (2 : Nat) (Option.some Jvm.ClassFile.FieldType.int)) : Cond) ∈ z_TT := z_mem 687 (by decide +kernel) (by decide +kernel)
theorem tw_688 : ((Jvm.Cond.methodLink "DotsOnGrassLaw" (62 : Nat) ({ cls := "DotsOnGrassModel", name := "rule", desc := "(II)I" } : Jvm.MethodName)) : Cond) ∈ z_TT := z_mem 688 (by decide +kernel) (by decide +kernel)
theorem tw_689 : ((Jvm.Cond.instanceMethod ({ cls := "DotsOnGrassModel", name := "rule", desc := "(II)I" } : Jvm.MethodName)) : Cond) ∈ z_TT := z_mem 689 (by decide +kernel) (by decide +kernel)
theorem tw_690 : ((Jvm.Cond.selects "DotsOnGrassModel" ({ cls := "DotsOnGrassModel", name := "rule", desc := "(II)I" } : Jvm.MethodName) ({ cls := "DotsOnGrassModel", name := "rule", desc := "(II)I" } : Jvm.MethodName)) : Cond) ∈ z_TT := z_mem 690 (by decide +kernel) (by decide +kernel)
theorem tw_691 : ((Jvm.Cond.code ({ cls := "DotsOnGrassModel", name := "rule", desc := "(II)I" } : Jvm.MethodName) prog_8_method_21_code (4 : Nat) (Option.some Jvm.ClassFile.FieldType.int)) : Cond) ∈ z_TT := z_mem 691 (by decide +kernel) (by decide +kernel)
theorem tw_692 : ((Jvm.Cond.constantLong "DotsOnGrassModel" (104 : Nat) (3 : Int64)) : Cond) ∈ z_TT := z_mem 692 (by decide +kernel) (by decide +kernel)
theorem tw_693 : ((Jvm.Cond.constantLong "DotsOnGrassModel" (106 : Nat) (20 : Int64)) : Cond) ∈ z_TT := z_mem 693 (by decide +kernel) (by decide +kernel)
theorem tw_694 : ((Jvm.Cond.methodLink "DotsOnGrassLaw" (66 : Nat) ({ cls := "DotsOnGrassModel", name := "drums", desc := "(II)I" } : Jvm.MethodName)) : Cond) ∈ z_TT := z_mem 694 (by decide +kernel) (by decide +kernel)
theorem tw_695 : ((Jvm.Cond.instanceMethod ({ cls := "DotsOnGrassModel", name := "drums", desc := "(II)I" } : Jvm.MethodName)) : Cond) ∈ z_TT := z_mem 695 (by decide +kernel) (by decide +kernel)
theorem tw_696 : ((Jvm.Cond.selects "DotsOnGrassModel" ({ cls := "DotsOnGrassModel", name := "drums", desc := "(II)I" } : Jvm.MethodName) ({ cls := "DotsOnGrassModel", name := "drums", desc := "(II)I" } : Jvm.MethodName)) : Cond) ∈ z_TT := z_mem 696 (by decide +kernel) (by decide +kernel)
theorem tw_697 : ((Jvm.Cond.code ({ cls := "DotsOnGrassModel", name := "drums", desc := "(II)I" } : Jvm.MethodName) prog_8_method_22_code (3 : Nat) (Option.some Jvm.ClassFile.FieldType.int)) : Cond) ∈ z_TT := z_mem 697 (by decide +kernel) (by decide +kernel)
theorem tw_698 : ((Jvm.Cond.methodLink "DotsOnGrassLaw" (71 : Nat) ({ cls := "DotsOnGrassModel", name := "dot", desc := "(III)I" } : Jvm.MethodName)) : Cond) ∈ z_TT := z_mem 698 (by decide +kernel) (by decide +kernel)
theorem tw_699 : ((Jvm.Cond.instanceMethod ({ cls := "DotsOnGrassModel", name := "dot", desc := "(III)I" } : Jvm.MethodName)) : Cond) ∈ z_TT := z_mem 699 (by decide +kernel) (by decide +kernel)
theorem tw_700 : ((Jvm.Cond.selects "DotsOnGrassModel" ({ cls := "DotsOnGrassModel", name := "dot", desc := "(III)I" } : Jvm.MethodName) ({ cls := "DotsOnGrassModel", name := "dot", desc := "(III)I" } : Jvm.MethodName)) : Cond) ∈ z_TT := z_mem 700 (by decide +kernel) (by decide +kernel)
theorem tw_701 : ((Jvm.Cond.code ({ cls := "DotsOnGrassModel", name := "dot", desc := "(III)I" } : Jvm.MethodName) prog_8_method_23_code (4 : Nat) (Option.some Jvm.ClassFile.FieldType.int)) : Cond) ∈ z_TT := z_mem 701 (by decide +kernel) (by decide +kernel)
theorem tw_702 : ((Jvm.Cond.constantLong "DotsOnGrassModel" (108 : Nat) (2 : Int64)) : Cond) ∈ z_TT := z_mem 702 (by decide +kernel) (by decide +kernel)
theorem tw_703 : ((Jvm.Cond.methodLink "DotsOnGrassLaw" (75 : Nat) ({ cls := "DotsOnGrassModel", name := "set", desc := "(II)I" } : Jvm.MethodName)) : Cond) ∈ z_TT := z_mem 703 (by decide +kernel) (by decide +kernel)
theorem tw_704 : ((Jvm.Cond.instanceMethod ({ cls := "DotsOnGrassModel", name := "set", desc := "(II)I" } : Jvm.MethodName)) : Cond) ∈ z_TT := z_mem 704 (by decide +kernel) (by decide +kernel)
theorem tw_705 : ((Jvm.Cond.selects "DotsOnGrassModel" ({ cls := "DotsOnGrassModel", name := "set", desc := "(II)I" } : Jvm.MethodName) ({ cls := "DotsOnGrassModel", name := "set", desc := "(II)I" } : Jvm.MethodName)) : Cond) ∈ z_TT := z_mem 705 (by decide +kernel) (by decide +kernel)
theorem tw_706 : ((Jvm.Cond.code ({ cls := "DotsOnGrassModel", name := "set", desc := "(II)I" } : Jvm.MethodName) prog_8_method_35_code (3 : Nat) (Option.some Jvm.ClassFile.FieldType.int)) : Cond) ∈ z_TT := z_mem 706 (by decide +kernel) (by decide +kernel)
theorem tw_707 : ((Jvm.Cond.methodLink "DotsOnGrassModel" (124 : Nat) ({ cls := "DotsOnGrassModel", name := "isIll", desc := "(I)Z" } : Jvm.MethodName)) : Cond) ∈ z_TT := z_mem 707 (by decide +kernel) (by decide +kernel)
theorem tw_709 : ((Jvm.Cond.instanceMethod ({ cls := "DotsOnGrassModel", name := "isIll", desc := "(I)Z" } : Jvm.MethodName)) : Cond) ∈ z_TT := z_mem 709 (by decide +kernel) (by decide +kernel)
theorem tw_710 : ((Jvm.Cond.code ({ cls := "DotsOnGrassModel", name := "isIll", desc := "(I)Z" } : Jvm.MethodName) prog_8_method_7_code (2 : Nat) (Option.some Jvm.ClassFile.FieldType.boolean)) : Cond) ∈ z_TT := z_mem 710 (by decide +kernel) (by decide +kernel)
theorem tw_711 : ((Jvm.Cond.methodLink "DotsOnGrassModel" (148 : Nat) ({ cls := "DotsOnGrassModel", name := "findAll", desc := "()V" } : Jvm.MethodName)) : Cond) ∈ z_TT := z_mem 711 (by decide +kernel) (by decide +kernel)
theorem tw_713 : ((Jvm.Cond.instanceMethod ({ cls := "DotsOnGrassModel", name := "findAll", desc := "()V" } : Jvm.MethodName)) : Cond) ∈ z_TT := z_mem 713 (by decide +kernel) (by decide +kernel)
theorem tw_714 : ((Jvm.Cond.code ({ cls := "DotsOnGrassModel", name := "findAll", desc := "()V" } : Jvm.MethodName) prog_8_method_34_code (2 : Nat) (Option.none : Option Jvm.ClassFile.FieldType)) : Cond) ∈ z_TT := z_mem 714 (by decide +kernel) (by decide +kernel)
theorem tw_715 : ((Jvm.Cond.methodLink "DotsOnGrassModel" (145 : Nat) ({ cls := "DotsOnGrassModel", name := "seek", desc := "(I)V" } : Jvm.MethodName)) : Cond) ∈ z_TT := z_mem 715 (by decide +kernel) (by decide +kernel)
theorem tw_717 : ((Jvm.Cond.instanceMethod ({ cls := "DotsOnGrassModel", name := "seek", desc := "(I)V" } : Jvm.MethodName)) : Cond) ∈ z_TT := z_mem 717 (by decide +kernel) (by decide +kernel)
theorem tw_718 : ((Jvm.Cond.code ({ cls := "DotsOnGrassModel", name := "seek", desc := "(I)V" } : Jvm.MethodName) prog_8_method_33_code (5 : Nat) (Option.none : Option Jvm.ClassFile.FieldType)) : Cond) ∈ z_TT := z_mem 718 (by decide +kernel) (by decide +kernel)
theorem tw_719 : ((Jvm.Cond.methodLink "DotsOnGrassModel" (138 : Nat) ({ cls := "DotsOnGrassModel", name := "takes", desc := "(I)V" } : Jvm.MethodName)) : Cond) ∈ z_TT := z_mem 719 (by decide +kernel) (by decide +kernel)
theorem tw_721 : ((Jvm.Cond.instanceMethod ({ cls := "DotsOnGrassModel", name := "takes", desc := "(I)V" } : Jvm.MethodName)) : Cond) ∈ z_TT := z_mem 721 (by decide +kernel) (by decide +kernel)
theorem tw_722 : ((Jvm.Cond.code ({ cls := "DotsOnGrassModel", name := "takes", desc := "(I)V" } : Jvm.MethodName) prog_8_method_32_code (6 : Nat) (Option.none : Option Jvm.ClassFile.FieldType)) : Cond) ∈ z_TT := z_mem 722 (by decide +kernel) (by decide +kernel)
theorem tw_723 : ((Jvm.Cond.methodLink "DotsOnGrassModel" (135 : Nat) ({ cls := "DotsOnGrassModel", name := "areSolosGiven", desc := "(I)Z" } : Jvm.MethodName)) : Cond) ∈ z_TT := z_mem 723 (by decide +kernel) (by decide +kernel)
theorem tw_725 : ((Jvm.Cond.instanceMethod ({ cls := "DotsOnGrassModel", name := "areSolosGiven", desc := "(I)Z" } : Jvm.MethodName)) : Cond) ∈ z_TT := z_mem 725 (by decide +kernel) (by decide +kernel)
theorem tw_726 : ((Jvm.Cond.code ({ cls := "DotsOnGrassModel", name := "areSolosGiven", desc := "(I)Z" } : Jvm.MethodName) prog_8_method_31_code (6 : Nat) (Option.some Jvm.ClassFile.FieldType.boolean)) : Cond) ∈ z_TT := z_mem 726 (by decide +kernel) (by decide +kernel)
theorem tw_727 : ((Jvm.Cond.methodLink "DotsOnGrassModel" (127 : Nat) ({ cls := "DotsOnGrassModel", name := "stepTo", desc := "(III)I" } : Jvm.MethodName)) : Cond) ∈ z_TT := z_mem 727 (by decide +kernel) (by decide +kernel)
theorem tw_729 : ((Jvm.Cond.instanceMethod ({ cls := "DotsOnGrassModel", name := "stepTo", desc := "(III)I" } : Jvm.MethodName)) : Cond) ∈ z_TT := z_mem 729 (by decide +kernel) (by decide +kernel)
theorem tw_730 : ((Jvm.Cond.code ({ cls := "DotsOnGrassModel", name := "stepTo", desc := "(III)I" } : Jvm.MethodName) prog_8_method_28_code (5 : Nat) (Option.some Jvm.ClassFile.FieldType.int)) : Cond) ∈ z_TT := z_mem 730 (by decide +kernel) (by decide +kernel)
theorem tw_731 : ((Jvm.Cond.methodLink "DotsOnGrassModel" (110 : Nat) ({ cls := "DotsOnGrassModel", name := "x", desc := "(II)I" } : Jvm.MethodName)) : Cond) ∈ z_TT := z_mem 731 (by decide +kernel) (by decide +kernel)
theorem tw_733 : ((Jvm.Cond.instanceMethod ({ cls := "DotsOnGrassModel", name := "x", desc := "(II)I" } : Jvm.MethodName)) : Cond) ∈ z_TT := z_mem 733 (by decide +kernel) (by decide +kernel)
theorem tw_734 : ((Jvm.Cond.code ({ cls := "DotsOnGrassModel", name := "x", desc := "(II)I" } : Jvm.MethodName) prog_8_method_26_code (3 : Nat) (Option.some Jvm.ClassFile.FieldType.int)) : Cond) ∈ z_TT := z_mem 734 (by decide +kernel) (by decide +kernel)
theorem tw_735 : ((Jvm.Cond.methodLink "DotsOnGrassModel" (114 : Nat) ({ cls := "DotsOnGrassModel", name := "size", desc := "(I)I" } : Jvm.MethodName)) : Cond) ∈ z_TT := z_mem 735 (by decide +kernel) (by decide +kernel)
theorem tw_736 : ((Jvm.Cond.static ({ cls := "DotsOnGrassModel", name := "size", desc := "(I)I" } : Jvm.MethodName)) : Cond) ∈ z_TT := z_mem 736 (by decide +kernel) (by decide +kernel)
theorem tw_737 : ((Jvm.Cond.code ({ cls := "DotsOnGrassModel", name := "size", desc := "(I)I" } : Jvm.MethodName) prog_8_method_24_code (1 : Nat) (Option.some Jvm.ClassFile.FieldType.int)) : Cond) ∈ z_TT := z_mem 737 (by decide +kernel) (by decide +kernel)
theorem tw_738 : ((Jvm.Cond.methodLink "DotsOnGrassModel" (117 : Nat) ({ cls := "DotsOnGrassModel", name := "y", desc := "(II)I" } : Jvm.MethodName)) : Cond) ∈ z_TT := z_mem 738 (by decide +kernel) (by decide +kernel)
theorem tw_740 : ((Jvm.Cond.instanceMethod ({ cls := "DotsOnGrassModel", name := "y", desc := "(II)I" } : Jvm.MethodName)) : Cond) ∈ z_TT := z_mem 740 (by decide +kernel) (by decide +kernel)
theorem tw_741 : ((Jvm.Cond.code ({ cls := "DotsOnGrassModel", name := "y", desc := "(II)I" } : Jvm.MethodName) prog_8_method_27_code (3 : Nat) (Option.some Jvm.ClassFile.FieldType.int)) : Cond) ∈ z_TT := z_mem 741 (by decide +kernel) (by decide +kernel)
theorem tw_742 : ((Jvm.Cond.methodLink "DotsOnGrassModel" (120 : Nat) ({ cls := "DotsOnGrassModel", name := "greater", desc := "(II)I" } : Jvm.MethodName)) : Cond) ∈ z_TT := z_mem 742 (by decide +kernel) (by decide +kernel)
theorem tw_743 : ((Jvm.Cond.static ({ cls := "DotsOnGrassModel", name := "greater", desc := "(II)I" } : Jvm.MethodName)) : Cond) ∈ z_TT := z_mem 743 (by decide +kernel) (by decide +kernel)
theorem tw_744 : ((Jvm.Cond.code ({ cls := "DotsOnGrassModel", name := "greater", desc := "(II)I" } : Jvm.MethodName) prog_8_method_25_code (2 : Nat) (Option.some Jvm.ClassFile.FieldType.int)) : Cond) ∈ z_TT := z_mem 744 (by decide +kernel) (by decide +kernel)
theorem tw_745 : ((Jvm.Cond.methodLink "DotsOnGrassModel" (142 : Nat) ({ cls := "DotsOnGrassModel", name := "mayGo", desc := "(II)Z" } : Jvm.MethodName)) : Cond) ∈ z_TT := z_mem 745 (by decide +kernel) (by decide +kernel)
theorem tw_747 : ((Jvm.Cond.instanceMethod ({ cls := "DotsOnGrassModel", name := "mayGo", desc := "(II)Z" } : Jvm.MethodName)) : Cond) ∈ z_TT := z_mem 747 (by decide +kernel) (by decide +kernel)
theorem tw_748 : ((Jvm.Cond.code ({ cls := "DotsOnGrassModel", name := "mayGo", desc := "(II)Z" } : Jvm.MethodName) prog_8_method_30_code (6 : Nat) (Option.some Jvm.ClassFile.FieldType.boolean)) : Cond) ∈ z_TT := z_mem 748 (by decide +kernel) (by decide +kernel)
theorem tw_749 : ((Jvm.Cond.methodLink "DotsOnGrassModel" (131 : Nat) ({ cls := "DotsOnGrassModel", name := "nearest", desc := "(IIIII)I" } : Jvm.MethodName)) : Cond) ∈ z_TT := z_mem 749 (by decide +kernel) (by decide +kernel)
theorem tw_751 : ((Jvm.Cond.instanceMethod ({ cls := "DotsOnGrassModel", name := "nearest", desc := "(IIIII)I" } : Jvm.MethodName)) : Cond) ∈ z_TT := z_mem 751 (by decide +kernel) (by decide +kernel)
theorem tw_752 : ((Jvm.Cond.code ({ cls := "DotsOnGrassModel", name := "nearest", desc := "(IIIII)I" } : Jvm.MethodName) prog_8_method_29_code (16 : Nat) (Option.some Jvm.ClassFile.FieldType.int)) : Cond) ∈ z_TT := z_mem 752 (by decide +kernel) (by decide +kernel)
theorem tw_753 : ((Jvm.Cond.constant "DotsOnGrassModel" (123 : Nat) (1000000 : Int32)) : Cond) ∈ z_TT := z_mem 753 (by decide +kernel) (by decide +kernel)
theorem tw_754 : ((Jvm.Cond.methodLink "DotsOnGrassLaw" (79 : Nat) ({ cls := "DotsOnGrassModel", name := "steps", desc := "(II)I" } : Jvm.MethodName)) : Cond) ∈ z_TT := z_mem 754 (by decide +kernel) (by decide +kernel)
theorem tw_755 : ((Jvm.Cond.instanceMethod ({ cls := "DotsOnGrassModel", name := "steps", desc := "(II)I" } : Jvm.MethodName)) : Cond) ∈ z_TT := z_mem 755 (by decide +kernel) (by decide +kernel)
theorem tw_756 : ((Jvm.Cond.selects "DotsOnGrassModel" ({ cls := "DotsOnGrassModel", name := "steps", desc := "(II)I" } : Jvm.MethodName) ({ cls := "DotsOnGrassModel", name := "steps", desc := "(II)I" } : Jvm.MethodName)) : Cond) ∈ z_TT := z_mem 756 (by decide +kernel) (by decide +kernel)
theorem tw_757 : ((Jvm.Cond.code ({ cls := "DotsOnGrassModel", name := "steps", desc := "(II)I" } : Jvm.MethodName) prog_8_method_36_code (3 : Nat) (Option.some Jvm.ClassFile.FieldType.int)) : Cond) ∈ z_TT := z_mem 757 (by decide +kernel) (by decide +kernel)
theorem tw_758 : ((Jvm.Cond.methodLink "DotsOnGrassModel" (151 : Nat) ({ cls := "DotsOnGrassModel", name := "present", desc := "()I" } : Jvm.MethodName)) : Cond) ∈ z_TT := z_mem 758 (by decide +kernel) (by decide +kernel)
theorem tw_760 : ((Jvm.Cond.instanceMethod ({ cls := "DotsOnGrassModel", name := "present", desc := "()I" } : Jvm.MethodName)) : Cond) ∈ z_TT := z_mem 760 (by decide +kernel) (by decide +kernel)
theorem tw_761 : ((Jvm.Cond.code ({ cls := "DotsOnGrassModel", name := "present", desc := "()I" } : Jvm.MethodName) prog_8_method_37_code (3 : Nat) (Option.some Jvm.ClassFile.FieldType.int)) : Cond) ∈ z_TT := z_mem 761 (by decide +kernel) (by decide +kernel)
theorem tw_762 : ((Jvm.Cond.methodLink "DotsOnGrassLaw" (84 : Nat) ({ cls := "DotsOnGrassModel", name := "way", desc := "(IIII)I" } : Jvm.MethodName)) : Cond) ∈ z_TT := z_mem 762 (by decide +kernel) (by decide +kernel)
theorem tw_763 : ((Jvm.Cond.instanceMethod ({ cls := "DotsOnGrassModel", name := "way", desc := "(IIII)I" } : Jvm.MethodName)) : Cond) ∈ z_TT := z_mem 763 (by decide +kernel) (by decide +kernel)
theorem tw_764 : ((Jvm.Cond.selects "DotsOnGrassModel" ({ cls := "DotsOnGrassModel", name := "way", desc := "(IIII)I" } : Jvm.MethodName) ({ cls := "DotsOnGrassModel", name := "way", desc := "(IIII)I" } : Jvm.MethodName)) : Cond) ∈ z_TT := z_mem 764 (by decide +kernel) (by decide +kernel)
theorem tw_765 : ((Jvm.Cond.code ({ cls := "DotsOnGrassModel", name := "way", desc := "(IIII)I" } : Jvm.MethodName) prog_8_method_39_code (12 : Nat) (Option.some Jvm.ClassFile.FieldType.int)) : Cond) ∈ z_TT := z_mem 765 (by decide +kernel) (by decide +kernel)
theorem tw_766 : ((Jvm.Cond.methodLink "DotsOnGrassModel" (155 : Nat) ({ cls := "DotsOnGrassModel", name := "divisor", desc := "(II)I" } : Jvm.MethodName)) : Cond) ∈ z_TT := z_mem 766 (by decide +kernel) (by decide +kernel)
theorem tw_767 : ((Jvm.Cond.static ({ cls := "DotsOnGrassModel", name := "divisor", desc := "(II)I" } : Jvm.MethodName)) : Cond) ∈ z_TT := z_mem 767 (by decide +kernel) (by decide +kernel)
theorem tw_768 : ((Jvm.Cond.code ({ cls := "DotsOnGrassModel", name := "divisor", desc := "(II)I" } : Jvm.MethodName) prog_8_method_38_code (5 : Nat) (Option.some Jvm.ClassFile.FieldType.int)) : Cond) ∈ z_TT := z_mem 768 (by decide +kernel) (by decide +kernel)
theorem tw_769 : ((Jvm.Cond.methodLink "DotsOnGrassLaw" (88 : Nat) ({ cls := "DotsOnGrassModel", name := "closest", desc := "(III)I" } : Jvm.MethodName)) : Cond) ∈ z_TT := z_mem 769 (by decide +kernel) (by decide +kernel)
theorem tw_770 : ((Jvm.Cond.instanceMethod ({ cls := "DotsOnGrassModel", name := "closest", desc := "(III)I" } : Jvm.MethodName)) : Cond) ∈ z_TT := z_mem 770 (by decide +kernel) (by decide +kernel)
theorem tw_771 : ((Jvm.Cond.selects "DotsOnGrassModel" ({ cls := "DotsOnGrassModel", name := "closest", desc := "(III)I" } : Jvm.MethodName) ({ cls := "DotsOnGrassModel", name := "closest", desc := "(III)I" } : Jvm.MethodName)) : Cond) ∈ z_TT := z_mem 771 (by decide +kernel) (by decide +kernel)
theorem tw_772 : ((Jvm.Cond.code ({ cls := "DotsOnGrassModel", name := "closest", desc := "(III)I" } : Jvm.MethodName) prog_8_method_40_code (4 : Nat) (Option.some Jvm.ClassFile.FieldType.int)) : Cond) ∈ z_TT := z_mem 772 (by decide +kernel) (by decide +kernel)
theorem tw_773 : ((Jvm.Cond.methodLink "DotsOnGrassLaw" (92 : Nat) ({ cls := "DotsOnGrassModel", name := "late", desc := "(II)I" } : Jvm.MethodName)) : Cond) ∈ z_TT := z_mem 773 (by decide +kernel) (by decide +kernel)
theorem tw_774 : ((Jvm.Cond.instanceMethod ({ cls := "DotsOnGrassModel", name := "late", desc := "(II)I" } : Jvm.MethodName)) : Cond) ∈ z_TT := z_mem 774 (by decide +kernel) (by decide +kernel)
theorem tw_775 : ((Jvm.Cond.selects "DotsOnGrassModel" ({ cls := "DotsOnGrassModel", name := "late", desc := "(II)I" } : Jvm.MethodName) ({ cls := "DotsOnGrassModel", name := "late", desc := "(II)I" } : Jvm.MethodName)) : Cond) ∈ z_TT := z_mem 775 (by decide +kernel) (by decide +kernel)
theorem tw_776 : ((Jvm.Cond.code ({ cls := "DotsOnGrassModel", name := "late", desc := "(II)I" } : Jvm.MethodName) prog_8_method_41_code (4 : Nat) (Option.some Jvm.ClassFile.FieldType.int)) : Cond) ∈ z_TT := z_mem 776 (by decide +kernel) (by decide +kernel)
theorem tw_777 : ((Jvm.Cond.methodLink "DotsOnGrassLaw" (96 : Nat) ({ cls := "DotsOnGrassModel", name := "hole", desc := "(I)I" } : Jvm.MethodName)) : Cond) ∈ z_TT := z_mem 777 (by decide +kernel) (by decide +kernel)
theorem tw_778 : ((Jvm.Cond.instanceMethod ({ cls := "DotsOnGrassModel", name := "hole", desc := "(I)I" } : Jvm.MethodName)) : Cond) ∈ z_TT := z_mem 778 (by decide +kernel) (by decide +kernel)
theorem tw_779 : ((Jvm.Cond.selects "DotsOnGrassModel" ({ cls := "DotsOnGrassModel", name := "hole", desc := "(I)I" } : Jvm.MethodName) ({ cls := "DotsOnGrassModel", name := "hole", desc := "(I)I" } : Jvm.MethodName)) : Cond) ∈ z_TT := z_mem 779 (by decide +kernel) (by decide +kernel)
theorem tw_780 : ((Jvm.Cond.code ({ cls := "DotsOnGrassModel", name := "hole", desc := "(I)I" } : Jvm.MethodName) prog_8_method_42_code (6 : Nat) (Option.some Jvm.ClassFile.FieldType.int)) : Cond) ∈ z_TT := z_mem 780 (by decide +kernel) (by decide +kernel)
theorem tw_781 : ((Jvm.Cond.methodLink "DotsOnGrassLaw" (101 : Nat) ({ cls := "DotsOnGrassModel", name := "ready", desc := "()I" } : Jvm.MethodName)) : Cond) ∈ z_TT := z_mem 781 (by decide +kernel) (by decide +kernel)
theorem tw_782 : ((Jvm.Cond.instanceMethod ({ cls := "DotsOnGrassModel", name := "ready", desc := "()I" } : Jvm.MethodName)) : Cond) ∈ z_TT := z_mem 782 (by decide +kernel) (by decide +kernel)
theorem tw_783 : ((Jvm.Cond.selects "DotsOnGrassModel" ({ cls := "DotsOnGrassModel", name := "ready", desc := "()I" } : Jvm.MethodName) ({ cls := "DotsOnGrassModel", name := "ready", desc := "()I" } : Jvm.MethodName)) : Cond) ∈ z_TT := z_mem 783 (by decide +kernel) (by decide +kernel)
theorem tw_784 : ((Jvm.Cond.code ({ cls := "DotsOnGrassModel", name := "ready", desc := "()I" } : Jvm.MethodName) prog_8_method_43_code (2 : Nat) (Option.some Jvm.ClassFile.FieldType.int)) : Cond) ∈ z_TT := z_mem 784 (by decide +kernel) (by decide +kernel)
theorem tw_785 : ((Jvm.Cond.methodLink "DotsOnGrassLaw" (105 : Nat) ({ cls := "DotsOnGrassModel", name := "many", desc := "(I)I" } : Jvm.MethodName)) : Cond) ∈ z_TT := z_mem 785 (by decide +kernel) (by decide +kernel)
theorem tw_786 : ((Jvm.Cond.instanceMethod ({ cls := "DotsOnGrassModel", name := "many", desc := "(I)I" } : Jvm.MethodName)) : Cond) ∈ z_TT := z_mem 786 (by decide +kernel) (by decide +kernel)
theorem tw_787 : ((Jvm.Cond.selects "DotsOnGrassModel" ({ cls := "DotsOnGrassModel", name := "many", desc := "(I)I" } : Jvm.MethodName) ({ cls := "DotsOnGrassModel", name := "many", desc := "(I)I" } : Jvm.MethodName)) : Cond) ∈ z_TT := z_mem 787 (by decide +kernel) (by decide +kernel)
theorem tw_788 : ((Jvm.Cond.code ({ cls := "DotsOnGrassModel", name := "many", desc := "(I)I" } : Jvm.MethodName) prog_8_method_47_code (2 : Nat) (Option.some Jvm.ClassFile.FieldType.int)) : Cond) ∈ z_TT := z_mem 788 (by decide +kernel) (by decide +kernel)
theorem tw_789 : ((Jvm.Cond.methodLink "DotsOnGrassModel" (158 : Nat) ({ cls := "DotsOnGrassModel", name := "allDots", desc := "()I" } : Jvm.MethodName)) : Cond) ∈ z_TT := z_mem 789 (by decide +kernel) (by decide +kernel)
theorem tw_791 : ((Jvm.Cond.instanceMethod ({ cls := "DotsOnGrassModel", name := "allDots", desc := "()I" } : Jvm.MethodName)) : Cond) ∈ z_TT := z_mem 791 (by decide +kernel) (by decide +kernel)
theorem tw_792 : ((Jvm.Cond.code ({ cls := "DotsOnGrassModel", name := "allDots", desc := "()I" } : Jvm.MethodName) prog_8_method_45_code (3 : Nat) (Option.some Jvm.ClassFile.FieldType.int)) : Cond) ∈ z_TT := z_mem 792 (by decide +kernel) (by decide +kernel)
theorem tw_793 : ((Jvm.Cond.methodLink "DotsOnGrassModel" (161 : Nat) ({ cls := "DotsOnGrassModel", name := "soloMany", desc := "()I" } : Jvm.MethodName)) : Cond) ∈ z_TT := z_mem 793 (by decide +kernel) (by decide +kernel)
theorem tw_795 : ((Jvm.Cond.instanceMethod ({ cls := "DotsOnGrassModel", name := "soloMany", desc := "()I" } : Jvm.MethodName)) : Cond) ∈ z_TT := z_mem 795 (by decide +kernel) (by decide +kernel)
theorem tw_796 : ((Jvm.Cond.code ({ cls := "DotsOnGrassModel", name := "soloMany", desc := "()I" } : Jvm.MethodName) prog_8_method_44_code (4 : Nat) (Option.some Jvm.ClassFile.FieldType.int)) : Cond) ∈ z_TT := z_mem 796 (by decide +kernel) (by decide +kernel)
theorem tw_797 : ((Jvm.Cond.methodLink "DotsOnGrassModel" (164 : Nat) ({ cls := "DotsOnGrassModel", name := "allSteps", desc := "()I" } : Jvm.MethodName)) : Cond) ∈ z_TT := z_mem 797 (by decide +kernel) (by decide +kernel)
theorem tw_799 : ((Jvm.Cond.instanceMethod ({ cls := "DotsOnGrassModel", name := "allSteps", desc := "()I" } : Jvm.MethodName)) : Cond) ∈ z_TT := z_mem 799 (by decide +kernel) (by decide +kernel)
theorem tw_800 : ((Jvm.Cond.code ({ cls := "DotsOnGrassModel", name := "allSteps", desc := "()I" } : Jvm.MethodName) prog_8_method_46_code (3 : Nat) (Option.some Jvm.ClassFile.FieldType.int)) : Cond) ∈ z_TT := z_mem 800 (by decide +kernel) (by decide +kernel)
theorem tw_801 : ((Jvm.Cond.methodLink "DotsOnGrassLaw" (109 : Nat) ({ cls := "DotsOnGrassModel", name := "keep", desc := "()I" } : Jvm.MethodName)) : Cond) ∈ z_TT := z_mem 801 (by decide +kernel) (by decide +kernel)
theorem tw_802 : ((Jvm.Cond.instanceMethod ({ cls := "DotsOnGrassModel", name := "keep", desc := "()I" } : Jvm.MethodName)) : Cond) ∈ z_TT := z_mem 802 (by decide +kernel) (by decide +kernel)
theorem tw_803 : ((Jvm.Cond.selects "DotsOnGrassModel" ({ cls := "DotsOnGrassModel", name := "keep", desc := "()I" } : Jvm.MethodName) ({ cls := "DotsOnGrassModel", name := "keep", desc := "()I" } : Jvm.MethodName)) : Cond) ∈ z_TT := z_mem 803 (by decide +kernel) (by decide +kernel)
theorem tw_804 : ((Jvm.Cond.code ({ cls := "DotsOnGrassModel", name := "keep", desc := "()I" } : Jvm.MethodName) prog_8_method_50_code (1 : Nat) (Option.some Jvm.ClassFile.FieldType.int)) : Cond) ∈ z_TT := z_mem 804 (by decide +kernel) (by decide +kernel)
theorem tw_805 : ((Jvm.Cond.methodLink "DotsOnGrassModel" (174 : Nat) ({ cls := "DotsOnGrassModel", name := "moveAll", desc := "(Z)V" } : Jvm.MethodName)) : Cond) ∈ z_TT := z_mem 805 (by decide +kernel) (by decide +kernel)
theorem tw_807 : ((Jvm.Cond.instanceMethod ({ cls := "DotsOnGrassModel", name := "moveAll", desc := "(Z)V" } : Jvm.MethodName)) : Cond) ∈ z_TT := z_mem 807 (by decide +kernel) (by decide +kernel)
theorem tw_808 : ((Jvm.Cond.code ({ cls := "DotsOnGrassModel", name := "moveAll", desc := "(Z)V" } : Jvm.MethodName) prog_8_method_49_code (2 : Nat) (Option.none : Option Jvm.ClassFile.FieldType)) : Cond) ∈ z_TT := z_mem 808 (by decide +kernel) (by decide +kernel)
theorem tw_809 : ((Jvm.Cond.methodLink "DotsOnGrassModel" (170 : Nat) ({ cls := "DotsOnGrassModel", name := "move", desc := "([IIZ)V" } : Jvm.MethodName)) : Cond) ∈ z_TT := z_mem 809 (by decide +kernel) (by decide +kernel)
theorem tw_811 : ((Jvm.Cond.instanceMethod ({ cls := "DotsOnGrassModel", name := "move", desc := "([IIZ)V" } : Jvm.MethodName)) : Cond) ∈ z_TT := z_mem 811 (by decide +kernel) (by decide +kernel)
theorem tw_812 : ((Jvm.Cond.code ({ cls := "DotsOnGrassModel", name := "move", desc := "([IIZ)V" } : Jvm.MethodName) prog_8_method_48_code (5 : Nat) (Option.none : Option Jvm.ClassFile.FieldType)) : Cond) ∈ z_TT := z_mem 812 (by decide +kernel) (by decide +kernel)
theorem tw_813 : ((Jvm.Cond.methodLink "DotsOnGrassLaw" (113 : Nat) ({ cls := "DotsOnGrassModel", name := "back", desc := "()I" } : Jvm.MethodName)) : Cond) ∈ z_TT := z_mem 813 (by decide +kernel) (by decide +kernel)
theorem tw_814 : ((Jvm.Cond.instanceMethod ({ cls := "DotsOnGrassModel", name := "back", desc := "()I" } : Jvm.MethodName)) : Cond) ∈ z_TT := z_mem 814 (by decide +kernel) (by decide +kernel)
theorem tw_815 : ((Jvm.Cond.selects "DotsOnGrassModel" ({ cls := "DotsOnGrassModel", name := "back", desc := "()I" } : Jvm.MethodName) ({ cls := "DotsOnGrassModel", name := "back", desc := "()I" } : Jvm.MethodName)) : Cond) ∈ z_TT := z_mem 815 (by decide +kernel) (by decide +kernel)
theorem tw_816 : ((Jvm.Cond.code ({ cls := "DotsOnGrassModel", name := "back", desc := "()I" } : Jvm.MethodName) prog_8_method_51_code (1 : Nat) (Option.some Jvm.ClassFile.FieldType.int)) : Cond) ∈ z_TT := z_mem 816 (by decide +kernel) (by decide +kernel)
end
section
def zI (z : Int) : Int32 := Int32.ofInt z
def zL (z : Int) : Int64 := Int64.ofInt z
abbrev zSt : Type := Nat → Int → Int
/-- f, but v at j -/
def z_upf (f : Int → Int) (j v : Int) : Int → Int := fun i => if i = j then v else f i
/-- the state, but v at place j of cell c -/
def z_up (σ : zSt) (c : Nat) (j v : Int) : zSt := fun d => if d = c then z_upf (σ c) j v else σ d
/-- the state, but f in cell c -/
def z_uc (σ : zSt) (c : Nat) (f : Int → Int) : zSt := fun d => if d = c then f else σ d
def zaI (f : Int → Int) : Nat → Int32 := fun j => zI (f (j : Int))
def zaL (f : Int → Int) : Nat → Int64 := fun j => zL (f (j : Int))
def zaR (a : Nat → Nat) (b w n : Nat) : Nat → Option Nat := fun i => if i < n then some (a (b + w * i)) else none
abbrev z_eI (κ : Nat → ClassId) (n : Nat) (f : Int → Int) : va_E := .inl (κ 0, n, .inl (zaI f))
abbrev z_eZ (κ : Nat → ClassId) (n : Nat) (f : Int → Int) : va_E := .inl (κ 2, n, .inl (zaI f))
abbrev z_eL (κ : Nat → ClassId) (n : Nat) (f : Int → Int) : va_E := .inl (κ 1, n, .inr (.inl (zaL f)))
abbrev z_eA (κ : Nat → ClassId) (a : Nat → Nat) (q : Nat) : va_E := .inl (κ 3, 5, .inr (.inr (.inr (.inr (zaR a (q + 1) 4 5)))))
abbrev z_eG (κ : Nat → ClassId) (a : Nat → Nat) (q : Nat) : va_E := .inl (κ 4, 5, .inr (.inr (.inr (.inr (zaR a (q + 1) 1 5)))))
abbrev z_fPic (a : Nat → Nat) (q : Nat) (f : Int → Int) : List Value := [.ref (a (q + 1)), .ref (a (q + 2)), .ref (a (q + 3)), .int (zI (f 3)), .int (zI (f 4))]
abbrev z_fPlan (a : Nat → Nat) (q : Nat) (f : Int → Int) : List Value := [.ref (a (q + 1)), .ref (a (q + 2)), .ref (a (q + 3)), .ref (a (q + 4)), .ref (a 72), .int (zI (f 5))]
abbrev z_fSearch (a : Nat → Nat) (f : Int → Int) : List Value := [.int (zI (f 0)), .int (zI (f 1)), .int (zI (f 2)), .ref (a 73), .ref (a 74), .int (zI (f 5)), .ref (a 75), .ref (a 76), .ref (a 77), .ref (a 78), .ref (a 79), .int (zI (f 11))]
abbrev z_fShape (a : Nat → Nat) (f : Int → Int) : List Value := [.ref (a 50), .ref (a 51), .int (zI (f 2))]
abbrev z_fShow (a : Nat → Nat) (q : Nat) (f : Int → Int) : List Value := [.ref (a (q + 1)), .ref (a (q + 2)), .int (zI (f 2)), .ref (a (q + 3)), .int (zI (f 4)), .int (zI (f 5)), .int (zI (f 6)), .int (zI (f 7)), .int (zI (f 8))]
abbrev z_fMain (a : Nat → Nat) (f : Int → Int) : List Value := [.ref (a 1), .ref (a 25), .int (zI (f 2)), .ref (a 49), .ref (a 52), .ref (a 62)]
abbrev z_fModel (a : Nat → Nat) (f : Int → Int) : List Value := [.ref (a 81), .ref (a 82), .ref (a 83), .ref (a 84), .int (zI (f 4)), .ref (a 85), .ref (a 86), .ref (a 87), .int (zI (f 8)), .ref (a 88), .ref (a 89), .ref (a 90), .ref (a 91), .ref (a 92), .ref (a 93), .ref (a 94), .ref (a 95), .int (zI (f 17))]
/-- what cell c holds, f its contents -/
def z_ce (κ : Nat → ClassId) (a : Nat → Nat) (c : Nat) (f : Int → Int) : va_E := match c with
  | 0 => .inr (5, z_fMain a f)
  | 1 => .inr (4, z_fShow a 1 f)
  | 2 => z_eI κ 6 f
  | 3 => z_eZ κ 6 f
  | 4 => z_eA κ a 4
  | 5 => .inr (0, z_fPic a 5 f)
  | 6 => z_eI κ 7 f
  | 7 => z_eI κ 7 f
  | 8 => z_eZ κ 7 f
  | 9 => .inr (0, z_fPic a 9 f)
  | 10 => z_eI κ 7 f
  | 11 => z_eI κ 7 f
  | 12 => z_eZ κ 7 f
  | 13 => .inr (0, z_fPic a 13 f)
  | 14 => z_eI κ 7 f
  | 15 => z_eI κ 7 f
  | 16 => z_eZ κ 7 f
  | 17 => .inr (0, z_fPic a 17 f)
  | 18 => z_eI κ 7 f
  | 19 => z_eI κ 7 f
  | 20 => z_eZ κ 7 f
  | 21 => .inr (0, z_fPic a 21 f)
  | 22 => z_eI κ 7 f
  | 23 => z_eI κ 7 f
  | 24 => z_eZ κ 7 f
  | 25 => .inr (4, z_fShow a 25 f)
  | 26 => z_eI κ 6 f
  | 27 => z_eZ κ 6 f
  | 28 => z_eA κ a 28
  | 29 => .inr (0, z_fPic a 29 f)
  | 30 => z_eI κ 7 f
  | 31 => z_eI κ 7 f
  | 32 => z_eZ κ 7 f
  | 33 => .inr (0, z_fPic a 33 f)
  | 34 => z_eI κ 7 f
  | 35 => z_eI κ 7 f
  | 36 => z_eZ κ 7 f
  | 37 => .inr (0, z_fPic a 37 f)
  | 38 => z_eI κ 7 f
  | 39 => z_eI κ 7 f
  | 40 => z_eZ κ 7 f
  | 41 => .inr (0, z_fPic a 41 f)
  | 42 => z_eI κ 7 f
  | 43 => z_eI κ 7 f
  | 44 => z_eZ κ 7 f
  | 45 => .inr (0, z_fPic a 45 f)
  | 46 => z_eI κ 7 f
  | 47 => z_eI κ 7 f
  | 48 => z_eZ κ 7 f
  | 49 => .inr (3, z_fShape a f)
  | 50 => z_eI κ 7 f
  | 51 => z_eI κ 7 f
  | 52 => .inr (1, z_fPlan a 52 f)
  | 53 => z_eZ κ 5 f
  | 54 => z_eI κ 5 f
  | 55 => z_eI κ 5 f
  | 56 => z_eG κ a 56
  | 57 => z_eI κ 6 f
  | 58 => z_eI κ 6 f
  | 59 => z_eI κ 6 f
  | 60 => z_eI κ 6 f
  | 61 => z_eI κ 6 f
  | 62 => .inr (1, z_fPlan a 62 f)
  | 63 => z_eZ κ 5 f
  | 64 => z_eI κ 5 f
  | 65 => z_eI κ 5 f
  | 66 => z_eG κ a 66
  | 67 => z_eI κ 6 f
  | 68 => z_eI κ 6 f
  | 69 => z_eI κ 6 f
  | 70 => z_eI κ 6 f
  | 71 => z_eI κ 6 f
  | 72 => .inr (2, z_fSearch a f)
  | 73 => z_eI κ 6 f
  | 74 => z_eI κ 6 f
  | 75 => z_eI κ 6 f
  | 76 => z_eI κ 6 f
  | 77 => z_eI κ 6 f
  | 78 => z_eI κ 42 f
  | 79 => z_eI κ 1764 f
  | 80 => .inr (6, z_fModel a f)
  | 81 => z_eI κ 6 f
  | 82 => z_eI κ 12 f
  | 83 => z_eI κ 10 f
  | 84 => z_eI κ 105 f
  | 85 => z_eI κ 133 f
  | 86 => z_eL κ 16 f
  | 87 => z_eL κ 16 f
  | 88 => z_eI κ 30 f
  | 89 => z_eZ κ 5 f
  | 90 => z_eI κ 5 f
  | 91 => z_eI κ 5 f
  | 92 => z_eI κ 6 f
  | 93 => z_eI κ 6 f
  | 94 => z_eI κ 30 f
  | _ => z_eZ κ 5 f
def z_w (κ : Nat → ClassId) (a : Nat → Nat) (σ : zSt) : va_W := (List.range 96).map (fun c => (a c, z_ce κ a c (σ c)))
theorem z_w_at {κ : Nat → ClassId} {a : Nat → Nat} {σ : zSt} {c : Nat} (h : c < 96) : (z_w κ a σ)[c]? = some (a c, z_ce κ a c (σ c)) := by
  unfold z_w
  rw [List.getElem?_map, List.getElem?_range h]
  rfl
theorem z_w_len {κ : Nat → ClassId} {a : Nat → Nat} {σ : zSt} : (z_w κ a σ).length = 96 := by unfold z_w; rw [List.length_map, List.length_range]
theorem z_w_setc {κ : Nat → ClassId} {a : Nat → Nat} {σ : zSt} {c : Nat} (h : c < 96) (f : Int → Int) : (z_w κ a σ).set c (a c, z_ce κ a c f) = z_w κ a (z_uc σ c f) := by
  apply List.ext_getElem?
  intro i
  rw [List.getElem?_set]
  by_cases hi : c = i
  · subst hi
    rw [if_pos rfl, z_w_len, if_pos h, z_w_at h]
    unfold z_uc
    rw [if_pos rfl]
  · rw [if_neg hi]
    by_cases h2 : i < 96
    · rw [z_w_at h2, z_w_at h2]
      unfold z_uc
      rw [if_neg (fun q => hi q.symm)]
    · rw [List.getElem?_eq_none (by rw [z_w_len]; omega), List.getElem?_eq_none (by rw [z_w_len]; omega)]
theorem z_w_set {κ : Nat → ClassId} {a : Nat → Nat} {σ : zSt} {c : Nat} (h : c < 96) (j v : Int) : (z_w κ a σ).set c (a c, z_ce κ a c (z_upf (σ c) j v)) = z_w κ a (z_up σ c j v) := z_w_setc h _
/-- the addresses are apart, and all in A -/
def z_aD (a : Nat → Nat) (A : Nat → Prop) : Prop := (∀ i j, i < 96 → j < 96 → a i = a j → i = j) ∧ ∀ i, i < 96 → A (a i)
theorem z_aD.D {a : Nat → Nat} {A : Nat → Prop} (h : z_aD a A) (κ : Nat → ClassId) (σ : zSt) : va_D A (z_w κ a σ) := by
  have lt : ∀ {i : Nat} {p : Nat × va_E}, (z_w κ a σ)[i]? = some p → i < 96 := fun {i p} hi => by
    have := (List.getElem?_eq_some_iff.mp hi).1
    rwa [z_w_len] at this
  refine ⟨fun i j p q hi hj hpq => ?_, fun k q hk => ?_⟩
  · have h1 := lt hi
    have h2 := lt hj
    rw [z_w_at h1] at hi
    rw [z_w_at h2] at hj
    cases hi
    cases hj
    exact h.1 i j h1 h2 hpq
  · have h1 := lt hk
    rw [z_w_at h1] at hk
    cases hk
    exact h.2 k h1
def z_tys (κ : Nat → ClassId) : List (ClassId × FieldType) := [(κ 0, .int), (κ 1, .long), (κ 2, .boolean), (κ 3, .object "DotsOnGrass$Picture"), (κ 4, .array .int)]
/-- what the tables say -/
def z_K (D : va_G) (κ : Nat → ClassId) (U : State) : Prop := va_K D vwCl (z_tys κ) U ∧ va_Nw (.methodLinkNest RX0 44 yX5_isOnGrass RX5) U ∧ va_Nw (.methodLinkNest RX1 79 yX2_choose RX5) U ∧ va_Nw (.methodLinkNest RX2 132 yX5_leastStep RX5) U
theorem z_K.warm {D : va_G} {κ : Nat → ClassId} {s U : State} (h : z_K D κ s) (hW : s.WarmedH U.vm) : z_K D κ U := ⟨va_K.moved hW.alike h.1, h.2.1.warmM hW, h.2.2.1.warmM hW, h.2.2.2.warmM hW⟩
theorem z_K.same {D : va_G} {κ : Nat → ClassId} {s U : State} (h : z_K D κ s) (hv : s.vm = U.vm) : z_K D κ U := ⟨va_K.moved (u := s) (by rw [hv]; exact Vm.Alike.refl _) h.1, h.2.1.same rfl hv, h.2.2.1.same rfl hv, h.2.2.2.same rfl hv⟩
/-! the numbers -/
theorem zI_add (x y : Int) : zI (x + y) = zI x + zI y := Int32.ofInt_add ..
theorem zI_sub (x y : Int) : zI (x - y) = zI x - zI y := Int32.ofInt_sub ..
theorem zI_mul (x y : Int) : zI (x * y) = zI x * zI y := Int32.ofInt_mul ..
theorem zI_neg (x : Int) : zI (-x) = -zI x := Int32.ofInt_neg ..
theorem zL_add (x y : Int) : zL (x + y) = zL x + zL y := Int64.ofInt_add ..
abbrev z_in (x : Int) : Prop := -2147483648 ≤ x ∧ x ≤ 2147483647
theorem zI_toInt {x : Int} (h : z_in x) : (zI x).toInt = x := Int32.toInt_ofInt_of_le (by have := h.1; omega) (by have := h.2; omega)
theorem zI_of (x : Int32) : x = zI x.toInt := (Int32.ofInt_toInt x).symm
theorem zI_rng (x : Int32) : z_in x.toInt := ⟨by have := Int32.le_toInt x; omega, by have := Int32.toInt_lt x; omega⟩
theorem zI_eq {x y : Int} (hx : z_in x) (hy : z_in y) : zI x = zI y ↔ x = y := ⟨fun h => by have := congrArg Int32.toInt h; rwa [zI_toInt hx, zI_toInt hy] at this, fun h => by rw [h]⟩
theorem zI_lt {x y : Int} (hx : z_in x) (hy : z_in y) : zI x < zI y ↔ x < y := by rw [Int32.lt_iff_toInt_lt, zI_toInt hx, zI_toInt hy]
theorem zI_le {x y : Int} (hx : z_in x) (hy : z_in y) : zI x ≤ zI y ↔ x ≤ y := by rw [Int32.le_iff_toInt_le, zI_toInt hx, zI_toInt hy]
theorem zI_0 : zI 0 = 0 := by decide +kernel
theorem zI_eq0 {x : Int} (hx : z_in x) : zI x = 0 ↔ x = 0 := by rw [← zI_0]; exact zI_eq hx (by omega)
theorem zI_lt0 {x : Int} (hx : z_in x) : zI x < 0 ↔ x < 0 := by rw [← zI_0]; exact zI_lt hx (by omega)
theorem zI_le0 {x : Int} (hx : z_in x) : zI x ≤ 0 ↔ x ≤ 0 := by rw [← zI_0]; exact zI_le hx (by omega)
theorem zI_0lt {x : Int} (hx : z_in x) : 0 < zI x ↔ 0 < x := by rw [← zI_0]; exact zI_lt (by omega) hx
theorem zI_0le {x : Int} (hx : z_in x) : 0 ≤ zI x ↔ 0 ≤ x := by rw [← zI_0]; exact zI_le (by omega) hx
theorem zI_clamp {i : Int} {n : Nat} (h0 : 0 ≤ i) (h1 : i < n) (hn : n < 2147483648) : (((zI i).toNatClampNeg : Nat) : Int) = i := by
  have : (zI i).toInt = i := zI_toInt ⟨by omega, by omega⟩
  show (((zI i).toInt.toNat : Nat) : Int) = i
  rw [this]
  omega
theorem zI_vin {i : Int} {n : Nat} (h0 : 0 ≤ i) (h1 : i < n) (hn : n < 2147483648) : vp_in (zI i) n := by
  rw [vp_in_iff, zI_toInt ⟨by omega, by omega⟩]
  exact ⟨h0, h1⟩
theorem zaI_at {f : Int → Int} {i : Int} {n : Nat} (h0 : 0 ≤ i) (h1 : i < n) (hn : n < 2147483648) : zaI f (zI i).toNatClampNeg = zI (f i) := by
  unfold zaI
  rw [zI_clamp h0 h1 hn]
theorem zaL_at {f : Int → Int} {i : Int} {n : Nat} (h0 : 0 ≤ i) (h1 : i < n) (hn : n < 2147483648) : zaL f (zI i).toNatClampNeg = zL (f i) := by
  unfold zaL
  rw [zI_clamp h0 h1 hn]
theorem zaI_up {f : Int → Int} {i v : Int} {n : Nat} (h0 : 0 ≤ i) (h1 : i < n) (hn : n < 2147483648) : upd (zaI f) (zI i).toNatClampNeg (zI v) = zaI (z_upf f i v) := by
  funext j
  have hc := zI_clamp h0 h1 hn
  unfold upd zaI z_upf
  by_cases h : j = (zI i).toNatClampNeg
  · rw [if_pos h, if_pos (by rw [h]; exact hc)]
  · rw [if_neg h, if_neg (fun q => h (by omega))]
theorem zaL_up {f : Int → Int} {i v : Int} {n : Nat} (h0 : 0 ≤ i) (h1 : i < n) (hn : n < 2147483648) : vp_updL (zaL f) (zI i).toNatClampNeg (zL v) = zaL (z_upf f i v) := by
  funext j
  have hc := zI_clamp h0 h1 hn
  unfold vp_updL zaL z_upf
  by_cases h : j = (zI i).toNatClampNeg
  · rw [if_pos h, if_pos (by rw [h]; exact hc)]
  · rw [if_neg h, if_neg (fun q => h (by omega))]
theorem z_up_s {σ : zSt} {c : Nat} {j v : Int} : z_up σ c j v c j = v := by unfold z_up z_upf; rw [if_pos rfl, if_pos rfl]
theorem z_up_c {σ : zSt} {c d : Nat} {j v : Int} (h : d ≠ c) : z_up σ c j v d = σ d := by unfold z_up; rw [if_neg h]
theorem z_up_j {σ : zSt} {c : Nat} {j v i : Int} (h : i ≠ j) : z_up σ c j v c i = σ c i := by unfold z_up z_upf; rw [if_pos rfl, if_neg h]
theorem z_up_a (σ : zSt) (c d : Nat) (j v i : Int) : z_up σ c j v d i = if d = c ∧ i = j then v else σ d i := by
  unfold z_up z_upf
  by_cases h : d = c
  · subst h
    by_cases h2 : i = j <;> simp [h2]
  · simp [h]
/-! the slots of a frame -/
def z_as : Nat → List (Option Value) → List (Nat × Value)
  | _, [] => []
  | i, none :: r => z_as (i + 1) r
  | i, some v :: r => (i, v) :: z_as (i + 1) r
theorem z_as_mem : ∀ (lv : List (Option Value)) (i : Nat) (q : Nat × Value), q ∈ z_as i lv ↔ i ≤ q.1 ∧ lv[q.1 - i]? = some (some q.2)
  | [], i, q => by simp [z_as]
  | none :: r, i, q => by
    have ih := z_as_mem r (i + 1) q
    rw [z_as, ih]
    constructor
    · rintro ⟨h1, h2⟩
      refine ⟨by omega, ?_⟩
      rw [show q.1 - i = (q.1 - (i + 1)) + 1 by omega]
      simpa using h2
    · rintro ⟨h1, h2⟩
      by_cases h : q.1 = i
      · rw [h] at h2; simp at h2
      · refine ⟨by omega, ?_⟩
        rw [show q.1 - i = (q.1 - (i + 1)) + 1 by omega] at h2
        simpa using h2
  | some v :: r, i, q => by
    have ih := z_as_mem r (i + 1) q
    rw [z_as, List.mem_cons, ih]
    constructor
    · rintro (h | ⟨h1, h2⟩)
      · subst h
        exact ⟨Nat.le_refl _, by simp⟩
      · refine ⟨by omega, ?_⟩
        rw [show q.1 - i = (q.1 - (i + 1)) + 1 by omega]
        simpa using h2
    · rintro ⟨h1, h2⟩
      by_cases h : q.1 = i
      · left
        rw [h] at h2
        simp at h2
        exact Prod.ext h h2.symm
      · right
        refine ⟨by omega, ?_⟩
        rw [show q.1 - i = (q.1 - (i + 1)) + 1 by omega] at h2
        simpa using h2
theorem z_as_at {ls : Array Slot} {nL : Nat} {lv : List (Option Value)} (h : lv_has ls nL (z_as 0 lv)) {k : Nat} {v : Value} (hk : lv[k]? = some (some v)) : ls[k]? = some (.val v) := h.2.2 (k, v) ((z_as_mem lv 0 (k, v)).mpr ⟨Nat.zero_le _, by simpa using hk⟩)
def z_c2 : Option Value → Bool
  | none => false
  | some v => v.category == 2
/-- nothing of two slots ahead of k -/
def z_ok (lv : List (Option Value)) : Nat → Bool
  | 0 => true
  | k + 1 => !(z_c2 ((lv[k]?).join))
theorem z_as_set {ls : Array Slot} {nL : Nat} {lv : List (Option Value)} {k : Nat} {v : Value} (ho : z_ok lv k = true) (h : lv_has ls nL ((k, v) :: (z_as 0 lv).filter (fun q => !(q.1 == k) && !(q.1 + 1 == k && q.2.category == 2)))) : lv_has ls nL (z_as 0 (lv.set k (some v))) := by
  refine ⟨h.1, h.2.1, fun q hq => ?_⟩
  have h2 := (z_as_mem _ 0 q).mp hq
  obtain ⟨-, h3⟩ := h2
  rw [Nat.sub_zero, List.getElem?_set] at h3
  by_cases hk : k = q.1
  · rw [if_pos hk] at h3
    by_cases hl : k < lv.length
    · rw [if_pos hl] at h3
      have : q = (k, v) := Prod.ext hk.symm (Option.some.inj (Option.some.inj h3)).symm
      rw [this]
      exact h.2.2 _ List.mem_cons_self
    · rw [if_neg hl] at h3
      cases h3
  · rw [if_neg hk] at h3
    refine h.2.2 q (List.mem_cons_of_mem _ (List.mem_filter.mpr ⟨(z_as_mem lv 0 q).mpr ⟨Nat.zero_le _, by simpa using h3⟩, ?_⟩))
    have e1 : (q.1 == k) = false := by simp; exact fun e => hk e.symm
    rw [e1]
    by_cases h4 : q.1 + 1 = k
    · subst h4
      have ho2 : (!(z_c2 ((lv[q.1]?).join))) = true := ho
      rw [h3] at ho2
      simp [z_c2] at ho2
      simp [ho2]
    · simp [h4]

section ZR
variable {p : Program} {l : Launch} {e : Env} {R : Room} {s : State} {m : MethodId} {args : Array Value} {below : List Frame} {meth : Method} {c : Code} {cc : ByteArray} {own : String} {nL : Nat} {D : va_G} {κ : Nat → ClassId} {a : Nat → Nat} {A : Nat → Prop} {kc ks : Nat} {Q : State → Prop}
variable {σ : zSt} {lv : List (Option Value)} {pc : Nat} {st : List Value}
/-- the machine goes on: the world holds σ, the frame lv, the stack st -/
def z_G (p : Program) (l : Launch) (e : Env) (R : Room) (s : State) (m : MethodId) (args : Array Value) (below : List Frame) (meth : Method) (c : Code) (nL : Nat) (D : va_G) (κ : Nat → ClassId) (a : Nat → Nat) (A : Nat → Prop) (kc ks : Nat) (Q : State → Prop) (σ : zSt) (lv : List (Option Value)) (pc : Nat) (st : List Value) : Prop :=
  ∀ (ls : Array Slot) (H : Heap) (locs : List Loc), lv_has ls nL (z_as 0 lv) → va_P D vwCl (z_w κ a σ) H → va_S A s.heap H locs → W p l e R s m args below meth c H locs kc ks Q (F0 m pc ls st)
/-- what holds all along a method -/
def z_X (p : Program) (R : Room) (s : State) (m : MethodId) (args : Array Value) (c : Code) (cc : ByteArray) (own : String) (nL : Nat) (D : va_G) (κ : Nat → ClassId) (a : Nat → Nat) (A : Nat → Prop) (kc ks : Nat) : Prop :=
  CallFix p m c cc nL s args z_TT own ∧ z_K D κ s ∧ z_aD a A ∧ kc ≤ R.cells ∧ ks ≤ R.slots

theorem r_iconst (X : z_X p R s m args c cc own nL D κ a A kc ks) {n : Int} (hd : decode cc pc = .ok (.iconst n, 1))  (k : z_G p l e R s m args below meth c nL D κ a A kc ks Q σ lv (pc + 1) (.int (zI n) :: st)) : z_G p l e R s m args below meth c nL D κ a A kc ks Q σ lv pc st :=
  fun ls H locs hl hP hS => lv_iconst X.1.1 X.1.2.1 hd rfl (k ls H locs hl hP hS)
theorem r_bipush (X : z_X p R s m args c cc own nL D κ a A kc ks) {n : Int} (hd : decode cc pc = .ok (.bipush n, 2)) (hn : (Int8.ofInt n).toInt32 = zI n := by decide +kernel) (k : z_G p l e R s m args below meth c nL D κ a A kc ks Q σ lv (pc + 2) (.int (zI n) :: st)) : z_G p l e R s m args below meth c nL D κ a A kc ks Q σ lv pc st :=
  fun ls H locs hl hP hS => lv_bipush X.1.1 X.1.2.1 hd hn (k ls H locs hl hP hS)
theorem r_sipush (X : z_X p R s m args c cc own nL D κ a A kc ks) {n : Int} (hd : decode cc pc = .ok (.sipush n, 3)) (hn : (Int16.ofInt n).toInt32 = zI n := by decide +kernel) (k : z_G p l e R s m args below meth c nL D κ a A kc ks Q σ lv (pc + 3) (.int (zI n) :: st)) : z_G p l e R s m args below meth c nL D κ a A kc ks Q σ lv pc st :=
  fun ls H locs hl hP hS => lv_sipush X.1.1 X.1.2.1 hd hn (k ls H locs hl hP hS)
theorem r_lconst (X : z_X p R s m args c cc own nL D κ a A kc ks) {n : Fin 2} (hd : decode cc pc = .ok (.lconst n, 1)) (v : Int) (hn : Int64.ofNat (n : Nat) = zL v := by decide +kernel) (k : z_G p l e R s m args below meth c nL D κ a A kc ks Q σ lv (pc + 1) (.long (zL v) :: st)) : z_G p l e R s m args below meth c nL D κ a A kc ks Q σ lv pc st :=
  fun ls H locs hl hP hS => lv_lconst X.1.1 X.1.2.1 hd hn (k ls H locs hl hP hS)
theorem r_ldc (X : z_X p R s m args c cc own nL D κ a A kc ks) {ix : Nat} {v : Int32} (hd : decode cc pc = .ok (.ldc ix, 2)) (z : Int) (hz : v = zI z) (hc : Cond.constant own ix v ∈ z_TT) (k : z_G p l e R s m args below meth c nL D κ a A kc ks Q σ lv (pc + 2) (.int (zI z) :: st)) : z_G p l e R s m args below meth c nL D κ a A kc ks Q σ lv pc st :=
  fun ls H locs hl hP hS => lv_ldc X.1.1 X.1.2.1 X.1.2.2.2.1 (X.1.2.2.2.2 _ hc) hd (by rw [hz]; exact k ls H locs hl hP hS)
theorem r_ldc2 (X : z_X p R s m args c cc own nL D κ a A kc ks) {ix : Nat} {v : Int64} (hd : decode cc pc = .ok (.ldc2_w ix, 3)) (z : Int) (hz : v = zL z) (hc : Cond.constantLong own ix v ∈ z_TT) (k : z_G p l e R s m args below meth c nL D κ a A kc ks Q σ lv (pc + 3) (.long (zL z) :: st)) : z_G p l e R s m args below meth c nL D κ a A kc ks Q σ lv pc st :=
  fun ls H locs hl hP hS => lv_ldc2 X.1.1 X.1.2.1 X.1.2.2.2.1 (X.1.2.2.2.2 _ hc) hd (by rw [hz]; exact k ls H locs hl hP hS)
theorem r_iload0 (X : z_X p R s m args c cc own nL D κ a A kc ks)  {x : Int} (hd : decode cc pc = .ok (.iload_n 0, 1))  (k : z_G p l e R s m args below meth c nL D κ a A kc ks Q σ (some (.int (zI x)) :: lv) (pc + 1) (.int (zI x) :: st)) : z_G p l e R s m args below meth c nL D κ a A kc ks Q σ (some (.int (zI x)) :: lv) pc st :=
  fun ls H locs hl hP hS => lv_iload_n X.1.1 X.1.2.1 hd rfl (z_as_at hl (k := 0) rfl) (k ls H locs hl hP hS)
theorem r_lload0 (X : z_X p R s m args c cc own nL D κ a A kc ks)  {x : Int} (hd : decode cc pc = .ok (.lload_n 0, 1))  (k : z_G p l e R s m args below meth c nL D κ a A kc ks Q σ (some (.long (zL x)) :: lv) (pc + 1) (.long (zL x) :: st)) : z_G p l e R s m args below meth c nL D κ a A kc ks Q σ (some (.long (zL x)) :: lv) pc st :=
  fun ls H locs hl hP hS => lv_lload_n X.1.1 X.1.2.1 hd rfl (z_as_at hl (k := 0) rfl) (k ls H locs hl hP hS)
theorem r_aload0 (X : z_X p R s m args c cc own nL D κ a A kc ks)  {x : Nat} (hd : decode cc pc = .ok (.aload_n 0, 1))  (k : z_G p l e R s m args below meth c nL D κ a A kc ks Q σ (some (.ref x) :: lv) (pc + 1) (.ref x :: st)) : z_G p l e R s m args below meth c nL D κ a A kc ks Q σ (some (.ref x) :: lv) pc st :=
  fun ls H locs hl hP hS => lv_aload_n X.1.1 X.1.2.1 hd rfl (z_as_at hl (k := 0) rfl) (k ls H locs hl hP hS)
theorem r_istore0 (X : z_X p R s m args c cc own nL D κ a A kc ks)  {o : Option Value} {x : Int} (hd : decode cc pc = .ok (.istore_n 0, 1)) (k : z_G p l e R s m args below meth c nL D κ a A kc ks Q σ (some (.int (zI x)) :: lv) (pc + 1) st) (hn : 0 < nL := by decide) (ho : z_ok (o :: lv) 0 = true := by rfl) : z_G p l e R s m args below meth c nL D κ a A kc ks Q σ (o :: lv) pc (.int (zI x) :: st) :=
  fun ls H locs hl hP hS => lv_istore_n X.1.1 X.1.2.1 hd rfl hl hn rfl (fun ls2 hl2 => k ls2 H locs (z_as_set (k := 0) (v := .int (zI x)) ho hl2) hP hS)
theorem r_astore0 (X : z_X p R s m args c cc own nL D κ a A kc ks)  {o : Option Value} {x : Nat} (hd : decode cc pc = .ok (.astore_n 0, 1)) (k : z_G p l e R s m args below meth c nL D κ a A kc ks Q σ (some (.ref x) :: lv) (pc + 1) st) (hn : 0 < nL := by decide) (ho : z_ok (o :: lv) 0 = true := by rfl) : z_G p l e R s m args below meth c nL D κ a A kc ks Q σ (o :: lv) pc (.ref x :: st) :=
  fun ls H locs hl hP hS => lv_astore_n X.1.1 X.1.2.1 hd rfl hl hn rfl (fun ls2 hl2 => k ls2 H locs (z_as_set (k := 0) (v := .ref x) ho hl2) hP hS)
theorem r_iinc0 (X : z_X p R s m args c cc own nL D κ a A kc ks)  {x n : Int} (hd : decode cc pc = .ok (.iinc 0 n, 3)) (k : z_G p l e R s m args below meth c nL D κ a A kc ks Q σ (some (.int (zI (x + n))) :: lv) (pc + 3) st) (hn : 0 < nL := by decide) (ho : z_ok (some (.int (zI x)) :: lv) 0 = true := by rfl) : z_G p l e R s m args below meth c nL D κ a A kc ks Q σ (some (.int (zI x)) :: lv) pc st := by
  intro ls H locs hl hP hS
  obtain ⟨q, hq⟩ := List.getElem?_of_mem ((z_as_mem (some (.int (zI x)) :: lv) 0 (0, .int (zI x))).mpr ⟨Nat.zero_le _, rfl⟩)
  exact lv_iinc X.1.1 X.1.2.1 hd hl (k := q) hq (zI_add x n).symm hn rfl (fun ls2 hl2 => k ls2 H locs (z_as_set (k := 0) (v := .int (zI (x + n))) ho hl2) hP hS)
theorem r_iload1 (X : z_X p R s m args c cc own nL D κ a A kc ks) {o0 : Option Value} {x : Int} (hd : decode cc pc = .ok (.iload_n 1, 1))  (k : z_G p l e R s m args below meth c nL D κ a A kc ks Q σ (o0 :: some (.int (zI x)) :: lv) (pc + 1) (.int (zI x) :: st)) : z_G p l e R s m args below meth c nL D κ a A kc ks Q σ (o0 :: some (.int (zI x)) :: lv) pc st :=
  fun ls H locs hl hP hS => lv_iload_n X.1.1 X.1.2.1 hd rfl (z_as_at hl (k := 1) rfl) (k ls H locs hl hP hS)
theorem r_lload1 (X : z_X p R s m args c cc own nL D κ a A kc ks) {o0 : Option Value} {x : Int} (hd : decode cc pc = .ok (.lload_n 1, 1))  (k : z_G p l e R s m args below meth c nL D κ a A kc ks Q σ (o0 :: some (.long (zL x)) :: lv) (pc + 1) (.long (zL x) :: st)) : z_G p l e R s m args below meth c nL D κ a A kc ks Q σ (o0 :: some (.long (zL x)) :: lv) pc st :=
  fun ls H locs hl hP hS => lv_lload_n X.1.1 X.1.2.1 hd rfl (z_as_at hl (k := 1) rfl) (k ls H locs hl hP hS)
theorem r_aload1 (X : z_X p R s m args c cc own nL D κ a A kc ks) {o0 : Option Value} {x : Nat} (hd : decode cc pc = .ok (.aload_n 1, 1))  (k : z_G p l e R s m args below meth c nL D κ a A kc ks Q σ (o0 :: some (.ref x) :: lv) (pc + 1) (.ref x :: st)) : z_G p l e R s m args below meth c nL D κ a A kc ks Q σ (o0 :: some (.ref x) :: lv) pc st :=
  fun ls H locs hl hP hS => lv_aload_n X.1.1 X.1.2.1 hd rfl (z_as_at hl (k := 1) rfl) (k ls H locs hl hP hS)
theorem r_istore1 (X : z_X p R s m args c cc own nL D κ a A kc ks) {o0 : Option Value} {o : Option Value} {x : Int} (hd : decode cc pc = .ok (.istore_n 1, 1)) (k : z_G p l e R s m args below meth c nL D κ a A kc ks Q σ (o0 :: some (.int (zI x)) :: lv) (pc + 1) st) (hn : 1 < nL := by decide) (ho : z_ok (o0 :: o :: lv) 1 = true := by rfl) : z_G p l e R s m args below meth c nL D κ a A kc ks Q σ (o0 :: o :: lv) pc (.int (zI x) :: st) :=
  fun ls H locs hl hP hS => lv_istore_n X.1.1 X.1.2.1 hd rfl hl hn rfl (fun ls2 hl2 => k ls2 H locs (z_as_set (k := 1) (v := .int (zI x)) ho hl2) hP hS)
theorem r_astore1 (X : z_X p R s m args c cc own nL D κ a A kc ks) {o0 : Option Value} {o : Option Value} {x : Nat} (hd : decode cc pc = .ok (.astore_n 1, 1)) (k : z_G p l e R s m args below meth c nL D κ a A kc ks Q σ (o0 :: some (.ref x) :: lv) (pc + 1) st) (hn : 1 < nL := by decide) (ho : z_ok (o0 :: o :: lv) 1 = true := by rfl) : z_G p l e R s m args below meth c nL D κ a A kc ks Q σ (o0 :: o :: lv) pc (.ref x :: st) :=
  fun ls H locs hl hP hS => lv_astore_n X.1.1 X.1.2.1 hd rfl hl hn rfl (fun ls2 hl2 => k ls2 H locs (z_as_set (k := 1) (v := .ref x) ho hl2) hP hS)
theorem r_iinc1 (X : z_X p R s m args c cc own nL D κ a A kc ks) {o0 : Option Value} {x n : Int} (hd : decode cc pc = .ok (.iinc 1 n, 3)) (k : z_G p l e R s m args below meth c nL D κ a A kc ks Q σ (o0 :: some (.int (zI (x + n))) :: lv) (pc + 3) st) (hn : 1 < nL := by decide) (ho : z_ok (o0 :: some (.int (zI x)) :: lv) 1 = true := by rfl) : z_G p l e R s m args below meth c nL D κ a A kc ks Q σ (o0 :: some (.int (zI x)) :: lv) pc st := by
  intro ls H locs hl hP hS
  obtain ⟨q, hq⟩ := List.getElem?_of_mem ((z_as_mem (o0 :: some (.int (zI x)) :: lv) 0 (1, .int (zI x))).mpr ⟨Nat.zero_le _, rfl⟩)
  exact lv_iinc X.1.1 X.1.2.1 hd hl (k := q) hq (zI_add x n).symm hn rfl (fun ls2 hl2 => k ls2 H locs (z_as_set (k := 1) (v := .int (zI (x + n))) ho hl2) hP hS)
theorem r_iload2 (X : z_X p R s m args c cc own nL D κ a A kc ks) {o0 o1 : Option Value} {x : Int} (hd : decode cc pc = .ok (.iload_n 2, 1))  (k : z_G p l e R s m args below meth c nL D κ a A kc ks Q σ (o0 :: o1 :: some (.int (zI x)) :: lv) (pc + 1) (.int (zI x) :: st)) : z_G p l e R s m args below meth c nL D κ a A kc ks Q σ (o0 :: o1 :: some (.int (zI x)) :: lv) pc st :=
  fun ls H locs hl hP hS => lv_iload_n X.1.1 X.1.2.1 hd rfl (z_as_at hl (k := 2) rfl) (k ls H locs hl hP hS)
theorem r_lload2 (X : z_X p R s m args c cc own nL D κ a A kc ks) {o0 o1 : Option Value} {x : Int} (hd : decode cc pc = .ok (.lload_n 2, 1))  (k : z_G p l e R s m args below meth c nL D κ a A kc ks Q σ (o0 :: o1 :: some (.long (zL x)) :: lv) (pc + 1) (.long (zL x) :: st)) : z_G p l e R s m args below meth c nL D κ a A kc ks Q σ (o0 :: o1 :: some (.long (zL x)) :: lv) pc st :=
  fun ls H locs hl hP hS => lv_lload_n X.1.1 X.1.2.1 hd rfl (z_as_at hl (k := 2) rfl) (k ls H locs hl hP hS)
theorem r_aload2 (X : z_X p R s m args c cc own nL D κ a A kc ks) {o0 o1 : Option Value} {x : Nat} (hd : decode cc pc = .ok (.aload_n 2, 1))  (k : z_G p l e R s m args below meth c nL D κ a A kc ks Q σ (o0 :: o1 :: some (.ref x) :: lv) (pc + 1) (.ref x :: st)) : z_G p l e R s m args below meth c nL D κ a A kc ks Q σ (o0 :: o1 :: some (.ref x) :: lv) pc st :=
  fun ls H locs hl hP hS => lv_aload_n X.1.1 X.1.2.1 hd rfl (z_as_at hl (k := 2) rfl) (k ls H locs hl hP hS)
theorem r_istore2 (X : z_X p R s m args c cc own nL D κ a A kc ks) {o0 o1 : Option Value} {o : Option Value} {x : Int} (hd : decode cc pc = .ok (.istore_n 2, 1)) (k : z_G p l e R s m args below meth c nL D κ a A kc ks Q σ (o0 :: o1 :: some (.int (zI x)) :: lv) (pc + 1) st) (hn : 2 < nL := by decide) (ho : z_ok (o0 :: o1 :: o :: lv) 2 = true := by rfl) : z_G p l e R s m args below meth c nL D κ a A kc ks Q σ (o0 :: o1 :: o :: lv) pc (.int (zI x) :: st) :=
  fun ls H locs hl hP hS => lv_istore_n X.1.1 X.1.2.1 hd rfl hl hn rfl (fun ls2 hl2 => k ls2 H locs (z_as_set (k := 2) (v := .int (zI x)) ho hl2) hP hS)
theorem r_astore2 (X : z_X p R s m args c cc own nL D κ a A kc ks) {o0 o1 : Option Value} {o : Option Value} {x : Nat} (hd : decode cc pc = .ok (.astore_n 2, 1)) (k : z_G p l e R s m args below meth c nL D κ a A kc ks Q σ (o0 :: o1 :: some (.ref x) :: lv) (pc + 1) st) (hn : 2 < nL := by decide) (ho : z_ok (o0 :: o1 :: o :: lv) 2 = true := by rfl) : z_G p l e R s m args below meth c nL D κ a A kc ks Q σ (o0 :: o1 :: o :: lv) pc (.ref x :: st) :=
  fun ls H locs hl hP hS => lv_astore_n X.1.1 X.1.2.1 hd rfl hl hn rfl (fun ls2 hl2 => k ls2 H locs (z_as_set (k := 2) (v := .ref x) ho hl2) hP hS)
theorem r_iinc2 (X : z_X p R s m args c cc own nL D κ a A kc ks) {o0 o1 : Option Value} {x n : Int} (hd : decode cc pc = .ok (.iinc 2 n, 3)) (k : z_G p l e R s m args below meth c nL D κ a A kc ks Q σ (o0 :: o1 :: some (.int (zI (x + n))) :: lv) (pc + 3) st) (hn : 2 < nL := by decide) (ho : z_ok (o0 :: o1 :: some (.int (zI x)) :: lv) 2 = true := by rfl) : z_G p l e R s m args below meth c nL D κ a A kc ks Q σ (o0 :: o1 :: some (.int (zI x)) :: lv) pc st := by
  intro ls H locs hl hP hS
  obtain ⟨q, hq⟩ := List.getElem?_of_mem ((z_as_mem (o0 :: o1 :: some (.int (zI x)) :: lv) 0 (2, .int (zI x))).mpr ⟨Nat.zero_le _, rfl⟩)
  exact lv_iinc X.1.1 X.1.2.1 hd hl (k := q) hq (zI_add x n).symm hn rfl (fun ls2 hl2 => k ls2 H locs (z_as_set (k := 2) (v := .int (zI (x + n))) ho hl2) hP hS)
theorem r_iload3 (X : z_X p R s m args c cc own nL D κ a A kc ks) {o0 o1 o2 : Option Value} {x : Int} (hd : decode cc pc = .ok (.iload_n 3, 1))  (k : z_G p l e R s m args below meth c nL D κ a A kc ks Q σ (o0 :: o1 :: o2 :: some (.int (zI x)) :: lv) (pc + 1) (.int (zI x) :: st)) : z_G p l e R s m args below meth c nL D κ a A kc ks Q σ (o0 :: o1 :: o2 :: some (.int (zI x)) :: lv) pc st :=
  fun ls H locs hl hP hS => lv_iload_n X.1.1 X.1.2.1 hd rfl (z_as_at hl (k := 3) rfl) (k ls H locs hl hP hS)
theorem r_lload3 (X : z_X p R s m args c cc own nL D κ a A kc ks) {o0 o1 o2 : Option Value} {x : Int} (hd : decode cc pc = .ok (.lload_n 3, 1))  (k : z_G p l e R s m args below meth c nL D κ a A kc ks Q σ (o0 :: o1 :: o2 :: some (.long (zL x)) :: lv) (pc + 1) (.long (zL x) :: st)) : z_G p l e R s m args below meth c nL D κ a A kc ks Q σ (o0 :: o1 :: o2 :: some (.long (zL x)) :: lv) pc st :=
  fun ls H locs hl hP hS => lv_lload_n X.1.1 X.1.2.1 hd rfl (z_as_at hl (k := 3) rfl) (k ls H locs hl hP hS)
theorem r_aload3 (X : z_X p R s m args c cc own nL D κ a A kc ks) {o0 o1 o2 : Option Value} {x : Nat} (hd : decode cc pc = .ok (.aload_n 3, 1))  (k : z_G p l e R s m args below meth c nL D κ a A kc ks Q σ (o0 :: o1 :: o2 :: some (.ref x) :: lv) (pc + 1) (.ref x :: st)) : z_G p l e R s m args below meth c nL D κ a A kc ks Q σ (o0 :: o1 :: o2 :: some (.ref x) :: lv) pc st :=
  fun ls H locs hl hP hS => lv_aload_n X.1.1 X.1.2.1 hd rfl (z_as_at hl (k := 3) rfl) (k ls H locs hl hP hS)
theorem r_istore3 (X : z_X p R s m args c cc own nL D κ a A kc ks) {o0 o1 o2 : Option Value} {o : Option Value} {x : Int} (hd : decode cc pc = .ok (.istore_n 3, 1)) (k : z_G p l e R s m args below meth c nL D κ a A kc ks Q σ (o0 :: o1 :: o2 :: some (.int (zI x)) :: lv) (pc + 1) st) (hn : 3 < nL := by decide) (ho : z_ok (o0 :: o1 :: o2 :: o :: lv) 3 = true := by rfl) : z_G p l e R s m args below meth c nL D κ a A kc ks Q σ (o0 :: o1 :: o2 :: o :: lv) pc (.int (zI x) :: st) :=
  fun ls H locs hl hP hS => lv_istore_n X.1.1 X.1.2.1 hd rfl hl hn rfl (fun ls2 hl2 => k ls2 H locs (z_as_set (k := 3) (v := .int (zI x)) ho hl2) hP hS)
theorem r_astore3 (X : z_X p R s m args c cc own nL D κ a A kc ks) {o0 o1 o2 : Option Value} {o : Option Value} {x : Nat} (hd : decode cc pc = .ok (.astore_n 3, 1)) (k : z_G p l e R s m args below meth c nL D κ a A kc ks Q σ (o0 :: o1 :: o2 :: some (.ref x) :: lv) (pc + 1) st) (hn : 3 < nL := by decide) (ho : z_ok (o0 :: o1 :: o2 :: o :: lv) 3 = true := by rfl) : z_G p l e R s m args below meth c nL D κ a A kc ks Q σ (o0 :: o1 :: o2 :: o :: lv) pc (.ref x :: st) :=
  fun ls H locs hl hP hS => lv_astore_n X.1.1 X.1.2.1 hd rfl hl hn rfl (fun ls2 hl2 => k ls2 H locs (z_as_set (k := 3) (v := .ref x) ho hl2) hP hS)
theorem r_iinc3 (X : z_X p R s m args c cc own nL D κ a A kc ks) {o0 o1 o2 : Option Value} {x n : Int} (hd : decode cc pc = .ok (.iinc 3 n, 3)) (k : z_G p l e R s m args below meth c nL D κ a A kc ks Q σ (o0 :: o1 :: o2 :: some (.int (zI (x + n))) :: lv) (pc + 3) st) (hn : 3 < nL := by decide) (ho : z_ok (o0 :: o1 :: o2 :: some (.int (zI x)) :: lv) 3 = true := by rfl) : z_G p l e R s m args below meth c nL D κ a A kc ks Q σ (o0 :: o1 :: o2 :: some (.int (zI x)) :: lv) pc st := by
  intro ls H locs hl hP hS
  obtain ⟨q, hq⟩ := List.getElem?_of_mem ((z_as_mem (o0 :: o1 :: o2 :: some (.int (zI x)) :: lv) 0 (3, .int (zI x))).mpr ⟨Nat.zero_le _, rfl⟩)
  exact lv_iinc X.1.1 X.1.2.1 hd hl (k := q) hq (zI_add x n).symm hn rfl (fun ls2 hl2 => k ls2 H locs (z_as_set (k := 3) (v := .int (zI (x + n))) ho hl2) hP hS)
theorem r_iload4 (X : z_X p R s m args c cc own nL D κ a A kc ks) {o0 o1 o2 o3 : Option Value} {x : Int} (hd : decode cc pc = .ok (.iload 4, 2))  (k : z_G p l e R s m args below meth c nL D κ a A kc ks Q σ (o0 :: o1 :: o2 :: o3 :: some (.int (zI x)) :: lv) (pc + 2) (.int (zI x) :: st)) : z_G p l e R s m args below meth c nL D κ a A kc ks Q σ (o0 :: o1 :: o2 :: o3 :: some (.int (zI x)) :: lv) pc st :=
  fun ls H locs hl hP hS => lv_iload X.1.1 X.1.2.1 hd (z_as_at hl (k := 4) rfl) (k ls H locs hl hP hS)
theorem r_lload4 (X : z_X p R s m args c cc own nL D κ a A kc ks) {o0 o1 o2 o3 : Option Value} {x : Int} (hd : decode cc pc = .ok (.lload 4, 2))  (k : z_G p l e R s m args below meth c nL D κ a A kc ks Q σ (o0 :: o1 :: o2 :: o3 :: some (.long (zL x)) :: lv) (pc + 2) (.long (zL x) :: st)) : z_G p l e R s m args below meth c nL D κ a A kc ks Q σ (o0 :: o1 :: o2 :: o3 :: some (.long (zL x)) :: lv) pc st :=
  fun ls H locs hl hP hS => lv_lload X.1.1 X.1.2.1 hd (z_as_at hl (k := 4) rfl) (k ls H locs hl hP hS)
theorem r_aload4 (X : z_X p R s m args c cc own nL D κ a A kc ks) {o0 o1 o2 o3 : Option Value} {x : Nat} (hd : decode cc pc = .ok (.aload 4, 2))  (k : z_G p l e R s m args below meth c nL D κ a A kc ks Q σ (o0 :: o1 :: o2 :: o3 :: some (.ref x) :: lv) (pc + 2) (.ref x :: st)) : z_G p l e R s m args below meth c nL D κ a A kc ks Q σ (o0 :: o1 :: o2 :: o3 :: some (.ref x) :: lv) pc st :=
  fun ls H locs hl hP hS => lv_aload X.1.1 X.1.2.1 hd (z_as_at hl (k := 4) rfl) (k ls H locs hl hP hS)
theorem r_istore4 (X : z_X p R s m args c cc own nL D κ a A kc ks) {o0 o1 o2 o3 : Option Value} {o : Option Value} {x : Int} (hd : decode cc pc = .ok (.istore 4, 2)) (k : z_G p l e R s m args below meth c nL D κ a A kc ks Q σ (o0 :: o1 :: o2 :: o3 :: some (.int (zI x)) :: lv) (pc + 2) st) (hn : 4 < nL := by decide) (ho : z_ok (o0 :: o1 :: o2 :: o3 :: o :: lv) 4 = true := by rfl) : z_G p l e R s m args below meth c nL D κ a A kc ks Q σ (o0 :: o1 :: o2 :: o3 :: o :: lv) pc (.int (zI x) :: st) :=
  fun ls H locs hl hP hS => lv_istore X.1.1 X.1.2.1 hd hl hn rfl (fun ls2 hl2 => k ls2 H locs (z_as_set (k := 4) (v := .int (zI x)) ho hl2) hP hS)
theorem r_astore4 (X : z_X p R s m args c cc own nL D κ a A kc ks) {o0 o1 o2 o3 : Option Value} {o : Option Value} {x : Nat} (hd : decode cc pc = .ok (.astore 4, 2)) (k : z_G p l e R s m args below meth c nL D κ a A kc ks Q σ (o0 :: o1 :: o2 :: o3 :: some (.ref x) :: lv) (pc + 2) st) (hn : 4 < nL := by decide) (ho : z_ok (o0 :: o1 :: o2 :: o3 :: o :: lv) 4 = true := by rfl) : z_G p l e R s m args below meth c nL D κ a A kc ks Q σ (o0 :: o1 :: o2 :: o3 :: o :: lv) pc (.ref x :: st) :=
  fun ls H locs hl hP hS => lv_astore X.1.1 X.1.2.1 hd hl hn rfl (fun ls2 hl2 => k ls2 H locs (z_as_set (k := 4) (v := .ref x) ho hl2) hP hS)
theorem r_iinc4 (X : z_X p R s m args c cc own nL D κ a A kc ks) {o0 o1 o2 o3 : Option Value} {x n : Int} (hd : decode cc pc = .ok (.iinc 4 n, 3)) (k : z_G p l e R s m args below meth c nL D κ a A kc ks Q σ (o0 :: o1 :: o2 :: o3 :: some (.int (zI (x + n))) :: lv) (pc + 3) st) (hn : 4 < nL := by decide) (ho : z_ok (o0 :: o1 :: o2 :: o3 :: some (.int (zI x)) :: lv) 4 = true := by rfl) : z_G p l e R s m args below meth c nL D κ a A kc ks Q σ (o0 :: o1 :: o2 :: o3 :: some (.int (zI x)) :: lv) pc st := by
  intro ls H locs hl hP hS
  obtain ⟨q, hq⟩ := List.getElem?_of_mem ((z_as_mem (o0 :: o1 :: o2 :: o3 :: some (.int (zI x)) :: lv) 0 (4, .int (zI x))).mpr ⟨Nat.zero_le _, rfl⟩)
  exact lv_iinc X.1.1 X.1.2.1 hd hl (k := q) hq (zI_add x n).symm hn rfl (fun ls2 hl2 => k ls2 H locs (z_as_set (k := 4) (v := .int (zI (x + n))) ho hl2) hP hS)
theorem r_iload5 (X : z_X p R s m args c cc own nL D κ a A kc ks) {o0 o1 o2 o3 o4 : Option Value} {x : Int} (hd : decode cc pc = .ok (.iload 5, 2))  (k : z_G p l e R s m args below meth c nL D κ a A kc ks Q σ (o0 :: o1 :: o2 :: o3 :: o4 :: some (.int (zI x)) :: lv) (pc + 2) (.int (zI x) :: st)) : z_G p l e R s m args below meth c nL D κ a A kc ks Q σ (o0 :: o1 :: o2 :: o3 :: o4 :: some (.int (zI x)) :: lv) pc st :=
  fun ls H locs hl hP hS => lv_iload X.1.1 X.1.2.1 hd (z_as_at hl (k := 5) rfl) (k ls H locs hl hP hS)
theorem r_lload5 (X : z_X p R s m args c cc own nL D κ a A kc ks) {o0 o1 o2 o3 o4 : Option Value} {x : Int} (hd : decode cc pc = .ok (.lload 5, 2))  (k : z_G p l e R s m args below meth c nL D κ a A kc ks Q σ (o0 :: o1 :: o2 :: o3 :: o4 :: some (.long (zL x)) :: lv) (pc + 2) (.long (zL x) :: st)) : z_G p l e R s m args below meth c nL D κ a A kc ks Q σ (o0 :: o1 :: o2 :: o3 :: o4 :: some (.long (zL x)) :: lv) pc st :=
  fun ls H locs hl hP hS => lv_lload X.1.1 X.1.2.1 hd (z_as_at hl (k := 5) rfl) (k ls H locs hl hP hS)
theorem r_aload5 (X : z_X p R s m args c cc own nL D κ a A kc ks) {o0 o1 o2 o3 o4 : Option Value} {x : Nat} (hd : decode cc pc = .ok (.aload 5, 2))  (k : z_G p l e R s m args below meth c nL D κ a A kc ks Q σ (o0 :: o1 :: o2 :: o3 :: o4 :: some (.ref x) :: lv) (pc + 2) (.ref x :: st)) : z_G p l e R s m args below meth c nL D κ a A kc ks Q σ (o0 :: o1 :: o2 :: o3 :: o4 :: some (.ref x) :: lv) pc st :=
  fun ls H locs hl hP hS => lv_aload X.1.1 X.1.2.1 hd (z_as_at hl (k := 5) rfl) (k ls H locs hl hP hS)
theorem r_istore5 (X : z_X p R s m args c cc own nL D κ a A kc ks) {o0 o1 o2 o3 o4 : Option Value} {o : Option Value} {x : Int} (hd : decode cc pc = .ok (.istore 5, 2)) (k : z_G p l e R s m args below meth c nL D κ a A kc ks Q σ (o0 :: o1 :: o2 :: o3 :: o4 :: some (.int (zI x)) :: lv) (pc + 2) st) (hn : 5 < nL := by decide) (ho : z_ok (o0 :: o1 :: o2 :: o3 :: o4 :: o :: lv) 5 = true := by rfl) : z_G p l e R s m args below meth c nL D κ a A kc ks Q σ (o0 :: o1 :: o2 :: o3 :: o4 :: o :: lv) pc (.int (zI x) :: st) :=
  fun ls H locs hl hP hS => lv_istore X.1.1 X.1.2.1 hd hl hn rfl (fun ls2 hl2 => k ls2 H locs (z_as_set (k := 5) (v := .int (zI x)) ho hl2) hP hS)
theorem r_astore5 (X : z_X p R s m args c cc own nL D κ a A kc ks) {o0 o1 o2 o3 o4 : Option Value} {o : Option Value} {x : Nat} (hd : decode cc pc = .ok (.astore 5, 2)) (k : z_G p l e R s m args below meth c nL D κ a A kc ks Q σ (o0 :: o1 :: o2 :: o3 :: o4 :: some (.ref x) :: lv) (pc + 2) st) (hn : 5 < nL := by decide) (ho : z_ok (o0 :: o1 :: o2 :: o3 :: o4 :: o :: lv) 5 = true := by rfl) : z_G p l e R s m args below meth c nL D κ a A kc ks Q σ (o0 :: o1 :: o2 :: o3 :: o4 :: o :: lv) pc (.ref x :: st) :=
  fun ls H locs hl hP hS => lv_astore X.1.1 X.1.2.1 hd hl hn rfl (fun ls2 hl2 => k ls2 H locs (z_as_set (k := 5) (v := .ref x) ho hl2) hP hS)
theorem r_iinc5 (X : z_X p R s m args c cc own nL D κ a A kc ks) {o0 o1 o2 o3 o4 : Option Value} {x n : Int} (hd : decode cc pc = .ok (.iinc 5 n, 3)) (k : z_G p l e R s m args below meth c nL D κ a A kc ks Q σ (o0 :: o1 :: o2 :: o3 :: o4 :: some (.int (zI (x + n))) :: lv) (pc + 3) st) (hn : 5 < nL := by decide) (ho : z_ok (o0 :: o1 :: o2 :: o3 :: o4 :: some (.int (zI x)) :: lv) 5 = true := by rfl) : z_G p l e R s m args below meth c nL D κ a A kc ks Q σ (o0 :: o1 :: o2 :: o3 :: o4 :: some (.int (zI x)) :: lv) pc st := by
  intro ls H locs hl hP hS
  obtain ⟨q, hq⟩ := List.getElem?_of_mem ((z_as_mem (o0 :: o1 :: o2 :: o3 :: o4 :: some (.int (zI x)) :: lv) 0 (5, .int (zI x))).mpr ⟨Nat.zero_le _, rfl⟩)
  exact lv_iinc X.1.1 X.1.2.1 hd hl (k := q) hq (zI_add x n).symm hn rfl (fun ls2 hl2 => k ls2 H locs (z_as_set (k := 5) (v := .int (zI (x + n))) ho hl2) hP hS)
theorem r_iload6 (X : z_X p R s m args c cc own nL D κ a A kc ks) {o0 o1 o2 o3 o4 o5 : Option Value} {x : Int} (hd : decode cc pc = .ok (.iload 6, 2))  (k : z_G p l e R s m args below meth c nL D κ a A kc ks Q σ (o0 :: o1 :: o2 :: o3 :: o4 :: o5 :: some (.int (zI x)) :: lv) (pc + 2) (.int (zI x) :: st)) : z_G p l e R s m args below meth c nL D κ a A kc ks Q σ (o0 :: o1 :: o2 :: o3 :: o4 :: o5 :: some (.int (zI x)) :: lv) pc st :=
  fun ls H locs hl hP hS => lv_iload X.1.1 X.1.2.1 hd (z_as_at hl (k := 6) rfl) (k ls H locs hl hP hS)
theorem r_aload6 (X : z_X p R s m args c cc own nL D κ a A kc ks) {o0 o1 o2 o3 o4 o5 : Option Value} {x : Nat} (hd : decode cc pc = .ok (.aload 6, 2))  (k : z_G p l e R s m args below meth c nL D κ a A kc ks Q σ (o0 :: o1 :: o2 :: o3 :: o4 :: o5 :: some (.ref x) :: lv) (pc + 2) (.ref x :: st)) : z_G p l e R s m args below meth c nL D κ a A kc ks Q σ (o0 :: o1 :: o2 :: o3 :: o4 :: o5 :: some (.ref x) :: lv) pc st :=
  fun ls H locs hl hP hS => lv_aload X.1.1 X.1.2.1 hd (z_as_at hl (k := 6) rfl) (k ls H locs hl hP hS)
theorem r_istore6 (X : z_X p R s m args c cc own nL D κ a A kc ks) {o0 o1 o2 o3 o4 o5 : Option Value} {o : Option Value} {x : Int} (hd : decode cc pc = .ok (.istore 6, 2)) (k : z_G p l e R s m args below meth c nL D κ a A kc ks Q σ (o0 :: o1 :: o2 :: o3 :: o4 :: o5 :: some (.int (zI x)) :: lv) (pc + 2) st) (hn : 6 < nL := by decide) (ho : z_ok (o0 :: o1 :: o2 :: o3 :: o4 :: o5 :: o :: lv) 6 = true := by rfl) : z_G p l e R s m args below meth c nL D κ a A kc ks Q σ (o0 :: o1 :: o2 :: o3 :: o4 :: o5 :: o :: lv) pc (.int (zI x) :: st) :=
  fun ls H locs hl hP hS => lv_istore X.1.1 X.1.2.1 hd hl hn rfl (fun ls2 hl2 => k ls2 H locs (z_as_set (k := 6) (v := .int (zI x)) ho hl2) hP hS)
theorem r_astore6 (X : z_X p R s m args c cc own nL D κ a A kc ks) {o0 o1 o2 o3 o4 o5 : Option Value} {o : Option Value} {x : Nat} (hd : decode cc pc = .ok (.astore 6, 2)) (k : z_G p l e R s m args below meth c nL D κ a A kc ks Q σ (o0 :: o1 :: o2 :: o3 :: o4 :: o5 :: some (.ref x) :: lv) (pc + 2) st) (hn : 6 < nL := by decide) (ho : z_ok (o0 :: o1 :: o2 :: o3 :: o4 :: o5 :: o :: lv) 6 = true := by rfl) : z_G p l e R s m args below meth c nL D κ a A kc ks Q σ (o0 :: o1 :: o2 :: o3 :: o4 :: o5 :: o :: lv) pc (.ref x :: st) :=
  fun ls H locs hl hP hS => lv_astore X.1.1 X.1.2.1 hd hl hn rfl (fun ls2 hl2 => k ls2 H locs (z_as_set (k := 6) (v := .ref x) ho hl2) hP hS)
theorem r_iinc6 (X : z_X p R s m args c cc own nL D κ a A kc ks) {o0 o1 o2 o3 o4 o5 : Option Value} {x n : Int} (hd : decode cc pc = .ok (.iinc 6 n, 3)) (k : z_G p l e R s m args below meth c nL D κ a A kc ks Q σ (o0 :: o1 :: o2 :: o3 :: o4 :: o5 :: some (.int (zI (x + n))) :: lv) (pc + 3) st) (hn : 6 < nL := by decide) (ho : z_ok (o0 :: o1 :: o2 :: o3 :: o4 :: o5 :: some (.int (zI x)) :: lv) 6 = true := by rfl) : z_G p l e R s m args below meth c nL D κ a A kc ks Q σ (o0 :: o1 :: o2 :: o3 :: o4 :: o5 :: some (.int (zI x)) :: lv) pc st := by
  intro ls H locs hl hP hS
  obtain ⟨q, hq⟩ := List.getElem?_of_mem ((z_as_mem (o0 :: o1 :: o2 :: o3 :: o4 :: o5 :: some (.int (zI x)) :: lv) 0 (6, .int (zI x))).mpr ⟨Nat.zero_le _, rfl⟩)
  exact lv_iinc X.1.1 X.1.2.1 hd hl (k := q) hq (zI_add x n).symm hn rfl (fun ls2 hl2 => k ls2 H locs (z_as_set (k := 6) (v := .int (zI (x + n))) ho hl2) hP hS)
theorem r_iload7 (X : z_X p R s m args c cc own nL D κ a A kc ks) {o0 o1 o2 o3 o4 o5 o6 : Option Value} {x : Int} (hd : decode cc pc = .ok (.iload 7, 2))  (k : z_G p l e R s m args below meth c nL D κ a A kc ks Q σ (o0 :: o1 :: o2 :: o3 :: o4 :: o5 :: o6 :: some (.int (zI x)) :: lv) (pc + 2) (.int (zI x) :: st)) : z_G p l e R s m args below meth c nL D κ a A kc ks Q σ (o0 :: o1 :: o2 :: o3 :: o4 :: o5 :: o6 :: some (.int (zI x)) :: lv) pc st :=
  fun ls H locs hl hP hS => lv_iload X.1.1 X.1.2.1 hd (z_as_at hl (k := 7) rfl) (k ls H locs hl hP hS)
theorem r_aload7 (X : z_X p R s m args c cc own nL D κ a A kc ks) {o0 o1 o2 o3 o4 o5 o6 : Option Value} {x : Nat} (hd : decode cc pc = .ok (.aload 7, 2))  (k : z_G p l e R s m args below meth c nL D κ a A kc ks Q σ (o0 :: o1 :: o2 :: o3 :: o4 :: o5 :: o6 :: some (.ref x) :: lv) (pc + 2) (.ref x :: st)) : z_G p l e R s m args below meth c nL D κ a A kc ks Q σ (o0 :: o1 :: o2 :: o3 :: o4 :: o5 :: o6 :: some (.ref x) :: lv) pc st :=
  fun ls H locs hl hP hS => lv_aload X.1.1 X.1.2.1 hd (z_as_at hl (k := 7) rfl) (k ls H locs hl hP hS)
theorem r_istore7 (X : z_X p R s m args c cc own nL D κ a A kc ks) {o0 o1 o2 o3 o4 o5 o6 : Option Value} {o : Option Value} {x : Int} (hd : decode cc pc = .ok (.istore 7, 2)) (k : z_G p l e R s m args below meth c nL D κ a A kc ks Q σ (o0 :: o1 :: o2 :: o3 :: o4 :: o5 :: o6 :: some (.int (zI x)) :: lv) (pc + 2) st) (hn : 7 < nL := by decide) (ho : z_ok (o0 :: o1 :: o2 :: o3 :: o4 :: o5 :: o6 :: o :: lv) 7 = true := by rfl) : z_G p l e R s m args below meth c nL D κ a A kc ks Q σ (o0 :: o1 :: o2 :: o3 :: o4 :: o5 :: o6 :: o :: lv) pc (.int (zI x) :: st) :=
  fun ls H locs hl hP hS => lv_istore X.1.1 X.1.2.1 hd hl hn rfl (fun ls2 hl2 => k ls2 H locs (z_as_set (k := 7) (v := .int (zI x)) ho hl2) hP hS)
theorem r_astore7 (X : z_X p R s m args c cc own nL D κ a A kc ks) {o0 o1 o2 o3 o4 o5 o6 : Option Value} {o : Option Value} {x : Nat} (hd : decode cc pc = .ok (.astore 7, 2)) (k : z_G p l e R s m args below meth c nL D κ a A kc ks Q σ (o0 :: o1 :: o2 :: o3 :: o4 :: o5 :: o6 :: some (.ref x) :: lv) (pc + 2) st) (hn : 7 < nL := by decide) (ho : z_ok (o0 :: o1 :: o2 :: o3 :: o4 :: o5 :: o6 :: o :: lv) 7 = true := by rfl) : z_G p l e R s m args below meth c nL D κ a A kc ks Q σ (o0 :: o1 :: o2 :: o3 :: o4 :: o5 :: o6 :: o :: lv) pc (.ref x :: st) :=
  fun ls H locs hl hP hS => lv_astore X.1.1 X.1.2.1 hd hl hn rfl (fun ls2 hl2 => k ls2 H locs (z_as_set (k := 7) (v := .ref x) ho hl2) hP hS)
theorem r_iinc7 (X : z_X p R s m args c cc own nL D κ a A kc ks) {o0 o1 o2 o3 o4 o5 o6 : Option Value} {x n : Int} (hd : decode cc pc = .ok (.iinc 7 n, 3)) (k : z_G p l e R s m args below meth c nL D κ a A kc ks Q σ (o0 :: o1 :: o2 :: o3 :: o4 :: o5 :: o6 :: some (.int (zI (x + n))) :: lv) (pc + 3) st) (hn : 7 < nL := by decide) (ho : z_ok (o0 :: o1 :: o2 :: o3 :: o4 :: o5 :: o6 :: some (.int (zI x)) :: lv) 7 = true := by rfl) : z_G p l e R s m args below meth c nL D κ a A kc ks Q σ (o0 :: o1 :: o2 :: o3 :: o4 :: o5 :: o6 :: some (.int (zI x)) :: lv) pc st := by
  intro ls H locs hl hP hS
  obtain ⟨q, hq⟩ := List.getElem?_of_mem ((z_as_mem (o0 :: o1 :: o2 :: o3 :: o4 :: o5 :: o6 :: some (.int (zI x)) :: lv) 0 (7, .int (zI x))).mpr ⟨Nat.zero_le _, rfl⟩)
  exact lv_iinc X.1.1 X.1.2.1 hd hl (k := q) hq (zI_add x n).symm hn rfl (fun ls2 hl2 => k ls2 H locs (z_as_set (k := 7) (v := .int (zI (x + n))) ho hl2) hP hS)
theorem r_iload8 (X : z_X p R s m args c cc own nL D κ a A kc ks) {o0 o1 o2 o3 o4 o5 o6 o7 : Option Value} {x : Int} (hd : decode cc pc = .ok (.iload 8, 2))  (k : z_G p l e R s m args below meth c nL D κ a A kc ks Q σ (o0 :: o1 :: o2 :: o3 :: o4 :: o5 :: o6 :: o7 :: some (.int (zI x)) :: lv) (pc + 2) (.int (zI x) :: st)) : z_G p l e R s m args below meth c nL D κ a A kc ks Q σ (o0 :: o1 :: o2 :: o3 :: o4 :: o5 :: o6 :: o7 :: some (.int (zI x)) :: lv) pc st :=
  fun ls H locs hl hP hS => lv_iload X.1.1 X.1.2.1 hd (z_as_at hl (k := 8) rfl) (k ls H locs hl hP hS)
theorem r_aload8 (X : z_X p R s m args c cc own nL D κ a A kc ks) {o0 o1 o2 o3 o4 o5 o6 o7 : Option Value} {x : Nat} (hd : decode cc pc = .ok (.aload 8, 2))  (k : z_G p l e R s m args below meth c nL D κ a A kc ks Q σ (o0 :: o1 :: o2 :: o3 :: o4 :: o5 :: o6 :: o7 :: some (.ref x) :: lv) (pc + 2) (.ref x :: st)) : z_G p l e R s m args below meth c nL D κ a A kc ks Q σ (o0 :: o1 :: o2 :: o3 :: o4 :: o5 :: o6 :: o7 :: some (.ref x) :: lv) pc st :=
  fun ls H locs hl hP hS => lv_aload X.1.1 X.1.2.1 hd (z_as_at hl (k := 8) rfl) (k ls H locs hl hP hS)
theorem r_istore8 (X : z_X p R s m args c cc own nL D κ a A kc ks) {o0 o1 o2 o3 o4 o5 o6 o7 : Option Value} {o : Option Value} {x : Int} (hd : decode cc pc = .ok (.istore 8, 2)) (k : z_G p l e R s m args below meth c nL D κ a A kc ks Q σ (o0 :: o1 :: o2 :: o3 :: o4 :: o5 :: o6 :: o7 :: some (.int (zI x)) :: lv) (pc + 2) st) (hn : 8 < nL := by decide) (ho : z_ok (o0 :: o1 :: o2 :: o3 :: o4 :: o5 :: o6 :: o7 :: o :: lv) 8 = true := by rfl) : z_G p l e R s m args below meth c nL D κ a A kc ks Q σ (o0 :: o1 :: o2 :: o3 :: o4 :: o5 :: o6 :: o7 :: o :: lv) pc (.int (zI x) :: st) :=
  fun ls H locs hl hP hS => lv_istore X.1.1 X.1.2.1 hd hl hn rfl (fun ls2 hl2 => k ls2 H locs (z_as_set (k := 8) (v := .int (zI x)) ho hl2) hP hS)
theorem r_astore8 (X : z_X p R s m args c cc own nL D κ a A kc ks) {o0 o1 o2 o3 o4 o5 o6 o7 : Option Value} {o : Option Value} {x : Nat} (hd : decode cc pc = .ok (.astore 8, 2)) (k : z_G p l e R s m args below meth c nL D κ a A kc ks Q σ (o0 :: o1 :: o2 :: o3 :: o4 :: o5 :: o6 :: o7 :: some (.ref x) :: lv) (pc + 2) st) (hn : 8 < nL := by decide) (ho : z_ok (o0 :: o1 :: o2 :: o3 :: o4 :: o5 :: o6 :: o7 :: o :: lv) 8 = true := by rfl) : z_G p l e R s m args below meth c nL D κ a A kc ks Q σ (o0 :: o1 :: o2 :: o3 :: o4 :: o5 :: o6 :: o7 :: o :: lv) pc (.ref x :: st) :=
  fun ls H locs hl hP hS => lv_astore X.1.1 X.1.2.1 hd hl hn rfl (fun ls2 hl2 => k ls2 H locs (z_as_set (k := 8) (v := .ref x) ho hl2) hP hS)
theorem r_iinc8 (X : z_X p R s m args c cc own nL D κ a A kc ks) {o0 o1 o2 o3 o4 o5 o6 o7 : Option Value} {x n : Int} (hd : decode cc pc = .ok (.iinc 8 n, 3)) (k : z_G p l e R s m args below meth c nL D κ a A kc ks Q σ (o0 :: o1 :: o2 :: o3 :: o4 :: o5 :: o6 :: o7 :: some (.int (zI (x + n))) :: lv) (pc + 3) st) (hn : 8 < nL := by decide) (ho : z_ok (o0 :: o1 :: o2 :: o3 :: o4 :: o5 :: o6 :: o7 :: some (.int (zI x)) :: lv) 8 = true := by rfl) : z_G p l e R s m args below meth c nL D κ a A kc ks Q σ (o0 :: o1 :: o2 :: o3 :: o4 :: o5 :: o6 :: o7 :: some (.int (zI x)) :: lv) pc st := by
  intro ls H locs hl hP hS
  obtain ⟨q, hq⟩ := List.getElem?_of_mem ((z_as_mem (o0 :: o1 :: o2 :: o3 :: o4 :: o5 :: o6 :: o7 :: some (.int (zI x)) :: lv) 0 (8, .int (zI x))).mpr ⟨Nat.zero_le _, rfl⟩)
  exact lv_iinc X.1.1 X.1.2.1 hd hl (k := q) hq (zI_add x n).symm hn rfl (fun ls2 hl2 => k ls2 H locs (z_as_set (k := 8) (v := .int (zI (x + n))) ho hl2) hP hS)
theorem r_iload9 (X : z_X p R s m args c cc own nL D κ a A kc ks) {o0 o1 o2 o3 o4 o5 o6 o7 o8 : Option Value} {x : Int} (hd : decode cc pc = .ok (.iload 9, 2))  (k : z_G p l e R s m args below meth c nL D κ a A kc ks Q σ (o0 :: o1 :: o2 :: o3 :: o4 :: o5 :: o6 :: o7 :: o8 :: some (.int (zI x)) :: lv) (pc + 2) (.int (zI x) :: st)) : z_G p l e R s m args below meth c nL D κ a A kc ks Q σ (o0 :: o1 :: o2 :: o3 :: o4 :: o5 :: o6 :: o7 :: o8 :: some (.int (zI x)) :: lv) pc st :=
  fun ls H locs hl hP hS => lv_iload X.1.1 X.1.2.1 hd (z_as_at hl (k := 9) rfl) (k ls H locs hl hP hS)
theorem r_aload9 (X : z_X p R s m args c cc own nL D κ a A kc ks) {o0 o1 o2 o3 o4 o5 o6 o7 o8 : Option Value} {x : Nat} (hd : decode cc pc = .ok (.aload 9, 2))  (k : z_G p l e R s m args below meth c nL D κ a A kc ks Q σ (o0 :: o1 :: o2 :: o3 :: o4 :: o5 :: o6 :: o7 :: o8 :: some (.ref x) :: lv) (pc + 2) (.ref x :: st)) : z_G p l e R s m args below meth c nL D κ a A kc ks Q σ (o0 :: o1 :: o2 :: o3 :: o4 :: o5 :: o6 :: o7 :: o8 :: some (.ref x) :: lv) pc st :=
  fun ls H locs hl hP hS => lv_aload X.1.1 X.1.2.1 hd (z_as_at hl (k := 9) rfl) (k ls H locs hl hP hS)
theorem r_istore9 (X : z_X p R s m args c cc own nL D κ a A kc ks) {o0 o1 o2 o3 o4 o5 o6 o7 o8 : Option Value} {o : Option Value} {x : Int} (hd : decode cc pc = .ok (.istore 9, 2)) (k : z_G p l e R s m args below meth c nL D κ a A kc ks Q σ (o0 :: o1 :: o2 :: o3 :: o4 :: o5 :: o6 :: o7 :: o8 :: some (.int (zI x)) :: lv) (pc + 2) st) (hn : 9 < nL := by decide) (ho : z_ok (o0 :: o1 :: o2 :: o3 :: o4 :: o5 :: o6 :: o7 :: o8 :: o :: lv) 9 = true := by rfl) : z_G p l e R s m args below meth c nL D κ a A kc ks Q σ (o0 :: o1 :: o2 :: o3 :: o4 :: o5 :: o6 :: o7 :: o8 :: o :: lv) pc (.int (zI x) :: st) :=
  fun ls H locs hl hP hS => lv_istore X.1.1 X.1.2.1 hd hl hn rfl (fun ls2 hl2 => k ls2 H locs (z_as_set (k := 9) (v := .int (zI x)) ho hl2) hP hS)
theorem r_astore9 (X : z_X p R s m args c cc own nL D κ a A kc ks) {o0 o1 o2 o3 o4 o5 o6 o7 o8 : Option Value} {o : Option Value} {x : Nat} (hd : decode cc pc = .ok (.astore 9, 2)) (k : z_G p l e R s m args below meth c nL D κ a A kc ks Q σ (o0 :: o1 :: o2 :: o3 :: o4 :: o5 :: o6 :: o7 :: o8 :: some (.ref x) :: lv) (pc + 2) st) (hn : 9 < nL := by decide) (ho : z_ok (o0 :: o1 :: o2 :: o3 :: o4 :: o5 :: o6 :: o7 :: o8 :: o :: lv) 9 = true := by rfl) : z_G p l e R s m args below meth c nL D κ a A kc ks Q σ (o0 :: o1 :: o2 :: o3 :: o4 :: o5 :: o6 :: o7 :: o8 :: o :: lv) pc (.ref x :: st) :=
  fun ls H locs hl hP hS => lv_astore X.1.1 X.1.2.1 hd hl hn rfl (fun ls2 hl2 => k ls2 H locs (z_as_set (k := 9) (v := .ref x) ho hl2) hP hS)
theorem r_iinc9 (X : z_X p R s m args c cc own nL D κ a A kc ks) {o0 o1 o2 o3 o4 o5 o6 o7 o8 : Option Value} {x n : Int} (hd : decode cc pc = .ok (.iinc 9 n, 3)) (k : z_G p l e R s m args below meth c nL D κ a A kc ks Q σ (o0 :: o1 :: o2 :: o3 :: o4 :: o5 :: o6 :: o7 :: o8 :: some (.int (zI (x + n))) :: lv) (pc + 3) st) (hn : 9 < nL := by decide) (ho : z_ok (o0 :: o1 :: o2 :: o3 :: o4 :: o5 :: o6 :: o7 :: o8 :: some (.int (zI x)) :: lv) 9 = true := by rfl) : z_G p l e R s m args below meth c nL D κ a A kc ks Q σ (o0 :: o1 :: o2 :: o3 :: o4 :: o5 :: o6 :: o7 :: o8 :: some (.int (zI x)) :: lv) pc st := by
  intro ls H locs hl hP hS
  obtain ⟨q, hq⟩ := List.getElem?_of_mem ((z_as_mem (o0 :: o1 :: o2 :: o3 :: o4 :: o5 :: o6 :: o7 :: o8 :: some (.int (zI x)) :: lv) 0 (9, .int (zI x))).mpr ⟨Nat.zero_le _, rfl⟩)
  exact lv_iinc X.1.1 X.1.2.1 hd hl (k := q) hq (zI_add x n).symm hn rfl (fun ls2 hl2 => k ls2 H locs (z_as_set (k := 9) (v := .int (zI (x + n))) ho hl2) hP hS)
theorem r_iload10 (X : z_X p R s m args c cc own nL D κ a A kc ks) {o0 o1 o2 o3 o4 o5 o6 o7 o8 o9 : Option Value} {x : Int} (hd : decode cc pc = .ok (.iload 10, 2))  (k : z_G p l e R s m args below meth c nL D κ a A kc ks Q σ (o0 :: o1 :: o2 :: o3 :: o4 :: o5 :: o6 :: o7 :: o8 :: o9 :: some (.int (zI x)) :: lv) (pc + 2) (.int (zI x) :: st)) : z_G p l e R s m args below meth c nL D κ a A kc ks Q σ (o0 :: o1 :: o2 :: o3 :: o4 :: o5 :: o6 :: o7 :: o8 :: o9 :: some (.int (zI x)) :: lv) pc st :=
  fun ls H locs hl hP hS => lv_iload X.1.1 X.1.2.1 hd (z_as_at hl (k := 10) rfl) (k ls H locs hl hP hS)
theorem r_aload10 (X : z_X p R s m args c cc own nL D κ a A kc ks) {o0 o1 o2 o3 o4 o5 o6 o7 o8 o9 : Option Value} {x : Nat} (hd : decode cc pc = .ok (.aload 10, 2))  (k : z_G p l e R s m args below meth c nL D κ a A kc ks Q σ (o0 :: o1 :: o2 :: o3 :: o4 :: o5 :: o6 :: o7 :: o8 :: o9 :: some (.ref x) :: lv) (pc + 2) (.ref x :: st)) : z_G p l e R s m args below meth c nL D κ a A kc ks Q σ (o0 :: o1 :: o2 :: o3 :: o4 :: o5 :: o6 :: o7 :: o8 :: o9 :: some (.ref x) :: lv) pc st :=
  fun ls H locs hl hP hS => lv_aload X.1.1 X.1.2.1 hd (z_as_at hl (k := 10) rfl) (k ls H locs hl hP hS)
theorem r_istore10 (X : z_X p R s m args c cc own nL D κ a A kc ks) {o0 o1 o2 o3 o4 o5 o6 o7 o8 o9 : Option Value} {o : Option Value} {x : Int} (hd : decode cc pc = .ok (.istore 10, 2)) (k : z_G p l e R s m args below meth c nL D κ a A kc ks Q σ (o0 :: o1 :: o2 :: o3 :: o4 :: o5 :: o6 :: o7 :: o8 :: o9 :: some (.int (zI x)) :: lv) (pc + 2) st) (hn : 10 < nL := by decide) (ho : z_ok (o0 :: o1 :: o2 :: o3 :: o4 :: o5 :: o6 :: o7 :: o8 :: o9 :: o :: lv) 10 = true := by rfl) : z_G p l e R s m args below meth c nL D κ a A kc ks Q σ (o0 :: o1 :: o2 :: o3 :: o4 :: o5 :: o6 :: o7 :: o8 :: o9 :: o :: lv) pc (.int (zI x) :: st) :=
  fun ls H locs hl hP hS => lv_istore X.1.1 X.1.2.1 hd hl hn rfl (fun ls2 hl2 => k ls2 H locs (z_as_set (k := 10) (v := .int (zI x)) ho hl2) hP hS)
theorem r_astore10 (X : z_X p R s m args c cc own nL D κ a A kc ks) {o0 o1 o2 o3 o4 o5 o6 o7 o8 o9 : Option Value} {o : Option Value} {x : Nat} (hd : decode cc pc = .ok (.astore 10, 2)) (k : z_G p l e R s m args below meth c nL D κ a A kc ks Q σ (o0 :: o1 :: o2 :: o3 :: o4 :: o5 :: o6 :: o7 :: o8 :: o9 :: some (.ref x) :: lv) (pc + 2) st) (hn : 10 < nL := by decide) (ho : z_ok (o0 :: o1 :: o2 :: o3 :: o4 :: o5 :: o6 :: o7 :: o8 :: o9 :: o :: lv) 10 = true := by rfl) : z_G p l e R s m args below meth c nL D κ a A kc ks Q σ (o0 :: o1 :: o2 :: o3 :: o4 :: o5 :: o6 :: o7 :: o8 :: o9 :: o :: lv) pc (.ref x :: st) :=
  fun ls H locs hl hP hS => lv_astore X.1.1 X.1.2.1 hd hl hn rfl (fun ls2 hl2 => k ls2 H locs (z_as_set (k := 10) (v := .ref x) ho hl2) hP hS)
theorem r_iinc10 (X : z_X p R s m args c cc own nL D κ a A kc ks) {o0 o1 o2 o3 o4 o5 o6 o7 o8 o9 : Option Value} {x n : Int} (hd : decode cc pc = .ok (.iinc 10 n, 3)) (k : z_G p l e R s m args below meth c nL D κ a A kc ks Q σ (o0 :: o1 :: o2 :: o3 :: o4 :: o5 :: o6 :: o7 :: o8 :: o9 :: some (.int (zI (x + n))) :: lv) (pc + 3) st) (hn : 10 < nL := by decide) (ho : z_ok (o0 :: o1 :: o2 :: o3 :: o4 :: o5 :: o6 :: o7 :: o8 :: o9 :: some (.int (zI x)) :: lv) 10 = true := by rfl) : z_G p l e R s m args below meth c nL D κ a A kc ks Q σ (o0 :: o1 :: o2 :: o3 :: o4 :: o5 :: o6 :: o7 :: o8 :: o9 :: some (.int (zI x)) :: lv) pc st := by
  intro ls H locs hl hP hS
  obtain ⟨q, hq⟩ := List.getElem?_of_mem ((z_as_mem (o0 :: o1 :: o2 :: o3 :: o4 :: o5 :: o6 :: o7 :: o8 :: o9 :: some (.int (zI x)) :: lv) 0 (10, .int (zI x))).mpr ⟨Nat.zero_le _, rfl⟩)
  exact lv_iinc X.1.1 X.1.2.1 hd hl (k := q) hq (zI_add x n).symm hn rfl (fun ls2 hl2 => k ls2 H locs (z_as_set (k := 10) (v := .int (zI (x + n))) ho hl2) hP hS)
theorem r_iload11 (X : z_X p R s m args c cc own nL D κ a A kc ks) {o0 o1 o2 o3 o4 o5 o6 o7 o8 o9 o10 : Option Value} {x : Int} (hd : decode cc pc = .ok (.iload 11, 2))  (k : z_G p l e R s m args below meth c nL D κ a A kc ks Q σ (o0 :: o1 :: o2 :: o3 :: o4 :: o5 :: o6 :: o7 :: o8 :: o9 :: o10 :: some (.int (zI x)) :: lv) (pc + 2) (.int (zI x) :: st)) : z_G p l e R s m args below meth c nL D κ a A kc ks Q σ (o0 :: o1 :: o2 :: o3 :: o4 :: o5 :: o6 :: o7 :: o8 :: o9 :: o10 :: some (.int (zI x)) :: lv) pc st :=
  fun ls H locs hl hP hS => lv_iload X.1.1 X.1.2.1 hd (z_as_at hl (k := 11) rfl) (k ls H locs hl hP hS)
theorem r_aload11 (X : z_X p R s m args c cc own nL D κ a A kc ks) {o0 o1 o2 o3 o4 o5 o6 o7 o8 o9 o10 : Option Value} {x : Nat} (hd : decode cc pc = .ok (.aload 11, 2))  (k : z_G p l e R s m args below meth c nL D κ a A kc ks Q σ (o0 :: o1 :: o2 :: o3 :: o4 :: o5 :: o6 :: o7 :: o8 :: o9 :: o10 :: some (.ref x) :: lv) (pc + 2) (.ref x :: st)) : z_G p l e R s m args below meth c nL D κ a A kc ks Q σ (o0 :: o1 :: o2 :: o3 :: o4 :: o5 :: o6 :: o7 :: o8 :: o9 :: o10 :: some (.ref x) :: lv) pc st :=
  fun ls H locs hl hP hS => lv_aload X.1.1 X.1.2.1 hd (z_as_at hl (k := 11) rfl) (k ls H locs hl hP hS)
theorem r_istore11 (X : z_X p R s m args c cc own nL D κ a A kc ks) {o0 o1 o2 o3 o4 o5 o6 o7 o8 o9 o10 : Option Value} {o : Option Value} {x : Int} (hd : decode cc pc = .ok (.istore 11, 2)) (k : z_G p l e R s m args below meth c nL D κ a A kc ks Q σ (o0 :: o1 :: o2 :: o3 :: o4 :: o5 :: o6 :: o7 :: o8 :: o9 :: o10 :: some (.int (zI x)) :: lv) (pc + 2) st) (hn : 11 < nL := by decide) (ho : z_ok (o0 :: o1 :: o2 :: o3 :: o4 :: o5 :: o6 :: o7 :: o8 :: o9 :: o10 :: o :: lv) 11 = true := by rfl) : z_G p l e R s m args below meth c nL D κ a A kc ks Q σ (o0 :: o1 :: o2 :: o3 :: o4 :: o5 :: o6 :: o7 :: o8 :: o9 :: o10 :: o :: lv) pc (.int (zI x) :: st) :=
  fun ls H locs hl hP hS => lv_istore X.1.1 X.1.2.1 hd hl hn rfl (fun ls2 hl2 => k ls2 H locs (z_as_set (k := 11) (v := .int (zI x)) ho hl2) hP hS)
theorem r_astore11 (X : z_X p R s m args c cc own nL D κ a A kc ks) {o0 o1 o2 o3 o4 o5 o6 o7 o8 o9 o10 : Option Value} {o : Option Value} {x : Nat} (hd : decode cc pc = .ok (.astore 11, 2)) (k : z_G p l e R s m args below meth c nL D κ a A kc ks Q σ (o0 :: o1 :: o2 :: o3 :: o4 :: o5 :: o6 :: o7 :: o8 :: o9 :: o10 :: some (.ref x) :: lv) (pc + 2) st) (hn : 11 < nL := by decide) (ho : z_ok (o0 :: o1 :: o2 :: o3 :: o4 :: o5 :: o6 :: o7 :: o8 :: o9 :: o10 :: o :: lv) 11 = true := by rfl) : z_G p l e R s m args below meth c nL D κ a A kc ks Q σ (o0 :: o1 :: o2 :: o3 :: o4 :: o5 :: o6 :: o7 :: o8 :: o9 :: o10 :: o :: lv) pc (.ref x :: st) :=
  fun ls H locs hl hP hS => lv_astore X.1.1 X.1.2.1 hd hl hn rfl (fun ls2 hl2 => k ls2 H locs (z_as_set (k := 11) (v := .ref x) ho hl2) hP hS)
theorem r_iinc11 (X : z_X p R s m args c cc own nL D κ a A kc ks) {o0 o1 o2 o3 o4 o5 o6 o7 o8 o9 o10 : Option Value} {x n : Int} (hd : decode cc pc = .ok (.iinc 11 n, 3)) (k : z_G p l e R s m args below meth c nL D κ a A kc ks Q σ (o0 :: o1 :: o2 :: o3 :: o4 :: o5 :: o6 :: o7 :: o8 :: o9 :: o10 :: some (.int (zI (x + n))) :: lv) (pc + 3) st) (hn : 11 < nL := by decide) (ho : z_ok (o0 :: o1 :: o2 :: o3 :: o4 :: o5 :: o6 :: o7 :: o8 :: o9 :: o10 :: some (.int (zI x)) :: lv) 11 = true := by rfl) : z_G p l e R s m args below meth c nL D κ a A kc ks Q σ (o0 :: o1 :: o2 :: o3 :: o4 :: o5 :: o6 :: o7 :: o8 :: o9 :: o10 :: some (.int (zI x)) :: lv) pc st := by
  intro ls H locs hl hP hS
  obtain ⟨q, hq⟩ := List.getElem?_of_mem ((z_as_mem (o0 :: o1 :: o2 :: o3 :: o4 :: o5 :: o6 :: o7 :: o8 :: o9 :: o10 :: some (.int (zI x)) :: lv) 0 (11, .int (zI x))).mpr ⟨Nat.zero_le _, rfl⟩)
  exact lv_iinc X.1.1 X.1.2.1 hd hl (k := q) hq (zI_add x n).symm hn rfl (fun ls2 hl2 => k ls2 H locs (z_as_set (k := 11) (v := .int (zI (x + n))) ho hl2) hP hS)
theorem r_iload12 (X : z_X p R s m args c cc own nL D κ a A kc ks) {o0 o1 o2 o3 o4 o5 o6 o7 o8 o9 o10 o11 : Option Value} {x : Int} (hd : decode cc pc = .ok (.iload 12, 2))  (k : z_G p l e R s m args below meth c nL D κ a A kc ks Q σ (o0 :: o1 :: o2 :: o3 :: o4 :: o5 :: o6 :: o7 :: o8 :: o9 :: o10 :: o11 :: some (.int (zI x)) :: lv) (pc + 2) (.int (zI x) :: st)) : z_G p l e R s m args below meth c nL D κ a A kc ks Q σ (o0 :: o1 :: o2 :: o3 :: o4 :: o5 :: o6 :: o7 :: o8 :: o9 :: o10 :: o11 :: some (.int (zI x)) :: lv) pc st :=
  fun ls H locs hl hP hS => lv_iload X.1.1 X.1.2.1 hd (z_as_at hl (k := 12) rfl) (k ls H locs hl hP hS)
theorem r_aload12 (X : z_X p R s m args c cc own nL D κ a A kc ks) {o0 o1 o2 o3 o4 o5 o6 o7 o8 o9 o10 o11 : Option Value} {x : Nat} (hd : decode cc pc = .ok (.aload 12, 2))  (k : z_G p l e R s m args below meth c nL D κ a A kc ks Q σ (o0 :: o1 :: o2 :: o3 :: o4 :: o5 :: o6 :: o7 :: o8 :: o9 :: o10 :: o11 :: some (.ref x) :: lv) (pc + 2) (.ref x :: st)) : z_G p l e R s m args below meth c nL D κ a A kc ks Q σ (o0 :: o1 :: o2 :: o3 :: o4 :: o5 :: o6 :: o7 :: o8 :: o9 :: o10 :: o11 :: some (.ref x) :: lv) pc st :=
  fun ls H locs hl hP hS => lv_aload X.1.1 X.1.2.1 hd (z_as_at hl (k := 12) rfl) (k ls H locs hl hP hS)
theorem r_istore12 (X : z_X p R s m args c cc own nL D κ a A kc ks) {o0 o1 o2 o3 o4 o5 o6 o7 o8 o9 o10 o11 : Option Value} {o : Option Value} {x : Int} (hd : decode cc pc = .ok (.istore 12, 2)) (k : z_G p l e R s m args below meth c nL D κ a A kc ks Q σ (o0 :: o1 :: o2 :: o3 :: o4 :: o5 :: o6 :: o7 :: o8 :: o9 :: o10 :: o11 :: some (.int (zI x)) :: lv) (pc + 2) st) (hn : 12 < nL := by decide) (ho : z_ok (o0 :: o1 :: o2 :: o3 :: o4 :: o5 :: o6 :: o7 :: o8 :: o9 :: o10 :: o11 :: o :: lv) 12 = true := by rfl) : z_G p l e R s m args below meth c nL D κ a A kc ks Q σ (o0 :: o1 :: o2 :: o3 :: o4 :: o5 :: o6 :: o7 :: o8 :: o9 :: o10 :: o11 :: o :: lv) pc (.int (zI x) :: st) :=
  fun ls H locs hl hP hS => lv_istore X.1.1 X.1.2.1 hd hl hn rfl (fun ls2 hl2 => k ls2 H locs (z_as_set (k := 12) (v := .int (zI x)) ho hl2) hP hS)
theorem r_astore12 (X : z_X p R s m args c cc own nL D κ a A kc ks) {o0 o1 o2 o3 o4 o5 o6 o7 o8 o9 o10 o11 : Option Value} {o : Option Value} {x : Nat} (hd : decode cc pc = .ok (.astore 12, 2)) (k : z_G p l e R s m args below meth c nL D κ a A kc ks Q σ (o0 :: o1 :: o2 :: o3 :: o4 :: o5 :: o6 :: o7 :: o8 :: o9 :: o10 :: o11 :: some (.ref x) :: lv) (pc + 2) st) (hn : 12 < nL := by decide) (ho : z_ok (o0 :: o1 :: o2 :: o3 :: o4 :: o5 :: o6 :: o7 :: o8 :: o9 :: o10 :: o11 :: o :: lv) 12 = true := by rfl) : z_G p l e R s m args below meth c nL D κ a A kc ks Q σ (o0 :: o1 :: o2 :: o3 :: o4 :: o5 :: o6 :: o7 :: o8 :: o9 :: o10 :: o11 :: o :: lv) pc (.ref x :: st) :=
  fun ls H locs hl hP hS => lv_astore X.1.1 X.1.2.1 hd hl hn rfl (fun ls2 hl2 => k ls2 H locs (z_as_set (k := 12) (v := .ref x) ho hl2) hP hS)
theorem r_iinc12 (X : z_X p R s m args c cc own nL D κ a A kc ks) {o0 o1 o2 o3 o4 o5 o6 o7 o8 o9 o10 o11 : Option Value} {x n : Int} (hd : decode cc pc = .ok (.iinc 12 n, 3)) (k : z_G p l e R s m args below meth c nL D κ a A kc ks Q σ (o0 :: o1 :: o2 :: o3 :: o4 :: o5 :: o6 :: o7 :: o8 :: o9 :: o10 :: o11 :: some (.int (zI (x + n))) :: lv) (pc + 3) st) (hn : 12 < nL := by decide) (ho : z_ok (o0 :: o1 :: o2 :: o3 :: o4 :: o5 :: o6 :: o7 :: o8 :: o9 :: o10 :: o11 :: some (.int (zI x)) :: lv) 12 = true := by rfl) : z_G p l e R s m args below meth c nL D κ a A kc ks Q σ (o0 :: o1 :: o2 :: o3 :: o4 :: o5 :: o6 :: o7 :: o8 :: o9 :: o10 :: o11 :: some (.int (zI x)) :: lv) pc st := by
  intro ls H locs hl hP hS
  obtain ⟨q, hq⟩ := List.getElem?_of_mem ((z_as_mem (o0 :: o1 :: o2 :: o3 :: o4 :: o5 :: o6 :: o7 :: o8 :: o9 :: o10 :: o11 :: some (.int (zI x)) :: lv) 0 (12, .int (zI x))).mpr ⟨Nat.zero_le _, rfl⟩)
  exact lv_iinc X.1.1 X.1.2.1 hd hl (k := q) hq (zI_add x n).symm hn rfl (fun ls2 hl2 => k ls2 H locs (z_as_set (k := 12) (v := .int (zI (x + n))) ho hl2) hP hS)
theorem r_iload13 (X : z_X p R s m args c cc own nL D κ a A kc ks) {o0 o1 o2 o3 o4 o5 o6 o7 o8 o9 o10 o11 o12 : Option Value} {x : Int} (hd : decode cc pc = .ok (.iload 13, 2))  (k : z_G p l e R s m args below meth c nL D κ a A kc ks Q σ (o0 :: o1 :: o2 :: o3 :: o4 :: o5 :: o6 :: o7 :: o8 :: o9 :: o10 :: o11 :: o12 :: some (.int (zI x)) :: lv) (pc + 2) (.int (zI x) :: st)) : z_G p l e R s m args below meth c nL D κ a A kc ks Q σ (o0 :: o1 :: o2 :: o3 :: o4 :: o5 :: o6 :: o7 :: o8 :: o9 :: o10 :: o11 :: o12 :: some (.int (zI x)) :: lv) pc st :=
  fun ls H locs hl hP hS => lv_iload X.1.1 X.1.2.1 hd (z_as_at hl (k := 13) rfl) (k ls H locs hl hP hS)
theorem r_aload13 (X : z_X p R s m args c cc own nL D κ a A kc ks) {o0 o1 o2 o3 o4 o5 o6 o7 o8 o9 o10 o11 o12 : Option Value} {x : Nat} (hd : decode cc pc = .ok (.aload 13, 2))  (k : z_G p l e R s m args below meth c nL D κ a A kc ks Q σ (o0 :: o1 :: o2 :: o3 :: o4 :: o5 :: o6 :: o7 :: o8 :: o9 :: o10 :: o11 :: o12 :: some (.ref x) :: lv) (pc + 2) (.ref x :: st)) : z_G p l e R s m args below meth c nL D κ a A kc ks Q σ (o0 :: o1 :: o2 :: o3 :: o4 :: o5 :: o6 :: o7 :: o8 :: o9 :: o10 :: o11 :: o12 :: some (.ref x) :: lv) pc st :=
  fun ls H locs hl hP hS => lv_aload X.1.1 X.1.2.1 hd (z_as_at hl (k := 13) rfl) (k ls H locs hl hP hS)
theorem r_istore13 (X : z_X p R s m args c cc own nL D κ a A kc ks) {o0 o1 o2 o3 o4 o5 o6 o7 o8 o9 o10 o11 o12 : Option Value} {o : Option Value} {x : Int} (hd : decode cc pc = .ok (.istore 13, 2)) (k : z_G p l e R s m args below meth c nL D κ a A kc ks Q σ (o0 :: o1 :: o2 :: o3 :: o4 :: o5 :: o6 :: o7 :: o8 :: o9 :: o10 :: o11 :: o12 :: some (.int (zI x)) :: lv) (pc + 2) st) (hn : 13 < nL := by decide) (ho : z_ok (o0 :: o1 :: o2 :: o3 :: o4 :: o5 :: o6 :: o7 :: o8 :: o9 :: o10 :: o11 :: o12 :: o :: lv) 13 = true := by rfl) : z_G p l e R s m args below meth c nL D κ a A kc ks Q σ (o0 :: o1 :: o2 :: o3 :: o4 :: o5 :: o6 :: o7 :: o8 :: o9 :: o10 :: o11 :: o12 :: o :: lv) pc (.int (zI x) :: st) :=
  fun ls H locs hl hP hS => lv_istore X.1.1 X.1.2.1 hd hl hn rfl (fun ls2 hl2 => k ls2 H locs (z_as_set (k := 13) (v := .int (zI x)) ho hl2) hP hS)
theorem r_astore13 (X : z_X p R s m args c cc own nL D κ a A kc ks) {o0 o1 o2 o3 o4 o5 o6 o7 o8 o9 o10 o11 o12 : Option Value} {o : Option Value} {x : Nat} (hd : decode cc pc = .ok (.astore 13, 2)) (k : z_G p l e R s m args below meth c nL D κ a A kc ks Q σ (o0 :: o1 :: o2 :: o3 :: o4 :: o5 :: o6 :: o7 :: o8 :: o9 :: o10 :: o11 :: o12 :: some (.ref x) :: lv) (pc + 2) st) (hn : 13 < nL := by decide) (ho : z_ok (o0 :: o1 :: o2 :: o3 :: o4 :: o5 :: o6 :: o7 :: o8 :: o9 :: o10 :: o11 :: o12 :: o :: lv) 13 = true := by rfl) : z_G p l e R s m args below meth c nL D κ a A kc ks Q σ (o0 :: o1 :: o2 :: o3 :: o4 :: o5 :: o6 :: o7 :: o8 :: o9 :: o10 :: o11 :: o12 :: o :: lv) pc (.ref x :: st) :=
  fun ls H locs hl hP hS => lv_astore X.1.1 X.1.2.1 hd hl hn rfl (fun ls2 hl2 => k ls2 H locs (z_as_set (k := 13) (v := .ref x) ho hl2) hP hS)
theorem r_iinc13 (X : z_X p R s m args c cc own nL D κ a A kc ks) {o0 o1 o2 o3 o4 o5 o6 o7 o8 o9 o10 o11 o12 : Option Value} {x n : Int} (hd : decode cc pc = .ok (.iinc 13 n, 3)) (k : z_G p l e R s m args below meth c nL D κ a A kc ks Q σ (o0 :: o1 :: o2 :: o3 :: o4 :: o5 :: o6 :: o7 :: o8 :: o9 :: o10 :: o11 :: o12 :: some (.int (zI (x + n))) :: lv) (pc + 3) st) (hn : 13 < nL := by decide) (ho : z_ok (o0 :: o1 :: o2 :: o3 :: o4 :: o5 :: o6 :: o7 :: o8 :: o9 :: o10 :: o11 :: o12 :: some (.int (zI x)) :: lv) 13 = true := by rfl) : z_G p l e R s m args below meth c nL D κ a A kc ks Q σ (o0 :: o1 :: o2 :: o3 :: o4 :: o5 :: o6 :: o7 :: o8 :: o9 :: o10 :: o11 :: o12 :: some (.int (zI x)) :: lv) pc st := by
  intro ls H locs hl hP hS
  obtain ⟨q, hq⟩ := List.getElem?_of_mem ((z_as_mem (o0 :: o1 :: o2 :: o3 :: o4 :: o5 :: o6 :: o7 :: o8 :: o9 :: o10 :: o11 :: o12 :: some (.int (zI x)) :: lv) 0 (13, .int (zI x))).mpr ⟨Nat.zero_le _, rfl⟩)
  exact lv_iinc X.1.1 X.1.2.1 hd hl (k := q) hq (zI_add x n).symm hn rfl (fun ls2 hl2 => k ls2 H locs (z_as_set (k := 13) (v := .int (zI (x + n))) ho hl2) hP hS)
theorem r_iload14 (X : z_X p R s m args c cc own nL D κ a A kc ks) {o0 o1 o2 o3 o4 o5 o6 o7 o8 o9 o10 o11 o12 o13 : Option Value} {x : Int} (hd : decode cc pc = .ok (.iload 14, 2))  (k : z_G p l e R s m args below meth c nL D κ a A kc ks Q σ (o0 :: o1 :: o2 :: o3 :: o4 :: o5 :: o6 :: o7 :: o8 :: o9 :: o10 :: o11 :: o12 :: o13 :: some (.int (zI x)) :: lv) (pc + 2) (.int (zI x) :: st)) : z_G p l e R s m args below meth c nL D κ a A kc ks Q σ (o0 :: o1 :: o2 :: o3 :: o4 :: o5 :: o6 :: o7 :: o8 :: o9 :: o10 :: o11 :: o12 :: o13 :: some (.int (zI x)) :: lv) pc st :=
  fun ls H locs hl hP hS => lv_iload X.1.1 X.1.2.1 hd (z_as_at hl (k := 14) rfl) (k ls H locs hl hP hS)
theorem r_aload14 (X : z_X p R s m args c cc own nL D κ a A kc ks) {o0 o1 o2 o3 o4 o5 o6 o7 o8 o9 o10 o11 o12 o13 : Option Value} {x : Nat} (hd : decode cc pc = .ok (.aload 14, 2))  (k : z_G p l e R s m args below meth c nL D κ a A kc ks Q σ (o0 :: o1 :: o2 :: o3 :: o4 :: o5 :: o6 :: o7 :: o8 :: o9 :: o10 :: o11 :: o12 :: o13 :: some (.ref x) :: lv) (pc + 2) (.ref x :: st)) : z_G p l e R s m args below meth c nL D κ a A kc ks Q σ (o0 :: o1 :: o2 :: o3 :: o4 :: o5 :: o6 :: o7 :: o8 :: o9 :: o10 :: o11 :: o12 :: o13 :: some (.ref x) :: lv) pc st :=
  fun ls H locs hl hP hS => lv_aload X.1.1 X.1.2.1 hd (z_as_at hl (k := 14) rfl) (k ls H locs hl hP hS)
theorem r_istore14 (X : z_X p R s m args c cc own nL D κ a A kc ks) {o0 o1 o2 o3 o4 o5 o6 o7 o8 o9 o10 o11 o12 o13 : Option Value} {o : Option Value} {x : Int} (hd : decode cc pc = .ok (.istore 14, 2)) (k : z_G p l e R s m args below meth c nL D κ a A kc ks Q σ (o0 :: o1 :: o2 :: o3 :: o4 :: o5 :: o6 :: o7 :: o8 :: o9 :: o10 :: o11 :: o12 :: o13 :: some (.int (zI x)) :: lv) (pc + 2) st) (hn : 14 < nL := by decide) (ho : z_ok (o0 :: o1 :: o2 :: o3 :: o4 :: o5 :: o6 :: o7 :: o8 :: o9 :: o10 :: o11 :: o12 :: o13 :: o :: lv) 14 = true := by rfl) : z_G p l e R s m args below meth c nL D κ a A kc ks Q σ (o0 :: o1 :: o2 :: o3 :: o4 :: o5 :: o6 :: o7 :: o8 :: o9 :: o10 :: o11 :: o12 :: o13 :: o :: lv) pc (.int (zI x) :: st) :=
  fun ls H locs hl hP hS => lv_istore X.1.1 X.1.2.1 hd hl hn rfl (fun ls2 hl2 => k ls2 H locs (z_as_set (k := 14) (v := .int (zI x)) ho hl2) hP hS)
theorem r_astore14 (X : z_X p R s m args c cc own nL D κ a A kc ks) {o0 o1 o2 o3 o4 o5 o6 o7 o8 o9 o10 o11 o12 o13 : Option Value} {o : Option Value} {x : Nat} (hd : decode cc pc = .ok (.astore 14, 2)) (k : z_G p l e R s m args below meth c nL D κ a A kc ks Q σ (o0 :: o1 :: o2 :: o3 :: o4 :: o5 :: o6 :: o7 :: o8 :: o9 :: o10 :: o11 :: o12 :: o13 :: some (.ref x) :: lv) (pc + 2) st) (hn : 14 < nL := by decide) (ho : z_ok (o0 :: o1 :: o2 :: o3 :: o4 :: o5 :: o6 :: o7 :: o8 :: o9 :: o10 :: o11 :: o12 :: o13 :: o :: lv) 14 = true := by rfl) : z_G p l e R s m args below meth c nL D κ a A kc ks Q σ (o0 :: o1 :: o2 :: o3 :: o4 :: o5 :: o6 :: o7 :: o8 :: o9 :: o10 :: o11 :: o12 :: o13 :: o :: lv) pc (.ref x :: st) :=
  fun ls H locs hl hP hS => lv_astore X.1.1 X.1.2.1 hd hl hn rfl (fun ls2 hl2 => k ls2 H locs (z_as_set (k := 14) (v := .ref x) ho hl2) hP hS)
theorem r_iinc14 (X : z_X p R s m args c cc own nL D κ a A kc ks) {o0 o1 o2 o3 o4 o5 o6 o7 o8 o9 o10 o11 o12 o13 : Option Value} {x n : Int} (hd : decode cc pc = .ok (.iinc 14 n, 3)) (k : z_G p l e R s m args below meth c nL D κ a A kc ks Q σ (o0 :: o1 :: o2 :: o3 :: o4 :: o5 :: o6 :: o7 :: o8 :: o9 :: o10 :: o11 :: o12 :: o13 :: some (.int (zI (x + n))) :: lv) (pc + 3) st) (hn : 14 < nL := by decide) (ho : z_ok (o0 :: o1 :: o2 :: o3 :: o4 :: o5 :: o6 :: o7 :: o8 :: o9 :: o10 :: o11 :: o12 :: o13 :: some (.int (zI x)) :: lv) 14 = true := by rfl) : z_G p l e R s m args below meth c nL D κ a A kc ks Q σ (o0 :: o1 :: o2 :: o3 :: o4 :: o5 :: o6 :: o7 :: o8 :: o9 :: o10 :: o11 :: o12 :: o13 :: some (.int (zI x)) :: lv) pc st := by
  intro ls H locs hl hP hS
  obtain ⟨q, hq⟩ := List.getElem?_of_mem ((z_as_mem (o0 :: o1 :: o2 :: o3 :: o4 :: o5 :: o6 :: o7 :: o8 :: o9 :: o10 :: o11 :: o12 :: o13 :: some (.int (zI x)) :: lv) 0 (14, .int (zI x))).mpr ⟨Nat.zero_le _, rfl⟩)
  exact lv_iinc X.1.1 X.1.2.1 hd hl (k := q) hq (zI_add x n).symm hn rfl (fun ls2 hl2 => k ls2 H locs (z_as_set (k := 14) (v := .int (zI (x + n))) ho hl2) hP hS)
theorem r_iload15 (X : z_X p R s m args c cc own nL D κ a A kc ks) {o0 o1 o2 o3 o4 o5 o6 o7 o8 o9 o10 o11 o12 o13 o14 : Option Value} {x : Int} (hd : decode cc pc = .ok (.iload 15, 2))  (k : z_G p l e R s m args below meth c nL D κ a A kc ks Q σ (o0 :: o1 :: o2 :: o3 :: o4 :: o5 :: o6 :: o7 :: o8 :: o9 :: o10 :: o11 :: o12 :: o13 :: o14 :: some (.int (zI x)) :: lv) (pc + 2) (.int (zI x) :: st)) : z_G p l e R s m args below meth c nL D κ a A kc ks Q σ (o0 :: o1 :: o2 :: o3 :: o4 :: o5 :: o6 :: o7 :: o8 :: o9 :: o10 :: o11 :: o12 :: o13 :: o14 :: some (.int (zI x)) :: lv) pc st :=
  fun ls H locs hl hP hS => lv_iload X.1.1 X.1.2.1 hd (z_as_at hl (k := 15) rfl) (k ls H locs hl hP hS)
theorem r_aload15 (X : z_X p R s m args c cc own nL D κ a A kc ks) {o0 o1 o2 o3 o4 o5 o6 o7 o8 o9 o10 o11 o12 o13 o14 : Option Value} {x : Nat} (hd : decode cc pc = .ok (.aload 15, 2))  (k : z_G p l e R s m args below meth c nL D κ a A kc ks Q σ (o0 :: o1 :: o2 :: o3 :: o4 :: o5 :: o6 :: o7 :: o8 :: o9 :: o10 :: o11 :: o12 :: o13 :: o14 :: some (.ref x) :: lv) (pc + 2) (.ref x :: st)) : z_G p l e R s m args below meth c nL D κ a A kc ks Q σ (o0 :: o1 :: o2 :: o3 :: o4 :: o5 :: o6 :: o7 :: o8 :: o9 :: o10 :: o11 :: o12 :: o13 :: o14 :: some (.ref x) :: lv) pc st :=
  fun ls H locs hl hP hS => lv_aload X.1.1 X.1.2.1 hd (z_as_at hl (k := 15) rfl) (k ls H locs hl hP hS)
theorem r_istore15 (X : z_X p R s m args c cc own nL D κ a A kc ks) {o0 o1 o2 o3 o4 o5 o6 o7 o8 o9 o10 o11 o12 o13 o14 : Option Value} {o : Option Value} {x : Int} (hd : decode cc pc = .ok (.istore 15, 2)) (k : z_G p l e R s m args below meth c nL D κ a A kc ks Q σ (o0 :: o1 :: o2 :: o3 :: o4 :: o5 :: o6 :: o7 :: o8 :: o9 :: o10 :: o11 :: o12 :: o13 :: o14 :: some (.int (zI x)) :: lv) (pc + 2) st) (hn : 15 < nL := by decide) (ho : z_ok (o0 :: o1 :: o2 :: o3 :: o4 :: o5 :: o6 :: o7 :: o8 :: o9 :: o10 :: o11 :: o12 :: o13 :: o14 :: o :: lv) 15 = true := by rfl) : z_G p l e R s m args below meth c nL D κ a A kc ks Q σ (o0 :: o1 :: o2 :: o3 :: o4 :: o5 :: o6 :: o7 :: o8 :: o9 :: o10 :: o11 :: o12 :: o13 :: o14 :: o :: lv) pc (.int (zI x) :: st) :=
  fun ls H locs hl hP hS => lv_istore X.1.1 X.1.2.1 hd hl hn rfl (fun ls2 hl2 => k ls2 H locs (z_as_set (k := 15) (v := .int (zI x)) ho hl2) hP hS)
theorem r_astore15 (X : z_X p R s m args c cc own nL D κ a A kc ks) {o0 o1 o2 o3 o4 o5 o6 o7 o8 o9 o10 o11 o12 o13 o14 : Option Value} {o : Option Value} {x : Nat} (hd : decode cc pc = .ok (.astore 15, 2)) (k : z_G p l e R s m args below meth c nL D κ a A kc ks Q σ (o0 :: o1 :: o2 :: o3 :: o4 :: o5 :: o6 :: o7 :: o8 :: o9 :: o10 :: o11 :: o12 :: o13 :: o14 :: some (.ref x) :: lv) (pc + 2) st) (hn : 15 < nL := by decide) (ho : z_ok (o0 :: o1 :: o2 :: o3 :: o4 :: o5 :: o6 :: o7 :: o8 :: o9 :: o10 :: o11 :: o12 :: o13 :: o14 :: o :: lv) 15 = true := by rfl) : z_G p l e R s m args below meth c nL D κ a A kc ks Q σ (o0 :: o1 :: o2 :: o3 :: o4 :: o5 :: o6 :: o7 :: o8 :: o9 :: o10 :: o11 :: o12 :: o13 :: o14 :: o :: lv) pc (.ref x :: st) :=
  fun ls H locs hl hP hS => lv_astore X.1.1 X.1.2.1 hd hl hn rfl (fun ls2 hl2 => k ls2 H locs (z_as_set (k := 15) (v := .ref x) ho hl2) hP hS)
theorem r_iinc15 (X : z_X p R s m args c cc own nL D κ a A kc ks) {o0 o1 o2 o3 o4 o5 o6 o7 o8 o9 o10 o11 o12 o13 o14 : Option Value} {x n : Int} (hd : decode cc pc = .ok (.iinc 15 n, 3)) (k : z_G p l e R s m args below meth c nL D κ a A kc ks Q σ (o0 :: o1 :: o2 :: o3 :: o4 :: o5 :: o6 :: o7 :: o8 :: o9 :: o10 :: o11 :: o12 :: o13 :: o14 :: some (.int (zI (x + n))) :: lv) (pc + 3) st) (hn : 15 < nL := by decide) (ho : z_ok (o0 :: o1 :: o2 :: o3 :: o4 :: o5 :: o6 :: o7 :: o8 :: o9 :: o10 :: o11 :: o12 :: o13 :: o14 :: some (.int (zI x)) :: lv) 15 = true := by rfl) : z_G p l e R s m args below meth c nL D κ a A kc ks Q σ (o0 :: o1 :: o2 :: o3 :: o4 :: o5 :: o6 :: o7 :: o8 :: o9 :: o10 :: o11 :: o12 :: o13 :: o14 :: some (.int (zI x)) :: lv) pc st := by
  intro ls H locs hl hP hS
  obtain ⟨q, hq⟩ := List.getElem?_of_mem ((z_as_mem (o0 :: o1 :: o2 :: o3 :: o4 :: o5 :: o6 :: o7 :: o8 :: o9 :: o10 :: o11 :: o12 :: o13 :: o14 :: some (.int (zI x)) :: lv) 0 (15, .int (zI x))).mpr ⟨Nat.zero_le _, rfl⟩)
  exact lv_iinc X.1.1 X.1.2.1 hd hl (k := q) hq (zI_add x n).symm hn rfl (fun ls2 hl2 => k ls2 H locs (z_as_set (k := 15) (v := .int (zI (x + n))) ho hl2) hP hS)
theorem r_iload16 (X : z_X p R s m args c cc own nL D κ a A kc ks) {o0 o1 o2 o3 o4 o5 o6 o7 o8 o9 o10 o11 o12 o13 o14 o15 : Option Value} {x : Int} (hd : decode cc pc = .ok (.iload 16, 2))  (k : z_G p l e R s m args below meth c nL D κ a A kc ks Q σ (o0 :: o1 :: o2 :: o3 :: o4 :: o5 :: o6 :: o7 :: o8 :: o9 :: o10 :: o11 :: o12 :: o13 :: o14 :: o15 :: some (.int (zI x)) :: lv) (pc + 2) (.int (zI x) :: st)) : z_G p l e R s m args below meth c nL D κ a A kc ks Q σ (o0 :: o1 :: o2 :: o3 :: o4 :: o5 :: o6 :: o7 :: o8 :: o9 :: o10 :: o11 :: o12 :: o13 :: o14 :: o15 :: some (.int (zI x)) :: lv) pc st :=
  fun ls H locs hl hP hS => lv_iload X.1.1 X.1.2.1 hd (z_as_at hl (k := 16) rfl) (k ls H locs hl hP hS)
theorem r_aload16 (X : z_X p R s m args c cc own nL D κ a A kc ks) {o0 o1 o2 o3 o4 o5 o6 o7 o8 o9 o10 o11 o12 o13 o14 o15 : Option Value} {x : Nat} (hd : decode cc pc = .ok (.aload 16, 2))  (k : z_G p l e R s m args below meth c nL D κ a A kc ks Q σ (o0 :: o1 :: o2 :: o3 :: o4 :: o5 :: o6 :: o7 :: o8 :: o9 :: o10 :: o11 :: o12 :: o13 :: o14 :: o15 :: some (.ref x) :: lv) (pc + 2) (.ref x :: st)) : z_G p l e R s m args below meth c nL D κ a A kc ks Q σ (o0 :: o1 :: o2 :: o3 :: o4 :: o5 :: o6 :: o7 :: o8 :: o9 :: o10 :: o11 :: o12 :: o13 :: o14 :: o15 :: some (.ref x) :: lv) pc st :=
  fun ls H locs hl hP hS => lv_aload X.1.1 X.1.2.1 hd (z_as_at hl (k := 16) rfl) (k ls H locs hl hP hS)
theorem r_istore16 (X : z_X p R s m args c cc own nL D κ a A kc ks) {o0 o1 o2 o3 o4 o5 o6 o7 o8 o9 o10 o11 o12 o13 o14 o15 : Option Value} {o : Option Value} {x : Int} (hd : decode cc pc = .ok (.istore 16, 2)) (k : z_G p l e R s m args below meth c nL D κ a A kc ks Q σ (o0 :: o1 :: o2 :: o3 :: o4 :: o5 :: o6 :: o7 :: o8 :: o9 :: o10 :: o11 :: o12 :: o13 :: o14 :: o15 :: some (.int (zI x)) :: lv) (pc + 2) st) (hn : 16 < nL := by decide) (ho : z_ok (o0 :: o1 :: o2 :: o3 :: o4 :: o5 :: o6 :: o7 :: o8 :: o9 :: o10 :: o11 :: o12 :: o13 :: o14 :: o15 :: o :: lv) 16 = true := by rfl) : z_G p l e R s m args below meth c nL D κ a A kc ks Q σ (o0 :: o1 :: o2 :: o3 :: o4 :: o5 :: o6 :: o7 :: o8 :: o9 :: o10 :: o11 :: o12 :: o13 :: o14 :: o15 :: o :: lv) pc (.int (zI x) :: st) :=
  fun ls H locs hl hP hS => lv_istore X.1.1 X.1.2.1 hd hl hn rfl (fun ls2 hl2 => k ls2 H locs (z_as_set (k := 16) (v := .int (zI x)) ho hl2) hP hS)
theorem r_astore16 (X : z_X p R s m args c cc own nL D κ a A kc ks) {o0 o1 o2 o3 o4 o5 o6 o7 o8 o9 o10 o11 o12 o13 o14 o15 : Option Value} {o : Option Value} {x : Nat} (hd : decode cc pc = .ok (.astore 16, 2)) (k : z_G p l e R s m args below meth c nL D κ a A kc ks Q σ (o0 :: o1 :: o2 :: o3 :: o4 :: o5 :: o6 :: o7 :: o8 :: o9 :: o10 :: o11 :: o12 :: o13 :: o14 :: o15 :: some (.ref x) :: lv) (pc + 2) st) (hn : 16 < nL := by decide) (ho : z_ok (o0 :: o1 :: o2 :: o3 :: o4 :: o5 :: o6 :: o7 :: o8 :: o9 :: o10 :: o11 :: o12 :: o13 :: o14 :: o15 :: o :: lv) 16 = true := by rfl) : z_G p l e R s m args below meth c nL D κ a A kc ks Q σ (o0 :: o1 :: o2 :: o3 :: o4 :: o5 :: o6 :: o7 :: o8 :: o9 :: o10 :: o11 :: o12 :: o13 :: o14 :: o15 :: o :: lv) pc (.ref x :: st) :=
  fun ls H locs hl hP hS => lv_astore X.1.1 X.1.2.1 hd hl hn rfl (fun ls2 hl2 => k ls2 H locs (z_as_set (k := 16) (v := .ref x) ho hl2) hP hS)
theorem r_iinc16 (X : z_X p R s m args c cc own nL D κ a A kc ks) {o0 o1 o2 o3 o4 o5 o6 o7 o8 o9 o10 o11 o12 o13 o14 o15 : Option Value} {x n : Int} (hd : decode cc pc = .ok (.iinc 16 n, 3)) (k : z_G p l e R s m args below meth c nL D κ a A kc ks Q σ (o0 :: o1 :: o2 :: o3 :: o4 :: o5 :: o6 :: o7 :: o8 :: o9 :: o10 :: o11 :: o12 :: o13 :: o14 :: o15 :: some (.int (zI (x + n))) :: lv) (pc + 3) st) (hn : 16 < nL := by decide) (ho : z_ok (o0 :: o1 :: o2 :: o3 :: o4 :: o5 :: o6 :: o7 :: o8 :: o9 :: o10 :: o11 :: o12 :: o13 :: o14 :: o15 :: some (.int (zI x)) :: lv) 16 = true := by rfl) : z_G p l e R s m args below meth c nL D κ a A kc ks Q σ (o0 :: o1 :: o2 :: o3 :: o4 :: o5 :: o6 :: o7 :: o8 :: o9 :: o10 :: o11 :: o12 :: o13 :: o14 :: o15 :: some (.int (zI x)) :: lv) pc st := by
  intro ls H locs hl hP hS
  obtain ⟨q, hq⟩ := List.getElem?_of_mem ((z_as_mem (o0 :: o1 :: o2 :: o3 :: o4 :: o5 :: o6 :: o7 :: o8 :: o9 :: o10 :: o11 :: o12 :: o13 :: o14 :: o15 :: some (.int (zI x)) :: lv) 0 (16, .int (zI x))).mpr ⟨Nat.zero_le _, rfl⟩)
  exact lv_iinc X.1.1 X.1.2.1 hd hl (k := q) hq (zI_add x n).symm hn rfl (fun ls2 hl2 => k ls2 H locs (z_as_set (k := 16) (v := .int (zI (x + n))) ho hl2) hP hS)
theorem r_iload17 (X : z_X p R s m args c cc own nL D κ a A kc ks) {o0 o1 o2 o3 o4 o5 o6 o7 o8 o9 o10 o11 o12 o13 o14 o15 o16 : Option Value} {x : Int} (hd : decode cc pc = .ok (.iload 17, 2))  (k : z_G p l e R s m args below meth c nL D κ a A kc ks Q σ (o0 :: o1 :: o2 :: o3 :: o4 :: o5 :: o6 :: o7 :: o8 :: o9 :: o10 :: o11 :: o12 :: o13 :: o14 :: o15 :: o16 :: some (.int (zI x)) :: lv) (pc + 2) (.int (zI x) :: st)) : z_G p l e R s m args below meth c nL D κ a A kc ks Q σ (o0 :: o1 :: o2 :: o3 :: o4 :: o5 :: o6 :: o7 :: o8 :: o9 :: o10 :: o11 :: o12 :: o13 :: o14 :: o15 :: o16 :: some (.int (zI x)) :: lv) pc st :=
  fun ls H locs hl hP hS => lv_iload X.1.1 X.1.2.1 hd (z_as_at hl (k := 17) rfl) (k ls H locs hl hP hS)
theorem r_aload17 (X : z_X p R s m args c cc own nL D κ a A kc ks) {o0 o1 o2 o3 o4 o5 o6 o7 o8 o9 o10 o11 o12 o13 o14 o15 o16 : Option Value} {x : Nat} (hd : decode cc pc = .ok (.aload 17, 2))  (k : z_G p l e R s m args below meth c nL D κ a A kc ks Q σ (o0 :: o1 :: o2 :: o3 :: o4 :: o5 :: o6 :: o7 :: o8 :: o9 :: o10 :: o11 :: o12 :: o13 :: o14 :: o15 :: o16 :: some (.ref x) :: lv) (pc + 2) (.ref x :: st)) : z_G p l e R s m args below meth c nL D κ a A kc ks Q σ (o0 :: o1 :: o2 :: o3 :: o4 :: o5 :: o6 :: o7 :: o8 :: o9 :: o10 :: o11 :: o12 :: o13 :: o14 :: o15 :: o16 :: some (.ref x) :: lv) pc st :=
  fun ls H locs hl hP hS => lv_aload X.1.1 X.1.2.1 hd (z_as_at hl (k := 17) rfl) (k ls H locs hl hP hS)
theorem r_istore17 (X : z_X p R s m args c cc own nL D κ a A kc ks) {o0 o1 o2 o3 o4 o5 o6 o7 o8 o9 o10 o11 o12 o13 o14 o15 o16 : Option Value} {o : Option Value} {x : Int} (hd : decode cc pc = .ok (.istore 17, 2)) (k : z_G p l e R s m args below meth c nL D κ a A kc ks Q σ (o0 :: o1 :: o2 :: o3 :: o4 :: o5 :: o6 :: o7 :: o8 :: o9 :: o10 :: o11 :: o12 :: o13 :: o14 :: o15 :: o16 :: some (.int (zI x)) :: lv) (pc + 2) st) (hn : 17 < nL := by decide) (ho : z_ok (o0 :: o1 :: o2 :: o3 :: o4 :: o5 :: o6 :: o7 :: o8 :: o9 :: o10 :: o11 :: o12 :: o13 :: o14 :: o15 :: o16 :: o :: lv) 17 = true := by rfl) : z_G p l e R s m args below meth c nL D κ a A kc ks Q σ (o0 :: o1 :: o2 :: o3 :: o4 :: o5 :: o6 :: o7 :: o8 :: o9 :: o10 :: o11 :: o12 :: o13 :: o14 :: o15 :: o16 :: o :: lv) pc (.int (zI x) :: st) :=
  fun ls H locs hl hP hS => lv_istore X.1.1 X.1.2.1 hd hl hn rfl (fun ls2 hl2 => k ls2 H locs (z_as_set (k := 17) (v := .int (zI x)) ho hl2) hP hS)
theorem r_astore17 (X : z_X p R s m args c cc own nL D κ a A kc ks) {o0 o1 o2 o3 o4 o5 o6 o7 o8 o9 o10 o11 o12 o13 o14 o15 o16 : Option Value} {o : Option Value} {x : Nat} (hd : decode cc pc = .ok (.astore 17, 2)) (k : z_G p l e R s m args below meth c nL D κ a A kc ks Q σ (o0 :: o1 :: o2 :: o3 :: o4 :: o5 :: o6 :: o7 :: o8 :: o9 :: o10 :: o11 :: o12 :: o13 :: o14 :: o15 :: o16 :: some (.ref x) :: lv) (pc + 2) st) (hn : 17 < nL := by decide) (ho : z_ok (o0 :: o1 :: o2 :: o3 :: o4 :: o5 :: o6 :: o7 :: o8 :: o9 :: o10 :: o11 :: o12 :: o13 :: o14 :: o15 :: o16 :: o :: lv) 17 = true := by rfl) : z_G p l e R s m args below meth c nL D κ a A kc ks Q σ (o0 :: o1 :: o2 :: o3 :: o4 :: o5 :: o6 :: o7 :: o8 :: o9 :: o10 :: o11 :: o12 :: o13 :: o14 :: o15 :: o16 :: o :: lv) pc (.ref x :: st) :=
  fun ls H locs hl hP hS => lv_astore X.1.1 X.1.2.1 hd hl hn rfl (fun ls2 hl2 => k ls2 H locs (z_as_set (k := 17) (v := .ref x) ho hl2) hP hS)
theorem r_iinc17 (X : z_X p R s m args c cc own nL D κ a A kc ks) {o0 o1 o2 o3 o4 o5 o6 o7 o8 o9 o10 o11 o12 o13 o14 o15 o16 : Option Value} {x n : Int} (hd : decode cc pc = .ok (.iinc 17 n, 3)) (k : z_G p l e R s m args below meth c nL D κ a A kc ks Q σ (o0 :: o1 :: o2 :: o3 :: o4 :: o5 :: o6 :: o7 :: o8 :: o9 :: o10 :: o11 :: o12 :: o13 :: o14 :: o15 :: o16 :: some (.int (zI (x + n))) :: lv) (pc + 3) st) (hn : 17 < nL := by decide) (ho : z_ok (o0 :: o1 :: o2 :: o3 :: o4 :: o5 :: o6 :: o7 :: o8 :: o9 :: o10 :: o11 :: o12 :: o13 :: o14 :: o15 :: o16 :: some (.int (zI x)) :: lv) 17 = true := by rfl) : z_G p l e R s m args below meth c nL D κ a A kc ks Q σ (o0 :: o1 :: o2 :: o3 :: o4 :: o5 :: o6 :: o7 :: o8 :: o9 :: o10 :: o11 :: o12 :: o13 :: o14 :: o15 :: o16 :: some (.int (zI x)) :: lv) pc st := by
  intro ls H locs hl hP hS
  obtain ⟨q, hq⟩ := List.getElem?_of_mem ((z_as_mem (o0 :: o1 :: o2 :: o3 :: o4 :: o5 :: o6 :: o7 :: o8 :: o9 :: o10 :: o11 :: o12 :: o13 :: o14 :: o15 :: o16 :: some (.int (zI x)) :: lv) 0 (17, .int (zI x))).mpr ⟨Nat.zero_le _, rfl⟩)
  exact lv_iinc X.1.1 X.1.2.1 hd hl (k := q) hq (zI_add x n).symm hn rfl (fun ls2 hl2 => k ls2 H locs (z_as_set (k := 17) (v := .int (zI (x + n))) ho hl2) hP hS)
theorem r_iadd (X : z_X p R s m args c cc own nL D κ a A kc ks) {x y : Int} (hd : decode cc pc = .ok (.iadd, 1))  (k : z_G p l e R s m args below meth c nL D κ a A kc ks Q σ lv (pc + 1) (.int (zI (x + y)) :: st)) : z_G p l e R s m args below meth c nL D κ a A kc ks Q σ lv pc (.int (zI y) :: .int (zI x) :: st) :=
  fun ls H locs hl hP hS => lv_iadd X.1.1 X.1.2.1 hd (by rw [← zI_add]; exact k ls H locs hl hP hS)
theorem r_isub (X : z_X p R s m args c cc own nL D κ a A kc ks) {x y : Int} (hd : decode cc pc = .ok (.isub, 1))  (k : z_G p l e R s m args below meth c nL D κ a A kc ks Q σ lv (pc + 1) (.int (zI (x - y)) :: st)) : z_G p l e R s m args below meth c nL D κ a A kc ks Q σ lv pc (.int (zI y) :: .int (zI x) :: st) :=
  fun ls H locs hl hP hS => lv_isub X.1.1 X.1.2.1 hd (by rw [← zI_sub]; exact k ls H locs hl hP hS)
theorem r_imul (X : z_X p R s m args c cc own nL D κ a A kc ks) {x y : Int} (hd : decode cc pc = .ok (.imul, 1))  (k : z_G p l e R s m args below meth c nL D κ a A kc ks Q σ lv (pc + 1) (.int (zI (x * y)) :: st)) : z_G p l e R s m args below meth c nL D κ a A kc ks Q σ lv pc (.int (zI y) :: .int (zI x) :: st) :=
  fun ls H locs hl hP hS => lv_imul X.1.1 X.1.2.1 hd (by rw [← zI_mul]; exact k ls H locs hl hP hS)
theorem r_ineg (X : z_X p R s m args c cc own nL D κ a A kc ks) {x : Int} (hd : decode cc pc = .ok (.ineg, 1))  (k : z_G p l e R s m args below meth c nL D κ a A kc ks Q σ lv (pc + 1) (.int (zI (-x)) :: st)) : z_G p l e R s m args below meth c nL D κ a A kc ks Q σ lv pc (.int (zI x) :: st) :=
  fun ls H locs hl hP hS => lv_ineg X.1.1 X.1.2.1 hd (by rw [← zI_neg]; exact k ls H locs hl hP hS)
theorem r_ladd (X : z_X p R s m args c cc own nL D κ a A kc ks) {x y : Int} (hd : decode cc pc = .ok (.ladd, 1))  (k : z_G p l e R s m args below meth c nL D κ a A kc ks Q σ lv (pc + 1) (.long (zL (x + y)) :: st)) : z_G p l e R s m args below meth c nL D κ a A kc ks Q σ lv pc (.long (zL y) :: .long (zL x) :: st) :=
  fun ls H locs hl hP hS => lv_ladd X.1.1 X.1.2.1 hd (by rw [← zL_add]; exact k ls H locs hl hP hS)
theorem zI_toL {x : Int} (h : z_in x) : (zI x).toInt64 = zL x := by
  apply Int64.toInt_inj.mp
  rw [Int32.toInt_toInt64, zI_toInt h]
  exact (Int64.toInt_ofInt_of_le (by have := h.1; omega) (by have := h.2; omega)).symm
abbrev z_inL (x : Int) : Prop := -9223372036854775808 ≤ x ∧ x ≤ 9223372036854775807
theorem zL_toInt {x : Int} (h : z_inL x) : (zL x).toInt = x := Int64.toInt_ofInt_of_le (by have := h.1; omega) (by have := h.2; omega)
theorem zL_toI {x : Int} (h : z_inL x) : (zL x).toInt32 = zI x := by
  apply Int32.toInt_inj.mp
  rw [Int64.toInt_toInt32, zL_toInt h]
  exact (Int32.toInt_ofInt (n := x)).symm
theorem zL_lt {x y : Int} (hx : z_inL x) (hy : z_inL y) : zL x < zL y ↔ x < y := by rw [Int64.lt_iff_toInt_lt, zL_toInt hx, zL_toInt hy]
theorem zL_eq {x y : Int} (hx : z_inL x) (hy : z_inL y) : zL x = zL y ↔ x = y := ⟨fun h => by have := congrArg Int64.toInt h; rwa [zL_toInt hx, zL_toInt hy] at this, fun h => by rw [h]⟩
def z_cmp (x y : Int) : Int := if y < x then 1 else if x = y then 0 else -1
theorem z_cmp_ok {x y : Int} (hx : z_inL x) (hy : z_inL y) : lg_cmp (zL x) (zL y) = zI (z_cmp x y) := by
  unfold lg_cmp z_cmp
  by_cases h1 : y < x
  · simp [(zL_lt hy hx).mpr h1, h1]
    decide +kernel
  · have h1' : ¬ zL y < zL x := fun q => h1 ((zL_lt hy hx).mp q)
    by_cases h2 : x = y
    · simp [h2]
      decide +kernel
    · have h2' : ¬ zL x = zL y := fun q => h2 ((zL_eq hx hy).mp q)
      simp [h1, h1', h2, h2']
      decide +kernel
/-! truth as a number -/
def zB (P : Prop) [Decidable P] : Int := if P then 1 else 0
theorem zB_t {P : Prop} [Decidable P] (h : P) : zB P = 1 := if_pos h
theorem zB_f {P : Prop} [Decidable P] (h : ¬ P) : zB P = 0 := if_neg h
theorem zB_in (P : Prop) [Decidable P] : 0 ≤ zB P ∧ zB P ≤ 1 := by unfold zB; split <;> omega
theorem zB_eq0 {P : Prop} [Decidable P] : zB P = 0 ↔ ¬ P := by unfold zB; split <;> simp_all
theorem zB_c {P P' : Prop} [Decidable P] [Decidable P'] (h : P ↔ P') : zB P = zB P' := by unfold zB; simp [h]

theorem r_i2l (X : z_X p R s m args c cc own nL D κ a A kc ks) {x : Int} (hd : decode cc pc = .ok (.i2l, 1)) (hr : z_in x := by omega) (k : z_G p l e R s m args below meth c nL D κ a A kc ks Q σ lv (pc + 1) (.long (zL x) :: st)) : z_G p l e R s m args below meth c nL D κ a A kc ks Q σ lv pc (.int (zI x) :: st) :=
  fun ls H locs hl hP hS => lv_i2l X.1.1 X.1.2.1 hd (zI_toL hr) (k ls H locs hl hP hS)
theorem r_l2i (X : z_X p R s m args c cc own nL D κ a A kc ks) {x : Int} (hd : decode cc pc = .ok (.l2i, 1)) (hr : z_inL x := by omega) (k : z_G p l e R s m args below meth c nL D κ a A kc ks Q σ lv (pc + 1) (.int (zI x) :: st)) : z_G p l e R s m args below meth c nL D κ a A kc ks Q σ lv pc (.long (zL x) :: st) :=
  fun ls H locs hl hP hS => lv_l2i X.1.1 X.1.2.1 hd (zL_toI hr) (k ls H locs hl hP hS)
theorem r_lcmp (X : z_X p R s m args c cc own nL D κ a A kc ks) {x y : Int} (hd : decode cc pc = .ok (.lcmp, 1)) (hx : z_inL x := by omega) (hy : z_inL y := by omega) (k : z_G p l e R s m args below meth c nL D κ a A kc ks Q σ lv (pc + 1) (.int (zI (z_cmp x y)) :: st)) : z_G p l e R s m args below meth c nL D κ a A kc ks Q σ lv pc (.long (zL y) :: .long (zL x) :: st) :=
  fun ls H locs hl hP hS => W.lcmp X.1.1 X.1.2.1 hd (by rw [z_cmp_ok hx hy]; exact k ls H locs hl hP hS)
theorem r_dup (X : z_X p R s m args c cc own nL D κ a A kc ks) {v : Value} (hd : decode cc pc = .ok (.dup, 1)) (hv : v.category = 1 := by rfl) (k : z_G p l e R s m args below meth c nL D κ a A kc ks Q σ lv (pc + 1) (v :: v :: st)) : z_G p l e R s m args below meth c nL D κ a A kc ks Q σ lv pc (v :: st) :=
  fun ls H locs hl hP hS => lv_dup X.1.1 X.1.2.1 hd hv (k ls H locs hl hP hS)
theorem r_dup2 (X : z_X p R s m args c cc own nL D κ a A kc ks) {v w : Value} (hd : decode cc pc = .ok (.dup2, 1)) (hv : v.category = 1 := by rfl) (hw : w.category = 1 := by rfl) (k : z_G p l e R s m args below meth c nL D κ a A kc ks Q σ lv (pc + 1) (v :: w :: v :: w :: st)) : z_G p l e R s m args below meth c nL D κ a A kc ks Q σ lv pc (v :: w :: st) :=
  fun ls H locs hl hP hS => lv_dup2_11 X.1.1 X.1.2.1 hd hv hw (k ls H locs hl hP hS)
theorem r_goto (X : z_X p R s m args c cc own nL D κ a A kc ks) {off : Int} {tgt : Nat} (hd : decode cc pc = .ok (.goto off, 3)) (ht : (pc : Int) + off = (tgt : Int) := by decide) (k : z_G p l e R s m args below meth c nL D κ a A kc ks Q σ lv tgt st) : z_G p l e R s m args below meth c nL D κ a A kc ks Q σ lv pc st :=
  fun ls H locs hl hP hS => lv_goto X.1.1 X.1.2.1 hd ht (k ls H locs hl hP hS)
theorem r_icmp_eq (X : z_X p R s m args c cc own nL D κ a A kc ks) {x y : Int} {off : Int} {tgt : Nat} (hd : decode cc pc = .ok (.if_icmp .eq off, 3)) (hr : z_in x ∧ z_in y) (kt : x = y → z_G p l e R s m args below meth c nL D κ a A kc ks Q σ lv tgt st) (kf : x ≠ y → z_G p l e R s m args below meth c nL D κ a A kc ks Q σ lv (pc + 3) st) (ht : (pc : Int) + off = (tgt : Int) := by decide) : z_G p l e R s m args below meth c nL D κ a A kc ks Q σ lv pc (.int (zI y) :: .int (zI x) :: st) :=
  fun ls H locs hl hP hS => lv_icmp_eq X.1.1 X.1.2.1 hd ht (fun h => kt ((zI_eq hr.1 hr.2).mp h) ls H locs hl hP hS) (fun h => kf (fun q => h ((zI_eq hr.1 hr.2).mpr q)) ls H locs hl hP hS)
theorem r_icmp_lt (X : z_X p R s m args c cc own nL D κ a A kc ks) {x y : Int} {off : Int} {tgt : Nat} (hd : decode cc pc = .ok (.if_icmp .lt off, 3)) (hr : z_in x ∧ z_in y) (kt : x < y → z_G p l e R s m args below meth c nL D κ a A kc ks Q σ lv tgt st) (kf : y ≤ x → z_G p l e R s m args below meth c nL D κ a A kc ks Q σ lv (pc + 3) st) (ht : (pc : Int) + off = (tgt : Int) := by decide) : z_G p l e R s m args below meth c nL D κ a A kc ks Q σ lv pc (.int (zI y) :: .int (zI x) :: st) :=
  fun ls H locs hl hP hS => lv_icmp_lt X.1.1 X.1.2.1 hd ht (fun h => kt ((zI_lt hr.1 hr.2).mp h) ls H locs hl hP hS) (fun h => kf (Int.not_lt.mp (fun q => h ((zI_lt hr.1 hr.2).mpr q))) ls H locs hl hP hS)
theorem r_icmp_le (X : z_X p R s m args c cc own nL D κ a A kc ks) {x y : Int} {off : Int} {tgt : Nat} (hd : decode cc pc = .ok (.if_icmp .le off, 3)) (hr : z_in x ∧ z_in y) (kt : x ≤ y → z_G p l e R s m args below meth c nL D κ a A kc ks Q σ lv tgt st) (kf : y < x → z_G p l e R s m args below meth c nL D κ a A kc ks Q σ lv (pc + 3) st) (ht : (pc : Int) + off = (tgt : Int) := by decide) : z_G p l e R s m args below meth c nL D κ a A kc ks Q σ lv pc (.int (zI y) :: .int (zI x) :: st) :=
  fun ls H locs hl hP hS => lv_icmp_le X.1.1 X.1.2.1 hd ht (fun h => kt ((zI_le hr.1 hr.2).mp h) ls H locs hl hP hS) (fun h => kf (Int.not_le.mp (fun q => h ((zI_le hr.1 hr.2).mpr q))) ls H locs hl hP hS)
theorem r_icmp_ne (X : z_X p R s m args c cc own nL D κ a A kc ks) {x y : Int} {off : Int} {tgt : Nat} (hd : decode cc pc = .ok (.if_icmp .ne off, 3)) (hr : z_in x ∧ z_in y) (kt : x ≠ y → z_G p l e R s m args below meth c nL D κ a A kc ks Q σ lv tgt st) (kf : x = y → z_G p l e R s m args below meth c nL D κ a A kc ks Q σ lv (pc + 3) st) (ht : (pc : Int) + off = (tgt : Int) := by decide) : z_G p l e R s m args below meth c nL D κ a A kc ks Q σ lv pc (.int (zI y) :: .int (zI x) :: st) :=
  fun ls H locs hl hP hS => lv_icmp_ne X.1.1 X.1.2.1 hd ht (fun h => kt (fun q => h ((zI_eq hr.1 hr.2).mpr q)) ls H locs hl hP hS) (fun h => kf ((zI_eq hr.1 hr.2).mp h) ls H locs hl hP hS)
theorem r_icmp_ge (X : z_X p R s m args c cc own nL D κ a A kc ks) {x y : Int} {off : Int} {tgt : Nat} (hd : decode cc pc = .ok (.if_icmp .ge off, 3)) (hr : z_in x ∧ z_in y) (kt : y ≤ x → z_G p l e R s m args below meth c nL D κ a A kc ks Q σ lv tgt st) (kf : x < y → z_G p l e R s m args below meth c nL D κ a A kc ks Q σ lv (pc + 3) st) (ht : (pc : Int) + off = (tgt : Int) := by decide) : z_G p l e R s m args below meth c nL D κ a A kc ks Q σ lv pc (.int (zI y) :: .int (zI x) :: st) :=
  fun ls H locs hl hP hS => lv_icmp_ge X.1.1 X.1.2.1 hd ht (fun h => kt ((zI_le hr.2 hr.1).mp h) ls H locs hl hP hS) (fun h => kf (Int.not_le.mp (fun q => h ((zI_le hr.2 hr.1).mpr q))) ls H locs hl hP hS)
theorem r_icmp_gt (X : z_X p R s m args c cc own nL D κ a A kc ks) {x y : Int} {off : Int} {tgt : Nat} (hd : decode cc pc = .ok (.if_icmp .gt off, 3)) (hr : z_in x ∧ z_in y) (kt : y < x → z_G p l e R s m args below meth c nL D κ a A kc ks Q σ lv tgt st) (kf : x ≤ y → z_G p l e R s m args below meth c nL D κ a A kc ks Q σ lv (pc + 3) st) (ht : (pc : Int) + off = (tgt : Int) := by decide) : z_G p l e R s m args below meth c nL D κ a A kc ks Q σ lv pc (.int (zI y) :: .int (zI x) :: st) :=
  fun ls H locs hl hP hS => lv_icmp_gt X.1.1 X.1.2.1 hd ht (fun h => kt ((zI_lt hr.2 hr.1).mp h) ls H locs hl hP hS) (fun h => kf (Int.not_lt.mp (fun q => h ((zI_lt hr.2 hr.1).mpr q))) ls H locs hl hP hS)
theorem r_if_eq (X : z_X p R s m args c cc own nL D κ a A kc ks) {x : Int} {off : Int} {tgt : Nat} (hd : decode cc pc = .ok (.ifCond .eq off, 3)) (hr : z_in x) (kt : x = 0 → z_G p l e R s m args below meth c nL D κ a A kc ks Q σ lv tgt st) (kf : x ≠ 0 → z_G p l e R s m args below meth c nL D κ a A kc ks Q σ lv (pc + 3) st) (ht : (pc : Int) + off = (tgt : Int) := by decide) : z_G p l e R s m args below meth c nL D κ a A kc ks Q σ lv pc (.int (zI x) :: st) :=
  fun ls H locs hl hP hS => lv_if_eq X.1.1 X.1.2.1 hd ht (fun h => kt ((zI_eq0 hr).mp h) ls H locs hl hP hS) (fun h => kf (fun q => h ((zI_eq0 hr).mpr q)) ls H locs hl hP hS)
theorem r_if_ne (X : z_X p R s m args c cc own nL D κ a A kc ks) {x : Int} {off : Int} {tgt : Nat} (hd : decode cc pc = .ok (.ifCond .ne off, 3)) (hr : z_in x) (kt : x ≠ 0 → z_G p l e R s m args below meth c nL D κ a A kc ks Q σ lv tgt st) (kf : x = 0 → z_G p l e R s m args below meth c nL D κ a A kc ks Q σ lv (pc + 3) st) (ht : (pc : Int) + off = (tgt : Int) := by decide) : z_G p l e R s m args below meth c nL D κ a A kc ks Q σ lv pc (.int (zI x) :: st) :=
  fun ls H locs hl hP hS => lv_if_ne X.1.1 X.1.2.1 hd ht (fun h => kt (fun q => h ((zI_eq0 hr).mpr q)) ls H locs hl hP hS) (fun h => kf ((zI_eq0 hr).mp h) ls H locs hl hP hS)
theorem r_if_lt (X : z_X p R s m args c cc own nL D κ a A kc ks) {x : Int} {off : Int} {tgt : Nat} (hd : decode cc pc = .ok (.ifCond .lt off, 3)) (hr : z_in x) (kt : x < 0 → z_G p l e R s m args below meth c nL D κ a A kc ks Q σ lv tgt st) (kf : 0 ≤ x → z_G p l e R s m args below meth c nL D κ a A kc ks Q σ lv (pc + 3) st) (ht : (pc : Int) + off = (tgt : Int) := by decide) : z_G p l e R s m args below meth c nL D κ a A kc ks Q σ lv pc (.int (zI x) :: st) :=
  fun ls H locs hl hP hS => lv_if_lt X.1.1 X.1.2.1 hd ht (fun h => kt ((zI_lt0 hr).mp h) ls H locs hl hP hS) (fun h => kf (Int.not_lt.mp (fun q => h ((zI_lt0 hr).mpr q))) ls H locs hl hP hS)
theorem r_if_ge (X : z_X p R s m args c cc own nL D κ a A kc ks) {x : Int} {off : Int} {tgt : Nat} (hd : decode cc pc = .ok (.ifCond .ge off, 3)) (hr : z_in x) (kt : 0 ≤ x → z_G p l e R s m args below meth c nL D κ a A kc ks Q σ lv tgt st) (kf : x < 0 → z_G p l e R s m args below meth c nL D κ a A kc ks Q σ lv (pc + 3) st) (ht : (pc : Int) + off = (tgt : Int) := by decide) : z_G p l e R s m args below meth c nL D κ a A kc ks Q σ lv pc (.int (zI x) :: st) :=
  fun ls H locs hl hP hS => lv_if_ge X.1.1 X.1.2.1 hd ht (fun h => kt ((zI_0le hr).mp h) ls H locs hl hP hS) (fun h => kf (Int.not_le.mp (fun q => h ((zI_0le hr).mpr q))) ls H locs hl hP hS)
theorem r_if_gt (X : z_X p R s m args c cc own nL D κ a A kc ks) {x : Int} {off : Int} {tgt : Nat} (hd : decode cc pc = .ok (.ifCond .gt off, 3)) (hr : z_in x) (kt : 0 < x → z_G p l e R s m args below meth c nL D κ a A kc ks Q σ lv tgt st) (kf : x ≤ 0 → z_G p l e R s m args below meth c nL D κ a A kc ks Q σ lv (pc + 3) st) (ht : (pc : Int) + off = (tgt : Int) := by decide) : z_G p l e R s m args below meth c nL D κ a A kc ks Q σ lv pc (.int (zI x) :: st) :=
  fun ls H locs hl hP hS => lv_if_gt X.1.1 X.1.2.1 hd ht (fun h => kt ((zI_0lt hr).mp h) ls H locs hl hP hS) (fun h => kf (Int.not_lt.mp (fun q => h ((zI_0lt hr).mpr q))) ls H locs hl hP hS)
theorem r_if_le (X : z_X p R s m args c cc own nL D κ a A kc ks) {x : Int} {off : Int} {tgt : Nat} (hd : decode cc pc = .ok (.ifCond .le off, 3)) (hr : z_in x) (kt : x ≤ 0 → z_G p l e R s m args below meth c nL D κ a A kc ks Q σ lv tgt st) (kf : 0 < x → z_G p l e R s m args below meth c nL D κ a A kc ks Q σ lv (pc + 3) st) (ht : (pc : Int) + off = (tgt : Int) := by decide) : z_G p l e R s m args below meth c nL D κ a A kc ks Q σ lv pc (.int (zI x) :: st) :=
  fun ls H locs hl hP hS => lv_if_le X.1.1 X.1.2.1 hd ht (fun h => kt ((zI_le0 hr).mp h) ls H locs hl hP hS) (fun h => kf (Int.not_le.mp (fun q => h ((zI_le0 hr).mpr q))) ls H locs hl hP hS)
theorem r_if_eqB (X : z_X p R s m args c cc own nL D κ a A kc ks) {P : Prop} [Decidable P] {off : Int} {tgt : Nat} (hd : decode cc pc = .ok (.ifCond .eq off, 3)) (kt : ¬ P → z_G p l e R s m args below meth c nL D κ a A kc ks Q σ lv tgt st) (kf : P → z_G p l e R s m args below meth c nL D κ a A kc ks Q σ lv (pc + 3) st) (ht : (pc : Int) + off = (tgt : Int) := by decide) : z_G p l e R s m args below meth c nL D κ a A kc ks Q σ lv pc (.int (zI (zB P)) :: st) :=
  r_if_eq X hd (by have := zB_in P; omega) (fun h => kt (zB_eq0.mp h)) (fun h => kf (Decidable.byContradiction (fun q => h (zB_eq0.mpr q)))) ht
theorem r_if_neB (X : z_X p R s m args c cc own nL D κ a A kc ks) {P : Prop} [Decidable P] {off : Int} {tgt : Nat} (hd : decode cc pc = .ok (.ifCond .ne off, 3)) (kt : P → z_G p l e R s m args below meth c nL D κ a A kc ks Q σ lv tgt st) (kf : ¬ P → z_G p l e R s m args below meth c nL D κ a A kc ks Q σ lv (pc + 3) st) (ht : (pc : Int) + off = (tgt : Int) := by decide) : z_G p l e R s m args below meth c nL D κ a A kc ks Q σ lv pc (.int (zI (zB P)) :: st) :=
  r_if_ne X hd (by have := zB_in P; omega) (fun h => kt (Decidable.byContradiction (fun q => h (zB_eq0.mpr q)))) (fun h => kf (zB_eq0.mp h)) ht
theorem z_cmp_in (x y : Int) : -1 ≤ z_cmp x y ∧ z_cmp x y ≤ 1 := by unfold z_cmp; split <;> (try split) <;> omega
theorem z_cmp_lt (x y : Int) : z_cmp x y < 0 ↔ x < y := by unfold z_cmp; split <;> (try split) <;> omega
theorem z_cmp_gt (x y : Int) : 0 < z_cmp x y ↔ y < x := by unfold z_cmp; split <;> (try split) <;> omega
theorem z_cmp_eq (x y : Int) : z_cmp x y = 0 ↔ x = y := by unfold z_cmp; split <;> (try split) <;> omega
theorem r_if_ltC (X : z_X p R s m args c cc own nL D κ a A kc ks) {x y : Int} {off : Int} {tgt : Nat} (hd : decode cc pc = .ok (.ifCond .lt off, 3)) (kt : x < y → z_G p l e R s m args below meth c nL D κ a A kc ks Q σ lv tgt st) (kf : y ≤ x → z_G p l e R s m args below meth c nL D κ a A kc ks Q σ lv (pc + 3) st) (ht : (pc : Int) + off = (tgt : Int) := by decide) : z_G p l e R s m args below meth c nL D κ a A kc ks Q σ lv pc (.int (zI (z_cmp x y)) :: st) :=
  r_if_lt X hd (by have := z_cmp_in x y; omega) (fun h => kt ((z_cmp_lt x y).mp h)) (fun h => kf (Int.not_lt.mp (fun q => by have := (z_cmp_lt x y).mpr q; omega))) ht
theorem r_if_gtC (X : z_X p R s m args c cc own nL D κ a A kc ks) {x y : Int} {off : Int} {tgt : Nat} (hd : decode cc pc = .ok (.ifCond .gt off, 3)) (kt : y < x → z_G p l e R s m args below meth c nL D κ a A kc ks Q σ lv tgt st) (kf : x ≤ y → z_G p l e R s m args below meth c nL D κ a A kc ks Q σ lv (pc + 3) st) (ht : (pc : Int) + off = (tgt : Int) := by decide) : z_G p l e R s m args below meth c nL D κ a A kc ks Q σ lv pc (.int (zI (z_cmp x y)) :: st) :=
  r_if_gt X hd (by have := z_cmp_in x y; omega) (fun h => kt ((z_cmp_gt x y).mp h)) (fun h => kf (Int.not_lt.mp (fun q => by have := (z_cmp_gt x y).mpr q; omega))) ht
theorem r_if_neC (X : z_X p R s m args c cc own nL D κ a A kc ks) {x y : Int} {off : Int} {tgt : Nat} (hd : decode cc pc = .ok (.ifCond .ne off, 3)) (kt : x ≠ y → z_G p l e R s m args below meth c nL D κ a A kc ks Q σ lv tgt st) (kf : x = y → z_G p l e R s m args below meth c nL D κ a A kc ks Q σ lv (pc + 3) st) (ht : (pc : Int) + off = (tgt : Int) := by decide) : z_G p l e R s m args below meth c nL D κ a A kc ks Q σ lv pc (.int (zI (z_cmp x y)) :: st) :=
  r_if_ne X hd (by have := z_cmp_in x y; omega) (fun h => kt (fun q => h ((z_cmp_eq x y).mpr q))) (fun h => kf ((z_cmp_eq x y).mp h)) ht
theorem r_if_eqC (X : z_X p R s m args c cc own nL D κ a A kc ks) {x y : Int} {off : Int} {tgt : Nat} (hd : decode cc pc = .ok (.ifCond .eq off, 3)) (kt : x = y → z_G p l e R s m args below meth c nL D κ a A kc ks Q σ lv tgt st) (kf : x ≠ y → z_G p l e R s m args below meth c nL D κ a A kc ks Q σ lv (pc + 3) st) (ht : (pc : Int) + off = (tgt : Int) := by decide) : z_G p l e R s m args below meth c nL D κ a A kc ks Q σ lv pc (.int (zI (z_cmp x y)) :: st) :=
  r_if_eq X hd (by have := z_cmp_in x y; omega) (fun h => kt ((z_cmp_eq x y).mp h)) (fun h => kf (fun q => h ((z_cmp_eq x y).mpr q))) ht
end ZR
end
section
section ZM
variable {p : Program} {l : Launch} {e : Env} {R : Room} {s : State} {m : MethodId} {args : Array Value} {below : List Frame} {meth : Method} {c : Code} {cc : ByteArray} {own : String} {nL : Nat} {D : va_G} {κ : Nat → ClassId} {a : Nat → Nat} {A : Nat → Prop} {kc ks : Nat} {Q : State → Prop}
variable {σ : zSt} {lv : List (Option Value)} {pc : Nat} {st : List Value}
theorem z_c0 (f : Int → Int) : z_ce κ a 0 f = .inr (5, z_fMain a f) := rfl
theorem z_c49 (f : Int → Int) : z_ce κ a 49 f = .inr (3, z_fShape a f) := rfl
theorem z_c50 (f : Int → Int) : z_ce κ a 50 f = z_eI κ 7 f := rfl
theorem z_c51 (f : Int → Int) : z_ce κ a 51 f = z_eI κ 7 f := rfl
theorem z_c72 (f : Int → Int) : z_ce κ a 72 f = .inr (2, z_fSearch a f) := rfl
theorem z_c73 (f : Int → Int) : z_ce κ a 73 f = z_eI κ 6 f := rfl
theorem z_c74 (f : Int → Int) : z_ce κ a 74 f = z_eI κ 6 f := rfl
theorem z_c75 (f : Int → Int) : z_ce κ a 75 f = z_eI κ 6 f := rfl
theorem z_c76 (f : Int → Int) : z_ce κ a 76 f = z_eI κ 6 f := rfl
theorem z_c77 (f : Int → Int) : z_ce κ a 77 f = z_eI κ 6 f := rfl
theorem z_c78 (f : Int → Int) : z_ce κ a 78 f = z_eI κ 42 f := rfl
theorem z_c79 (f : Int → Int) : z_ce κ a 79 f = z_eI κ 1764 f := rfl
theorem z_c80 (f : Int → Int) : z_ce κ a 80 f = .inr (6, z_fModel a f) := rfl
theorem z_c81 (f : Int → Int) : z_ce κ a 81 f = z_eI κ 6 f := rfl
theorem z_c82 (f : Int → Int) : z_ce κ a 82 f = z_eI κ 12 f := rfl
theorem z_c83 (f : Int → Int) : z_ce κ a 83 f = z_eI κ 10 f := rfl
theorem z_c84 (f : Int → Int) : z_ce κ a 84 f = z_eI κ 105 f := rfl
theorem z_c85 (f : Int → Int) : z_ce κ a 85 f = z_eI κ 133 f := rfl
theorem z_c86 (f : Int → Int) : z_ce κ a 86 f = z_eL κ 16 f := rfl
theorem z_c87 (f : Int → Int) : z_ce κ a 87 f = z_eL κ 16 f := rfl
theorem z_c88 (f : Int → Int) : z_ce κ a 88 f = z_eI κ 30 f := rfl
theorem z_c89 (f : Int → Int) : z_ce κ a 89 f = z_eZ κ 5 f := rfl
theorem z_c90 (f : Int → Int) : z_ce κ a 90 f = z_eI κ 5 f := rfl
theorem z_c91 (f : Int → Int) : z_ce κ a 91 f = z_eI κ 5 f := rfl
theorem z_c92 (f : Int → Int) : z_ce κ a 92 f = z_eI κ 6 f := rfl
theorem z_c93 (f : Int → Int) : z_ce κ a 93 f = z_eI κ 6 f := rfl
theorem z_c94 (f : Int → Int) : z_ce κ a 94 f = z_eI κ 30 f := rfl
theorem z_c95 (f : Int → Int) : z_ce κ a 95 f = z_eZ κ 5 f := rfl
theorem z_cShow {b : Nat} (hb : b = 1 ∨ b = 25) (f : Int → Int) : z_ce κ a b f = .inr (4, z_fShow a b f) := by rcases hb with rfl | rfl <;> rfl
theorem z_cShow1 {b : Nat} (hb : b = 1 ∨ b = 25) (f : Int → Int) : z_ce κ a (b + 1) f = z_eI κ 6 f := by rcases hb with rfl | rfl <;> rfl
theorem z_cShow2 {b : Nat} (hb : b = 1 ∨ b = 25) (f : Int → Int) : z_ce κ a (b + 2) f = z_eZ κ 6 f := by rcases hb with rfl | rfl <;> rfl
theorem z_cShow3 {b : Nat} (hb : b = 1 ∨ b = 25) (f : Int → Int) : z_ce κ a (b + 3) f = z_eA κ a (b + 3) := by rcases hb with rfl | rfl <;> rfl
def z_pic (q : Nat) : Prop := ∃ b k : Nat, (b = 1 ∨ b = 25) ∧ k < 5 ∧ q = b + 4 + 4 * k
theorem z_pic.mk {b k : Nat} (hb : b = 1 ∨ b = 25) (hk : k < 5) : z_pic (b + 4 + 4 * k) := ⟨b, k, hb, hk, rfl⟩
theorem z_pic.cases {q : Nat} {P : Nat → Prop} (h : z_pic q) (h5 : P 5) (h9 : P 9) (h13 : P 13) (h17 : P 17) (h21 : P 21) (h29 : P 29) (h33 : P 33) (h37 : P 37) (h41 : P 41) (h45 : P 45) : P q := by
  obtain ⟨b, k, hb, hk, rfl⟩ := h
  rcases hb with rfl | rfl
  · match k, hk with
    | 0, _ => exact h5
    | 1, _ => exact h9
    | 2, _ => exact h13
    | 3, _ => exact h17
    | 4, _ => exact h21
  · match k, hk with
    | 0, _ => exact h29
    | 1, _ => exact h33
    | 2, _ => exact h37
    | 3, _ => exact h41
    | 4, _ => exact h45
theorem z_pic.lt {q : Nat} (h : z_pic q) : q + 3 < 96 := by obtain ⟨b, k, hb, hk, rfl⟩ := h; omega
theorem z_cPic {q : Nat} (h : z_pic q) (f : Int → Int) : z_ce κ a q f = .inr (0, z_fPic a q f) := h.cases (P := fun q => z_ce κ a q f = .inr (0, z_fPic a q f)) rfl rfl rfl rfl rfl rfl rfl rfl rfl rfl
theorem z_cPic1 {q : Nat} (h : z_pic q) (f : Int → Int) : z_ce κ a (q + 1) f = z_eI κ 7 f := h.cases (P := fun q => z_ce κ a (q + 1) f = z_eI κ 7 f) rfl rfl rfl rfl rfl rfl rfl rfl rfl rfl
theorem z_cPic2 {q : Nat} (h : z_pic q) (f : Int → Int) : z_ce κ a (q + 2) f = z_eI κ 7 f := h.cases (P := fun q => z_ce κ a (q + 2) f = z_eI κ 7 f) rfl rfl rfl rfl rfl rfl rfl rfl rfl rfl
theorem z_cPic3 {q : Nat} (h : z_pic q) (f : Int → Int) : z_ce κ a (q + 3) f = z_eZ κ 7 f := h.cases (P := fun q => z_ce κ a (q + 3) f = z_eZ κ 7 f) rfl rfl rfl rfl rfl rfl rfl rfl rfl rfl
theorem z_cPlan {b : Nat} (hb : b = 52 ∨ b = 62) (f : Int → Int) : z_ce κ a b f = .inr (1, z_fPlan a b f) := by rcases hb with rfl | rfl <;> rfl
theorem z_cPlan1 {b : Nat} (hb : b = 52 ∨ b = 62) (f : Int → Int) : z_ce κ a (b + 1) f = z_eZ κ 5 f := by rcases hb with rfl | rfl <;> rfl
theorem z_cPlan2 {b : Nat} (hb : b = 52 ∨ b = 62) (f : Int → Int) : z_ce κ a (b + 2) f = z_eI κ 5 f := by rcases hb with rfl | rfl <;> rfl
theorem z_cPlan3 {b : Nat} (hb : b = 52 ∨ b = 62) (f : Int → Int) : z_ce κ a (b + 3) f = z_eI κ 5 f := by rcases hb with rfl | rfl <;> rfl
theorem z_cPlan4 {b : Nat} (hb : b = 52 ∨ b = 62) (f : Int → Int) : z_ce κ a (b + 4) f = z_eG κ a (b + 4) := by rcases hb with rfl | rfl <;> rfl
theorem z_cPlan5 {b k : Nat} (hb : b = 52 ∨ b = 62) (hk : k < 5) (f : Int → Int) : z_ce κ a (b + 5 + k) f = z_eI κ 6 f := by
  rcases hb with rfl | rfl
  · match k, hk with
    | 0, _ => rfl
    | 1, _ => rfl
    | 2, _ => rfl
    | 3, _ => rfl
    | 4, _ => rfl
  · match k, hk with
    | 0, _ => rfl
    | 1, _ => rfl
    | 2, _ => rfl
    | 3, _ => rfl
    | 4, _ => rfl
theorem r_get (X : z_X p R s m args c cc own nL D κ a A kc ks) {q ci N ix : Nat} {C : String} {T : u_T} {fs : (Int → Int) → List Value} {v : Value} (j : Nat) (hd : decode cc pc = .ok (.getfield ix, 3)) (hE : ∀ f, z_ce κ a q f = .inr (ci, fs f)) (hin : ∀ w ∈ u_ws C T N, w ∈ z_TT) (hlk : Cond.fieldLink own ix (T j).1 (T j).2.1 (T j).2.2.1 ∈ z_TT) (hq : q < 96) (hc : vwCl[ci]? = some (C, T, N)) (hv : (fs (σ q))[j]? = some v) (hj : j < N) (k : z_G p l e R s m args below meth c nL D κ a A kc ks Q σ lv (pc + 3) (v :: st)) : z_G p l e R s m args below meth c nL D κ a A kc ks Q σ lv pc (.ref (a q) :: st) :=
  fun ls H locs hl hP hS => va_get (D := D) (ci := ci) (v := v) (C := C) (T := T) (N := N) (ref := (T j).1) X.1.1 X.1.2.1 X.1.2.2.2.2 hin X.1.2.2.2.1 X.2.1.1 hP q (by rw [z_w_at hq, hE]) hc j hj (X.1.2.2.2.2 _ hlk) (fun _ h => h) hv hd (k ls H locs hl hP hS)
theorem r_put (X : z_X p R s m args c cc own nL D κ a A kc ks) {q ci N ix : Nat} {C : String} {T : u_T} {fs : (Int → Int) → List Value} {x : Int} (j : Nat) (ji : Int) (hd : decode cc pc = .ok (.putfield ix, 3)) (hE : ∀ f, z_ce κ a q f = .inr (ci, fs f)) (hin : ∀ w ∈ u_ws C T N, w ∈ z_TT) (hlk : Cond.fieldLink own ix (T j).1 (T j).2.1 (T j).2.2.1 ∈ z_TT) (ty0 : Nat → FieldType) (hty : ∀ k, k < N → parseFieldDescriptor (T k).2.2.1 = some (ty0 k)) (hnm : ∀ a, a < N → ∀ b, b < N → a ≠ b → (T a).2.1 ≠ (T b).2.1) (hq : q < 96) (hc : vwCl[ci]? = some (C, T, N)) (hj : j < N) (hfin : (T j).2.2.2 = false) {ty : FieldType} (hdt : parseFieldDescriptor (T j).2.2.1 = some ty) (hn : narrow ty (.int (zI x)) = .int (zI x)) (hfit : fits ty (.int (zI x)) = true) (hs : ∀ f v, (fs f).set j (.int (zI v)) = fs (z_upf f ji v)) (hlen : j < (fs (σ q)).length) (k : z_G p l e R s m args below meth c nL D κ a A kc ks Q (z_up σ q ji x) lv (pc + 3) st) : z_G p l e R s m args below meth c nL D κ a A kc ks Q σ lv pc (.int (zI x) :: .ref (a q) :: st) :=
  fun ls H locs hl hP hS => va_put (D := D) (ci := ci) (C := C) (T := T) (N := N) (ref := (T j).1) X.1.1 X.1.2.1 X.1.2.2.2.2 hin ty0 hty hnm X.1.2.2.2.1 X.2.1.1 hP (X.2.2.1.D κ σ) hS q (by rw [z_w_at hq, hE]) hc j hj (X.1.2.2.2.2 _ hlk) (fun _ h => h) hfin hdt hn hfit hlen hd (fun H1 locs1 hP1 _ hS1 => k ls H1 locs1 hl (by
    rw [hs, ← hE, z_w_set hq] at hP1
    exact hP1) hS1)
theorem r_iald (X : z_X p R s m args c cc own nL D κ a A kc ks) {q n : Nat} {i : Int} (hd : decode cc pc = .ok (.iaload, 1)) (hE : ∀ f, z_ce κ a q f = z_eI κ n f) (hq : q < 96) (hi : 0 ≤ i ∧ i < (n : Int)) (k : z_G p l e R s m args below meth c nL D κ a A kc ks Q σ lv (pc + 1) (.int (zI (σ q i)) :: st)) (hn : n < 2147483648 := by decide) : z_G p l e R s m args below meth c nL D κ a A kc ks Q σ lv pc (.int (zI i) :: .ref (a q) :: st) :=
  fun ls H locs hl hP hS => va_iald X.1.1 X.1.2.1 X.2.1.1 hP q 0 (by rw [z_w_at hq, hE]) rfl (zI_vin hi.1 hi.2 hn) hd (by rw [zaI_at hi.1 hi.2 hn]; exact k ls H locs hl hP hS)
theorem r_zald (X : z_X p R s m args c cc own nL D κ a A kc ks) {q n : Nat} {i : Int} (hd : decode cc pc = .ok (.baload, 1)) (hE : ∀ f, z_ce κ a q f = z_eZ κ n f) (hq : q < 96) (hi : 0 ≤ i ∧ i < (n : Int)) (k : z_G p l e R s m args below meth c nL D κ a A kc ks Q σ lv (pc + 1) (.int (zI (σ q i)) :: st)) (hn : n < 2147483648 := by decide) : z_G p l e R s m args below meth c nL D κ a A kc ks Q σ lv pc (.int (zI i) :: .ref (a q) :: st) :=
  fun ls H locs hl hP hS => va_zald X.1.1 X.1.2.1 X.2.1.1 hP q 2 (by rw [z_w_at hq, hE]) rfl (zI_vin hi.1 hi.2 hn) hd (by rw [zaI_at hi.1 hi.2 hn]; exact k ls H locs hl hP hS)
theorem r_lald (X : z_X p R s m args c cc own nL D κ a A kc ks) {q n : Nat} {i : Int} (hd : decode cc pc = .ok (.laload, 1)) (hE : ∀ f, z_ce κ a q f = z_eL κ n f) (hq : q < 96) (hi : 0 ≤ i ∧ i < (n : Int)) (k : z_G p l e R s m args below meth c nL D κ a A kc ks Q σ lv (pc + 1) (.long (zL (σ q i)) :: st)) (hn : n < 2147483648 := by decide) : z_G p l e R s m args below meth c nL D κ a A kc ks Q σ lv pc (.int (zI i) :: .ref (a q) :: st) :=
  fun ls H locs hl hP hS => va_lald X.1.1 X.1.2.1 X.2.1.1 hP q 1 (by rw [z_w_at hq, hE]) rfl (zI_vin hi.1 hi.2 hn) hd (by rw [zaL_at hi.1 hi.2 hn]; exact k ls H locs hl hP hS)
theorem r_iast (X : z_X p R s m args c cc own nL D κ a A kc ks) {q n : Nat} {i v : Int} (hd : decode cc pc = .ok (.iastore, 1)) (hE : ∀ f, z_ce κ a q f = z_eI κ n f) (hq : q < 96) (hi : 0 ≤ i ∧ i < (n : Int)) (k : z_G p l e R s m args below meth c nL D κ a A kc ks Q (z_up σ q i v) lv (pc + 1) st) (hn : n < 2147483648 := by decide) : z_G p l e R s m args below meth c nL D κ a A kc ks Q σ lv pc (.int (zI v) :: .int (zI i) :: .ref (a q) :: st) :=
  fun ls H locs hl hP hS => va_iast X.1.1 X.1.2.1 X.2.1.1 hP (X.2.2.1.D κ σ) hS q 0 (by rw [z_w_at hq, hE]) rfl (zI_vin hi.1 hi.2 hn) hd (fun H1 locs1 hP1 _ hS1 => k ls H1 locs1 hl (by
    rw [zaI_up hi.1 hi.2 hn, show (Sum.inl (κ 0, n, .inl (zaI (z_upf (σ q) i v))) : va_E) = z_ce κ a q (z_upf (σ q) i v) from (hE _).symm, z_w_set hq] at hP1
    exact hP1) hS1)
theorem zI_narZ {v : Int} (h : v = 0 ∨ v = 1) : vp_nar .boolean (zI v) = zI v := by rcases h with rfl | rfl <;> decide +kernel
theorem zI_narB {v : Int} (h : v = 0 ∨ v = 1) : narrow .boolean (.int (zI v)) = .int (zI v) := by rcases h with rfl | rfl <;> decide +kernel
theorem zI_fitB {v : Int} (h : v = 0 ∨ v = 1) : fits .boolean (.int (zI v)) = true := by rcases h with rfl | rfl <;> decide +kernel
theorem zB_01 (P : Prop) [Decidable P] : zB P = 0 ∨ zB P = 1 := by unfold zB; split <;> simp
theorem r_zast (X : z_X p R s m args c cc own nL D κ a A kc ks) {q n : Nat} {i v : Int} (hd : decode cc pc = .ok (.bastore, 1)) (hE : ∀ f, z_ce κ a q f = z_eZ κ n f) (hq : q < 96) (hi : 0 ≤ i ∧ i < (n : Int)) (hv : v = 0 ∨ v = 1) (k : z_G p l e R s m args below meth c nL D κ a A kc ks Q (z_up σ q i v) lv (pc + 1) st) (hn : n < 2147483648 := by decide) : z_G p l e R s m args below meth c nL D κ a A kc ks Q σ lv pc (.int (zI v) :: .int (zI i) :: .ref (a q) :: st) :=
  fun ls H locs hl hP hS => va_zast X.1.1 X.1.2.1 X.2.1.1 hP (X.2.2.1.D κ σ) hS q 2 (by rw [z_w_at hq, hE]) rfl (zI_vin hi.1 hi.2 hn) hd (fun H1 locs1 hP1 _ hS1 => k ls H1 locs1 hl (by
    rw [zI_narZ hv, zaI_up hi.1 hi.2 hn, show (Sum.inl (κ 2, n, .inl (zaI (z_upf (σ q) i v))) : va_E) = z_ce κ a q (z_upf (σ q) i v) from (hE _).symm, z_w_set hq] at hP1
    exact hP1) hS1)
theorem r_last (X : z_X p R s m args c cc own nL D κ a A kc ks) {q n : Nat} {i v : Int} (hd : decode cc pc = .ok (.lastore, 1)) (hE : ∀ f, z_ce κ a q f = z_eL κ n f) (hq : q < 96) (hi : 0 ≤ i ∧ i < (n : Int)) (k : z_G p l e R s m args below meth c nL D κ a A kc ks Q (z_up σ q i v) lv (pc + 1) st) (hn : n < 2147483648 := by decide) : z_G p l e R s m args below meth c nL D κ a A kc ks Q σ lv pc (.long (zL v) :: .int (zI i) :: .ref (a q) :: st) :=
  fun ls H locs hl hP hS => va_last X.1.1 X.1.2.1 X.2.1.1 hP (X.2.2.1.D κ σ) hS q 1 (by rw [z_w_at hq, hE]) rfl (zI_vin hi.1 hi.2 hn) hd (fun H1 locs1 hP1 _ hS1 => k ls H1 locs1 hl (by
    rw [zaL_up hi.1 hi.2 hn, show (Sum.inl (κ 1, n, .inr (.inl (zaL (z_upf (σ q) i v)))) : va_E) = z_ce κ a q (z_upf (σ q) i v) from (hE _).symm, z_w_set hq] at hP1
    exact hP1) hS1)
theorem z_row {a : Nat → Nat} {b w n k : Nat} (hk : k < n) (hn : n < 2147483648) : va_rf (zaR a b w n (zI (k : Int)).toNatClampNeg) = .ref (a (b + w * k)) := by
  have h : (zI (k : Int)).toNatClampNeg = k := by have := zI_clamp (i := (k : Int)) (n := n) (by omega) (by omega) hn; omega
  rw [h]
  unfold zaR
  rw [if_pos hk]
  rfl
theorem r_aald (X : z_X p R s m args c cc own nL D κ a A kc ks) {b k : Nat} (hd : decode cc pc = .ok (.aaload, 1)) (hb : b = 1 ∨ b = 25) (hk : k < 5) (kk : z_G p l e R s m args below meth c nL D κ a A kc ks Q σ lv (pc + 1) (.ref (a (b + 4 + 4 * k)) :: st)) : z_G p l e R s m args below meth c nL D κ a A kc ks Q σ lv pc (.int (zI (k : Int)) :: .ref (a (b + 3)) :: st) :=
  fun ls H locs hl hP hS => va_aldq (C := "DotsOnGrass$Picture") X.1.1 X.1.2.1 X.2.1.1 hP (b + 3) 3 (by rw [z_w_at (by omega), z_cShow3 hb]) rfl (zI_vin (by omega) (by omega) (by decide)) hd (by rw [z_row hk (by decide)]; exact kk ls H locs hl hP hS)
theorem r_gald (X : z_X p R s m args c cc own nL D κ a A kc ks) {b k : Nat} (hd : decode cc pc = .ok (.aaload, 1)) (hb : b = 52 ∨ b = 62) (hk : k < 5) (kk : z_G p l e R s m args below meth c nL D κ a A kc ks Q σ lv (pc + 1) (.ref (a (b + 5 + k)) :: st)) : z_G p l e R s m args below meth c nL D κ a A kc ks Q σ lv pc (.int (zI (k : Int)) :: .ref (a (b + 4)) :: st) := by
  intro ls H locs hl hP hS
  have ha : (z_w κ a σ)[b + 4]? = some (a (b + 4), z_eG κ a (b + 4)) := by rw [z_w_at (by omega), z_cPlan4 hb]
  have hin : vp_in (zI (k : Int)) 5 := zI_vin (by omega) (by omega) (by decide)
  have hlt : (zI (k : Int)).toNatClampNeg < 5 := Nat.not_le.mp fun q => hin (Or.inr q)
  refine W.aald (v := va_rf (zaR a (b + 4 + 1) 1 5 (zI (k : Int)).toNatClampNeg)) (ty := .array .int) X.1.1 X.1.2.1 (hP _ _ ha) ((X.2.1.1.2 4 (κ 4, .array .int) rfl).1 5 (fun j => va_rf (zaR a (b + 4 + 1) 1 5 j))) rfl (fun q => by cases q) (by show ¬ ((zI (k : Int)) < 0 ∨ (arrV _ _ _).slots.size ≤ _); rw [arrV_size]; exact hin) (by show (arrV _ _ _).slots[_]? = _; rw [arrV_read _ _ hlt]) rfl rfl hd ?_
  rw [z_row hk (by decide), show b + 4 + 1 + 1 * k = b + 5 + k by omega]
  exact kk ls H locs hl hP hS
theorem r_alen (X : z_X p R s m args c cc own nL D κ a A kc ks) {q n : Nat} (hd : decode cc pc = .ok (.arraylength, 1)) (hE : ∀ f, z_ce κ a q f = z_eI κ n f) (hq : q < 96) (k : z_G p l e R s m args below meth c nL D κ a A kc ks Q σ lv (pc + 1) (.int (zI (n : Int)) :: st)) : z_G p l e R s m args below meth c nL D κ a A kc ks Q σ lv pc (.ref (a q) :: st) :=
  fun ls H locs hl hP hS => va_alen (x := (n, .inl (zaI (σ q)))) (ty := .int) X.1.1 X.1.2.1 X.2.1.1 hP q 0 (by rw [z_w_at hq, hE]) rfl (v := zI (n : Int)) (by show Int32.ofNat n = zI (n : Int); exact (Int32.ofInt_eq_ofNat ..).symm) hd (k ls H locs hl hP hS)
def z_rm (d : Nat) : Room := { frames := d, cells := 0, slots := 0, locals := 64 * d }
def z_Pc (D : va_G) (κ : Nat → ClassId) (a : Nat → Nat) (av : List Value) (σ : zSt) : Array Value → State → Prop := va_Pc av (fun U => va_P D vwCl (z_w κ a σ) U.heap ∧ z_K D κ U)
def z_Qi (D : va_G) (κ : Nat → ClassId) (a : Nat → Nat) (A : Nat → Prop) (z : Int) (σ' : zSt) : Array Value → State → Outcome → State → Prop := va_Qi (fun r (_ : Unit) => r = zI z) (fun _ t => va_P D vwCl (z_w κ a σ') t.heap) A
def z_Qv (D : va_G) (κ : Nat → ClassId) (a : Nat → Nat) (A : Nat → Prop) (σ' : zSt) : Array Value → State → Outcome → State → Prop := va_Qv (fun (_ : Unit) => True) (fun _ t => va_P D vwCl (z_w κ a σ') t.heap) A
/-- the method y answers z, and the world holds σ' behind it -/
def z_Ti (l : Launch) (D : va_G) (κ : Nat → ClassId) (a : Nat → Nat) (A : Nat → Prop) (y : MethodName) (bytes : ByteArray) (maxL : Nat) (ret : Option FieldType) (d : Nat) (av : List Value) (σ : zSt) (z : Int) (σ' : zSt) : Prop := Met l y (.code y bytes maxL ret :: z_TT) (z_rm d) (z_Pc D κ a av σ) (z_Qi D κ a A z σ') 0 0 A
def z_Tv (l : Launch) (D : va_G) (κ : Nat → ClassId) (a : Nat → Nat) (A : Nat → Prop) (y : MethodName) (bytes : ByteArray) (maxL : Nat) (ret : Option FieldType) (d : Nat) (av : List Value) (σ : zSt) (σ' : zSt) : Prop := Met l y (.code y bytes maxL ret :: z_TT) (z_rm d) (z_Pc D κ a av σ) (z_Qv D κ a A σ') 0 0 A
def z_M (meth : Method) (ret : Option FieldType) : Prop := meth.sig.returnType = ret ∧ meth.locks = false
theorem z_blind {av : List Value} : FrameBlind (z_Pc D κ a av σ) := fun _ _ _ _ q => ⟨q.1, q.2.1, q.2.2.same rfl⟩
theorem z_Ti_of {y : MethodName} {d maxL : Nat} {cc : ByteArray} {ret : Option FieldType} {own : String} {av : List Value} {σ σ' : zSt} {z : Int} {lv0 : List (Option Value)} (hA : z_aD a A) (hy : plainName y.cls = true) (ho : y.cls = own) (hlen : (lg_sl av).length ≤ maxL) (hl0 : lv_args 0 av = z_as 0 lv0)
    (body : ∀ (p : Program) (e : Env) (s : State) (m : MethodId) (below : List Frame) (meth : Method) (c : Code), z_X p (z_rm d) s m av.toArray c cc own maxL D κ a A 0 0 → z_M meth ret → z_G p l e (z_rm d) s m av.toArray below meth c maxL D κ a A 0 0 (MQ below (z_Qi D κ a A z σ') av.toArray s 0 0 A) σ lv0 0 []) : z_Ti l D κ a A y cc maxL ret d av σ z σ' := by
  refine Met.ofW (cc := cc) (maxL := maxL) (ret := ret) hy rfl ?_
  intro p e s m args below meth c s₁ B hml hv
  obtain ⟨rfl, hP, hK⟩ := hv
  have hown : s.vm.findClass own = some m.cls := by rw [← ho]; exact findClass_of_methodNamed B.named
  have hl := lv_entry av (n := maxL) hlen
  rw [lg_entry_eq]
  rw [hl0] at hl
  exact body p e s m below meth c ⟨⟨B.exec, B.bytes, hml, hown, fun w hw => atoms_spec (ws := Cond.code y cc maxL ret :: z_TT) B.pre w (List.mem_cons_of_mem _ hw)⟩, hK, hA, Nat.zero_le _, Nat.zero_le _⟩ ⟨B.returns, B.notSynchronized⟩ _ _ _ hl hP va_S.rf
theorem z_Tv_of {y : MethodName} {d maxL : Nat} {cc : ByteArray} {ret : Option FieldType} {own : String} {av : List Value} {σ σ' : zSt} {lv0 : List (Option Value)} (hA : z_aD a A) (hy : plainName y.cls = true) (ho : y.cls = own) (hlen : (lg_sl av).length ≤ maxL) (hl0 : lv_args 0 av = z_as 0 lv0)
    (body : ∀ (p : Program) (e : Env) (s : State) (m : MethodId) (below : List Frame) (meth : Method) (c : Code), z_X p (z_rm d) s m av.toArray c cc own maxL D κ a A 0 0 → z_M meth ret → z_G p l e (z_rm d) s m av.toArray below meth c maxL D κ a A 0 0 (MQ below (z_Qv D κ a A σ') av.toArray s 0 0 A) σ lv0 0 []) : z_Tv l D κ a A y cc maxL ret d av σ σ' := by
  refine Met.ofW (cc := cc) (maxL := maxL) (ret := ret) hy rfl ?_
  intro p e s m args below meth c s₁ B hml hv
  obtain ⟨rfl, hP, hK⟩ := hv
  have hown : s.vm.findClass own = some m.cls := by rw [← ho]; exact findClass_of_methodNamed B.named
  have hl := lv_entry av (n := maxL) hlen
  rw [lg_entry_eq]
  rw [hl0] at hl
  exact body p e s m below meth c ⟨⟨B.exec, B.bytes, hml, hown, fun w hw => atoms_spec (ws := Cond.code y cc maxL ret :: z_TT) B.pre w (List.mem_cons_of_mem _ hw)⟩, hK, hA, Nat.zero_le _, Nat.zero_le _⟩ ⟨B.returns, B.notSynchronized⟩ _ _ _ hl hP va_S.rf
theorem r_iret (X : z_X p R s m args c cc own nL D κ a A kc ks) (M : z_M meth (some .int)) {x z : Int} {σ' : zSt} (hd : decode cc pc = .ok (.ireturn, 1)) (hz : x = z) (hσ : σ = σ') : z_G p l e R s m args below meth c nL D κ a A kc ks (MQ below (z_Qi D κ a A z σ') args s kc ks A) σ lv pc [.int (zI x)] := by
  subst hz
  subst hσ
  exact fun ls H locs hl hP hS => W.iret (v := zI x) X.1.1 X.1.2.1 M.1 (fun t ht hW => ⟨⟨zI x, (), rfl, rfl, by show va_P D vwCl (z_w κ a σ) t.heap; rw [ht]; exact hP⟩, hS.F ht⟩) hS.2.2 hd M.2
theorem r_zret (X : z_X p R s m args c cc own nL D κ a A kc ks) (M : z_M meth (some .boolean)) {x z : Int} {σ' : zSt} (hd : decode cc pc = .ok (.ireturn, 1)) (h01 : x = 0 ∨ x = 1) (hz : x = z) (hσ : σ = σ') : z_G p l e R s m args below meth c nL D κ a A kc ks (MQ below (z_Qi D κ a A z σ') args s kc ks A) σ lv pc [.int (zI x)] := by
  subst hz
  subst hσ
  exact fun ls H locs hl hP hS => W.zret (v := zI x) X.1.1 X.1.2.1 M.1 (zI_narB h01) (fun t ht hW => ⟨⟨zI x, (), rfl, rfl, by show va_P D vwCl (z_w κ a σ) t.heap; rw [ht]; exact hP⟩, hS.F ht⟩) hS.2.2 hd M.2
theorem r_vret (X : z_X p R s m args c cc own nL D κ a A kc ks) (M : z_M meth none) {σ' : zSt} (hd : decode cc pc = .ok (.return_, 1)) (hσ : σ = σ') : z_G p l e R s m args below meth c nL D κ a A kc ks (MQ below (z_Qv D κ a A σ') args s kc ks A) σ lv pc [] := by
  subst hσ
  exact fun ls H locs hl hP hS => W.vret X.1.1 X.1.2.1 M.1 (fun t ht hW => ⟨⟨(), rfl, trivial, by show va_P D vwCl (z_w κ a σ) t.heap; rw [ht]; exact hP⟩, hS.F ht⟩) hS.2.2 hd M.2

theorem r_callVi (X : z_X p R s m args c cc own nL D κ a A kc ks) {y : MethodName} {d maxL ix n : Nat} {bytes : ByteArray} {ret : Option FieldType} {As rest : List Value} {σ' : zSt} {z : Int} {q ci N : Nat} {C : String} {T : u_T} {fs : (Int → Int) → List Value} (hM : z_Ti l D κ a A y bytes maxL ret d (.ref (a q) :: As) σ z σ') (hd : decode cc pc = .ok (.invokevirtual ix, 3)) (h1 : Cond.methodLink own ix y ∈ z_TT) (h2 : Cond.instanceMethod y ∈ z_TT) (h3 : Cond.selects C y y ∈ z_TT) (h4 : Cond.initialized C ∈ z_TT) (h5 : Cond.code y bytes maxL ret ∈ z_TT) (hE : ∀ f, z_ce κ a q f = .inr (ci, fs f)) (hq : q < 96) (hc : vwCl[ci]? = some (C, T, N)) (hst : st = As.reverse ++ .ref (a q) :: rest) (hW : (rest.map fun v => v.category).sum ≤ 8) (hR : d + 1 ≤ R.frames ∧ 8 + (maxL + 11) + 64 * d ≤ R.locals) (hnd : y.cls = C ∧ y.cls ≠ "java/lang/invoke/MethodHandle" ∧ y.cls ≠ "java/lang/invoke/VarHandle" ∧ (parseMethodDescriptor y.desc).map (fun d => d.parameters.length) = some n) (hn : As.length = n) (k : z_G p l e R s m args below meth c nL D κ a A kc ks Q σ' lv (pc + 3) (.int (zI z) :: rest)) : z_G p l e R s m args below meth c nL D κ a A kc ks Q σ lv pc st := by
  subst hst
  intro ls H locs hl hP hS
  exact va_calli (va_runV (As := As) (rest := rest) X.1 hM (cwV n X.1.2.2.2.2 (z_goodV h1 h2 h3 h4 h5) rfl rfl rfl hnd hR) ⟨z_blind, va_recv (ws := z_w κ a σ) (q0 := q) (ci := ci) X.2.1.1 hP hc (by rw [z_w_at hq, hE]), fun U hU hW2 => ⟨rfl, by rw [hU]; exact hP, X.2.1.warm hW2⟩⟩ rfl hn hl.1 rfl (lv_room hW) hd ⟨X.2.2.2.1, X.2.2.2.2⟩) hS (fun q _ h => h) (fun q h => h) (fun r _ t H1 locs1 ht _ hr hB _ _ hS1 => by
    rw [show r = zI z from hr]
    rw [ht] at hB
    exact k ls H1 locs1 hl hB hS1)
theorem r_callSi (X : z_X p R s m args c cc own nL D κ a A kc ks) {y : MethodName} {d maxL ix n : Nat} {bytes : ByteArray} {ret : Option FieldType} {As rest : List Value} {σ' : zSt} {z : Int} (hM : z_Ti l D κ a A y bytes maxL ret d As σ z σ') (hd : decode cc pc = .ok (.invokestatic ix, 3)) (h1 : Cond.methodLink own ix y ∈ z_TT) (h2 : Cond.static y ∈ z_TT) (h4 : Cond.initialized y.cls ∈ z_TT) (h5 : Cond.code y bytes maxL ret ∈ z_TT) (hst : st = As.reverse ++ rest) (hW : (rest.map fun v => v.category).sum ≤ 8) (hR : d + 1 ≤ R.frames ∧ 8 + (maxL + 11) + 64 * d ≤ R.locals) (hnd : y.cls ≠ "java/lang/invoke/MethodHandle" ∧ y.cls ≠ "java/lang/invoke/VarHandle" ∧ (parseMethodDescriptor y.desc).map (fun d => d.parameters.length) = some n) (hn : As.length = n) (k : z_G p l e R s m args below meth c nL D κ a A kc ks Q σ' lv (pc + 3) (.int (zI z) :: rest)) : z_G p l e R s m args below meth c nL D κ a A kc ks Q σ lv pc st := by
  subst hst
  intro ls H locs hl hP hS
  exact va_calli (va_runS (As := As) (rest := rest) X.1 hM (va_cwS n X.1.2.2.2.2 (z_goodS h1 h2 h4 h5) rfl rfl rfl hnd hR) ⟨z_blind, fun U hU hW2 => ⟨rfl, by rw [hU]; exact hP, X.2.1.warm hW2⟩⟩ rfl hn hl.1 rfl (lv_room hW) hd ⟨X.2.2.2.1, X.2.2.2.2⟩) hS (fun q _ h => h) (fun q h => h) (fun r _ t H1 locs1 ht _ hr hB _ _ hS1 => by
    rw [show r = zI z from hr]
    rw [ht] at hB
    exact k ls H1 locs1 hl hB hS1)
theorem r_callSNi (X : z_X p R s m args c cc own nL D κ a A kc ks) {y : MethodName} {d maxL ix n : Nat} {bytes : ByteArray} {ret : Option FieldType} {As rest : List Value} {σ' : zSt} {z : Int} {host : String} (hM : z_Ti l D κ a A y bytes maxL ret d As σ z σ') (hd : decode cc pc = .ok (.invokestatic ix, 3)) (h5 : Cond.code y bytes maxL ret ∈ z_TT) (hlk : va_Nw (.methodLinkNest own ix y host) s) (hstat : Cond.static y ∈ z_TT) (hini : Cond.initialized y.cls ∈ z_TT) (hst : st = As.reverse ++ rest) (hW : (rest.map fun v => v.category).sum ≤ 8) (hR : d + 1 ≤ R.frames ∧ 8 + (maxL + 11) + 64 * d ≤ R.locals) (hnd : y.cls ≠ "java/lang/invoke/MethodHandle" ∧ y.cls ≠ "java/lang/invoke/VarHandle" ∧ (parseMethodDescriptor y.desc).map (fun d => d.parameters.length) = some n) (hn : As.length = n) (k : z_G p l e R s m args below meth c nL D κ a A kc ks Q σ' lv (pc + 3) (.int (zI z) :: rest)) : z_G p l e R s m args below meth c nL D κ a A kc ks Q σ lv pc st := by
  subst hst
  intro ls H locs hl hP hS
  exact va_calli (va_runSN (As := As) (rest := rest) X.1 hM ⟨va_cnB n X.1.2.2.2.2 (z_goodN h5) rfl rfl rfl hlk (X.1.2.2.2.2 _ hini) hnd hR, X.1.2.2.2.2 _ hstat, trivial⟩ ⟨z_blind, fun U hU hW2 => ⟨rfl, by rw [hU]; exact hP, X.2.1.warm hW2⟩⟩ rfl hn hl.1 rfl (lv_room hW) hd ⟨X.2.2.2.1, X.2.2.2.2⟩) hS (fun q _ h => h) (fun q h => h) (fun r _ t H1 locs1 ht _ hr hB _ _ hS1 => by
    rw [show r = zI z from hr]
    rw [ht] at hB
    exact k ls H1 locs1 hl hB hS1)
theorem r_callVNi (X : z_X p R s m args c cc own nL D κ a A kc ks) {y : MethodName} {d maxL ix n : Nat} {bytes : ByteArray} {ret : Option FieldType} {As rest : List Value} {σ' : zSt} {z : Int} {host : String} {q ci N : Nat} {C : String} {T : u_T} {fs : (Int → Int) → List Value} (hM : z_Ti l D κ a A y bytes maxL ret d (.ref (a q) :: As) σ z σ') (hd : decode cc pc = .ok (.invokevirtual ix, 3)) (h5 : Cond.code y bytes maxL ret ∈ z_TT) (hlk : va_Nw (.methodLinkNest own ix y host) s) (hsel : Cond.selects C y y ∈ z_TT) (hinst : Cond.instanceMethod y ∈ z_TT) (hini : Cond.initialized y.cls ∈ z_TT) (hE : ∀ f, z_ce κ a q f = .inr (ci, fs f)) (hq : q < 96) (hc : vwCl[ci]? = some (C, T, N)) (hst : st = As.reverse ++ .ref (a q) :: rest) (hW : (rest.map fun v => v.category).sum ≤ 8) (hR : d + 1 ≤ R.frames ∧ 8 + (maxL + 11) + 64 * d ≤ R.locals) (hnd : y.cls ≠ "java/lang/invoke/MethodHandle" ∧ y.cls ≠ "java/lang/invoke/VarHandle" ∧ (parseMethodDescriptor y.desc).map (fun d => d.parameters.length) = some n) (hn : As.length = n) (k : z_G p l e R s m args below meth c nL D κ a A kc ks Q σ' lv (pc + 3) (.int (zI z) :: rest)) : z_G p l e R s m args below meth c nL D κ a A kc ks Q σ lv pc st := by
  subst hst
  intro ls H locs hl hP hS
  exact va_calli (va_runVN (As := As) (rest := rest) X.1 hM ⟨va_cnB n X.1.2.2.2.2 (z_goodN h5) rfl rfl rfl hlk (X.1.2.2.2.2 _ hini) hnd hR, X.1.2.2.2.2 _ hinst, X.1.2.2.2.2 _ hsel⟩ ⟨z_blind, va_recv (ws := z_w κ a σ) (q0 := q) (ci := ci) X.2.1.1 hP hc (by rw [z_w_at hq, hE]), fun U hU hW2 => ⟨rfl, by rw [hU]; exact hP, X.2.1.warm hW2⟩⟩ rfl hn hl.1 rfl (lv_room hW) hd ⟨X.2.2.2.1, X.2.2.2.2⟩) hS (fun q _ h => h) (fun q h => h) (fun r _ t H1 locs1 ht _ hr hB _ _ hS1 => by
    rw [show r = zI z from hr]
    rw [ht] at hB
    exact k ls H1 locs1 hl hB hS1)
theorem r_callVv (X : z_X p R s m args c cc own nL D κ a A kc ks) {y : MethodName} {d maxL ix n : Nat} {bytes : ByteArray} {ret : Option FieldType} {As rest : List Value} {σ' : zSt}  {q ci N : Nat} {C : String} {T : u_T} {fs : (Int → Int) → List Value} (hM : z_Tv l D κ a A y bytes maxL ret d (.ref (a q) :: As) σ  σ') (hd : decode cc pc = .ok (.invokevirtual ix, 3)) (h1 : Cond.methodLink own ix y ∈ z_TT) (h2 : Cond.instanceMethod y ∈ z_TT) (h3 : Cond.selects C y y ∈ z_TT) (h4 : Cond.initialized C ∈ z_TT) (h5 : Cond.code y bytes maxL ret ∈ z_TT) (hE : ∀ f, z_ce κ a q f = .inr (ci, fs f)) (hq : q < 96) (hc : vwCl[ci]? = some (C, T, N)) (hst : st = As.reverse ++ .ref (a q) :: rest) (hW : (rest.map fun v => v.category).sum ≤ 8) (hR : d + 1 ≤ R.frames ∧ 8 + (maxL + 11) + 64 * d ≤ R.locals) (hnd : y.cls = C ∧ y.cls ≠ "java/lang/invoke/MethodHandle" ∧ y.cls ≠ "java/lang/invoke/VarHandle" ∧ (parseMethodDescriptor y.desc).map (fun d => d.parameters.length) = some n) (hn : As.length = n) (k : z_G p l e R s m args below meth c nL D κ a A kc ks Q σ' lv (pc + 3) rest) : z_G p l e R s m args below meth c nL D κ a A kc ks Q σ lv pc st := by
  subst hst
  intro ls H locs hl hP hS
  exact va_callv (va_runV (As := As) (rest := rest) X.1 hM (cwV n X.1.2.2.2.2 (z_goodV h1 h2 h3 h4 h5) rfl rfl rfl hnd hR) ⟨z_blind, va_recv (ws := z_w κ a σ) (q0 := q) (ci := ci) X.2.1.1 hP hc (by rw [z_w_at hq, hE]), fun U hU hW2 => ⟨rfl, by rw [hU]; exact hP, X.2.1.warm hW2⟩⟩ rfl hn hl.1 rfl (lv_room hW) hd ⟨X.2.2.2.1, X.2.2.2.2⟩) hS (fun q _ h => h) (fun q h => h) (fun _ t H1 locs1 ht _ _ hB _ _ hS1 => by
    rw [ht] at hB
    exact k ls H1 locs1 hl hB hS1)
theorem r_callSv (X : z_X p R s m args c cc own nL D κ a A kc ks) {y : MethodName} {d maxL ix n : Nat} {bytes : ByteArray} {ret : Option FieldType} {As rest : List Value} {σ' : zSt}  (hM : z_Tv l D κ a A y bytes maxL ret d As σ  σ') (hd : decode cc pc = .ok (.invokestatic ix, 3)) (h1 : Cond.methodLink own ix y ∈ z_TT) (h2 : Cond.static y ∈ z_TT) (h4 : Cond.initialized y.cls ∈ z_TT) (h5 : Cond.code y bytes maxL ret ∈ z_TT) (hst : st = As.reverse ++ rest) (hW : (rest.map fun v => v.category).sum ≤ 8) (hR : d + 1 ≤ R.frames ∧ 8 + (maxL + 11) + 64 * d ≤ R.locals) (hnd : y.cls ≠ "java/lang/invoke/MethodHandle" ∧ y.cls ≠ "java/lang/invoke/VarHandle" ∧ (parseMethodDescriptor y.desc).map (fun d => d.parameters.length) = some n) (hn : As.length = n) (k : z_G p l e R s m args below meth c nL D κ a A kc ks Q σ' lv (pc + 3) rest) : z_G p l e R s m args below meth c nL D κ a A kc ks Q σ lv pc st := by
  subst hst
  intro ls H locs hl hP hS
  exact va_callv (va_runS (As := As) (rest := rest) X.1 hM (va_cwS n X.1.2.2.2.2 (z_goodS h1 h2 h4 h5) rfl rfl rfl hnd hR) ⟨z_blind, fun U hU hW2 => ⟨rfl, by rw [hU]; exact hP, X.2.1.warm hW2⟩⟩ rfl hn hl.1 rfl (lv_room hW) hd ⟨X.2.2.2.1, X.2.2.2.2⟩) hS (fun q _ h => h) (fun q h => h) (fun _ t H1 locs1 ht _ _ hB _ _ hS1 => by
    rw [ht] at hB
    exact k ls H1 locs1 hl hB hS1)
theorem r_callSNv (X : z_X p R s m args c cc own nL D κ a A kc ks) {y : MethodName} {d maxL ix n : Nat} {bytes : ByteArray} {ret : Option FieldType} {As rest : List Value} {σ' : zSt}  {host : String} (hM : z_Tv l D κ a A y bytes maxL ret d As σ  σ') (hd : decode cc pc = .ok (.invokestatic ix, 3)) (h5 : Cond.code y bytes maxL ret ∈ z_TT) (hlk : va_Nw (.methodLinkNest own ix y host) s) (hstat : Cond.static y ∈ z_TT) (hini : Cond.initialized y.cls ∈ z_TT) (hst : st = As.reverse ++ rest) (hW : (rest.map fun v => v.category).sum ≤ 8) (hR : d + 1 ≤ R.frames ∧ 8 + (maxL + 11) + 64 * d ≤ R.locals) (hnd : y.cls ≠ "java/lang/invoke/MethodHandle" ∧ y.cls ≠ "java/lang/invoke/VarHandle" ∧ (parseMethodDescriptor y.desc).map (fun d => d.parameters.length) = some n) (hn : As.length = n) (k : z_G p l e R s m args below meth c nL D κ a A kc ks Q σ' lv (pc + 3) rest) : z_G p l e R s m args below meth c nL D κ a A kc ks Q σ lv pc st := by
  subst hst
  intro ls H locs hl hP hS
  exact va_callv (va_runSN (As := As) (rest := rest) X.1 hM ⟨va_cnB n X.1.2.2.2.2 (z_goodN h5) rfl rfl rfl hlk (X.1.2.2.2.2 _ hini) hnd hR, X.1.2.2.2.2 _ hstat, trivial⟩ ⟨z_blind, fun U hU hW2 => ⟨rfl, by rw [hU]; exact hP, X.2.1.warm hW2⟩⟩ rfl hn hl.1 rfl (lv_room hW) hd ⟨X.2.2.2.1, X.2.2.2.2⟩) hS (fun q _ h => h) (fun q h => h) (fun _ t H1 locs1 ht _ _ hB _ _ hS1 => by
    rw [ht] at hB
    exact k ls H1 locs1 hl hB hS1)
theorem r_callVNv (X : z_X p R s m args c cc own nL D κ a A kc ks) {y : MethodName} {d maxL ix n : Nat} {bytes : ByteArray} {ret : Option FieldType} {As rest : List Value} {σ' : zSt}  {host : String} {q ci N : Nat} {C : String} {T : u_T} {fs : (Int → Int) → List Value} (hM : z_Tv l D κ a A y bytes maxL ret d (.ref (a q) :: As) σ  σ') (hd : decode cc pc = .ok (.invokevirtual ix, 3)) (h5 : Cond.code y bytes maxL ret ∈ z_TT) (hlk : va_Nw (.methodLinkNest own ix y host) s) (hsel : Cond.selects C y y ∈ z_TT) (hinst : Cond.instanceMethod y ∈ z_TT) (hini : Cond.initialized y.cls ∈ z_TT) (hE : ∀ f, z_ce κ a q f = .inr (ci, fs f)) (hq : q < 96) (hc : vwCl[ci]? = some (C, T, N)) (hst : st = As.reverse ++ .ref (a q) :: rest) (hW : (rest.map fun v => v.category).sum ≤ 8) (hR : d + 1 ≤ R.frames ∧ 8 + (maxL + 11) + 64 * d ≤ R.locals) (hnd : y.cls ≠ "java/lang/invoke/MethodHandle" ∧ y.cls ≠ "java/lang/invoke/VarHandle" ∧ (parseMethodDescriptor y.desc).map (fun d => d.parameters.length) = some n) (hn : As.length = n) (k : z_G p l e R s m args below meth c nL D κ a A kc ks Q σ' lv (pc + 3) rest) : z_G p l e R s m args below meth c nL D κ a A kc ks Q σ lv pc st := by
  subst hst
  intro ls H locs hl hP hS
  exact va_callv (va_runVN (As := As) (rest := rest) X.1 hM ⟨va_cnB n X.1.2.2.2.2 (z_goodN h5) rfl rfl rfl hlk (X.1.2.2.2.2 _ hini) hnd hR, X.1.2.2.2.2 _ hinst, X.1.2.2.2.2 _ hsel⟩ ⟨z_blind, va_recv (ws := z_w κ a σ) (q0 := q) (ci := ci) X.2.1.1 hP hc (by rw [z_w_at hq, hE]), fun U hU hW2 => ⟨rfl, by rw [hU]; exact hP, X.2.1.warm hW2⟩⟩ rfl hn hl.1 rfl (lv_room hW) hd ⟨X.2.2.2.1, X.2.2.2.2⟩) hS (fun q _ h => h) (fun q h => h) (fun _ t H1 locs1 ht _ _ hB _ _ hS1 => by
    rw [ht] at hB
    exact k ls H1 locs1 hl hB hS1)
theorem r_mmax (X : z_X p R s m args c cc own nL D κ a A kc ks) {x y : Int} {ix : Nat} (hd : decode cc pc = .ok (.invokestatic ix, 3)) (hr : z_in x ∧ z_in y) (hlk : Cond.methodLink own ix Lib.Math.max.name ∈ z_TT) (hst : Cond.static Lib.Math.max.name ∈ z_TT) (hini : Cond.initialized "java/lang/Math" ∈ z_TT) (hco : Cond.code Lib.Math.max.name Lib.Math.max.code 2 (some .int) ∈ z_TT) (hR : 1 ≤ R.frames ∧ (st.map fun v => v.category).sum + 13 ≤ R.locals) (k : z_G p l e R s m args below meth c nL D κ a A kc ks Q σ lv (pc + 3) (.int (zI (max x y)) :: st)) : z_G p l e R s m args below meth c nL D κ a A kc ks Q σ lv pc (.int (zI y) :: .int (zI x) :: st) := by
  intro ls H locs hl hP hS
  refine va_mmax X.1.1 X.1.2.1 (X.1.2.2.1.trans hl.1.symm) X.1.2.2.2.1 (X.1.2.2.2.2 _ hlk) (X.1.2.2.2.2 _ hst) (X.1.2.2.2.2 _ hini) (X.1.2.2.2.2 _ hco) hR.1 hR.2 X.2.2.2.1 X.2.2.2.2 hd ?_
  have hk := k ls H locs hl hP hS
  have e1 : zI x < zI y ↔ x < y := zI_lt hr.1 hr.2
  by_cases h : x < y
  · rw [show max x y = y by omega] at hk
    rw [if_pos (e1.mpr h)]
    exact hk
  · rw [show max x y = x by omega] at hk
    rw [if_neg (fun q => h (e1.mp q))]
    exact hk
theorem r_mmin (X : z_X p R s m args c cc own nL D κ a A kc ks) {x y : Int} {ix : Nat} (hd : decode cc pc = .ok (.invokestatic ix, 3)) (hr : z_in x ∧ z_in y) (hlk : Cond.methodLink own ix Lib.Math.min.name ∈ z_TT) (hst : Cond.static Lib.Math.min.name ∈ z_TT) (hini : Cond.initialized "java/lang/Math" ∈ z_TT) (hco : Cond.code Lib.Math.min.name Lib.Math.min.code 2 (some .int) ∈ z_TT) (hR : 1 ≤ R.frames ∧ (st.map fun v => v.category).sum + 13 ≤ R.locals) (k : z_G p l e R s m args below meth c nL D κ a A kc ks Q σ lv (pc + 3) (.int (zI (min x y)) :: st)) : z_G p l e R s m args below meth c nL D κ a A kc ks Q σ lv pc (.int (zI y) :: .int (zI x) :: st) := by
  intro ls H locs hl hP hS
  refine va_mmin X.1.1 X.1.2.1 (X.1.2.2.1.trans hl.1.symm) X.1.2.2.2.1 (X.1.2.2.2.2 _ hlk) (X.1.2.2.2.2 _ hst) (X.1.2.2.2.2 _ hini) (X.1.2.2.2.2 _ hco) hR.1 hR.2 X.2.2.2.1 X.2.2.2.2 hd ?_
  have hk := k ls H locs hl hP hS
  have e1 : zI y < zI x ↔ y < x := zI_lt hr.2 hr.1
  by_cases h : y < x
  · rw [show min x y = y by omega] at hk
    rw [if_pos (e1.mpr h)]
    exact hk
  · rw [show min x y = x by omega] at hk
    rw [if_neg (fun q => h (e1.mp q))]
    exact hk
def z_abs (x : Int) : Int := if x < 0 then -x else x
theorem r_mabs (X : z_X p R s m args c cc own nL D κ a A kc ks) {x : Int} {ix : Nat} (hd : decode cc pc = .ok (.invokestatic ix, 3)) (hr : z_in x) (hlk : Cond.methodLink own ix Lib.Math.abs.name ∈ z_TT) (hst : Cond.static Lib.Math.abs.name ∈ z_TT) (hini : Cond.initialized "java/lang/Math" ∈ z_TT) (hco : Cond.code Lib.Math.abs.name Lib.Math.abs.code 1 (some .int) ∈ z_TT) (hR : 1 ≤ R.frames ∧ (st.map fun v => v.category).sum + 13 ≤ R.locals) (k : z_G p l e R s m args below meth c nL D κ a A kc ks Q σ lv (pc + 3) (.int (zI (z_abs x)) :: st)) : z_G p l e R s m args below meth c nL D κ a A kc ks Q σ lv pc (.int (zI x) :: st) := by
  intro ls H locs hl hP hS
  refine va_mabs X.1.1 X.1.2.1 (X.1.2.2.1.trans hl.1.symm) X.1.2.2.2.1 (X.1.2.2.2.2 _ hlk) (X.1.2.2.2.2 _ hst) (X.1.2.2.2.2 _ hini) (X.1.2.2.2.2 _ hco) hR.1 hR.2 X.2.2.2.1 X.2.2.2.2 hd ?_
  have hk := k ls H locs hl hP hS
  have e1 := zI_0le hr
  have e2 : (0 : Int32) - zI x = zI (-x) := by rw [← zI_0, ← zI_sub, Int.zero_sub]
  unfold z_abs at hk
  by_cases h : x < 0
  · rw [if_pos h] at hk
    rw [if_neg (fun q => by have := e1.mp q; omega), e2]
    exact hk
  · rw [if_neg h] at hk
    rw [if_pos (e1.mpr (by omega))]
    exact hk
end ZM
end
section
section ZP
variable {p : Program} {l : Launch} {e : Env} {R : Room} {s : State} {m : MethodId} {args : Array Value} {below : List Frame} {meth : Method} {c : Code} {cc : ByteArray} {own : String} {nL : Nat} {D : va_G} {κ : Nat → ClassId} {a : Nat → Nat} {A : Nat → Prop} {kc ks : Nat} {Q : State → Prop}
variable {σ : zSt} {lv : List (Option Value)} {pc : Nat} {st : List Value}
def z_Qp (D : va_G) (κ : Nat → ClassId) (a : Nat → Nat) (A : Nat → Prop) (Po : Int → zSt → Prop) : Array Value → State → Outcome → State → Prop := va_Qi (fun r (u : Int × zSt) => r = zI u.1 ∧ Po u.1 u.2) (fun u t => va_P D vwCl (z_w κ a u.2) t.heap) A
def z_Qq (D : va_G) (κ : Nat → ClassId) (a : Nat → Nat) (A : Nat → Prop) (Po : zSt → Prop) : Array Value → State → Outcome → State → Prop := va_Qv (fun (u : zSt) => Po u) (fun u t => va_P D vwCl (z_w κ a u) t.heap) A
/-- the method y answers some z, the world holds some σ' behind it, and Po of them -/
def z_Tp (l : Launch) (D : va_G) (κ : Nat → ClassId) (a : Nat → Nat) (A : Nat → Prop) (y : MethodName) (bytes : ByteArray) (maxL : Nat) (ret : Option FieldType) (d : Nat) (av : List Value) (σ : zSt) (Po : Int → zSt → Prop) : Prop := Met l y (.code y bytes maxL ret :: z_TT) (z_rm d) (z_Pc D κ a av σ) (z_Qp D κ a A Po) 0 0 A
def z_Tq (l : Launch) (D : va_G) (κ : Nat → ClassId) (a : Nat → Nat) (A : Nat → Prop) (y : MethodName) (bytes : ByteArray) (maxL : Nat) (ret : Option FieldType) (d : Nat) (av : List Value) (σ : zSt) (Po : zSt → Prop) : Prop := Met l y (.code y bytes maxL ret :: z_TT) (z_rm d) (z_Pc D κ a av σ) (z_Qq D κ a A Po) 0 0 A
theorem z_Tp_of {y : MethodName} {d maxL : Nat} {cc : ByteArray} {ret : Option FieldType} {own : String} {av : List Value} {σ : zSt} {Po : Int → zSt → Prop} {lv0 : List (Option Value)} (hA : z_aD a A) (hy : plainName y.cls = true) (ho : y.cls = own) (hlen : (lg_sl av).length ≤ maxL) (hl0 : lv_args 0 av = z_as 0 lv0)
    (body : ∀ (p : Program) (e : Env) (s : State) (m : MethodId) (below : List Frame) (meth : Method) (c : Code), z_X p (z_rm d) s m av.toArray c cc own maxL D κ a A 0 0 → z_M meth ret → z_G p l e (z_rm d) s m av.toArray below meth c maxL D κ a A 0 0 (MQ below (z_Qp D κ a A Po) av.toArray s 0 0 A) σ lv0 0 []) : z_Tp l D κ a A y cc maxL ret d av σ Po := by
  refine Met.ofW (cc := cc) (maxL := maxL) (ret := ret) hy rfl ?_
  intro p e s m args below meth c s₁ B hml hv
  obtain ⟨rfl, hP, hK⟩ := hv
  have hown : s.vm.findClass own = some m.cls := by rw [← ho]; exact findClass_of_methodNamed B.named
  have hl := lv_entry av (n := maxL) hlen
  rw [lg_entry_eq]
  rw [hl0] at hl
  exact body p e s m below meth c ⟨⟨B.exec, B.bytes, hml, hown, fun w hw => atoms_spec (ws := Cond.code y cc maxL ret :: z_TT) B.pre w (List.mem_cons_of_mem _ hw)⟩, hK, hA, Nat.zero_le _, Nat.zero_le _⟩ ⟨B.returns, B.notSynchronized⟩ _ _ _ hl hP va_S.rf
theorem z_Tq_of {y : MethodName} {d maxL : Nat} {cc : ByteArray} {ret : Option FieldType} {own : String} {av : List Value} {σ : zSt} {Po : zSt → Prop} {lv0 : List (Option Value)} (hA : z_aD a A) (hy : plainName y.cls = true) (ho : y.cls = own) (hlen : (lg_sl av).length ≤ maxL) (hl0 : lv_args 0 av = z_as 0 lv0)
    (body : ∀ (p : Program) (e : Env) (s : State) (m : MethodId) (below : List Frame) (meth : Method) (c : Code), z_X p (z_rm d) s m av.toArray c cc own maxL D κ a A 0 0 → z_M meth ret → z_G p l e (z_rm d) s m av.toArray below meth c maxL D κ a A 0 0 (MQ below (z_Qq D κ a A Po) av.toArray s 0 0 A) σ lv0 0 []) : z_Tq l D κ a A y cc maxL ret d av σ Po := by
  refine Met.ofW (cc := cc) (maxL := maxL) (ret := ret) hy rfl ?_
  intro p e s m args below meth c s₁ B hml hv
  obtain ⟨rfl, hP, hK⟩ := hv
  have hown : s.vm.findClass own = some m.cls := by rw [← ho]; exact findClass_of_methodNamed B.named
  have hl := lv_entry av (n := maxL) hlen
  rw [lg_entry_eq]
  rw [hl0] at hl
  exact body p e s m below meth c ⟨⟨B.exec, B.bytes, hml, hown, fun w hw => atoms_spec (ws := Cond.code y cc maxL ret :: z_TT) B.pre w (List.mem_cons_of_mem _ hw)⟩, hK, hA, Nat.zero_le _, Nat.zero_le _⟩ ⟨B.returns, B.notSynchronized⟩ _ _ _ hl hP va_S.rf
theorem r_iretp (X : z_X p R s m args c cc own nL D κ a A kc ks) (M : z_M meth (some .int)) {x : Int} {Po : Int → zSt → Prop} (hd : decode cc pc = .ok (.ireturn, 1)) (hz : Po x σ) : z_G p l e R s m args below meth c nL D κ a A kc ks (MQ below (z_Qp D κ a A Po) args s kc ks A) σ lv pc [.int (zI x)] :=
  fun ls H locs hl hP hS => W.iret (v := zI x) X.1.1 X.1.2.1 M.1 (fun t ht hW => ⟨⟨zI x, (x, σ), rfl, ⟨rfl, hz⟩, by show va_P D vwCl (z_w κ a σ) t.heap; rw [ht]; exact hP⟩, hS.F ht⟩) hS.2.2 hd M.2
theorem r_zretp (X : z_X p R s m args c cc own nL D κ a A kc ks) (M : z_M meth (some .boolean)) {x : Int} {Po : Int → zSt → Prop} (hd : decode cc pc = .ok (.ireturn, 1)) (h01 : x = 0 ∨ x = 1) (hz : Po x σ) : z_G p l e R s m args below meth c nL D κ a A kc ks (MQ below (z_Qp D κ a A Po) args s kc ks A) σ lv pc [.int (zI x)] :=
  fun ls H locs hl hP hS => W.zret (v := zI x) X.1.1 X.1.2.1 M.1 (zI_narB h01) (fun t ht hW => ⟨⟨zI x, (x, σ), rfl, ⟨rfl, hz⟩, by show va_P D vwCl (z_w κ a σ) t.heap; rw [ht]; exact hP⟩, hS.F ht⟩) hS.2.2 hd M.2
theorem r_vretp (X : z_X p R s m args c cc own nL D κ a A kc ks) (M : z_M meth none) {Po : zSt → Prop} (hd : decode cc pc = .ok (.return_, 1)) (hz : Po σ) : z_G p l e R s m args below meth c nL D κ a A kc ks (MQ below (z_Qq D κ a A Po) args s kc ks A) σ lv pc [] :=
  fun ls H locs hl hP hS => W.vret X.1.1 X.1.2.1 M.1 (fun t ht hW => ⟨⟨σ, rfl, hz, by show va_P D vwCl (z_w κ a σ) t.heap; rw [ht]; exact hP⟩, hS.F ht⟩) hS.2.2 hd M.2
/-- an exact answer is a kind of answer -/
theorem z_Ti_p {y : MethodName} {bytes : ByteArray} {maxL : Nat} {ret : Option FieldType} {d : Nat} {av : List Value} {z : Int} {σ' : zSt} (h : z_Ti l D κ a A y bytes maxL ret d av σ z σ') : z_Tp l D κ a A y bytes maxL ret d av σ (fun x s => x = z ∧ s = σ') := by
  intro p e ha hc hk s m args below hf happ hpre hcalls
  obtain ⟨k, o, h1, h2, h3, ⟨⟨r, u, e1, e2, e3⟩, hF⟩, hL⟩ := h p e ha hc hk s m args below hf happ hpre hcalls
  exact ⟨k, o, h1, h2, h3, ⟨⟨r, (z, σ'), e1, ⟨e2, rfl, rfl⟩, e3⟩, hF⟩, hL⟩
theorem r_callVp (X : z_X p R s m args c cc own nL D κ a A kc ks) {y : MethodName} {d maxL ix n : Nat} {bytes : ByteArray} {ret : Option FieldType} {As rest : List Value} {Po : Int → zSt → Prop} {q ci N : Nat} {C : String} {T : u_T} {fs : (Int → Int) → List Value} (hM : z_Tp l D κ a A y bytes maxL ret d (.ref (a q) :: As) σ Po) (hd : decode cc pc = .ok (.invokevirtual ix, 3)) (h1 : Cond.methodLink own ix y ∈ z_TT) (h2 : Cond.instanceMethod y ∈ z_TT) (h3 : Cond.selects C y y ∈ z_TT) (h4 : Cond.initialized C ∈ z_TT) (h5 : Cond.code y bytes maxL ret ∈ z_TT) (hE : ∀ f, z_ce κ a q f = .inr (ci, fs f)) (hq : q < 96) (hc : vwCl[ci]? = some (C, T, N)) (hst : st = As.reverse ++ .ref (a q) :: rest) (hW : (rest.map fun v => v.category).sum ≤ 8) (hR : d + 1 ≤ R.frames ∧ 8 + (maxL + 11) + 64 * d ≤ R.locals) (hnd : y.cls = C ∧ y.cls ≠ "java/lang/invoke/MethodHandle" ∧ y.cls ≠ "java/lang/invoke/VarHandle" ∧ (parseMethodDescriptor y.desc).map (fun d => d.parameters.length) = some n) (hn : As.length = n) (k : ∀ (z : Int) (σ' : zSt), Po z σ' → z_G p l e R s m args below meth c nL D κ a A kc ks Q σ' lv (pc + 3) (.int (zI z) :: rest)) : z_G p l e R s m args below meth c nL D κ a A kc ks Q σ lv pc st := by
  subst hst
  intro ls H locs hl hP hS
  exact va_calli (va_runV (As := As) (rest := rest) X.1 hM (cwV n X.1.2.2.2.2 (z_goodV h1 h2 h3 h4 h5) rfl rfl rfl hnd hR) ⟨z_blind, va_recv (ws := z_w κ a σ) (q0 := q) (ci := ci) X.2.1.1 hP hc (by rw [z_w_at hq, hE]), fun U hU hW2 => ⟨rfl, by rw [hU]; exact hP, X.2.1.warm hW2⟩⟩ rfl hn hl.1 rfl (lv_room hW) hd ⟨X.2.2.2.1, X.2.2.2.2⟩) hS (fun q _ h => h) (fun q h => h) (fun r u t H1 locs1 ht _ hr hB _ _ hS1 => by
    rw [hr.1]
    rw [ht] at hB
    exact k u.1 u.2 hr.2 ls H1 locs1 hl hB hS1)
theorem r_callSp (X : z_X p R s m args c cc own nL D κ a A kc ks) {y : MethodName} {d maxL ix n : Nat} {bytes : ByteArray} {ret : Option FieldType} {As rest : List Value} {Po : Int → zSt → Prop} (hM : z_Tp l D κ a A y bytes maxL ret d As σ Po) (hd : decode cc pc = .ok (.invokestatic ix, 3)) (h1 : Cond.methodLink own ix y ∈ z_TT) (h2 : Cond.static y ∈ z_TT) (h4 : Cond.initialized y.cls ∈ z_TT) (h5 : Cond.code y bytes maxL ret ∈ z_TT) (hst : st = As.reverse ++ rest) (hW : (rest.map fun v => v.category).sum ≤ 8) (hR : d + 1 ≤ R.frames ∧ 8 + (maxL + 11) + 64 * d ≤ R.locals) (hnd : y.cls ≠ "java/lang/invoke/MethodHandle" ∧ y.cls ≠ "java/lang/invoke/VarHandle" ∧ (parseMethodDescriptor y.desc).map (fun d => d.parameters.length) = some n) (hn : As.length = n) (k : ∀ (z : Int) (σ' : zSt), Po z σ' → z_G p l e R s m args below meth c nL D κ a A kc ks Q σ' lv (pc + 3) (.int (zI z) :: rest)) : z_G p l e R s m args below meth c nL D κ a A kc ks Q σ lv pc st := by
  subst hst
  intro ls H locs hl hP hS
  exact va_calli (va_runS (As := As) (rest := rest) X.1 hM (va_cwS n X.1.2.2.2.2 (z_goodS h1 h2 h4 h5) rfl rfl rfl hnd hR) ⟨z_blind, fun U hU hW2 => ⟨rfl, by rw [hU]; exact hP, X.2.1.warm hW2⟩⟩ rfl hn hl.1 rfl (lv_room hW) hd ⟨X.2.2.2.1, X.2.2.2.2⟩) hS (fun q _ h => h) (fun q h => h) (fun r u t H1 locs1 ht _ hr hB _ _ hS1 => by
    rw [hr.1]
    rw [ht] at hB
    exact k u.1 u.2 hr.2 ls H1 locs1 hl hB hS1)
theorem r_callVNp (X : z_X p R s m args c cc own nL D κ a A kc ks) {y : MethodName} {d maxL ix n : Nat} {bytes : ByteArray} {ret : Option FieldType} {As rest : List Value} {Po : Int → zSt → Prop} {host : String} {q ci N : Nat} {C : String} {T : u_T} {fs : (Int → Int) → List Value} (hM : z_Tp l D κ a A y bytes maxL ret d (.ref (a q) :: As) σ Po) (hd : decode cc pc = .ok (.invokevirtual ix, 3)) (h5 : Cond.code y bytes maxL ret ∈ z_TT) (hlk : va_Nw (.methodLinkNest own ix y host) s) (hsel : Cond.selects C y y ∈ z_TT) (hinst : Cond.instanceMethod y ∈ z_TT) (hini : Cond.initialized y.cls ∈ z_TT) (hE : ∀ f, z_ce κ a q f = .inr (ci, fs f)) (hq : q < 96) (hc : vwCl[ci]? = some (C, T, N)) (hst : st = As.reverse ++ .ref (a q) :: rest) (hW : (rest.map fun v => v.category).sum ≤ 8) (hR : d + 1 ≤ R.frames ∧ 8 + (maxL + 11) + 64 * d ≤ R.locals) (hnd : y.cls ≠ "java/lang/invoke/MethodHandle" ∧ y.cls ≠ "java/lang/invoke/VarHandle" ∧ (parseMethodDescriptor y.desc).map (fun d => d.parameters.length) = some n) (hn : As.length = n) (k : ∀ (z : Int) (σ' : zSt), Po z σ' → z_G p l e R s m args below meth c nL D κ a A kc ks Q σ' lv (pc + 3) (.int (zI z) :: rest)) : z_G p l e R s m args below meth c nL D κ a A kc ks Q σ lv pc st := by
  subst hst
  intro ls H locs hl hP hS
  exact va_calli (va_runVN (As := As) (rest := rest) X.1 hM ⟨va_cnB n X.1.2.2.2.2 (z_goodN h5) rfl rfl rfl hlk (X.1.2.2.2.2 _ hini) hnd hR, X.1.2.2.2.2 _ hinst, X.1.2.2.2.2 _ hsel⟩ ⟨z_blind, va_recv (ws := z_w κ a σ) (q0 := q) (ci := ci) X.2.1.1 hP hc (by rw [z_w_at hq, hE]), fun U hU hW2 => ⟨rfl, by rw [hU]; exact hP, X.2.1.warm hW2⟩⟩ rfl hn hl.1 rfl (lv_room hW) hd ⟨X.2.2.2.1, X.2.2.2.2⟩) hS (fun q _ h => h) (fun q h => h) (fun r u t H1 locs1 ht _ hr hB _ _ hS1 => by
    rw [hr.1]
    rw [ht] at hB
    exact k u.1 u.2 hr.2 ls H1 locs1 hl hB hS1)
theorem r_callVq (X : z_X p R s m args c cc own nL D κ a A kc ks) {y : MethodName} {d maxL ix n : Nat} {bytes : ByteArray} {ret : Option FieldType} {As rest : List Value} {Po : zSt → Prop} {q ci N : Nat} {C : String} {T : u_T} {fs : (Int → Int) → List Value} (hM : z_Tq l D κ a A y bytes maxL ret d (.ref (a q) :: As) σ Po) (hd : decode cc pc = .ok (.invokevirtual ix, 3)) (h1 : Cond.methodLink own ix y ∈ z_TT) (h2 : Cond.instanceMethod y ∈ z_TT) (h3 : Cond.selects C y y ∈ z_TT) (h4 : Cond.initialized C ∈ z_TT) (h5 : Cond.code y bytes maxL ret ∈ z_TT) (hE : ∀ f, z_ce κ a q f = .inr (ci, fs f)) (hq : q < 96) (hc : vwCl[ci]? = some (C, T, N)) (hst : st = As.reverse ++ .ref (a q) :: rest) (hW : (rest.map fun v => v.category).sum ≤ 8) (hR : d + 1 ≤ R.frames ∧ 8 + (maxL + 11) + 64 * d ≤ R.locals) (hnd : y.cls = C ∧ y.cls ≠ "java/lang/invoke/MethodHandle" ∧ y.cls ≠ "java/lang/invoke/VarHandle" ∧ (parseMethodDescriptor y.desc).map (fun d => d.parameters.length) = some n) (hn : As.length = n) (k : ∀ (σ' : zSt), Po σ' → z_G p l e R s m args below meth c nL D κ a A kc ks Q σ' lv (pc + 3) rest) : z_G p l e R s m args below meth c nL D κ a A kc ks Q σ lv pc st := by
  subst hst
  intro ls H locs hl hP hS
  exact va_callv (va_runV (As := As) (rest := rest) X.1 hM (cwV n X.1.2.2.2.2 (z_goodV h1 h2 h3 h4 h5) rfl rfl rfl hnd hR) ⟨z_blind, va_recv (ws := z_w κ a σ) (q0 := q) (ci := ci) X.2.1.1 hP hc (by rw [z_w_at hq, hE]), fun U hU hW2 => ⟨rfl, by rw [hU]; exact hP, X.2.1.warm hW2⟩⟩ rfl hn hl.1 rfl (lv_room hW) hd ⟨X.2.2.2.1, X.2.2.2.2⟩) hS (fun q _ h => h) (fun q h => h) (fun u t H1 locs1 ht _ hu hB _ _ hS1 => by
    rw [ht] at hB
    exact k u hu ls H1 locs1 hl hB hS1)
theorem r_callSq (X : z_X p R s m args c cc own nL D κ a A kc ks) {y : MethodName} {d maxL ix n : Nat} {bytes : ByteArray} {ret : Option FieldType} {As rest : List Value} {Po : zSt → Prop} (hM : z_Tq l D κ a A y bytes maxL ret d As σ Po) (hd : decode cc pc = .ok (.invokestatic ix, 3)) (h1 : Cond.methodLink own ix y ∈ z_TT) (h2 : Cond.static y ∈ z_TT) (h4 : Cond.initialized y.cls ∈ z_TT) (h5 : Cond.code y bytes maxL ret ∈ z_TT) (hst : st = As.reverse ++ rest) (hW : (rest.map fun v => v.category).sum ≤ 8) (hR : d + 1 ≤ R.frames ∧ 8 + (maxL + 11) + 64 * d ≤ R.locals) (hnd : y.cls ≠ "java/lang/invoke/MethodHandle" ∧ y.cls ≠ "java/lang/invoke/VarHandle" ∧ (parseMethodDescriptor y.desc).map (fun d => d.parameters.length) = some n) (hn : As.length = n) (k : ∀ (σ' : zSt), Po σ' → z_G p l e R s m args below meth c nL D κ a A kc ks Q σ' lv (pc + 3) rest) : z_G p l e R s m args below meth c nL D κ a A kc ks Q σ lv pc st := by
  subst hst
  intro ls H locs hl hP hS
  exact va_callv (va_runS (As := As) (rest := rest) X.1 hM (va_cwS n X.1.2.2.2.2 (z_goodS h1 h2 h4 h5) rfl rfl rfl hnd hR) ⟨z_blind, fun U hU hW2 => ⟨rfl, by rw [hU]; exact hP, X.2.1.warm hW2⟩⟩ rfl hn hl.1 rfl (lv_room hW) hd ⟨X.2.2.2.1, X.2.2.2.2⟩) hS (fun q _ h => h) (fun q h => h) (fun u t H1 locs1 ht _ hu hB _ _ hS1 => by
    rw [ht] at hB
    exact k u hu ls H1 locs1 hl hB hS1)
theorem r_callVNq (X : z_X p R s m args c cc own nL D κ a A kc ks) {y : MethodName} {d maxL ix n : Nat} {bytes : ByteArray} {ret : Option FieldType} {As rest : List Value} {Po : zSt → Prop} {host : String} {q ci N : Nat} {C : String} {T : u_T} {fs : (Int → Int) → List Value} (hM : z_Tq l D κ a A y bytes maxL ret d (.ref (a q) :: As) σ Po) (hd : decode cc pc = .ok (.invokevirtual ix, 3)) (h5 : Cond.code y bytes maxL ret ∈ z_TT) (hlk : va_Nw (.methodLinkNest own ix y host) s) (hsel : Cond.selects C y y ∈ z_TT) (hinst : Cond.instanceMethod y ∈ z_TT) (hini : Cond.initialized y.cls ∈ z_TT) (hE : ∀ f, z_ce κ a q f = .inr (ci, fs f)) (hq : q < 96) (hc : vwCl[ci]? = some (C, T, N)) (hst : st = As.reverse ++ .ref (a q) :: rest) (hW : (rest.map fun v => v.category).sum ≤ 8) (hR : d + 1 ≤ R.frames ∧ 8 + (maxL + 11) + 64 * d ≤ R.locals) (hnd : y.cls ≠ "java/lang/invoke/MethodHandle" ∧ y.cls ≠ "java/lang/invoke/VarHandle" ∧ (parseMethodDescriptor y.desc).map (fun d => d.parameters.length) = some n) (hn : As.length = n) (k : ∀ (σ' : zSt), Po σ' → z_G p l e R s m args below meth c nL D κ a A kc ks Q σ' lv (pc + 3) rest) : z_G p l e R s m args below meth c nL D κ a A kc ks Q σ lv pc st := by
  subst hst
  intro ls H locs hl hP hS
  exact va_callv (va_runVN (As := As) (rest := rest) X.1 hM ⟨va_cnB n X.1.2.2.2.2 (z_goodN h5) rfl rfl rfl hlk (X.1.2.2.2.2 _ hini) hnd hR, X.1.2.2.2.2 _ hinst, X.1.2.2.2.2 _ hsel⟩ ⟨z_blind, va_recv (ws := z_w κ a σ) (q0 := q) (ci := ci) X.2.1.1 hP hc (by rw [z_w_at hq, hE]), fun U hU hW2 => ⟨rfl, by rw [hU]; exact hP, X.2.1.warm hW2⟩⟩ rfl hn hl.1 rfl (lv_room hW) hd ⟨X.2.2.2.1, X.2.2.2.2⟩) hS (fun q _ h => h) (fun q h => h) (fun u t H1 locs1 ht _ hu hB _ _ hS1 => by
    rw [ht] at hB
    exact k u hu ls H1 locs1 hl hB hS1)
theorem zI_nat (n : Nat) : zI (n : Int) = nI n := Int32.ofInt_eq_ofNat ..
theorem zI_div {x y : Int} (hx : 0 ≤ x) (hx2 : x ≤ 2147483647) (hy : 0 < y) (hy2 : y ≤ 2147483647) : zI x / zI y = zI (x / y) := by
  obtain ⟨n, rfl⟩ := Int.eq_ofNat_of_zero_le hx
  obtain ⟨k, rfl⟩ := Int.eq_ofNat_of_zero_le (Int.le_of_lt hy)
  rw [zI_nat, zI_nat, pk_div (by omega) (by omega) (by omega), ← zI_nat]
  rfl
theorem r_idiv (X : z_X p R s m args c cc own nL D κ a A kc ks) {x y : Int} (hd : decode cc pc = .ok (.idiv, 1)) (hr : (0 ≤ x ∧ x ≤ 2147483647) ∧ 0 < y ∧ y ≤ 2147483647) (k : z_G p l e R s m args below meth c nL D κ a A kc ks Q σ lv (pc + 1) (.int (zI (x / y)) :: st)) : z_G p l e R s m args below meth c nL D κ a A kc ks Q σ lv pc (.int (zI y) :: .int (zI x) :: st) :=
  fun ls H locs hl hP hS => lv_idiv X.1.1 X.1.2.1 hd (fun h => by have := (zI_eq0 (x := y) ⟨by omega, by omega⟩).mp h; omega) (by rw [zI_div hr.1.1 hr.1.2 hr.2.1 hr.2.2]; exact k ls H locs hl hP hS)
theorem r_irem (X : z_X p R s m args c cc own nL D κ a A kc ks) {x y : Int} (hd : decode cc pc = .ok (.irem, 1)) (hr : (0 ≤ x ∧ x ≤ 2147483647) ∧ 0 < y ∧ y ≤ 2147483647) (k : z_G p l e R s m args below meth c nL D κ a A kc ks Q σ lv (pc + 1) (.int (zI (x % y)) :: st)) : z_G p l e R s m args below meth c nL D κ a A kc ks Q σ lv pc (.int (zI y) :: .int (zI x) :: st) :=
  fun ls H locs hl hP hS => lv_irem X.1.1 X.1.2.1 hd (fun h => by have := (zI_eq0 (x := y) ⟨by omega, by omega⟩).mp h; omega) (by rw [zI_div hr.1.1 hr.1.2 hr.2.1 hr.2.2, ← zI_mul, ← zI_sub, show x - x / y * y = x % y by rw [Int.emod_def, Int.mul_comm]]; exact k ls H locs hl hP hS)
/-- another word for the number on the stack -/
theorem r_eqi {x y : Int} (h : x = y) (k : z_G p l e R s m args below meth c nL D κ a A kc ks Q σ lv pc (.int (zI y) :: st)) : z_G p l e R s m args below meth c nL D κ a A kc ks Q σ lv pc (.int (zI x) :: st) := by rw [h]; exact k
theorem r_eqs {σ' : zSt} (h : σ = σ') (k : z_G p l e R s m args below meth c nL D κ a A kc ks Q σ' lv pc st) : z_G p l e R s m args below meth c nL D κ a A kc ks Q σ lv pc st := by rw [h]; exact k
theorem r_tabIn (X : z_X p R s m args c cc own nL D κ a A kc ks) {dflt lo hi : Int} {offs : Array Int} {len : Nat} {x : Int} {off : Int} {tgt : Nat} (hd : decode cc pc = .ok (.tableswitch dflt lo hi offs, len)) (hr : z_in x) (h1 : lo ≤ x ∧ x ≤ hi) (ho : offs[(x - lo).toNat]? = some off) (ht : (pc : Int) + off = (tgt : Int)) (k : z_G p l e R s m args below meth c nL D κ a A kc ks Q σ lv tgt st) : z_G p l e R s m args below meth c nL D κ a A kc ks Q σ lv pc (.int (zI x) :: st) :=
  fun ls H locs hl hP hS => lv_tableIn X.1.1 X.1.2.1 hd (by rw [zI_toInt hr]; omega) (by rw [zI_toInt hr]; omega) (by rw [zI_toInt hr]; exact ho) ht (k ls H locs hl hP hS)
theorem r_tabOut (X : z_X p R s m args c cc own nL D κ a A kc ks) {dflt lo hi : Int} {offs : Array Int} {len : Nat} {x : Int} {tgt : Nat} (hd : decode cc pc = .ok (.tableswitch dflt lo hi offs, len)) (hr : z_in x) (h1 : x < lo ∨ hi < x) (ht : (pc : Int) + dflt = (tgt : Int)) (k : z_G p l e R s m args below meth c nL D κ a A kc ks Q σ lv tgt st) : z_G p l e R s m args below meth c nL D κ a A kc ks Q σ lv pc (.int (zI x) :: st) :=
  fun ls H locs hl hP hS => lv_tableOut X.1.1 X.1.2.1 hd (by rw [zI_toInt hr]; omega) ht (k ls H locs hl hP hS)
end ZP
end
section
theorem dX6_init_0 : decode cX6_init 0 = .ok (.aload_n 0, 1) := by decide +kernel
theorem dX6_init_1 : decode cX6_init 1 = .ok (.invokespecial 1, 3) := by decide +kernel
theorem dX6_init_4 : decode cX6_init 4 = .ok (.aload_n 0, 1) := by decide +kernel
theorem dX6_init_5 : decode cX6_init 5 = .ok (.bipush 6, 2) := by decide +kernel
theorem dX6_init_7 : decode cX6_init 7 = .ok (.newarray .int, 2) := by decide +kernel
theorem dX6_init_9 : decode cX6_init 9 = .ok (.dup, 1) := by decide +kernel
theorem dX6_init_10 : decode cX6_init 10 = .ok (.iconst 0, 1) := by decide +kernel
theorem dX6_init_11 : decode cX6_init 11 = .ok (.iconst 0, 1) := by decide +kernel
theorem dX6_init_12 : decode cX6_init 12 = .ok (.iastore, 1) := by decide +kernel
theorem dX6_init_13 : decode cX6_init 13 = .ok (.dup, 1) := by decide +kernel
theorem dX6_init_14 : decode cX6_init 14 = .ok (.iconst 1, 1) := by decide +kernel
theorem dX6_init_15 : decode cX6_init 15 = .ok (.iconst 0, 1) := by decide +kernel
theorem dX6_init_16 : decode cX6_init 16 = .ok (.iastore, 1) := by decide +kernel
theorem dX6_init_17 : decode cX6_init 17 = .ok (.dup, 1) := by decide +kernel
theorem dX6_init_18 : decode cX6_init 18 = .ok (.iconst 2, 1) := by decide +kernel
theorem dX6_init_19 : decode cX6_init 19 = .ok (.iconst 1, 1) := by decide +kernel
theorem dX6_init_20 : decode cX6_init 20 = .ok (.iastore, 1) := by decide +kernel
theorem dX6_init_21 : decode cX6_init 21 = .ok (.dup, 1) := by decide +kernel
theorem dX6_init_22 : decode cX6_init 22 = .ok (.iconst 3, 1) := by decide +kernel
theorem dX6_init_23 : decode cX6_init 23 = .ok (.bipush 10, 2) := by decide +kernel
theorem dX6_init_25 : decode cX6_init 25 = .ok (.iastore, 1) := by decide +kernel
theorem dX6_init_26 : decode cX6_init 26 = .ok (.dup, 1) := by decide +kernel
theorem dX6_init_27 : decode cX6_init 27 = .ok (.iconst 4, 1) := by decide +kernel
theorem dX6_init_28 : decode cX6_init 28 = .ok (.bipush 20, 2) := by decide +kernel
theorem dX6_init_30 : decode cX6_init 30 = .ok (.iastore, 1) := by decide +kernel
theorem dX6_init_31 : decode cX6_init 31 = .ok (.dup, 1) := by decide +kernel
theorem dX6_init_32 : decode cX6_init 32 = .ok (.iconst 5, 1) := by decide +kernel
theorem dX6_init_33 : decode cX6_init 33 = .ok (.iconst 0, 1) := by decide +kernel
theorem dX6_init_34 : decode cX6_init 34 = .ok (.iastore, 1) := by decide +kernel
theorem dX6_init_35 : decode cX6_init 35 = .ok (.putfield 7, 3) := by decide +kernel
theorem dX6_init_38 : decode cX6_init 38 = .ok (.aload_n 0, 1) := by decide +kernel
theorem dX6_init_39 : decode cX6_init 39 = .ok (.bipush 12, 2) := by decide +kernel
theorem dX6_init_41 : decode cX6_init 41 = .ok (.newarray .int, 2) := by decide +kernel
theorem dX6_init_43 : decode cX6_init 43 = .ok (.putfield 13, 3) := by decide +kernel
theorem dX6_init_46 : decode cX6_init 46 = .ok (.aload_n 0, 1) := by decide +kernel
theorem dX6_init_47 : decode cX6_init 47 = .ok (.bipush 10, 2) := by decide +kernel
theorem dX6_init_49 : decode cX6_init 49 = .ok (.newarray .int, 2) := by decide +kernel
theorem dX6_init_51 : decode cX6_init 51 = .ok (.putfield 16, 3) := by decide +kernel
theorem dX6_init_54 : decode cX6_init 54 = .ok (.aload_n 0, 1) := by decide +kernel
theorem dX6_init_55 : decode cX6_init 55 = .ok (.bipush 105, 2) := by decide +kernel
theorem dX6_init_57 : decode cX6_init 57 = .ok (.newarray .int, 2) := by decide +kernel
theorem dX6_init_59 : decode cX6_init 59 = .ok (.putfield 19, 3) := by decide +kernel
theorem dX6_init_62 : decode cX6_init 62 = .ok (.aload_n 0, 1) := by decide +kernel
theorem dX6_init_63 : decode cX6_init 63 = .ok (.sipush 133, 3) := by decide +kernel
theorem dX6_init_66 : decode cX6_init 66 = .ok (.newarray .int, 2) := by decide +kernel
theorem dX6_init_68 : decode cX6_init 68 = .ok (.putfield 22, 3) := by decide +kernel
theorem dX6_init_71 : decode cX6_init 71 = .ok (.aload_n 0, 1) := by decide +kernel
theorem dX6_init_72 : decode cX6_init 72 = .ok (.bipush 16, 2) := by decide +kernel
theorem dX6_init_74 : decode cX6_init 74 = .ok (.newarray .long, 2) := by decide +kernel
theorem dX6_init_76 : decode cX6_init 76 = .ok (.putfield 25, 3) := by decide +kernel
theorem dX6_init_79 : decode cX6_init 79 = .ok (.aload_n 0, 1) := by decide +kernel
theorem dX6_init_80 : decode cX6_init 80 = .ok (.bipush 16, 2) := by decide +kernel
theorem dX6_init_82 : decode cX6_init 82 = .ok (.newarray .long, 2) := by decide +kernel
theorem dX6_init_84 : decode cX6_init 84 = .ok (.putfield 29, 3) := by decide +kernel
theorem dX6_init_87 : decode cX6_init 87 = .ok (.aload_n 0, 1) := by decide +kernel
theorem dX6_init_88 : decode cX6_init 88 = .ok (.bipush 30, 2) := by decide +kernel
theorem dX6_init_90 : decode cX6_init 90 = .ok (.newarray .int, 2) := by decide +kernel
theorem dX6_init_92 : decode cX6_init 92 = .ok (.putfield 32, 3) := by decide +kernel
theorem dX6_init_95 : decode cX6_init 95 = .ok (.aload_n 0, 1) := by decide +kernel
theorem dX6_init_96 : decode cX6_init 96 = .ok (.iconst 5, 1) := by decide +kernel
theorem dX6_init_97 : decode cX6_init 97 = .ok (.newarray .boolean, 2) := by decide +kernel
theorem dX6_init_99 : decode cX6_init 99 = .ok (.putfield 35, 3) := by decide +kernel
theorem dX6_init_102 : decode cX6_init 102 = .ok (.aload_n 0, 1) := by decide +kernel
theorem dX6_init_103 : decode cX6_init 103 = .ok (.iconst 5, 1) := by decide +kernel
theorem dX6_init_104 : decode cX6_init 104 = .ok (.newarray .int, 2) := by decide +kernel
theorem dX6_init_106 : decode cX6_init 106 = .ok (.putfield 39, 3) := by decide +kernel
theorem dX6_init_109 : decode cX6_init 109 = .ok (.aload_n 0, 1) := by decide +kernel
theorem dX6_init_110 : decode cX6_init 110 = .ok (.iconst 5, 1) := by decide +kernel
theorem dX6_init_111 : decode cX6_init 111 = .ok (.newarray .int, 2) := by decide +kernel
theorem dX6_init_113 : decode cX6_init 113 = .ok (.putfield 42, 3) := by decide +kernel
theorem dX6_init_116 : decode cX6_init 116 = .ok (.aload_n 0, 1) := by decide +kernel
theorem dX6_init_117 : decode cX6_init 117 = .ok (.bipush 6, 2) := by decide +kernel
theorem dX6_init_119 : decode cX6_init 119 = .ok (.newarray .int, 2) := by decide +kernel
theorem dX6_init_121 : decode cX6_init 121 = .ok (.putfield 45, 3) := by decide +kernel
theorem dX6_init_124 : decode cX6_init 124 = .ok (.aload_n 0, 1) := by decide +kernel
theorem dX6_init_125 : decode cX6_init 125 = .ok (.bipush 6, 2) := by decide +kernel
theorem dX6_init_127 : decode cX6_init 127 = .ok (.newarray .int, 2) := by decide +kernel
theorem dX6_init_129 : decode cX6_init 129 = .ok (.putfield 48, 3) := by decide +kernel
theorem dX6_init_132 : decode cX6_init 132 = .ok (.aload_n 0, 1) := by decide +kernel
theorem dX6_init_133 : decode cX6_init 133 = .ok (.bipush 30, 2) := by decide +kernel
theorem dX6_init_135 : decode cX6_init 135 = .ok (.newarray .int, 2) := by decide +kernel
theorem dX6_init_137 : decode cX6_init 137 = .ok (.putfield 51, 3) := by decide +kernel
theorem dX6_init_140 : decode cX6_init 140 = .ok (.aload_n 0, 1) := by decide +kernel
theorem dX6_init_141 : decode cX6_init 141 = .ok (.iconst 5, 1) := by decide +kernel
theorem dX6_init_142 : decode cX6_init 142 = .ok (.newarray .boolean, 2) := by decide +kernel
theorem dX6_init_144 : decode cX6_init 144 = .ok (.putfield 54, 3) := by decide +kernel
theorem dX6_init_147 : decode cX6_init 147 = .ok (.return_, 1) := by decide +kernel
theorem dX6_in_0 : decode cX6_in 0 = .ok (.lload_n 0, 1) := by decide +kernel
theorem dX6_in_1 : decode cX6_in 1 = .ok (.lload_n 2, 1) := by decide +kernel
theorem dX6_in_2 : decode cX6_in 2 = .ok (.lcmp, 1) := by decide +kernel
theorem dX6_in_3 : decode cX6_in 3 = .ok (.ifCond .lt 14, 3) := by decide +kernel
theorem dX6_in_6 : decode cX6_in 6 = .ok (.lload_n 0, 1) := by decide +kernel
theorem dX6_in_7 : decode cX6_in 7 = .ok (.lload 4, 2) := by decide +kernel
theorem dX6_in_9 : decode cX6_in 9 = .ok (.lcmp, 1) := by decide +kernel
theorem dX6_in_10 : decode cX6_in 10 = .ok (.ifCond .gt 7, 3) := by decide +kernel
theorem dX6_in_13 : decode cX6_in 13 = .ok (.iconst 1, 1) := by decide +kernel
theorem dX6_in_14 : decode cX6_in 14 = .ok (.goto 4, 3) := by decide +kernel
theorem dX6_in_17 : decode cX6_in 17 = .ok (.iconst 0, 1) := by decide +kernel
theorem dX6_in_18 : decode cX6_in 18 = .ok (.ireturn, 1) := by decide +kernel
theorem dX6_isMarcher_0 : decode cX6_isMarcher 0 = .ok (.iload_n 1, 1) := by decide +kernel
theorem dX6_isMarcher_1 : decode cX6_isMarcher 1 = .ok (.i2l, 1) := by decide +kernel
theorem dX6_isMarcher_2 : decode cX6_isMarcher 2 = .ok (.lconst 0, 1) := by decide +kernel
theorem dX6_isMarcher_3 : decode cX6_isMarcher 3 = .ok (.aload_n 0, 1) := by decide +kernel
theorem dX6_isMarcher_4 : decode cX6_isMarcher 4 = .ok (.getfield 7, 3) := by decide +kernel
theorem dX6_isMarcher_7 : decode cX6_isMarcher 7 = .ok (.iconst 0, 1) := by decide +kernel
theorem dX6_isMarcher_8 : decode cX6_isMarcher 8 = .ok (.iaload, 1) := by decide +kernel
theorem dX6_isMarcher_9 : decode cX6_isMarcher 9 = .ok (.iconst 1, 1) := by decide +kernel
theorem dX6_isMarcher_10 : decode cX6_isMarcher 10 = .ok (.isub, 1) := by decide +kernel
theorem dX6_isMarcher_11 : decode cX6_isMarcher 11 = .ok (.i2l, 1) := by decide +kernel
theorem dX6_isMarcher_12 : decode cX6_isMarcher 12 = .ok (.invokestatic 57, 3) := by decide +kernel
theorem dX6_isMarcher_15 : decode cX6_isMarcher 15 = .ok (.ireturn, 1) := by decide +kernel
theorem dX6_isPicture_0 : decode cX6_isPicture 0 = .ok (.iload_n 1, 1) := by decide +kernel
theorem dX6_isPicture_1 : decode cX6_isPicture 1 = .ok (.i2l, 1) := by decide +kernel
theorem dX6_isPicture_2 : decode cX6_isPicture 2 = .ok (.lconst 0, 1) := by decide +kernel
theorem dX6_isPicture_3 : decode cX6_isPicture 3 = .ok (.aload_n 0, 1) := by decide +kernel
theorem dX6_isPicture_4 : decode cX6_isPicture 4 = .ok (.getfield 7, 3) := by decide +kernel
theorem dX6_isPicture_7 : decode cX6_isPicture 7 = .ok (.iconst 1, 1) := by decide +kernel
theorem dX6_isPicture_8 : decode cX6_isPicture 8 = .ok (.iaload, 1) := by decide +kernel
theorem dX6_isPicture_9 : decode cX6_isPicture 9 = .ok (.iconst 1, 1) := by decide +kernel
theorem dX6_isPicture_10 : decode cX6_isPicture 10 = .ok (.isub, 1) := by decide +kernel
theorem dX6_isPicture_11 : decode cX6_isPicture 11 = .ok (.i2l, 1) := by decide +kernel
theorem dX6_isPicture_12 : decode cX6_isPicture 12 = .ok (.invokestatic 57, 3) := by decide +kernel
theorem dX6_isPicture_15 : decode cX6_isPicture 15 = .ok (.ireturn, 1) := by decide +kernel
theorem dX6_dotMany_0 : decode cX6_dotMany 0 = .ok (.aload_n 0, 1) := by decide +kernel
theorem dX6_dotMany_1 : decode cX6_dotMany 1 = .ok (.getfield 16, 3) := by decide +kernel
theorem dX6_dotMany_4 : decode cX6_dotMany 4 = .ok (.iconst 2, 1) := by decide +kernel
theorem dX6_dotMany_5 : decode cX6_dotMany 5 = .ok (.iload_n 1, 1) := by decide +kernel
theorem dX6_dotMany_6 : decode cX6_dotMany 6 = .ok (.imul, 1) := by decide +kernel
theorem dX6_dotMany_7 : decode cX6_dotMany 7 = .ok (.iconst 1, 1) := by decide +kernel
theorem dX6_dotMany_8 : decode cX6_dotMany 8 = .ok (.iadd, 1) := by decide +kernel
theorem dX6_dotMany_9 : decode cX6_dotMany 9 = .ok (.iaload, 1) := by decide +kernel
theorem dX6_dotMany_10 : decode cX6_dotMany 10 = .ok (.ireturn, 1) := by decide +kernel
theorem dX6_isDot_0 : decode cX6_isDot 0 = .ok (.aload_n 0, 1) := by decide +kernel
theorem dX6_isDot_1 : decode cX6_isDot 1 = .ok (.iload_n 1, 1) := by decide +kernel
theorem dX6_isDot_2 : decode cX6_isDot 2 = .ok (.invokevirtual 61, 3) := by decide +kernel
theorem dX6_isDot_5 : decode cX6_isDot 5 = .ok (.ifCond .eq 24, 3) := by decide +kernel
theorem dX6_isDot_8 : decode cX6_isDot 8 = .ok (.iload_n 2, 1) := by decide +kernel
theorem dX6_isDot_9 : decode cX6_isDot 9 = .ok (.i2l, 1) := by decide +kernel
theorem dX6_isDot_10 : decode cX6_isDot 10 = .ok (.lconst 0, 1) := by decide +kernel
theorem dX6_isDot_11 : decode cX6_isDot 11 = .ok (.aload_n 0, 1) := by decide +kernel
theorem dX6_isDot_12 : decode cX6_isDot 12 = .ok (.iload_n 1, 1) := by decide +kernel
theorem dX6_isDot_13 : decode cX6_isDot 13 = .ok (.invokevirtual 65, 3) := by decide +kernel
theorem dX6_isDot_16 : decode cX6_isDot 16 = .ok (.iconst 1, 1) := by decide +kernel
theorem dX6_isDot_17 : decode cX6_isDot 17 = .ok (.isub, 1) := by decide +kernel
theorem dX6_isDot_18 : decode cX6_isDot 18 = .ok (.i2l, 1) := by decide +kernel
theorem dX6_isDot_19 : decode cX6_isDot 19 = .ok (.invokestatic 57, 3) := by decide +kernel
theorem dX6_isDot_22 : decode cX6_isDot 22 = .ok (.ifCond .eq 7, 3) := by decide +kernel
theorem dX6_isDot_25 : decode cX6_isDot 25 = .ok (.iconst 1, 1) := by decide +kernel
theorem dX6_isDot_26 : decode cX6_isDot 26 = .ok (.goto 4, 3) := by decide +kernel
theorem dX6_isDot_29 : decode cX6_isDot 29 = .ok (.iconst 0, 1) := by decide +kernel
theorem dX6_isDot_30 : decode cX6_isDot 30 = .ok (.ireturn, 1) := by decide +kernel
theorem dX6_isIll_0 : decode cX6_isIll 0 = .ok (.aload_n 0, 1) := by decide +kernel
theorem dX6_isIll_1 : decode cX6_isIll 1 = .ok (.getfield 13, 3) := by decide +kernel
theorem dX6_isIll_4 : decode cX6_isIll 4 = .ok (.iconst 2, 1) := by decide +kernel
theorem dX6_isIll_5 : decode cX6_isIll 5 = .ok (.iload_n 1, 1) := by decide +kernel
theorem dX6_isIll_6 : decode cX6_isIll 6 = .ok (.imul, 1) := by decide +kernel
theorem dX6_isIll_7 : decode cX6_isIll 7 = .ok (.iconst 1, 1) := by decide +kernel
theorem dX6_isIll_8 : decode cX6_isIll 8 = .ok (.iadd, 1) := by decide +kernel
theorem dX6_isIll_9 : decode cX6_isIll 9 = .ok (.iaload, 1) := by decide +kernel
theorem dX6_isIll_10 : decode cX6_isIll 10 = .ok (.iconst 1, 1) := by decide +kernel
theorem dX6_isIll_11 : decode cX6_isIll 11 = .ok (.if_icmp .ne 7, 3) := by decide +kernel
theorem dX6_isIll_14 : decode cX6_isIll 14 = .ok (.iconst 1, 1) := by decide +kernel
theorem dX6_isIll_15 : decode cX6_isIll 15 = .ok (.goto 4, 3) := by decide +kernel
theorem dX6_isIll_18 : decode cX6_isIll 18 = .ok (.iconst 0, 1) := by decide +kernel
theorem dX6_isIll_19 : decode cX6_isIll 19 = .ok (.ireturn, 1) := by decide +kernel
theorem dX6_marcher_0 : decode cX6_marcher 0 = .ok (.iload_n 1, 1) := by decide +kernel
theorem dX6_marcher_1 : decode cX6_marcher 1 = .ok (.i2l, 1) := by decide +kernel
theorem dX6_marcher_2 : decode cX6_marcher 2 = .ok (.lconst 1, 1) := by decide +kernel
theorem dX6_marcher_3 : decode cX6_marcher 3 = .ok (.ldc2_w 69, 3) := by decide +kernel
theorem dX6_marcher_6 : decode cX6_marcher 6 = .ok (.invokestatic 57, 3) := by decide +kernel
theorem dX6_marcher_9 : decode cX6_marcher 9 = .ok (.ifCond .ne 5, 3) := by decide +kernel
theorem dX6_marcher_12 : decode cX6_marcher 12 = .ok (.iconst (-1), 1) := by decide +kernel
theorem dX6_marcher_13 : decode cX6_marcher 13 = .ok (.ireturn, 1) := by decide +kernel
theorem dX6_marcher_14 : decode cX6_marcher 14 = .ok (.aload_n 0, 1) := by decide +kernel
theorem dX6_marcher_15 : decode cX6_marcher 15 = .ok (.getfield 7, 3) := by decide +kernel
theorem dX6_marcher_18 : decode cX6_marcher 18 = .ok (.iconst 0, 1) := by decide +kernel
theorem dX6_marcher_19 : decode cX6_marcher 19 = .ok (.iaload, 1) := by decide +kernel
theorem dX6_marcher_20 : decode cX6_marcher 20 = .ok (.bipush 6, 2) := by decide +kernel
theorem dX6_marcher_22 : decode cX6_marcher 22 = .ok (.if_icmp .ne 6, 3) := by decide +kernel
theorem dX6_marcher_25 : decode cX6_marcher 25 = .ok (.bipush (-2), 2) := by decide +kernel
theorem dX6_marcher_27 : decode cX6_marcher 27 = .ok (.ireturn, 1) := by decide +kernel
theorem dX6_marcher_28 : decode cX6_marcher 28 = .ok (.aload_n 0, 1) := by decide +kernel
theorem dX6_marcher_29 : decode cX6_marcher 29 = .ok (.getfield 13, 3) := by decide +kernel
theorem dX6_marcher_32 : decode cX6_marcher 32 = .ok (.iconst 2, 1) := by decide +kernel
theorem dX6_marcher_33 : decode cX6_marcher 33 = .ok (.aload_n 0, 1) := by decide +kernel
theorem dX6_marcher_34 : decode cX6_marcher 34 = .ok (.getfield 7, 3) := by decide +kernel
theorem dX6_marcher_37 : decode cX6_marcher 37 = .ok (.iconst 0, 1) := by decide +kernel
theorem dX6_marcher_38 : decode cX6_marcher 38 = .ok (.iaload, 1) := by decide +kernel
theorem dX6_marcher_39 : decode cX6_marcher 39 = .ok (.imul, 1) := by decide +kernel
theorem dX6_marcher_40 : decode cX6_marcher 40 = .ok (.iload_n 1, 1) := by decide +kernel
theorem dX6_marcher_41 : decode cX6_marcher 41 = .ok (.iastore, 1) := by decide +kernel
theorem dX6_marcher_42 : decode cX6_marcher 42 = .ok (.aload_n 0, 1) := by decide +kernel
theorem dX6_marcher_43 : decode cX6_marcher 43 = .ok (.getfield 13, 3) := by decide +kernel
theorem dX6_marcher_46 : decode cX6_marcher 46 = .ok (.iconst 2, 1) := by decide +kernel
theorem dX6_marcher_47 : decode cX6_marcher 47 = .ok (.aload_n 0, 1) := by decide +kernel
theorem dX6_marcher_48 : decode cX6_marcher 48 = .ok (.getfield 7, 3) := by decide +kernel
theorem dX6_marcher_51 : decode cX6_marcher 51 = .ok (.iconst 0, 1) := by decide +kernel
theorem dX6_marcher_52 : decode cX6_marcher 52 = .ok (.iaload, 1) := by decide +kernel
theorem dX6_marcher_53 : decode cX6_marcher 53 = .ok (.imul, 1) := by decide +kernel
theorem dX6_marcher_54 : decode cX6_marcher 54 = .ok (.iconst 1, 1) := by decide +kernel
theorem dX6_marcher_55 : decode cX6_marcher 55 = .ok (.iadd, 1) := by decide +kernel
theorem dX6_marcher_56 : decode cX6_marcher 56 = .ok (.iconst 0, 1) := by decide +kernel
theorem dX6_marcher_57 : decode cX6_marcher 57 = .ok (.iastore, 1) := by decide +kernel
theorem dX6_marcher_58 : decode cX6_marcher 58 = .ok (.aload_n 0, 1) := by decide +kernel
theorem dX6_marcher_59 : decode cX6_marcher 59 = .ok (.getfield 7, 3) := by decide +kernel
theorem dX6_marcher_62 : decode cX6_marcher 62 = .ok (.iconst 0, 1) := by decide +kernel
theorem dX6_marcher_63 : decode cX6_marcher 63 = .ok (.dup2, 1) := by decide +kernel
theorem dX6_marcher_64 : decode cX6_marcher 64 = .ok (.iaload, 1) := by decide +kernel
theorem dX6_marcher_65 : decode cX6_marcher 65 = .ok (.iconst 1, 1) := by decide +kernel
theorem dX6_marcher_66 : decode cX6_marcher 66 = .ok (.iadd, 1) := by decide +kernel
theorem dX6_marcher_67 : decode cX6_marcher 67 = .ok (.iastore, 1) := by decide +kernel
theorem dX6_marcher_68 : decode cX6_marcher 68 = .ok (.aload_n 0, 1) := by decide +kernel
theorem dX6_marcher_69 : decode cX6_marcher 69 = .ok (.getfield 7, 3) := by decide +kernel
theorem dX6_marcher_72 : decode cX6_marcher 72 = .ok (.iconst 0, 1) := by decide +kernel
theorem dX6_marcher_73 : decode cX6_marcher 73 = .ok (.iaload, 1) := by decide +kernel
theorem dX6_marcher_74 : decode cX6_marcher 74 = .ok (.iconst 1, 1) := by decide +kernel
theorem dX6_marcher_75 : decode cX6_marcher 75 = .ok (.isub, 1) := by decide +kernel
theorem dX6_marcher_76 : decode cX6_marcher 76 = .ok (.ireturn, 1) := by decide +kernel
theorem dX6_ill_0 : decode cX6_ill 0 = .ok (.aload_n 0, 1) := by decide +kernel
theorem dX6_ill_1 : decode cX6_ill 1 = .ok (.iload_n 1, 1) := by decide +kernel
theorem dX6_ill_2 : decode cX6_ill 2 = .ok (.invokevirtual 71, 3) := by decide +kernel
theorem dX6_ill_5 : decode cX6_ill 5 = .ok (.ifCond .ne 5, 3) := by decide +kernel
theorem dX6_ill_8 : decode cX6_ill 8 = .ok (.iconst (-1), 1) := by decide +kernel
theorem dX6_ill_9 : decode cX6_ill 9 = .ok (.ireturn, 1) := by decide +kernel
theorem dX6_ill_10 : decode cX6_ill 10 = .ok (.iload_n 2, 1) := by decide +kernel
theorem dX6_ill_11 : decode cX6_ill 11 = .ok (.ifCond .eq 7, 3) := by decide +kernel
theorem dX6_ill_14 : decode cX6_ill 14 = .ok (.iconst 1, 1) := by decide +kernel
theorem dX6_ill_15 : decode cX6_ill 15 = .ok (.goto 4, 3) := by decide +kernel
theorem dX6_ill_18 : decode cX6_ill 18 = .ok (.iconst 0, 1) := by decide +kernel
theorem dX6_ill_19 : decode cX6_ill 19 = .ok (.istore_n 3, 1) := by decide +kernel
theorem dX6_ill_20 : decode cX6_ill 20 = .ok (.aload_n 0, 1) := by decide +kernel
theorem dX6_ill_21 : decode cX6_ill 21 = .ok (.getfield 13, 3) := by decide +kernel
theorem dX6_ill_24 : decode cX6_ill 24 = .ok (.iconst 2, 1) := by decide +kernel
theorem dX6_ill_25 : decode cX6_ill 25 = .ok (.iload_n 1, 1) := by decide +kernel
theorem dX6_ill_26 : decode cX6_ill 26 = .ok (.imul, 1) := by decide +kernel
theorem dX6_ill_27 : decode cX6_ill 27 = .ok (.iconst 1, 1) := by decide +kernel
theorem dX6_ill_28 : decode cX6_ill 28 = .ok (.iadd, 1) := by decide +kernel
theorem dX6_ill_29 : decode cX6_ill 29 = .ok (.iaload, 1) := by decide +kernel
theorem dX6_ill_30 : decode cX6_ill 30 = .ok (.iload_n 3, 1) := by decide +kernel
theorem dX6_ill_31 : decode cX6_ill 31 = .ok (.if_icmp .ne 7, 3) := by decide +kernel
theorem dX6_ill_34 : decode cX6_ill 34 = .ok (.iconst 0, 1) := by decide +kernel
theorem dX6_ill_35 : decode cX6_ill 35 = .ok (.goto 4, 3) := by decide +kernel
theorem dX6_ill_38 : decode cX6_ill 38 = .ok (.iconst 1, 1) := by decide +kernel
theorem dX6_ill_39 : decode cX6_ill 39 = .ok (.istore 4, 2) := by decide +kernel
theorem dX6_ill_41 : decode cX6_ill 41 = .ok (.aload_n 0, 1) := by decide +kernel
theorem dX6_ill_42 : decode cX6_ill 42 = .ok (.getfield 13, 3) := by decide +kernel
theorem dX6_ill_45 : decode cX6_ill 45 = .ok (.iconst 2, 1) := by decide +kernel
theorem dX6_ill_46 : decode cX6_ill 46 = .ok (.iload_n 1, 1) := by decide +kernel
theorem dX6_ill_47 : decode cX6_ill 47 = .ok (.imul, 1) := by decide +kernel
theorem dX6_ill_48 : decode cX6_ill 48 = .ok (.iconst 1, 1) := by decide +kernel
theorem dX6_ill_49 : decode cX6_ill 49 = .ok (.iadd, 1) := by decide +kernel
theorem dX6_ill_50 : decode cX6_ill 50 = .ok (.iload_n 3, 1) := by decide +kernel
theorem dX6_ill_51 : decode cX6_ill 51 = .ok (.iastore, 1) := by decide +kernel
theorem dX6_ill_52 : decode cX6_ill 52 = .ok (.iload 4, 2) := by decide +kernel
theorem dX6_ill_54 : decode cX6_ill 54 = .ok (.ireturn, 1) := by decide +kernel
theorem dX6_bound_0 : decode cX6_bound 0 = .ok (.aload_n 0, 1) := by decide +kernel
theorem dX6_bound_1 : decode cX6_bound 1 = .ok (.iload_n 1, 1) := by decide +kernel
theorem dX6_bound_2 : decode cX6_bound 2 = .ok (.invokevirtual 71, 3) := by decide +kernel
theorem dX6_bound_5 : decode cX6_bound 5 = .ok (.ifCond .eq 15, 3) := by decide +kernel
theorem dX6_bound_8 : decode cX6_bound 8 = .ok (.iload_n 2, 1) := by decide +kernel
theorem dX6_bound_9 : decode cX6_bound 9 = .ok (.i2l, 1) := by decide +kernel
theorem dX6_bound_10 : decode cX6_bound 10 = .ok (.lconst 1, 1) := by decide +kernel
theorem dX6_bound_11 : decode cX6_bound 11 = .ok (.ldc2_w 69, 3) := by decide +kernel
theorem dX6_bound_14 : decode cX6_bound 14 = .ok (.invokestatic 57, 3) := by decide +kernel
theorem dX6_bound_17 : decode cX6_bound 17 = .ok (.ifCond .ne 5, 3) := by decide +kernel
theorem dX6_bound_20 : decode cX6_bound 20 = .ok (.iconst (-1), 1) := by decide +kernel
theorem dX6_bound_21 : decode cX6_bound 21 = .ok (.ireturn, 1) := by decide +kernel
theorem dX6_bound_22 : decode cX6_bound 22 = .ok (.aload_n 0, 1) := by decide +kernel
theorem dX6_bound_23 : decode cX6_bound 23 = .ok (.getfield 13, 3) := by decide +kernel
theorem dX6_bound_26 : decode cX6_bound 26 = .ok (.iconst 2, 1) := by decide +kernel
theorem dX6_bound_27 : decode cX6_bound 27 = .ok (.iload_n 1, 1) := by decide +kernel
theorem dX6_bound_28 : decode cX6_bound 28 = .ok (.imul, 1) := by decide +kernel
theorem dX6_bound_29 : decode cX6_bound 29 = .ok (.iaload, 1) := by decide +kernel
theorem dX6_bound_30 : decode cX6_bound 30 = .ok (.istore_n 3, 1) := by decide +kernel
theorem dX6_bound_31 : decode cX6_bound 31 = .ok (.aload_n 0, 1) := by decide +kernel
theorem dX6_bound_32 : decode cX6_bound 32 = .ok (.getfield 13, 3) := by decide +kernel
theorem dX6_bound_35 : decode cX6_bound 35 = .ok (.iconst 2, 1) := by decide +kernel
theorem dX6_bound_36 : decode cX6_bound 36 = .ok (.iload_n 1, 1) := by decide +kernel
theorem dX6_bound_37 : decode cX6_bound 37 = .ok (.imul, 1) := by decide +kernel
theorem dX6_bound_38 : decode cX6_bound 38 = .ok (.iload_n 2, 1) := by decide +kernel
theorem dX6_bound_39 : decode cX6_bound 39 = .ok (.iastore, 1) := by decide +kernel
theorem dX6_bound_40 : decode cX6_bound 40 = .ok (.iload_n 3, 1) := by decide +kernel
theorem dX6_bound_41 : decode cX6_bound 41 = .ok (.ireturn, 1) := by decide +kernel
theorem dX6_picture_0 : decode cX6_picture 0 = .ok (.iload_n 1, 1) := by decide +kernel
theorem dX6_picture_1 : decode cX6_picture 1 = .ok (.i2l, 1) := by decide +kernel
theorem dX6_picture_2 : decode cX6_picture 2 = .ok (.lconst 1, 1) := by decide +kernel
theorem dX6_picture_3 : decode cX6_picture 3 = .ok (.ldc2_w 74, 3) := by decide +kernel
theorem dX6_picture_6 : decode cX6_picture 6 = .ok (.invokestatic 57, 3) := by decide +kernel
theorem dX6_picture_9 : decode cX6_picture 9 = .ok (.ifCond .ne 5, 3) := by decide +kernel
theorem dX6_picture_12 : decode cX6_picture 12 = .ok (.iconst (-1), 1) := by decide +kernel
theorem dX6_picture_13 : decode cX6_picture 13 = .ok (.ireturn, 1) := by decide +kernel
theorem dX6_picture_14 : decode cX6_picture 14 = .ok (.aload_n 0, 1) := by decide +kernel
theorem dX6_picture_15 : decode cX6_picture 15 = .ok (.getfield 7, 3) := by decide +kernel
theorem dX6_picture_18 : decode cX6_picture 18 = .ok (.iconst 1, 1) := by decide +kernel
theorem dX6_picture_19 : decode cX6_picture 19 = .ok (.iaload, 1) := by decide +kernel
theorem dX6_picture_20 : decode cX6_picture 20 = .ok (.iconst 5, 1) := by decide +kernel
theorem dX6_picture_21 : decode cX6_picture 21 = .ok (.if_icmp .ne 6, 3) := by decide +kernel
theorem dX6_picture_24 : decode cX6_picture 24 = .ok (.bipush (-2), 2) := by decide +kernel
theorem dX6_picture_26 : decode cX6_picture 26 = .ok (.ireturn, 1) := by decide +kernel
theorem dX6_picture_27 : decode cX6_picture 27 = .ok (.aload_n 0, 1) := by decide +kernel
theorem dX6_picture_28 : decode cX6_picture 28 = .ok (.getfield 16, 3) := by decide +kernel
theorem dX6_picture_31 : decode cX6_picture 31 = .ok (.iconst 2, 1) := by decide +kernel
theorem dX6_picture_32 : decode cX6_picture 32 = .ok (.aload_n 0, 1) := by decide +kernel
theorem dX6_picture_33 : decode cX6_picture 33 = .ok (.getfield 7, 3) := by decide +kernel
theorem dX6_picture_36 : decode cX6_picture 36 = .ok (.iconst 1, 1) := by decide +kernel
theorem dX6_picture_37 : decode cX6_picture 37 = .ok (.iaload, 1) := by decide +kernel
theorem dX6_picture_38 : decode cX6_picture 38 = .ok (.imul, 1) := by decide +kernel
theorem dX6_picture_39 : decode cX6_picture 39 = .ok (.iload_n 1, 1) := by decide +kernel
theorem dX6_picture_40 : decode cX6_picture 40 = .ok (.iastore, 1) := by decide +kernel
theorem dX6_picture_41 : decode cX6_picture 41 = .ok (.aload_n 0, 1) := by decide +kernel
theorem dX6_picture_42 : decode cX6_picture 42 = .ok (.getfield 16, 3) := by decide +kernel
theorem dX6_picture_45 : decode cX6_picture 45 = .ok (.iconst 2, 1) := by decide +kernel
theorem dX6_picture_46 : decode cX6_picture 46 = .ok (.aload_n 0, 1) := by decide +kernel
theorem dX6_picture_47 : decode cX6_picture 47 = .ok (.getfield 7, 3) := by decide +kernel
theorem dX6_picture_50 : decode cX6_picture 50 = .ok (.iconst 1, 1) := by decide +kernel
theorem dX6_picture_51 : decode cX6_picture 51 = .ok (.iaload, 1) := by decide +kernel
theorem dX6_picture_52 : decode cX6_picture 52 = .ok (.imul, 1) := by decide +kernel
theorem dX6_picture_53 : decode cX6_picture 53 = .ok (.iconst 1, 1) := by decide +kernel
theorem dX6_picture_54 : decode cX6_picture 54 = .ok (.iadd, 1) := by decide +kernel
theorem dX6_picture_55 : decode cX6_picture 55 = .ok (.iconst 0, 1) := by decide +kernel
theorem dX6_picture_56 : decode cX6_picture 56 = .ok (.iastore, 1) := by decide +kernel
theorem dX6_picture_57 : decode cX6_picture 57 = .ok (.aload_n 0, 1) := by decide +kernel
theorem dX6_picture_58 : decode cX6_picture 58 = .ok (.getfield 7, 3) := by decide +kernel
theorem dX6_picture_61 : decode cX6_picture 61 = .ok (.iconst 1, 1) := by decide +kernel
theorem dX6_picture_62 : decode cX6_picture 62 = .ok (.dup2, 1) := by decide +kernel
theorem dX6_picture_63 : decode cX6_picture 63 = .ok (.iaload, 1) := by decide +kernel
theorem dX6_picture_64 : decode cX6_picture 64 = .ok (.iconst 1, 1) := by decide +kernel
theorem dX6_picture_65 : decode cX6_picture 65 = .ok (.iadd, 1) := by decide +kernel
theorem dX6_picture_66 : decode cX6_picture 66 = .ok (.iastore, 1) := by decide +kernel
theorem dX6_picture_67 : decode cX6_picture 67 = .ok (.aload_n 0, 1) := by decide +kernel
theorem dX6_picture_68 : decode cX6_picture 68 = .ok (.getfield 7, 3) := by decide +kernel
theorem dX6_picture_71 : decode cX6_picture 71 = .ok (.iconst 1, 1) := by decide +kernel
theorem dX6_picture_72 : decode cX6_picture 72 = .ok (.iaload, 1) := by decide +kernel
theorem dX6_picture_73 : decode cX6_picture 73 = .ok (.iconst 1, 1) := by decide +kernel
theorem dX6_picture_74 : decode cX6_picture 74 = .ok (.isub, 1) := by decide +kernel
theorem dX6_picture_75 : decode cX6_picture 75 = .ok (.ireturn, 1) := by decide +kernel
theorem dX6_counts_0 : decode cX6_counts 0 = .ok (.aload_n 0, 1) := by decide +kernel
theorem dX6_counts_1 : decode cX6_counts 1 = .ok (.iload_n 1, 1) := by decide +kernel
theorem dX6_counts_2 : decode cX6_counts 2 = .ok (.invokevirtual 61, 3) := by decide +kernel
theorem dX6_counts_5 : decode cX6_counts 5 = .ok (.ifCond .eq 15, 3) := by decide +kernel
theorem dX6_counts_8 : decode cX6_counts 8 = .ok (.iload_n 2, 1) := by decide +kernel
theorem dX6_counts_9 : decode cX6_counts 9 = .ok (.i2l, 1) := by decide +kernel
theorem dX6_counts_10 : decode cX6_counts 10 = .ok (.lconst 1, 1) := by decide +kernel
theorem dX6_counts_11 : decode cX6_counts 11 = .ok (.ldc2_w 74, 3) := by decide +kernel
theorem dX6_counts_14 : decode cX6_counts 14 = .ok (.invokestatic 57, 3) := by decide +kernel
theorem dX6_counts_17 : decode cX6_counts 17 = .ok (.ifCond .ne 5, 3) := by decide +kernel
theorem dX6_counts_20 : decode cX6_counts 20 = .ok (.iconst (-1), 1) := by decide +kernel
theorem dX6_counts_21 : decode cX6_counts 21 = .ok (.ireturn, 1) := by decide +kernel
theorem dX6_counts_22 : decode cX6_counts 22 = .ok (.aload_n 0, 1) := by decide +kernel
theorem dX6_counts_23 : decode cX6_counts 23 = .ok (.getfield 16, 3) := by decide +kernel
theorem dX6_counts_26 : decode cX6_counts 26 = .ok (.iconst 2, 1) := by decide +kernel
theorem dX6_counts_27 : decode cX6_counts 27 = .ok (.iload_n 1, 1) := by decide +kernel
theorem dX6_counts_28 : decode cX6_counts 28 = .ok (.imul, 1) := by decide +kernel
theorem dX6_counts_29 : decode cX6_counts 29 = .ok (.iaload, 1) := by decide +kernel
theorem dX6_counts_30 : decode cX6_counts 30 = .ok (.istore_n 3, 1) := by decide +kernel
theorem dX6_counts_31 : decode cX6_counts 31 = .ok (.aload_n 0, 1) := by decide +kernel
theorem dX6_counts_32 : decode cX6_counts 32 = .ok (.getfield 16, 3) := by decide +kernel
theorem dX6_counts_35 : decode cX6_counts 35 = .ok (.iconst 2, 1) := by decide +kernel
theorem dX6_counts_36 : decode cX6_counts 36 = .ok (.iload_n 1, 1) := by decide +kernel
theorem dX6_counts_37 : decode cX6_counts 37 = .ok (.imul, 1) := by decide +kernel
theorem dX6_counts_38 : decode cX6_counts 38 = .ok (.iload_n 2, 1) := by decide +kernel
theorem dX6_counts_39 : decode cX6_counts 39 = .ok (.iastore, 1) := by decide +kernel
theorem dX6_counts_40 : decode cX6_counts 40 = .ok (.iload_n 3, 1) := by decide +kernel
theorem dX6_counts_41 : decode cX6_counts 41 = .ok (.ireturn, 1) := by decide +kernel
theorem dX6_lay_0 : decode cX6_lay 0 = .ok (.aload_n 0, 1) := by decide +kernel
theorem dX6_lay_1 : decode cX6_lay 1 = .ok (.getfield 25, 3) := by decide +kernel
theorem dX6_lay_4 : decode cX6_lay 4 = .ok (.aload_n 0, 1) := by decide +kernel
theorem dX6_lay_5 : decode cX6_lay 5 = .ok (.getfield 76, 3) := by decide +kernel
theorem dX6_lay_8 : decode cX6_lay 8 = .ok (.lload_n 1, 1) := by decide +kernel
theorem dX6_lay_9 : decode cX6_lay 9 = .ok (.lastore, 1) := by decide +kernel
theorem dX6_lay_10 : decode cX6_lay 10 = .ok (.aload_n 0, 1) := by decide +kernel
theorem dX6_lay_11 : decode cX6_lay 11 = .ok (.getfield 29, 3) := by decide +kernel
theorem dX6_lay_14 : decode cX6_lay 14 = .ok (.aload_n 0, 1) := by decide +kernel
theorem dX6_lay_15 : decode cX6_lay 15 = .ok (.getfield 76, 3) := by decide +kernel
theorem dX6_lay_18 : decode cX6_lay 18 = .ok (.lload_n 3, 1) := by decide +kernel
theorem dX6_lay_19 : decode cX6_lay 19 = .ok (.lastore, 1) := by decide +kernel
theorem dX6_lay_20 : decode cX6_lay 20 = .ok (.aload_n 0, 1) := by decide +kernel
theorem dX6_lay_21 : decode cX6_lay 21 = .ok (.dup, 1) := by decide +kernel
theorem dX6_lay_22 : decode cX6_lay 22 = .ok (.getfield 76, 3) := by decide +kernel
theorem dX6_lay_25 : decode cX6_lay 25 = .ok (.iconst 1, 1) := by decide +kernel
theorem dX6_lay_26 : decode cX6_lay 26 = .ok (.iadd, 1) := by decide +kernel
theorem dX6_lay_27 : decode cX6_lay 27 = .ok (.putfield 76, 3) := by decide +kernel
theorem dX6_lay_30 : decode cX6_lay 30 = .ok (.return_, 1) := by decide +kernel
theorem dX6_isFree_0 : decode cX6_isFree 0 = .ok (.aload_n 0, 1) := by decide +kernel
theorem dX6_isFree_1 : decode cX6_isFree 1 = .ok (.getfield 25, 3) := by decide +kernel
theorem dX6_isFree_4 : decode cX6_isFree 4 = .ok (.iload_n 2, 1) := by decide +kernel
theorem dX6_isFree_5 : decode cX6_isFree 5 = .ok (.laload, 1) := by decide +kernel
theorem dX6_isFree_6 : decode cX6_isFree 6 = .ok (.lconst 0, 1) := by decide +kernel
theorem dX6_isFree_7 : decode cX6_isFree 7 = .ok (.ldc2_w 80, 3) := by decide +kernel
theorem dX6_isFree_10 : decode cX6_isFree 10 = .ok (.invokestatic 57, 3) := by decide +kernel
theorem dX6_isFree_13 : decode cX6_isFree 13 = .ok (.ifCond .eq 23, 3) := by decide +kernel
theorem dX6_isFree_16 : decode cX6_isFree 16 = .ok (.aload_n 0, 1) := by decide +kernel
theorem dX6_isFree_17 : decode cX6_isFree 17 = .ok (.getfield 29, 3) := by decide +kernel
theorem dX6_isFree_20 : decode cX6_isFree 20 = .ok (.iload_n 2, 1) := by decide +kernel
theorem dX6_isFree_21 : decode cX6_isFree 21 = .ok (.laload, 1) := by decide +kernel
theorem dX6_isFree_22 : decode cX6_isFree 22 = .ok (.lconst 0, 1) := by decide +kernel
theorem dX6_isFree_23 : decode cX6_isFree 23 = .ok (.ldc2_w 80, 3) := by decide +kernel
theorem dX6_isFree_26 : decode cX6_isFree 26 = .ok (.invokestatic 57, 3) := by decide +kernel
theorem dX6_isFree_29 : decode cX6_isFree 29 = .ok (.ifCond .eq 7, 3) := by decide +kernel
theorem dX6_isFree_32 : decode cX6_isFree 32 = .ok (.iconst 1, 1) := by decide +kernel
theorem dX6_isFree_33 : decode cX6_isFree 33 = .ok (.goto 4, 3) := by decide +kernel
theorem dX6_isFree_36 : decode cX6_isFree 36 = .ok (.iconst 0, 1) := by decide +kernel
theorem dX6_isFree_37 : decode cX6_isFree 37 = .ok (.istore_n 3, 1) := by decide +kernel
theorem dX6_isFree_38 : decode cX6_isFree 38 = .ok (.iconst 0, 1) := by decide +kernel
theorem dX6_isFree_39 : decode cX6_isFree 39 = .ok (.istore 4, 2) := by decide +kernel
theorem dX6_isFree_41 : decode cX6_isFree 41 = .ok (.iload 4, 2) := by decide +kernel
theorem dX6_isFree_43 : decode cX6_isFree 43 = .ok (.iload_n 2, 1) := by decide +kernel
theorem dX6_isFree_44 : decode cX6_isFree 44 = .ok (.if_icmp .ge 53, 3) := by decide +kernel
theorem dX6_isFree_47 : decode cX6_isFree 47 = .ok (.iload_n 3, 1) := by decide +kernel
theorem dX6_isFree_48 : decode cX6_isFree 48 = .ok (.ifCond .eq 41, 3) := by decide +kernel
theorem dX6_isFree_51 : decode cX6_isFree 51 = .ok (.aload_n 0, 1) := by decide +kernel
theorem dX6_isFree_52 : decode cX6_isFree 52 = .ok (.getfield 25, 3) := by decide +kernel
theorem dX6_isFree_55 : decode cX6_isFree 55 = .ok (.iload 4, 2) := by decide +kernel
theorem dX6_isFree_57 : decode cX6_isFree 57 = .ok (.laload, 1) := by decide +kernel
theorem dX6_isFree_58 : decode cX6_isFree 58 = .ok (.aload_n 0, 1) := by decide +kernel
theorem dX6_isFree_59 : decode cX6_isFree 59 = .ok (.getfield 25, 3) := by decide +kernel
theorem dX6_isFree_62 : decode cX6_isFree 62 = .ok (.iload_n 2, 1) := by decide +kernel
theorem dX6_isFree_63 : decode cX6_isFree 63 = .ok (.laload, 1) := by decide +kernel
theorem dX6_isFree_64 : decode cX6_isFree 64 = .ok (.lcmp, 1) := by decide +kernel
theorem dX6_isFree_65 : decode cX6_isFree 65 = .ok (.ifCond .ne 20, 3) := by decide +kernel
theorem dX6_isFree_68 : decode cX6_isFree 68 = .ok (.aload_n 0, 1) := by decide +kernel
theorem dX6_isFree_69 : decode cX6_isFree 69 = .ok (.getfield 29, 3) := by decide +kernel
theorem dX6_isFree_72 : decode cX6_isFree 72 = .ok (.iload 4, 2) := by decide +kernel
theorem dX6_isFree_74 : decode cX6_isFree 74 = .ok (.laload, 1) := by decide +kernel
theorem dX6_isFree_75 : decode cX6_isFree 75 = .ok (.aload_n 0, 1) := by decide +kernel
theorem dX6_isFree_76 : decode cX6_isFree 76 = .ok (.getfield 29, 3) := by decide +kernel
theorem dX6_isFree_79 : decode cX6_isFree 79 = .ok (.iload_n 2, 1) := by decide +kernel
theorem dX6_isFree_80 : decode cX6_isFree 80 = .ok (.laload, 1) := by decide +kernel
theorem dX6_isFree_81 : decode cX6_isFree 81 = .ok (.lcmp, 1) := by decide +kernel
theorem dX6_isFree_82 : decode cX6_isFree 82 = .ok (.ifCond .eq 7, 3) := by decide +kernel
theorem dX6_isFree_85 : decode cX6_isFree 85 = .ok (.iconst 1, 1) := by decide +kernel
theorem dX6_isFree_86 : decode cX6_isFree 86 = .ok (.goto 4, 3) := by decide +kernel
theorem dX6_isFree_89 : decode cX6_isFree 89 = .ok (.iconst 0, 1) := by decide +kernel
theorem dX6_isFree_90 : decode cX6_isFree 90 = .ok (.istore_n 3, 1) := by decide +kernel
theorem dX6_isFree_91 : decode cX6_isFree 91 = .ok (.iinc 4 1, 3) := by decide +kernel
theorem dX6_isFree_94 : decode cX6_isFree 94 = .ok (.goto (-53), 3) := by decide +kernel
theorem dX6_isFree_97 : decode cX6_isFree 97 = .ok (.iconst 0, 1) := by decide +kernel
theorem dX6_isFree_98 : decode cX6_isFree 98 = .ok (.istore 4, 2) := by decide +kernel
theorem dX6_isFree_100 : decode cX6_isFree 100 = .ok (.iload 4, 2) := by decide +kernel
theorem dX6_isFree_102 : decode cX6_isFree 102 = .ok (.aload_n 0, 1) := by decide +kernel
theorem dX6_isFree_103 : decode cX6_isFree 103 = .ok (.iload_n 1, 1) := by decide +kernel
theorem dX6_isFree_104 : decode cX6_isFree 104 = .ok (.invokevirtual 65, 3) := by decide +kernel
theorem dX6_isFree_107 : decode cX6_isFree 107 = .ok (.if_icmp .ge 68, 3) := by decide +kernel
theorem dX6_isFree_110 : decode cX6_isFree 110 = .ok (.iconst 3, 1) := by decide +kernel
theorem dX6_isFree_111 : decode cX6_isFree 111 = .ok (.bipush 7, 2) := by decide +kernel
theorem dX6_isFree_113 : decode cX6_isFree 113 = .ok (.iload_n 1, 1) := by decide +kernel
theorem dX6_isFree_114 : decode cX6_isFree 114 = .ok (.imul, 1) := by decide +kernel
theorem dX6_isFree_115 : decode cX6_isFree 115 = .ok (.iload 4, 2) := by decide +kernel
theorem dX6_isFree_117 : decode cX6_isFree 117 = .ok (.iadd, 1) := by decide +kernel
theorem dX6_isFree_118 : decode cX6_isFree 118 = .ok (.imul, 1) := by decide +kernel
theorem dX6_isFree_119 : decode cX6_isFree 119 = .ok (.istore 5, 2) := by decide +kernel
theorem dX6_isFree_121 : decode cX6_isFree 121 = .ok (.iload_n 3, 1) := by decide +kernel
theorem dX6_isFree_122 : decode cX6_isFree 122 = .ok (.ifCond .eq 45, 3) := by decide +kernel
theorem dX6_isFree_125 : decode cX6_isFree 125 = .ok (.aload_n 0, 1) := by decide +kernel
theorem dX6_isFree_126 : decode cX6_isFree 126 = .ok (.getfield 19, 3) := by decide +kernel
theorem dX6_isFree_129 : decode cX6_isFree 129 = .ok (.iload 5, 2) := by decide +kernel
theorem dX6_isFree_131 : decode cX6_isFree 131 = .ok (.iaload, 1) := by decide +kernel
theorem dX6_isFree_132 : decode cX6_isFree 132 = .ok (.i2l, 1) := by decide +kernel
theorem dX6_isFree_133 : decode cX6_isFree 133 = .ok (.aload_n 0, 1) := by decide +kernel
theorem dX6_isFree_134 : decode cX6_isFree 134 = .ok (.getfield 25, 3) := by decide +kernel
theorem dX6_isFree_137 : decode cX6_isFree 137 = .ok (.iload_n 2, 1) := by decide +kernel
theorem dX6_isFree_138 : decode cX6_isFree 138 = .ok (.laload, 1) := by decide +kernel
theorem dX6_isFree_139 : decode cX6_isFree 139 = .ok (.lcmp, 1) := by decide +kernel
theorem dX6_isFree_140 : decode cX6_isFree 140 = .ok (.ifCond .ne 23, 3) := by decide +kernel
theorem dX6_isFree_143 : decode cX6_isFree 143 = .ok (.aload_n 0, 1) := by decide +kernel
theorem dX6_isFree_144 : decode cX6_isFree 144 = .ok (.getfield 19, 3) := by decide +kernel
theorem dX6_isFree_147 : decode cX6_isFree 147 = .ok (.iload 5, 2) := by decide +kernel
theorem dX6_isFree_149 : decode cX6_isFree 149 = .ok (.iconst 1, 1) := by decide +kernel
theorem dX6_isFree_150 : decode cX6_isFree 150 = .ok (.iadd, 1) := by decide +kernel
theorem dX6_isFree_151 : decode cX6_isFree 151 = .ok (.iaload, 1) := by decide +kernel
theorem dX6_isFree_152 : decode cX6_isFree 152 = .ok (.i2l, 1) := by decide +kernel
theorem dX6_isFree_153 : decode cX6_isFree 153 = .ok (.aload_n 0, 1) := by decide +kernel
theorem dX6_isFree_154 : decode cX6_isFree 154 = .ok (.getfield 29, 3) := by decide +kernel
theorem dX6_isFree_157 : decode cX6_isFree 157 = .ok (.iload_n 2, 1) := by decide +kernel
theorem dX6_isFree_158 : decode cX6_isFree 158 = .ok (.laload, 1) := by decide +kernel
theorem dX6_isFree_159 : decode cX6_isFree 159 = .ok (.lcmp, 1) := by decide +kernel
theorem dX6_isFree_160 : decode cX6_isFree 160 = .ok (.ifCond .eq 7, 3) := by decide +kernel
theorem dX6_isFree_163 : decode cX6_isFree 163 = .ok (.iconst 1, 1) := by decide +kernel
theorem dX6_isFree_164 : decode cX6_isFree 164 = .ok (.goto 4, 3) := by decide +kernel
theorem dX6_isFree_167 : decode cX6_isFree 167 = .ok (.iconst 0, 1) := by decide +kernel
theorem dX6_isFree_168 : decode cX6_isFree 168 = .ok (.istore_n 3, 1) := by decide +kernel
theorem dX6_isFree_169 : decode cX6_isFree 169 = .ok (.iinc 4 1, 3) := by decide +kernel
theorem dX6_isFree_172 : decode cX6_isFree 172 = .ok (.goto (-72), 3) := by decide +kernel
theorem dX6_isFree_175 : decode cX6_isFree 175 = .ok (.iload_n 3, 1) := by decide +kernel
theorem dX6_isFree_176 : decode cX6_isFree 176 = .ok (.ireturn, 1) := by decide +kernel
theorem dX6_comes_0 : decode cX6_comes 0 = .ok (.aload_n 0, 1) := by decide +kernel
theorem dX6_comes_1 : decode cX6_comes 1 = .ok (.iload_n 1, 1) := by decide +kernel
theorem dX6_comes_2 : decode cX6_comes 2 = .ok (.invokevirtual 65, 3) := by decide +kernel
theorem dX6_comes_5 : decode cX6_comes 5 = .ok (.aload_n 0, 1) := by decide +kernel
theorem dX6_comes_6 : decode cX6_comes 6 = .ok (.getfield 76, 3) := by decide +kernel
theorem dX6_comes_9 : decode cX6_comes 9 = .ok (.iadd, 1) := by decide +kernel
theorem dX6_comes_10 : decode cX6_comes 10 = .ok (.bipush 7, 2) := by decide +kernel
theorem dX6_comes_12 : decode cX6_comes 12 = .ok (.if_icmp .le 6, 3) := by decide +kernel
theorem dX6_comes_15 : decode cX6_comes 15 = .ok (.bipush (-2), 2) := by decide +kernel
theorem dX6_comes_17 : decode cX6_comes 17 = .ok (.ireturn, 1) := by decide +kernel
theorem dX6_comes_18 : decode cX6_comes 18 = .ok (.iconst 0, 1) := by decide +kernel
theorem dX6_comes_19 : decode cX6_comes 19 = .ok (.istore_n 2, 1) := by decide +kernel
theorem dX6_comes_20 : decode cX6_comes 20 = .ok (.iload_n 2, 1) := by decide +kernel
theorem dX6_comes_21 : decode cX6_comes 21 = .ok (.aload_n 0, 1) := by decide +kernel
theorem dX6_comes_22 : decode cX6_comes 22 = .ok (.getfield 76, 3) := by decide +kernel
theorem dX6_comes_25 : decode cX6_comes 25 = .ok (.if_icmp .ge 21, 3) := by decide +kernel
theorem dX6_comes_28 : decode cX6_comes 28 = .ok (.aload_n 0, 1) := by decide +kernel
theorem dX6_comes_29 : decode cX6_comes 29 = .ok (.iload_n 1, 1) := by decide +kernel
theorem dX6_comes_30 : decode cX6_comes 30 = .ok (.iload_n 2, 1) := by decide +kernel
theorem dX6_comes_31 : decode cX6_comes 31 = .ok (.invokevirtual 82, 3) := by decide +kernel
theorem dX6_comes_34 : decode cX6_comes 34 = .ok (.ifCond .ne 6, 3) := by decide +kernel
theorem dX6_comes_37 : decode cX6_comes 37 = .ok (.bipush (-4), 2) := by decide +kernel
theorem dX6_comes_39 : decode cX6_comes 39 = .ok (.ireturn, 1) := by decide +kernel
theorem dX6_comes_40 : decode cX6_comes 40 = .ok (.iinc 2 1, 3) := by decide +kernel
theorem dX6_comes_43 : decode cX6_comes 43 = .ok (.goto (-23), 3) := by decide +kernel
theorem dX6_comes_46 : decode cX6_comes 46 = .ok (.iconst 0, 1) := by decide +kernel
theorem dX6_comes_47 : decode cX6_comes 47 = .ok (.istore_n 2, 1) := by decide +kernel
theorem dX6_comes_48 : decode cX6_comes 48 = .ok (.iload_n 2, 1) := by decide +kernel
theorem dX6_comes_49 : decode cX6_comes 49 = .ok (.aload_n 0, 1) := by decide +kernel
theorem dX6_comes_50 : decode cX6_comes 50 = .ok (.getfield 76, 3) := by decide +kernel
theorem dX6_comes_53 : decode cX6_comes 53 = .ok (.if_icmp .ge 73, 3) := by decide +kernel
theorem dX6_comes_56 : decode cX6_comes 56 = .ok (.iconst 3, 1) := by decide +kernel
theorem dX6_comes_57 : decode cX6_comes 57 = .ok (.bipush 7, 2) := by decide +kernel
theorem dX6_comes_59 : decode cX6_comes 59 = .ok (.iload_n 1, 1) := by decide +kernel
theorem dX6_comes_60 : decode cX6_comes 60 = .ok (.imul, 1) := by decide +kernel
theorem dX6_comes_61 : decode cX6_comes 61 = .ok (.aload_n 0, 1) := by decide +kernel
theorem dX6_comes_62 : decode cX6_comes 62 = .ok (.iload_n 1, 1) := by decide +kernel
theorem dX6_comes_63 : decode cX6_comes 63 = .ok (.invokevirtual 65, 3) := by decide +kernel
theorem dX6_comes_66 : decode cX6_comes 66 = .ok (.iadd, 1) := by decide +kernel
theorem dX6_comes_67 : decode cX6_comes 67 = .ok (.imul, 1) := by decide +kernel
theorem dX6_comes_68 : decode cX6_comes 68 = .ok (.istore_n 3, 1) := by decide +kernel
theorem dX6_comes_69 : decode cX6_comes 69 = .ok (.aload_n 0, 1) := by decide +kernel
theorem dX6_comes_70 : decode cX6_comes 70 = .ok (.getfield 19, 3) := by decide +kernel
theorem dX6_comes_73 : decode cX6_comes 73 = .ok (.iload_n 3, 1) := by decide +kernel
theorem dX6_comes_74 : decode cX6_comes 74 = .ok (.aload_n 0, 1) := by decide +kernel
theorem dX6_comes_75 : decode cX6_comes 75 = .ok (.getfield 25, 3) := by decide +kernel
theorem dX6_comes_78 : decode cX6_comes 78 = .ok (.iload_n 2, 1) := by decide +kernel
theorem dX6_comes_79 : decode cX6_comes 79 = .ok (.laload, 1) := by decide +kernel
theorem dX6_comes_80 : decode cX6_comes 80 = .ok (.l2i, 1) := by decide +kernel
theorem dX6_comes_81 : decode cX6_comes 81 = .ok (.iastore, 1) := by decide +kernel
theorem dX6_comes_82 : decode cX6_comes 82 = .ok (.aload_n 0, 1) := by decide +kernel
theorem dX6_comes_83 : decode cX6_comes 83 = .ok (.getfield 19, 3) := by decide +kernel
theorem dX6_comes_86 : decode cX6_comes 86 = .ok (.iload_n 3, 1) := by decide +kernel
theorem dX6_comes_87 : decode cX6_comes 87 = .ok (.iconst 1, 1) := by decide +kernel
theorem dX6_comes_88 : decode cX6_comes 88 = .ok (.iadd, 1) := by decide +kernel
theorem dX6_comes_89 : decode cX6_comes 89 = .ok (.aload_n 0, 1) := by decide +kernel
theorem dX6_comes_90 : decode cX6_comes 90 = .ok (.getfield 29, 3) := by decide +kernel
theorem dX6_comes_93 : decode cX6_comes 93 = .ok (.iload_n 2, 1) := by decide +kernel
theorem dX6_comes_94 : decode cX6_comes 94 = .ok (.laload, 1) := by decide +kernel
theorem dX6_comes_95 : decode cX6_comes 95 = .ok (.l2i, 1) := by decide +kernel
theorem dX6_comes_96 : decode cX6_comes 96 = .ok (.iastore, 1) := by decide +kernel
theorem dX6_comes_97 : decode cX6_comes 97 = .ok (.aload_n 0, 1) := by decide +kernel
theorem dX6_comes_98 : decode cX6_comes 98 = .ok (.getfield 19, 3) := by decide +kernel
theorem dX6_comes_101 : decode cX6_comes 101 = .ok (.iload_n 3, 1) := by decide +kernel
theorem dX6_comes_102 : decode cX6_comes 102 = .ok (.iconst 2, 1) := by decide +kernel
theorem dX6_comes_103 : decode cX6_comes 103 = .ok (.iadd, 1) := by decide +kernel
theorem dX6_comes_104 : decode cX6_comes 104 = .ok (.iconst 0, 1) := by decide +kernel
theorem dX6_comes_105 : decode cX6_comes 105 = .ok (.iastore, 1) := by decide +kernel
theorem dX6_comes_106 : decode cX6_comes 106 = .ok (.aload_n 0, 1) := by decide +kernel
theorem dX6_comes_107 : decode cX6_comes 107 = .ok (.getfield 16, 3) := by decide +kernel
theorem dX6_comes_110 : decode cX6_comes 110 = .ok (.iconst 2, 1) := by decide +kernel
theorem dX6_comes_111 : decode cX6_comes 111 = .ok (.iload_n 1, 1) := by decide +kernel
theorem dX6_comes_112 : decode cX6_comes 112 = .ok (.imul, 1) := by decide +kernel
theorem dX6_comes_113 : decode cX6_comes 113 = .ok (.iconst 1, 1) := by decide +kernel
theorem dX6_comes_114 : decode cX6_comes 114 = .ok (.iadd, 1) := by decide +kernel
theorem dX6_comes_115 : decode cX6_comes 115 = .ok (.dup2, 1) := by decide +kernel
theorem dX6_comes_116 : decode cX6_comes 116 = .ok (.iaload, 1) := by decide +kernel
theorem dX6_comes_117 : decode cX6_comes 117 = .ok (.iconst 1, 1) := by decide +kernel
theorem dX6_comes_118 : decode cX6_comes 118 = .ok (.iadd, 1) := by decide +kernel
theorem dX6_comes_119 : decode cX6_comes 119 = .ok (.iastore, 1) := by decide +kernel
theorem dX6_comes_120 : decode cX6_comes 120 = .ok (.iinc 2 1, 3) := by decide +kernel
theorem dX6_comes_123 : decode cX6_comes 123 = .ok (.goto (-75), 3) := by decide +kernel
theorem dX6_comes_126 : decode cX6_comes 126 = .ok (.aload_n 0, 1) := by decide +kernel
theorem dX6_comes_127 : decode cX6_comes 127 = .ok (.iload_n 1, 1) := by decide +kernel
theorem dX6_comes_128 : decode cX6_comes 128 = .ok (.invokevirtual 65, 3) := by decide +kernel
theorem dX6_comes_131 : decode cX6_comes 131 = .ok (.ireturn, 1) := by decide +kernel
theorem dX6_line_0 : decode cX6_line 0 = .ok (.aload_n 0, 1) := by decide +kernel
theorem dX6_line_1 : decode cX6_line 1 = .ok (.iload_n 1, 1) := by decide +kernel
theorem dX6_line_2 : decode cX6_line 2 = .ok (.invokevirtual 61, 3) := by decide +kernel
theorem dX6_line_5 : decode cX6_line 5 = .ok (.ifCond .eq 45, 3) := by decide +kernel
theorem dX6_line_8 : decode cX6_line 8 = .ok (.iload_n 2, 1) := by decide +kernel
theorem dX6_line_9 : decode cX6_line 9 = .ok (.i2l, 1) := by decide +kernel
theorem dX6_line_10 : decode cX6_line 10 = .ok (.lconst 1, 1) := by decide +kernel
theorem dX6_line_11 : decode cX6_line 11 = .ok (.ldc2_w 86, 3) := by decide +kernel
theorem dX6_line_14 : decode cX6_line 14 = .ok (.invokestatic 57, 3) := by decide +kernel
theorem dX6_line_17 : decode cX6_line 17 = .ok (.ifCond .eq 33, 3) := by decide +kernel
theorem dX6_line_20 : decode cX6_line 20 = .ok (.iload 5, 2) := by decide +kernel
theorem dX6_line_22 : decode cX6_line 22 = .ok (.i2l, 1) := by decide +kernel
theorem dX6_line_23 : decode cX6_line 23 = .ok (.ldc2_w 88, 3) := by decide +kernel
theorem dX6_line_26 : decode cX6_line 26 = .ok (.ldc2_w 90, 3) := by decide +kernel
theorem dX6_line_29 : decode cX6_line 29 = .ok (.invokestatic 57, 3) := by decide +kernel
theorem dX6_line_32 : decode cX6_line 32 = .ok (.ifCond .eq 18, 3) := by decide +kernel
theorem dX6_line_35 : decode cX6_line 35 = .ok (.iload 6, 2) := by decide +kernel
theorem dX6_line_37 : decode cX6_line 37 = .ok (.i2l, 1) := by decide +kernel
theorem dX6_line_38 : decode cX6_line 38 = .ok (.ldc2_w 88, 3) := by decide +kernel
theorem dX6_line_41 : decode cX6_line 41 = .ok (.ldc2_w 90, 3) := by decide +kernel
theorem dX6_line_44 : decode cX6_line 44 = .ok (.invokestatic 57, 3) := by decide +kernel
theorem dX6_line_47 : decode cX6_line 47 = .ok (.ifCond .ne 5, 3) := by decide +kernel
theorem dX6_line_50 : decode cX6_line 50 = .ok (.iconst (-1), 1) := by decide +kernel
theorem dX6_line_51 : decode cX6_line 51 = .ok (.ireturn, 1) := by decide +kernel
theorem dX6_line_52 : decode cX6_line 52 = .ok (.aload_n 0, 1) := by decide +kernel
theorem dX6_line_53 : decode cX6_line 53 = .ok (.iconst 0, 1) := by decide +kernel
theorem dX6_line_54 : decode cX6_line 54 = .ok (.putfield 76, 3) := by decide +kernel
theorem dX6_line_57 : decode cX6_line 57 = .ok (.iconst 0, 1) := by decide +kernel
theorem dX6_line_58 : decode cX6_line 58 = .ok (.istore 7, 2) := by decide +kernel
theorem dX6_line_60 : decode cX6_line 60 = .ok (.iload 7, 2) := by decide +kernel
theorem dX6_line_62 : decode cX6_line 62 = .ok (.iload_n 2, 1) := by decide +kernel
theorem dX6_line_63 : decode cX6_line 63 = .ok (.if_icmp .ge 32, 3) := by decide +kernel
theorem dX6_line_66 : decode cX6_line 66 = .ok (.aload_n 0, 1) := by decide +kernel
theorem dX6_line_67 : decode cX6_line 67 = .ok (.iload_n 3, 1) := by decide +kernel
theorem dX6_line_68 : decode cX6_line 68 = .ok (.i2l, 1) := by decide +kernel
theorem dX6_line_69 : decode cX6_line 69 = .ok (.iload 7, 2) := by decide +kernel
theorem dX6_line_71 : decode cX6_line 71 = .ok (.iload 5, 2) := by decide +kernel
theorem dX6_line_73 : decode cX6_line 73 = .ok (.imul, 1) := by decide +kernel
theorem dX6_line_74 : decode cX6_line 74 = .ok (.i2l, 1) := by decide +kernel
theorem dX6_line_75 : decode cX6_line 75 = .ok (.ladd, 1) := by decide +kernel
theorem dX6_line_76 : decode cX6_line 76 = .ok (.iload 4, 2) := by decide +kernel
theorem dX6_line_78 : decode cX6_line 78 = .ok (.i2l, 1) := by decide +kernel
theorem dX6_line_79 : decode cX6_line 79 = .ok (.iload 7, 2) := by decide +kernel
theorem dX6_line_81 : decode cX6_line 81 = .ok (.iload 6, 2) := by decide +kernel
theorem dX6_line_83 : decode cX6_line 83 = .ok (.imul, 1) := by decide +kernel
theorem dX6_line_84 : decode cX6_line 84 = .ok (.i2l, 1) := by decide +kernel
theorem dX6_line_85 : decode cX6_line 85 = .ok (.ladd, 1) := by decide +kernel
theorem dX6_line_86 : decode cX6_line 86 = .ok (.invokevirtual 92, 3) := by decide +kernel
theorem dX6_line_89 : decode cX6_line 89 = .ok (.iinc 7 1, 3) := by decide +kernel
theorem dX6_line_92 : decode cX6_line 92 = .ok (.goto (-32), 3) := by decide +kernel
theorem dX6_line_95 : decode cX6_line 95 = .ok (.aload_n 0, 1) := by decide +kernel
theorem dX6_line_96 : decode cX6_line 96 = .ok (.iload_n 1, 1) := by decide +kernel
theorem dX6_line_97 : decode cX6_line 97 = .ok (.invokevirtual 96, 3) := by decide +kernel
theorem dX6_line_100 : decode cX6_line 100 = .ok (.ireturn, 1) := by decide +kernel
theorem dX6_block_0 : decode cX6_block 0 = .ok (.aload_n 0, 1) := by decide +kernel
theorem dX6_block_1 : decode cX6_block 1 = .ok (.iload_n 1, 1) := by decide +kernel
theorem dX6_block_2 : decode cX6_block 2 = .ok (.invokevirtual 61, 3) := by decide +kernel
theorem dX6_block_5 : decode cX6_block 5 = .ok (.ifCond .eq 42, 3) := by decide +kernel
theorem dX6_block_8 : decode cX6_block 8 = .ok (.iload 4, 2) := by decide +kernel
theorem dX6_block_10 : decode cX6_block 10 = .ok (.i2l, 1) := by decide +kernel
theorem dX6_block_11 : decode cX6_block 11 = .ok (.lconst 1, 1) := by decide +kernel
theorem dX6_block_12 : decode cX6_block 12 = .ok (.ldc2_w 69, 3) := by decide +kernel
theorem dX6_block_15 : decode cX6_block 15 = .ok (.invokestatic 57, 3) := by decide +kernel
theorem dX6_block_18 : decode cX6_block 18 = .ok (.ifCond .eq 29, 3) := by decide +kernel
theorem dX6_block_21 : decode cX6_block 21 = .ok (.iload 5, 2) := by decide +kernel
theorem dX6_block_23 : decode cX6_block 23 = .ok (.i2l, 1) := by decide +kernel
theorem dX6_block_24 : decode cX6_block 24 = .ok (.lconst 1, 1) := by decide +kernel
theorem dX6_block_25 : decode cX6_block 25 = .ok (.ldc2_w 69, 3) := by decide +kernel
theorem dX6_block_28 : decode cX6_block 28 = .ok (.invokestatic 57, 3) := by decide +kernel
theorem dX6_block_31 : decode cX6_block 31 = .ok (.ifCond .eq 16, 3) := by decide +kernel
theorem dX6_block_34 : decode cX6_block 34 = .ok (.iload 6, 2) := by decide +kernel
theorem dX6_block_36 : decode cX6_block 36 = .ok (.i2l, 1) := by decide +kernel
theorem dX6_block_37 : decode cX6_block 37 = .ok (.lconst 1, 1) := by decide +kernel
theorem dX6_block_38 : decode cX6_block 38 = .ok (.ldc2_w 99, 3) := by decide +kernel
theorem dX6_block_41 : decode cX6_block 41 = .ok (.invokestatic 57, 3) := by decide +kernel
theorem dX6_block_44 : decode cX6_block 44 = .ok (.ifCond .ne 5, 3) := by decide +kernel
theorem dX6_block_47 : decode cX6_block 47 = .ok (.iconst (-1), 1) := by decide +kernel
theorem dX6_block_48 : decode cX6_block 48 = .ok (.ireturn, 1) := by decide +kernel
theorem dX6_block_49 : decode cX6_block 49 = .ok (.aload_n 0, 1) := by decide +kernel
theorem dX6_block_50 : decode cX6_block 50 = .ok (.iconst 0, 1) := by decide +kernel
theorem dX6_block_51 : decode cX6_block 51 = .ok (.putfield 76, 3) := by decide +kernel
theorem dX6_block_54 : decode cX6_block 54 = .ok (.iconst 0, 1) := by decide +kernel
theorem dX6_block_55 : decode cX6_block 55 = .ok (.istore 7, 2) := by decide +kernel
theorem dX6_block_57 : decode cX6_block 57 = .ok (.iload 7, 2) := by decide +kernel
theorem dX6_block_59 : decode cX6_block 59 = .ok (.iload 4, 2) := by decide +kernel
theorem dX6_block_61 : decode cX6_block 61 = .ok (.iload 5, 2) := by decide +kernel
theorem dX6_block_63 : decode cX6_block 63 = .ok (.imul, 1) := by decide +kernel
theorem dX6_block_64 : decode cX6_block 64 = .ok (.if_icmp .ge 37, 3) := by decide +kernel
theorem dX6_block_67 : decode cX6_block 67 = .ok (.aload_n 0, 1) := by decide +kernel
theorem dX6_block_68 : decode cX6_block 68 = .ok (.iload_n 2, 1) := by decide +kernel
theorem dX6_block_69 : decode cX6_block 69 = .ok (.i2l, 1) := by decide +kernel
theorem dX6_block_70 : decode cX6_block 70 = .ok (.iload 7, 2) := by decide +kernel
theorem dX6_block_72 : decode cX6_block 72 = .ok (.iload 4, 2) := by decide +kernel
theorem dX6_block_74 : decode cX6_block 74 = .ok (.irem, 1) := by decide +kernel
theorem dX6_block_75 : decode cX6_block 75 = .ok (.iload 6, 2) := by decide +kernel
theorem dX6_block_77 : decode cX6_block 77 = .ok (.imul, 1) := by decide +kernel
theorem dX6_block_78 : decode cX6_block 78 = .ok (.i2l, 1) := by decide +kernel
theorem dX6_block_79 : decode cX6_block 79 = .ok (.ladd, 1) := by decide +kernel
theorem dX6_block_80 : decode cX6_block 80 = .ok (.iload_n 3, 1) := by decide +kernel
theorem dX6_block_81 : decode cX6_block 81 = .ok (.i2l, 1) := by decide +kernel
theorem dX6_block_82 : decode cX6_block 82 = .ok (.iload 7, 2) := by decide +kernel
theorem dX6_block_84 : decode cX6_block 84 = .ok (.iload 4, 2) := by decide +kernel
theorem dX6_block_86 : decode cX6_block 86 = .ok (.idiv, 1) := by decide +kernel
theorem dX6_block_87 : decode cX6_block 87 = .ok (.iload 6, 2) := by decide +kernel
theorem dX6_block_89 : decode cX6_block 89 = .ok (.imul, 1) := by decide +kernel
theorem dX6_block_90 : decode cX6_block 90 = .ok (.i2l, 1) := by decide +kernel
theorem dX6_block_91 : decode cX6_block 91 = .ok (.ladd, 1) := by decide +kernel
theorem dX6_block_92 : decode cX6_block 92 = .ok (.invokevirtual 92, 3) := by decide +kernel
theorem dX6_block_95 : decode cX6_block 95 = .ok (.iinc 7 1, 3) := by decide +kernel
theorem dX6_block_98 : decode cX6_block 98 = .ok (.goto (-41), 3) := by decide +kernel
theorem dX6_block_101 : decode cX6_block 101 = .ok (.aload_n 0, 1) := by decide +kernel
theorem dX6_block_102 : decode cX6_block 102 = .ok (.iload_n 1, 1) := by decide +kernel
theorem dX6_block_103 : decode cX6_block 103 = .ok (.invokevirtual 96, 3) := by decide +kernel
theorem dX6_block_106 : decode cX6_block 106 = .ok (.ireturn, 1) := by decide +kernel
theorem dX6_corner_0 : decode cX6_corner 0 = .ok (.aload_n 0, 1) := by decide +kernel
theorem dX6_corner_1 : decode cX6_corner 1 = .ok (.iload_n 1, 1) := by decide +kernel
theorem dX6_corner_2 : decode cX6_corner 2 = .ok (.invokevirtual 61, 3) := by decide +kernel
theorem dX6_corner_5 : decode cX6_corner 5 = .ok (.ifCond .eq 29, 3) := by decide +kernel
theorem dX6_corner_8 : decode cX6_corner 8 = .ok (.iload 4, 2) := by decide +kernel
theorem dX6_corner_10 : decode cX6_corner 10 = .ok (.i2l, 1) := by decide +kernel
theorem dX6_corner_11 : decode cX6_corner 11 = .ok (.lconst 1, 1) := by decide +kernel
theorem dX6_corner_12 : decode cX6_corner 12 = .ok (.ldc2_w 69, 3) := by decide +kernel
theorem dX6_corner_15 : decode cX6_corner 15 = .ok (.invokestatic 57, 3) := by decide +kernel
theorem dX6_corner_18 : decode cX6_corner 18 = .ok (.ifCond .eq 16, 3) := by decide +kernel
theorem dX6_corner_21 : decode cX6_corner 21 = .ok (.iload 5, 2) := by decide +kernel
theorem dX6_corner_23 : decode cX6_corner 23 = .ok (.i2l, 1) := by decide +kernel
theorem dX6_corner_24 : decode cX6_corner 24 = .ok (.lconst 1, 1) := by decide +kernel
theorem dX6_corner_25 : decode cX6_corner 25 = .ok (.ldc2_w 99, 3) := by decide +kernel
theorem dX6_corner_28 : decode cX6_corner 28 = .ok (.invokestatic 57, 3) := by decide +kernel
theorem dX6_corner_31 : decode cX6_corner 31 = .ok (.ifCond .ne 5, 3) := by decide +kernel
theorem dX6_corner_34 : decode cX6_corner 34 = .ok (.iconst (-1), 1) := by decide +kernel
theorem dX6_corner_35 : decode cX6_corner 35 = .ok (.ireturn, 1) := by decide +kernel
theorem dX6_corner_36 : decode cX6_corner 36 = .ok (.aload_n 0, 1) := by decide +kernel
theorem dX6_corner_37 : decode cX6_corner 37 = .ok (.iconst 0, 1) := by decide +kernel
theorem dX6_corner_38 : decode cX6_corner 38 = .ok (.putfield 76, 3) := by decide +kernel
theorem dX6_corner_41 : decode cX6_corner 41 = .ok (.iconst 0, 1) := by decide +kernel
theorem dX6_corner_42 : decode cX6_corner 42 = .ok (.istore 6, 2) := by decide +kernel
theorem dX6_corner_44 : decode cX6_corner 44 = .ok (.iload 6, 2) := by decide +kernel
theorem dX6_corner_46 : decode cX6_corner 46 = .ok (.iconst 2, 1) := by decide +kernel
theorem dX6_corner_47 : decode cX6_corner 47 = .ok (.iload 4, 2) := by decide +kernel
theorem dX6_corner_49 : decode cX6_corner 49 = .ok (.imul, 1) := by decide +kernel
theorem dX6_corner_50 : decode cX6_corner 50 = .ok (.iconst 1, 1) := by decide +kernel
theorem dX6_corner_51 : decode cX6_corner 51 = .ok (.isub, 1) := by decide +kernel
theorem dX6_corner_52 : decode cX6_corner 52 = .ok (.if_icmp .ge 61, 3) := by decide +kernel
theorem dX6_corner_55 : decode cX6_corner 55 = .ok (.aload_n 0, 1) := by decide +kernel
theorem dX6_corner_56 : decode cX6_corner 56 = .ok (.iload_n 2, 1) := by decide +kernel
theorem dX6_corner_57 : decode cX6_corner 57 = .ok (.i2l, 1) := by decide +kernel
theorem dX6_corner_58 : decode cX6_corner 58 = .ok (.iload 6, 2) := by decide +kernel
theorem dX6_corner_60 : decode cX6_corner 60 = .ok (.iload 4, 2) := by decide +kernel
theorem dX6_corner_62 : decode cX6_corner 62 = .ok (.if_icmp .ge 8, 3) := by decide +kernel
theorem dX6_corner_65 : decode cX6_corner 65 = .ok (.iload 6, 2) := by decide +kernel
theorem dX6_corner_67 : decode cX6_corner 67 = .ok (.goto 7, 3) := by decide +kernel
theorem dX6_corner_70 : decode cX6_corner 70 = .ok (.iload 4, 2) := by decide +kernel
theorem dX6_corner_72 : decode cX6_corner 72 = .ok (.iconst 1, 1) := by decide +kernel
theorem dX6_corner_73 : decode cX6_corner 73 = .ok (.isub, 1) := by decide +kernel
theorem dX6_corner_74 : decode cX6_corner 74 = .ok (.iload 5, 2) := by decide +kernel
theorem dX6_corner_76 : decode cX6_corner 76 = .ok (.imul, 1) := by decide +kernel
theorem dX6_corner_77 : decode cX6_corner 77 = .ok (.i2l, 1) := by decide +kernel
theorem dX6_corner_78 : decode cX6_corner 78 = .ok (.ladd, 1) := by decide +kernel
theorem dX6_corner_79 : decode cX6_corner 79 = .ok (.iload_n 3, 1) := by decide +kernel
theorem dX6_corner_80 : decode cX6_corner 80 = .ok (.i2l, 1) := by decide +kernel
theorem dX6_corner_81 : decode cX6_corner 81 = .ok (.iload 6, 2) := by decide +kernel
theorem dX6_corner_83 : decode cX6_corner 83 = .ok (.iload 4, 2) := by decide +kernel
theorem dX6_corner_85 : decode cX6_corner 85 = .ok (.if_icmp .ge 7, 3) := by decide +kernel
theorem dX6_corner_88 : decode cX6_corner 88 = .ok (.iconst 0, 1) := by decide +kernel
theorem dX6_corner_89 : decode cX6_corner 89 = .ok (.goto 10, 3) := by decide +kernel
theorem dX6_corner_92 : decode cX6_corner 92 = .ok (.iload 6, 2) := by decide +kernel
theorem dX6_corner_94 : decode cX6_corner 94 = .ok (.iload 4, 2) := by decide +kernel
theorem dX6_corner_96 : decode cX6_corner 96 = .ok (.isub, 1) := by decide +kernel
theorem dX6_corner_97 : decode cX6_corner 97 = .ok (.iconst 1, 1) := by decide +kernel
theorem dX6_corner_98 : decode cX6_corner 98 = .ok (.iadd, 1) := by decide +kernel
theorem dX6_corner_99 : decode cX6_corner 99 = .ok (.iload 5, 2) := by decide +kernel
theorem dX6_corner_101 : decode cX6_corner 101 = .ok (.imul, 1) := by decide +kernel
theorem dX6_corner_102 : decode cX6_corner 102 = .ok (.i2l, 1) := by decide +kernel
theorem dX6_corner_103 : decode cX6_corner 103 = .ok (.ladd, 1) := by decide +kernel
theorem dX6_corner_104 : decode cX6_corner 104 = .ok (.invokevirtual 92, 3) := by decide +kernel
theorem dX6_corner_107 : decode cX6_corner 107 = .ok (.iinc 6 1, 3) := by decide +kernel
theorem dX6_corner_110 : decode cX6_corner 110 = .ok (.goto (-66), 3) := by decide +kernel
theorem dX6_corner_113 : decode cX6_corner 113 = .ok (.aload_n 0, 1) := by decide +kernel
theorem dX6_corner_114 : decode cX6_corner 114 = .ok (.iload_n 1, 1) := by decide +kernel
theorem dX6_corner_115 : decode cX6_corner 115 = .ok (.invokevirtual 96, 3) := by decide +kernel
theorem dX6_corner_118 : decode cX6_corner 118 = .ok (.ireturn, 1) := by decide +kernel
theorem dX6_solo_0 : decode cX6_solo 0 = .ok (.aload_n 0, 1) := by decide +kernel
theorem dX6_solo_1 : decode cX6_solo 1 = .ok (.iload_n 1, 1) := by decide +kernel
theorem dX6_solo_2 : decode cX6_solo 2 = .ok (.iload_n 2, 1) := by decide +kernel
theorem dX6_solo_3 : decode cX6_solo 3 = .ok (.invokevirtual 101, 3) := by decide +kernel
theorem dX6_solo_6 : decode cX6_solo 6 = .ok (.ifCond .ne 5, 3) := by decide +kernel
theorem dX6_solo_9 : decode cX6_solo 9 = .ok (.iconst (-1), 1) := by decide +kernel
theorem dX6_solo_10 : decode cX6_solo 10 = .ok (.ireturn, 1) := by decide +kernel
theorem dX6_solo_11 : decode cX6_solo 11 = .ok (.iconst 3, 1) := by decide +kernel
theorem dX6_solo_12 : decode cX6_solo 12 = .ok (.bipush 7, 2) := by decide +kernel
theorem dX6_solo_14 : decode cX6_solo 14 = .ok (.iload_n 1, 1) := by decide +kernel
theorem dX6_solo_15 : decode cX6_solo 15 = .ok (.imul, 1) := by decide +kernel
theorem dX6_solo_16 : decode cX6_solo 16 = .ok (.iload_n 2, 1) := by decide +kernel
theorem dX6_solo_17 : decode cX6_solo 17 = .ok (.iadd, 1) := by decide +kernel
theorem dX6_solo_18 : decode cX6_solo 18 = .ok (.imul, 1) := by decide +kernel
theorem dX6_solo_19 : decode cX6_solo 19 = .ok (.iconst 2, 1) := by decide +kernel
theorem dX6_solo_20 : decode cX6_solo 20 = .ok (.iadd, 1) := by decide +kernel
theorem dX6_solo_21 : decode cX6_solo 21 = .ok (.istore 4, 2) := by decide +kernel
theorem dX6_solo_23 : decode cX6_solo 23 = .ok (.iload_n 3, 1) := by decide +kernel
theorem dX6_solo_24 : decode cX6_solo 24 = .ok (.ifCond .eq 7, 3) := by decide +kernel
theorem dX6_solo_27 : decode cX6_solo 27 = .ok (.iconst 1, 1) := by decide +kernel
theorem dX6_solo_28 : decode cX6_solo 28 = .ok (.goto 4, 3) := by decide +kernel
theorem dX6_solo_31 : decode cX6_solo 31 = .ok (.iconst 0, 1) := by decide +kernel
theorem dX6_solo_32 : decode cX6_solo 32 = .ok (.istore 5, 2) := by decide +kernel
theorem dX6_solo_34 : decode cX6_solo 34 = .ok (.aload_n 0, 1) := by decide +kernel
theorem dX6_solo_35 : decode cX6_solo 35 = .ok (.getfield 19, 3) := by decide +kernel
theorem dX6_solo_38 : decode cX6_solo 38 = .ok (.iload 4, 2) := by decide +kernel
theorem dX6_solo_40 : decode cX6_solo 40 = .ok (.iaload, 1) := by decide +kernel
theorem dX6_solo_41 : decode cX6_solo 41 = .ok (.iload 5, 2) := by decide +kernel
theorem dX6_solo_43 : decode cX6_solo 43 = .ok (.if_icmp .ne 7, 3) := by decide +kernel
theorem dX6_solo_46 : decode cX6_solo 46 = .ok (.iconst 0, 1) := by decide +kernel
theorem dX6_solo_47 : decode cX6_solo 47 = .ok (.goto 4, 3) := by decide +kernel
theorem dX6_solo_50 : decode cX6_solo 50 = .ok (.iconst 1, 1) := by decide +kernel
theorem dX6_solo_51 : decode cX6_solo 51 = .ok (.istore 6, 2) := by decide +kernel
theorem dX6_solo_53 : decode cX6_solo 53 = .ok (.aload_n 0, 1) := by decide +kernel
theorem dX6_solo_54 : decode cX6_solo 54 = .ok (.getfield 19, 3) := by decide +kernel
theorem dX6_solo_57 : decode cX6_solo 57 = .ok (.iload 4, 2) := by decide +kernel
theorem dX6_solo_59 : decode cX6_solo 59 = .ok (.iload 5, 2) := by decide +kernel
theorem dX6_solo_61 : decode cX6_solo 61 = .ok (.iastore, 1) := by decide +kernel
theorem dX6_solo_62 : decode cX6_solo 62 = .ok (.iload 6, 2) := by decide +kernel
theorem dX6_solo_64 : decode cX6_solo 64 = .ok (.ireturn, 1) := by decide +kernel
theorem dX6_scrub_0 : decode cX6_scrub 0 = .ok (.aload_n 0, 1) := by decide +kernel
theorem dX6_scrub_1 : decode cX6_scrub 1 = .ok (.iload_n 1, 1) := by decide +kernel
theorem dX6_scrub_2 : decode cX6_scrub 2 = .ok (.invokevirtual 61, 3) := by decide +kernel
theorem dX6_scrub_5 : decode cX6_scrub 5 = .ok (.ifCond .ne 5, 3) := by decide +kernel
theorem dX6_scrub_8 : decode cX6_scrub 8 = .ok (.iconst (-1), 1) := by decide +kernel
theorem dX6_scrub_9 : decode cX6_scrub 9 = .ok (.ireturn, 1) := by decide +kernel
theorem dX6_scrub_10 : decode cX6_scrub 10 = .ok (.aload_n 0, 1) := by decide +kernel
theorem dX6_scrub_11 : decode cX6_scrub 11 = .ok (.iload_n 1, 1) := by decide +kernel
theorem dX6_scrub_12 : decode cX6_scrub 12 = .ok (.invokevirtual 65, 3) := by decide +kernel
theorem dX6_scrub_15 : decode cX6_scrub 15 = .ok (.ifCond .ne 6, 3) := by decide +kernel
theorem dX6_scrub_18 : decode cX6_scrub 18 = .ok (.bipush (-3), 2) := by decide +kernel
theorem dX6_scrub_20 : decode cX6_scrub 20 = .ok (.ireturn, 1) := by decide +kernel
theorem dX6_scrub_21 : decode cX6_scrub 21 = .ok (.aload_n 0, 1) := by decide +kernel
theorem dX6_scrub_22 : decode cX6_scrub 22 = .ok (.getfield 16, 3) := by decide +kernel
theorem dX6_scrub_25 : decode cX6_scrub 25 = .ok (.iconst 2, 1) := by decide +kernel
theorem dX6_scrub_26 : decode cX6_scrub 26 = .ok (.iload_n 1, 1) := by decide +kernel
theorem dX6_scrub_27 : decode cX6_scrub 27 = .ok (.imul, 1) := by decide +kernel
theorem dX6_scrub_28 : decode cX6_scrub 28 = .ok (.iconst 1, 1) := by decide +kernel
theorem dX6_scrub_29 : decode cX6_scrub 29 = .ok (.iadd, 1) := by decide +kernel
theorem dX6_scrub_30 : decode cX6_scrub 30 = .ok (.dup2, 1) := by decide +kernel
theorem dX6_scrub_31 : decode cX6_scrub 31 = .ok (.iaload, 1) := by decide +kernel
theorem dX6_scrub_32 : decode cX6_scrub 32 = .ok (.iconst 1, 1) := by decide +kernel
theorem dX6_scrub_33 : decode cX6_scrub 33 = .ok (.isub, 1) := by decide +kernel
theorem dX6_scrub_34 : decode cX6_scrub 34 = .ok (.iastore, 1) := by decide +kernel
theorem dX6_scrub_35 : decode cX6_scrub 35 = .ok (.aload_n 0, 1) := by decide +kernel
theorem dX6_scrub_36 : decode cX6_scrub 36 = .ok (.iload_n 1, 1) := by decide +kernel
theorem dX6_scrub_37 : decode cX6_scrub 37 = .ok (.invokevirtual 65, 3) := by decide +kernel
theorem dX6_scrub_40 : decode cX6_scrub 40 = .ok (.ireturn, 1) := by decide +kernel
theorem dX6_rule_0 : decode cX6_rule 0 = .ok (.iload_n 1, 1) := by decide +kernel
theorem dX6_rule_1 : decode cX6_rule 1 = .ok (.i2l, 1) := by decide +kernel
theorem dX6_rule_2 : decode cX6_rule 2 = .ok (.lconst 0, 1) := by decide +kernel
theorem dX6_rule_3 : decode cX6_rule 3 = .ok (.lconst 1, 1) := by decide +kernel
theorem dX6_rule_4 : decode cX6_rule 4 = .ok (.invokestatic 57, 3) := by decide +kernel
theorem dX6_rule_7 : decode cX6_rule 7 = .ok (.ifCond .eq 26, 3) := by decide +kernel
theorem dX6_rule_10 : decode cX6_rule 10 = .ok (.iload_n 2, 1) := by decide +kernel
theorem dX6_rule_11 : decode cX6_rule 11 = .ok (.i2l, 1) := by decide +kernel
theorem dX6_rule_12 : decode cX6_rule 12 = .ok (.iload_n 1, 1) := by decide +kernel
theorem dX6_rule_13 : decode cX6_rule 13 = .ok (.i2l, 1) := by decide +kernel
theorem dX6_rule_14 : decode cX6_rule 14 = .ok (.iload_n 1, 1) := by decide +kernel
theorem dX6_rule_15 : decode cX6_rule 15 = .ok (.ifCond .ne 9, 3) := by decide +kernel
theorem dX6_rule_18 : decode cX6_rule 18 = .ok (.ldc2_w 104, 3) := by decide +kernel
theorem dX6_rule_21 : decode cX6_rule 21 = .ok (.goto 6, 3) := by decide +kernel
theorem dX6_rule_24 : decode cX6_rule 24 = .ok (.ldc2_w 106, 3) := by decide +kernel
theorem dX6_rule_27 : decode cX6_rule 27 = .ok (.invokestatic 57, 3) := by decide +kernel
theorem dX6_rule_30 : decode cX6_rule 30 = .ok (.ifCond .ne 5, 3) := by decide +kernel
theorem dX6_rule_33 : decode cX6_rule 33 = .ok (.iconst (-1), 1) := by decide +kernel
theorem dX6_rule_34 : decode cX6_rule 34 = .ok (.ireturn, 1) := by decide +kernel
theorem dX6_rule_35 : decode cX6_rule 35 = .ok (.aload_n 0, 1) := by decide +kernel
theorem dX6_rule_36 : decode cX6_rule 36 = .ok (.getfield 7, 3) := by decide +kernel
theorem dX6_rule_39 : decode cX6_rule 39 = .ok (.iconst 2, 1) := by decide +kernel
theorem dX6_rule_40 : decode cX6_rule 40 = .ok (.iload_n 1, 1) := by decide +kernel
theorem dX6_rule_41 : decode cX6_rule 41 = .ok (.iadd, 1) := by decide +kernel
theorem dX6_rule_42 : decode cX6_rule 42 = .ok (.iaload, 1) := by decide +kernel
theorem dX6_rule_43 : decode cX6_rule 43 = .ok (.istore_n 3, 1) := by decide +kernel
theorem dX6_rule_44 : decode cX6_rule 44 = .ok (.aload_n 0, 1) := by decide +kernel
theorem dX6_rule_45 : decode cX6_rule 45 = .ok (.getfield 7, 3) := by decide +kernel
theorem dX6_rule_48 : decode cX6_rule 48 = .ok (.iconst 2, 1) := by decide +kernel
theorem dX6_rule_49 : decode cX6_rule 49 = .ok (.iload_n 1, 1) := by decide +kernel
theorem dX6_rule_50 : decode cX6_rule 50 = .ok (.iadd, 1) := by decide +kernel
theorem dX6_rule_51 : decode cX6_rule 51 = .ok (.iload_n 2, 1) := by decide +kernel
theorem dX6_rule_52 : decode cX6_rule 52 = .ok (.iastore, 1) := by decide +kernel
theorem dX6_rule_53 : decode cX6_rule 53 = .ok (.iload_n 3, 1) := by decide +kernel
theorem dX6_rule_54 : decode cX6_rule 54 = .ok (.ireturn, 1) := by decide +kernel
theorem dX6_drums_0 : decode cX6_drums 0 = .ok (.iload_n 1, 1) := by decide +kernel
theorem dX6_drums_1 : decode cX6_drums 1 = .ok (.i2l, 1) := by decide +kernel
theorem dX6_drums_2 : decode cX6_drums 2 = .ok (.lconst 0, 1) := by decide +kernel
theorem dX6_drums_3 : decode cX6_drums 3 = .ok (.ldc2_w 80, 3) := by decide +kernel
theorem dX6_drums_6 : decode cX6_drums 6 = .ok (.invokestatic 57, 3) := by decide +kernel
theorem dX6_drums_9 : decode cX6_drums 9 = .ok (.ifCond .eq 15, 3) := by decide +kernel
theorem dX6_drums_12 : decode cX6_drums 12 = .ok (.iload_n 2, 1) := by decide +kernel
theorem dX6_drums_13 : decode cX6_drums 13 = .ok (.i2l, 1) := by decide +kernel
theorem dX6_drums_14 : decode cX6_drums 14 = .ok (.lconst 0, 1) := by decide +kernel
theorem dX6_drums_15 : decode cX6_drums 15 = .ok (.ldc2_w 80, 3) := by decide +kernel
theorem dX6_drums_18 : decode cX6_drums 18 = .ok (.invokestatic 57, 3) := by decide +kernel
theorem dX6_drums_21 : decode cX6_drums 21 = .ok (.ifCond .ne 6, 3) := by decide +kernel
theorem dX6_drums_24 : decode cX6_drums 24 = .ok (.bipush (-4), 2) := by decide +kernel
theorem dX6_drums_26 : decode cX6_drums 26 = .ok (.ireturn, 1) := by decide +kernel
theorem dX6_drums_27 : decode cX6_drums 27 = .ok (.aload_n 0, 1) := by decide +kernel
theorem dX6_drums_28 : decode cX6_drums 28 = .ok (.getfield 7, 3) := by decide +kernel
theorem dX6_drums_31 : decode cX6_drums 31 = .ok (.iconst 4, 1) := by decide +kernel
theorem dX6_drums_32 : decode cX6_drums 32 = .ok (.iload_n 1, 1) := by decide +kernel
theorem dX6_drums_33 : decode cX6_drums 33 = .ok (.iastore, 1) := by decide +kernel
theorem dX6_drums_34 : decode cX6_drums 34 = .ok (.aload_n 0, 1) := by decide +kernel
theorem dX6_drums_35 : decode cX6_drums 35 = .ok (.getfield 7, 3) := by decide +kernel
theorem dX6_drums_38 : decode cX6_drums 38 = .ok (.iconst 5, 1) := by decide +kernel
theorem dX6_drums_39 : decode cX6_drums 39 = .ok (.iload_n 2, 1) := by decide +kernel
theorem dX6_drums_40 : decode cX6_drums 40 = .ok (.iastore, 1) := by decide +kernel
theorem dX6_drums_41 : decode cX6_drums 41 = .ok (.iconst 1, 1) := by decide +kernel
theorem dX6_drums_42 : decode cX6_drums 42 = .ok (.ireturn, 1) := by decide +kernel
theorem dX6_dot_0 : decode cX6_dot 0 = .ok (.aload_n 0, 1) := by decide +kernel
theorem dX6_dot_1 : decode cX6_dot 1 = .ok (.iload_n 1, 1) := by decide +kernel
theorem dX6_dot_2 : decode cX6_dot 2 = .ok (.iload_n 2, 1) := by decide +kernel
theorem dX6_dot_3 : decode cX6_dot 3 = .ok (.invokevirtual 101, 3) := by decide +kernel
theorem dX6_dot_6 : decode cX6_dot 6 = .ok (.ifCond .eq 33, 3) := by decide +kernel
theorem dX6_dot_9 : decode cX6_dot 9 = .ok (.iload_n 3, 1) := by decide +kernel
theorem dX6_dot_10 : decode cX6_dot 10 = .ok (.i2l, 1) := by decide +kernel
theorem dX6_dot_11 : decode cX6_dot 11 = .ok (.lconst 0, 1) := by decide +kernel
theorem dX6_dot_12 : decode cX6_dot 12 = .ok (.ldc2_w 108, 3) := by decide +kernel
theorem dX6_dot_15 : decode cX6_dot 15 = .ok (.invokestatic 57, 3) := by decide +kernel
theorem dX6_dot_18 : decode cX6_dot 18 = .ok (.ifCond .eq 21, 3) := by decide +kernel
theorem dX6_dot_21 : decode cX6_dot 21 = .ok (.aload_n 0, 1) := by decide +kernel
theorem dX6_dot_22 : decode cX6_dot 22 = .ok (.getfield 19, 3) := by decide +kernel
theorem dX6_dot_25 : decode cX6_dot 25 = .ok (.iconst 3, 1) := by decide +kernel
theorem dX6_dot_26 : decode cX6_dot 26 = .ok (.bipush 7, 2) := by decide +kernel
theorem dX6_dot_28 : decode cX6_dot 28 = .ok (.iload_n 1, 1) := by decide +kernel
theorem dX6_dot_29 : decode cX6_dot 29 = .ok (.imul, 1) := by decide +kernel
theorem dX6_dot_30 : decode cX6_dot 30 = .ok (.iload_n 2, 1) := by decide +kernel
theorem dX6_dot_31 : decode cX6_dot 31 = .ok (.iadd, 1) := by decide +kernel
theorem dX6_dot_32 : decode cX6_dot 32 = .ok (.imul, 1) := by decide +kernel
theorem dX6_dot_33 : decode cX6_dot 33 = .ok (.iload_n 3, 1) := by decide +kernel
theorem dX6_dot_34 : decode cX6_dot 34 = .ok (.iadd, 1) := by decide +kernel
theorem dX6_dot_35 : decode cX6_dot 35 = .ok (.iaload, 1) := by decide +kernel
theorem dX6_dot_36 : decode cX6_dot 36 = .ok (.goto 4, 3) := by decide +kernel
theorem dX6_dot_39 : decode cX6_dot 39 = .ok (.iconst (-1), 1) := by decide +kernel
theorem dX6_dot_40 : decode cX6_dot 40 = .ok (.ireturn, 1) := by decide +kernel
theorem dX6_size_0 : decode cX6_size 0 = .ok (.iload_n 0, 1) := by decide +kernel
theorem dX6_size_1 : decode cX6_size 1 = .ok (.ifCond .ge 8, 3) := by decide +kernel
theorem dX6_size_4 : decode cX6_size 4 = .ok (.iload_n 0, 1) := by decide +kernel
theorem dX6_size_5 : decode cX6_size 5 = .ok (.ineg, 1) := by decide +kernel
theorem dX6_size_6 : decode cX6_size 6 = .ok (.goto 4, 3) := by decide +kernel
theorem dX6_size_9 : decode cX6_size 9 = .ok (.iload_n 0, 1) := by decide +kernel
theorem dX6_size_10 : decode cX6_size 10 = .ok (.ireturn, 1) := by decide +kernel
end
section
theorem dX6_greater_0 : decode cX6_greater 0 = .ok (.iload_n 0, 1) := by decide +kernel
theorem dX6_greater_1 : decode cX6_greater 1 = .ok (.iload_n 1, 1) := by decide +kernel
theorem dX6_greater_2 : decode cX6_greater 2 = .ok (.if_icmp .le 7, 3) := by decide +kernel
theorem dX6_greater_5 : decode cX6_greater 5 = .ok (.iload_n 0, 1) := by decide +kernel
theorem dX6_greater_6 : decode cX6_greater 6 = .ok (.goto 4, 3) := by decide +kernel
theorem dX6_greater_9 : decode cX6_greater 9 = .ok (.iload_n 1, 1) := by decide +kernel
theorem dX6_greater_10 : decode cX6_greater 10 = .ok (.ireturn, 1) := by decide +kernel
theorem dX6_x_0 : decode cX6_x 0 = .ok (.aload_n 0, 1) := by decide +kernel
theorem dX6_x_1 : decode cX6_x 1 = .ok (.getfield 19, 3) := by decide +kernel
theorem dX6_x_4 : decode cX6_x 4 = .ok (.iconst 3, 1) := by decide +kernel
theorem dX6_x_5 : decode cX6_x 5 = .ok (.bipush 7, 2) := by decide +kernel
theorem dX6_x_7 : decode cX6_x 7 = .ok (.iload_n 1, 1) := by decide +kernel
theorem dX6_x_8 : decode cX6_x 8 = .ok (.imul, 1) := by decide +kernel
theorem dX6_x_9 : decode cX6_x 9 = .ok (.iload_n 2, 1) := by decide +kernel
theorem dX6_x_10 : decode cX6_x 10 = .ok (.iadd, 1) := by decide +kernel
theorem dX6_x_11 : decode cX6_x 11 = .ok (.imul, 1) := by decide +kernel
theorem dX6_x_12 : decode cX6_x 12 = .ok (.iaload, 1) := by decide +kernel
theorem dX6_x_13 : decode cX6_x 13 = .ok (.ireturn, 1) := by decide +kernel
theorem dX6_y_0 : decode cX6_y 0 = .ok (.aload_n 0, 1) := by decide +kernel
theorem dX6_y_1 : decode cX6_y 1 = .ok (.getfield 19, 3) := by decide +kernel
theorem dX6_y_4 : decode cX6_y 4 = .ok (.iconst 3, 1) := by decide +kernel
theorem dX6_y_5 : decode cX6_y 5 = .ok (.bipush 7, 2) := by decide +kernel
theorem dX6_y_7 : decode cX6_y 7 = .ok (.iload_n 1, 1) := by decide +kernel
theorem dX6_y_8 : decode cX6_y 8 = .ok (.imul, 1) := by decide +kernel
theorem dX6_y_9 : decode cX6_y 9 = .ok (.iload_n 2, 1) := by decide +kernel
theorem dX6_y_10 : decode cX6_y 10 = .ok (.iadd, 1) := by decide +kernel
theorem dX6_y_11 : decode cX6_y 11 = .ok (.imul, 1) := by decide +kernel
theorem dX6_y_12 : decode cX6_y 12 = .ok (.iconst 1, 1) := by decide +kernel
theorem dX6_y_13 : decode cX6_y 13 = .ok (.iadd, 1) := by decide +kernel
theorem dX6_y_14 : decode cX6_y 14 = .ok (.iaload, 1) := by decide +kernel
theorem dX6_y_15 : decode cX6_y 15 = .ok (.ireturn, 1) := by decide +kernel
theorem dX6_stepTo_0 : decode cX6_stepTo 0 = .ok (.aload_n 0, 1) := by decide +kernel
theorem dX6_stepTo_1 : decode cX6_stepTo 1 = .ok (.getfield 32, 3) := by decide +kernel
theorem dX6_stepTo_4 : decode cX6_stepTo 4 = .ok (.bipush 6, 2) := by decide +kernel
theorem dX6_stepTo_6 : decode cX6_stepTo 6 = .ok (.iload_n 1, 1) := by decide +kernel
theorem dX6_stepTo_7 : decode cX6_stepTo 7 = .ok (.iconst 1, 1) := by decide +kernel
theorem dX6_stepTo_8 : decode cX6_stepTo 8 = .ok (.isub, 1) := by decide +kernel
theorem dX6_stepTo_9 : decode cX6_stepTo 9 = .ok (.imul, 1) := by decide +kernel
theorem dX6_stepTo_10 : decode cX6_stepTo 10 = .ok (.iload_n 2, 1) := by decide +kernel
theorem dX6_stepTo_11 : decode cX6_stepTo 11 = .ok (.iadd, 1) := by decide +kernel
theorem dX6_stepTo_12 : decode cX6_stepTo 12 = .ok (.iaload, 1) := by decide +kernel
theorem dX6_stepTo_13 : decode cX6_stepTo 13 = .ok (.istore 4, 2) := by decide +kernel
theorem dX6_stepTo_15 : decode cX6_stepTo 15 = .ok (.aload_n 0, 1) := by decide +kernel
theorem dX6_stepTo_16 : decode cX6_stepTo 16 = .ok (.iload_n 1, 1) := by decide +kernel
theorem dX6_stepTo_17 : decode cX6_stepTo 17 = .ok (.iload_n 3, 1) := by decide +kernel
theorem dX6_stepTo_18 : decode cX6_stepTo 18 = .ok (.invokevirtual 110, 3) := by decide +kernel
theorem dX6_stepTo_21 : decode cX6_stepTo 21 = .ok (.aload_n 0, 1) := by decide +kernel
theorem dX6_stepTo_22 : decode cX6_stepTo 22 = .ok (.iload_n 1, 1) := by decide +kernel
theorem dX6_stepTo_23 : decode cX6_stepTo 23 = .ok (.iconst 1, 1) := by decide +kernel
theorem dX6_stepTo_24 : decode cX6_stepTo 24 = .ok (.isub, 1) := by decide +kernel
theorem dX6_stepTo_25 : decode cX6_stepTo 25 = .ok (.iload 4, 2) := by decide +kernel
theorem dX6_stepTo_27 : decode cX6_stepTo 27 = .ok (.invokevirtual 110, 3) := by decide +kernel
theorem dX6_stepTo_30 : decode cX6_stepTo 30 = .ok (.isub, 1) := by decide +kernel
theorem dX6_stepTo_31 : decode cX6_stepTo 31 = .ok (.invokestatic 114, 3) := by decide +kernel
theorem dX6_stepTo_34 : decode cX6_stepTo 34 = .ok (.aload_n 0, 1) := by decide +kernel
theorem dX6_stepTo_35 : decode cX6_stepTo 35 = .ok (.iload_n 1, 1) := by decide +kernel
theorem dX6_stepTo_36 : decode cX6_stepTo 36 = .ok (.iload_n 3, 1) := by decide +kernel
theorem dX6_stepTo_37 : decode cX6_stepTo 37 = .ok (.invokevirtual 117, 3) := by decide +kernel
theorem dX6_stepTo_40 : decode cX6_stepTo 40 = .ok (.aload_n 0, 1) := by decide +kernel
theorem dX6_stepTo_41 : decode cX6_stepTo 41 = .ok (.iload_n 1, 1) := by decide +kernel
theorem dX6_stepTo_42 : decode cX6_stepTo 42 = .ok (.iconst 1, 1) := by decide +kernel
theorem dX6_stepTo_43 : decode cX6_stepTo 43 = .ok (.isub, 1) := by decide +kernel
theorem dX6_stepTo_44 : decode cX6_stepTo 44 = .ok (.iload 4, 2) := by decide +kernel
theorem dX6_stepTo_46 : decode cX6_stepTo 46 = .ok (.invokevirtual 117, 3) := by decide +kernel
theorem dX6_stepTo_49 : decode cX6_stepTo 49 = .ok (.isub, 1) := by decide +kernel
theorem dX6_stepTo_50 : decode cX6_stepTo 50 = .ok (.invokestatic 114, 3) := by decide +kernel
theorem dX6_stepTo_53 : decode cX6_stepTo 53 = .ok (.invokestatic 120, 3) := by decide +kernel
theorem dX6_stepTo_56 : decode cX6_stepTo 56 = .ok (.ireturn, 1) := by decide +kernel
theorem dX6_nearest_0 : decode cX6_nearest 0 = .ok (.iconst 2, 1) := by decide +kernel
theorem dX6_nearest_1 : decode cX6_nearest 1 = .ok (.aload_n 0, 1) := by decide +kernel
theorem dX6_nearest_2 : decode cX6_nearest 2 = .ok (.getfield 16, 3) := by decide +kernel
theorem dX6_nearest_5 : decode cX6_nearest 5 = .ok (.iconst 2, 1) := by decide +kernel
theorem dX6_nearest_6 : decode cX6_nearest 6 = .ok (.iload_n 1, 1) := by decide +kernel
theorem dX6_nearest_7 : decode cX6_nearest 7 = .ok (.imul, 1) := by decide +kernel
theorem dX6_nearest_8 : decode cX6_nearest 8 = .ok (.iaload, 1) := by decide +kernel
theorem dX6_nearest_9 : decode cX6_nearest 9 = .ok (.imul, 1) := by decide +kernel
theorem dX6_nearest_10 : decode cX6_nearest 10 = .ok (.istore 6, 2) := by decide +kernel
theorem dX6_nearest_12 : decode cX6_nearest 12 = .ok (.aload_n 0, 1) := by decide +kernel
theorem dX6_nearest_13 : decode cX6_nearest 13 = .ok (.getfield 32, 3) := by decide +kernel
theorem dX6_nearest_16 : decode cX6_nearest 16 = .ok (.bipush 6, 2) := by decide +kernel
theorem dX6_nearest_18 : decode cX6_nearest 18 = .ok (.iload_n 1, 1) := by decide +kernel
theorem dX6_nearest_19 : decode cX6_nearest 19 = .ok (.iconst 1, 1) := by decide +kernel
theorem dX6_nearest_20 : decode cX6_nearest 20 = .ok (.isub, 1) := by decide +kernel
theorem dX6_nearest_21 : decode cX6_nearest 21 = .ok (.imul, 1) := by decide +kernel
theorem dX6_nearest_22 : decode cX6_nearest 22 = .ok (.iload_n 2, 1) := by decide +kernel
theorem dX6_nearest_23 : decode cX6_nearest 23 = .ok (.iadd, 1) := by decide +kernel
theorem dX6_nearest_24 : decode cX6_nearest 24 = .ok (.iaload, 1) := by decide +kernel
theorem dX6_nearest_25 : decode cX6_nearest 25 = .ok (.istore 7, 2) := by decide +kernel
theorem dX6_nearest_27 : decode cX6_nearest 27 = .ok (.aload_n 0, 1) := by decide +kernel
theorem dX6_nearest_28 : decode cX6_nearest 28 = .ok (.getfield 32, 3) := by decide +kernel
theorem dX6_nearest_31 : decode cX6_nearest 31 = .ok (.bipush 6, 2) := by decide +kernel
theorem dX6_nearest_33 : decode cX6_nearest 33 = .ok (.iload_n 1, 1) := by decide +kernel
theorem dX6_nearest_34 : decode cX6_nearest 34 = .ok (.iconst 1, 1) := by decide +kernel
theorem dX6_nearest_35 : decode cX6_nearest 35 = .ok (.isub, 1) := by decide +kernel
theorem dX6_nearest_36 : decode cX6_nearest 36 = .ok (.imul, 1) := by decide +kernel
theorem dX6_nearest_37 : decode cX6_nearest 37 = .ok (.iload 4, 2) := by decide +kernel
theorem dX6_nearest_39 : decode cX6_nearest 39 = .ok (.iadd, 1) := by decide +kernel
theorem dX6_nearest_40 : decode cX6_nearest 40 = .ok (.iaload, 1) := by decide +kernel
theorem dX6_nearest_41 : decode cX6_nearest 41 = .ok (.istore 8, 2) := by decide +kernel
theorem dX6_nearest_43 : decode cX6_nearest 43 = .ok (.aload_n 0, 1) := by decide +kernel
theorem dX6_nearest_44 : decode cX6_nearest 44 = .ok (.iload_n 1, 1) := by decide +kernel
theorem dX6_nearest_45 : decode cX6_nearest 45 = .ok (.iconst 1, 1) := by decide +kernel
theorem dX6_nearest_46 : decode cX6_nearest 46 = .ok (.isub, 1) := by decide +kernel
theorem dX6_nearest_47 : decode cX6_nearest 47 = .ok (.iload 7, 2) := by decide +kernel
theorem dX6_nearest_49 : decode cX6_nearest 49 = .ok (.invokevirtual 110, 3) := by decide +kernel
theorem dX6_nearest_52 : decode cX6_nearest 52 = .ok (.aload_n 0, 1) := by decide +kernel
theorem dX6_nearest_53 : decode cX6_nearest 53 = .ok (.iload_n 1, 1) := by decide +kernel
theorem dX6_nearest_54 : decode cX6_nearest 54 = .ok (.iconst 1, 1) := by decide +kernel
theorem dX6_nearest_55 : decode cX6_nearest 55 = .ok (.isub, 1) := by decide +kernel
theorem dX6_nearest_56 : decode cX6_nearest 56 = .ok (.iload 8, 2) := by decide +kernel
theorem dX6_nearest_58 : decode cX6_nearest 58 = .ok (.invokevirtual 110, 3) := by decide +kernel
theorem dX6_nearest_61 : decode cX6_nearest 61 = .ok (.isub, 1) := by decide +kernel
theorem dX6_nearest_62 : decode cX6_nearest 62 = .ok (.istore 9, 2) := by decide +kernel
theorem dX6_nearest_64 : decode cX6_nearest 64 = .ok (.aload_n 0, 1) := by decide +kernel
theorem dX6_nearest_65 : decode cX6_nearest 65 = .ok (.iload_n 1, 1) := by decide +kernel
theorem dX6_nearest_66 : decode cX6_nearest 66 = .ok (.iconst 1, 1) := by decide +kernel
theorem dX6_nearest_67 : decode cX6_nearest 67 = .ok (.isub, 1) := by decide +kernel
theorem dX6_nearest_68 : decode cX6_nearest 68 = .ok (.iload 7, 2) := by decide +kernel
theorem dX6_nearest_70 : decode cX6_nearest 70 = .ok (.invokevirtual 117, 3) := by decide +kernel
theorem dX6_nearest_73 : decode cX6_nearest 73 = .ok (.aload_n 0, 1) := by decide +kernel
theorem dX6_nearest_74 : decode cX6_nearest 74 = .ok (.iload_n 1, 1) := by decide +kernel
theorem dX6_nearest_75 : decode cX6_nearest 75 = .ok (.iconst 1, 1) := by decide +kernel
theorem dX6_nearest_76 : decode cX6_nearest 76 = .ok (.isub, 1) := by decide +kernel
theorem dX6_nearest_77 : decode cX6_nearest 77 = .ok (.iload 8, 2) := by decide +kernel
theorem dX6_nearest_79 : decode cX6_nearest 79 = .ok (.invokevirtual 117, 3) := by decide +kernel
theorem dX6_nearest_82 : decode cX6_nearest 82 = .ok (.isub, 1) := by decide +kernel
theorem dX6_nearest_83 : decode cX6_nearest 83 = .ok (.istore 10, 2) := by decide +kernel
theorem dX6_nearest_85 : decode cX6_nearest 85 = .ok (.aload_n 0, 1) := by decide +kernel
theorem dX6_nearest_86 : decode cX6_nearest 86 = .ok (.iload_n 1, 1) := by decide +kernel
theorem dX6_nearest_87 : decode cX6_nearest 87 = .ok (.iload_n 3, 1) := by decide +kernel
theorem dX6_nearest_88 : decode cX6_nearest 88 = .ok (.invokevirtual 110, 3) := by decide +kernel
theorem dX6_nearest_91 : decode cX6_nearest 91 = .ok (.aload_n 0, 1) := by decide +kernel
theorem dX6_nearest_92 : decode cX6_nearest 92 = .ok (.iload_n 1, 1) := by decide +kernel
theorem dX6_nearest_93 : decode cX6_nearest 93 = .ok (.iload 5, 2) := by decide +kernel
theorem dX6_nearest_95 : decode cX6_nearest 95 = .ok (.invokevirtual 110, 3) := by decide +kernel
theorem dX6_nearest_98 : decode cX6_nearest 98 = .ok (.isub, 1) := by decide +kernel
theorem dX6_nearest_99 : decode cX6_nearest 99 = .ok (.istore 11, 2) := by decide +kernel
theorem dX6_nearest_101 : decode cX6_nearest 101 = .ok (.aload_n 0, 1) := by decide +kernel
theorem dX6_nearest_102 : decode cX6_nearest 102 = .ok (.iload_n 1, 1) := by decide +kernel
theorem dX6_nearest_103 : decode cX6_nearest 103 = .ok (.iload_n 3, 1) := by decide +kernel
theorem dX6_nearest_104 : decode cX6_nearest 104 = .ok (.invokevirtual 117, 3) := by decide +kernel
theorem dX6_nearest_107 : decode cX6_nearest 107 = .ok (.aload_n 0, 1) := by decide +kernel
theorem dX6_nearest_108 : decode cX6_nearest 108 = .ok (.iload_n 1, 1) := by decide +kernel
theorem dX6_nearest_109 : decode cX6_nearest 109 = .ok (.iload 5, 2) := by decide +kernel
theorem dX6_nearest_111 : decode cX6_nearest 111 = .ok (.invokevirtual 117, 3) := by decide +kernel
theorem dX6_nearest_114 : decode cX6_nearest 114 = .ok (.isub, 1) := by decide +kernel
theorem dX6_nearest_115 : decode cX6_nearest 115 = .ok (.istore 12, 2) := by decide +kernel
theorem dX6_nearest_117 : decode cX6_nearest 117 = .ok (.ldc 123, 2) := by decide +kernel
theorem dX6_nearest_119 : decode cX6_nearest 119 = .ok (.istore 13, 2) := by decide +kernel
theorem dX6_nearest_121 : decode cX6_nearest 121 = .ok (.iconst 1, 1) := by decide +kernel
theorem dX6_nearest_122 : decode cX6_nearest 122 = .ok (.istore 14, 2) := by decide +kernel
theorem dX6_nearest_124 : decode cX6_nearest 124 = .ok (.iload 14, 2) := by decide +kernel
theorem dX6_nearest_126 : decode cX6_nearest 126 = .ok (.iload 6, 2) := by decide +kernel
theorem dX6_nearest_128 : decode cX6_nearest 128 = .ok (.if_icmp .ge 64, 3) := by decide +kernel
theorem dX6_nearest_131 : decode cX6_nearest 131 = .ok (.iload 6, 2) := by decide +kernel
theorem dX6_nearest_133 : decode cX6_nearest 133 = .ok (.iload 9, 2) := by decide +kernel
theorem dX6_nearest_135 : decode cX6_nearest 135 = .ok (.imul, 1) := by decide +kernel
theorem dX6_nearest_136 : decode cX6_nearest 136 = .ok (.iload 14, 2) := by decide +kernel
theorem dX6_nearest_138 : decode cX6_nearest 138 = .ok (.iload 11, 2) := by decide +kernel
theorem dX6_nearest_140 : decode cX6_nearest 140 = .ok (.iload 9, 2) := by decide +kernel
theorem dX6_nearest_142 : decode cX6_nearest 142 = .ok (.isub, 1) := by decide +kernel
theorem dX6_nearest_143 : decode cX6_nearest 143 = .ok (.imul, 1) := by decide +kernel
theorem dX6_nearest_144 : decode cX6_nearest 144 = .ok (.iadd, 1) := by decide +kernel
theorem dX6_nearest_145 : decode cX6_nearest 145 = .ok (.invokestatic 114, 3) := by decide +kernel
theorem dX6_nearest_148 : decode cX6_nearest 148 = .ok (.iload 6, 2) := by decide +kernel
theorem dX6_nearest_150 : decode cX6_nearest 150 = .ok (.iload 10, 2) := by decide +kernel
theorem dX6_nearest_152 : decode cX6_nearest 152 = .ok (.imul, 1) := by decide +kernel
theorem dX6_nearest_153 : decode cX6_nearest 153 = .ok (.iload 14, 2) := by decide +kernel
theorem dX6_nearest_155 : decode cX6_nearest 155 = .ok (.iload 12, 2) := by decide +kernel
theorem dX6_nearest_157 : decode cX6_nearest 157 = .ok (.iload 10, 2) := by decide +kernel
theorem dX6_nearest_159 : decode cX6_nearest 159 = .ok (.isub, 1) := by decide +kernel
theorem dX6_nearest_160 : decode cX6_nearest 160 = .ok (.imul, 1) := by decide +kernel
theorem dX6_nearest_161 : decode cX6_nearest 161 = .ok (.iadd, 1) := by decide +kernel
theorem dX6_nearest_162 : decode cX6_nearest 162 = .ok (.invokestatic 114, 3) := by decide +kernel
theorem dX6_nearest_165 : decode cX6_nearest 165 = .ok (.invokestatic 120, 3) := by decide +kernel
theorem dX6_nearest_168 : decode cX6_nearest 168 = .ok (.istore 15, 2) := by decide +kernel
theorem dX6_nearest_170 : decode cX6_nearest 170 = .ok (.iload 15, 2) := by decide +kernel
theorem dX6_nearest_172 : decode cX6_nearest 172 = .ok (.iload 13, 2) := by decide +kernel
theorem dX6_nearest_174 : decode cX6_nearest 174 = .ok (.if_icmp .ge 8, 3) := by decide +kernel
theorem dX6_nearest_177 : decode cX6_nearest 177 = .ok (.iload 15, 2) := by decide +kernel
theorem dX6_nearest_179 : decode cX6_nearest 179 = .ok (.goto 5, 3) := by decide +kernel
theorem dX6_nearest_182 : decode cX6_nearest 182 = .ok (.iload 13, 2) := by decide +kernel
theorem dX6_nearest_184 : decode cX6_nearest 184 = .ok (.istore 13, 2) := by decide +kernel
theorem dX6_nearest_186 : decode cX6_nearest 186 = .ok (.iinc 14 1, 3) := by decide +kernel
theorem dX6_nearest_189 : decode cX6_nearest 189 = .ok (.goto (-65), 3) := by decide +kernel
theorem dX6_nearest_192 : decode cX6_nearest 192 = .ok (.iload 13, 2) := by decide +kernel
theorem dX6_nearest_194 : decode cX6_nearest 194 = .ok (.ireturn, 1) := by decide +kernel
theorem dX6_mayGo_0 : decode cX6_mayGo 0 = .ok (.aload_n 0, 1) := by decide +kernel
theorem dX6_mayGo_1 : decode cX6_mayGo 1 = .ok (.getfield 45, 3) := by decide +kernel
theorem dX6_mayGo_4 : decode cX6_mayGo 4 = .ok (.iload_n 2, 1) := by decide +kernel
theorem dX6_mayGo_5 : decode cX6_mayGo 5 = .ok (.iaload, 1) := by decide +kernel
theorem dX6_mayGo_6 : decode cX6_mayGo 6 = .ok (.istore_n 3, 1) := by decide +kernel
theorem dX6_mayGo_7 : decode cX6_mayGo 7 = .ok (.iconst 0, 1) := by decide +kernel
theorem dX6_mayGo_8 : decode cX6_mayGo 8 = .ok (.istore 4, 2) := by decide +kernel
theorem dX6_mayGo_10 : decode cX6_mayGo 10 = .ok (.iload 4, 2) := by decide +kernel
theorem dX6_mayGo_12 : decode cX6_mayGo 12 = .ok (.iload_n 2, 1) := by decide +kernel
theorem dX6_mayGo_13 : decode cX6_mayGo 13 = .ok (.if_icmp .ge 31, 3) := by decide +kernel
theorem dX6_mayGo_16 : decode cX6_mayGo 16 = .ok (.aload_n 0, 1) := by decide +kernel
theorem dX6_mayGo_17 : decode cX6_mayGo 17 = .ok (.iload 4, 2) := by decide +kernel
theorem dX6_mayGo_19 : decode cX6_mayGo 19 = .ok (.invokevirtual 124, 3) := by decide +kernel
theorem dX6_mayGo_22 : decode cX6_mayGo 22 = .ok (.ifCond .ne 16, 3) := by decide +kernel
theorem dX6_mayGo_25 : decode cX6_mayGo 25 = .ok (.aload_n 0, 1) := by decide +kernel
theorem dX6_mayGo_26 : decode cX6_mayGo 26 = .ok (.getfield 45, 3) := by decide +kernel
theorem dX6_mayGo_29 : decode cX6_mayGo 29 = .ok (.iload 4, 2) := by decide +kernel
theorem dX6_mayGo_31 : decode cX6_mayGo 31 = .ok (.iaload, 1) := by decide +kernel
theorem dX6_mayGo_32 : decode cX6_mayGo 32 = .ok (.iload_n 3, 1) := by decide +kernel
theorem dX6_mayGo_33 : decode cX6_mayGo 33 = .ok (.if_icmp .ne 5, 3) := by decide +kernel
theorem dX6_mayGo_36 : decode cX6_mayGo 36 = .ok (.iconst 0, 1) := by decide +kernel
theorem dX6_mayGo_37 : decode cX6_mayGo 37 = .ok (.ireturn, 1) := by decide +kernel
theorem dX6_mayGo_38 : decode cX6_mayGo 38 = .ok (.iinc 4 1, 3) := by decide +kernel
theorem dX6_mayGo_41 : decode cX6_mayGo 41 = .ok (.goto (-31), 3) := by decide +kernel
theorem dX6_mayGo_44 : decode cX6_mayGo 44 = .ok (.iload_n 1, 1) := by decide +kernel
theorem dX6_mayGo_45 : decode cX6_mayGo 45 = .ok (.ifCond .ne 5, 3) := by decide +kernel
theorem dX6_mayGo_48 : decode cX6_mayGo 48 = .ok (.iconst 1, 1) := by decide +kernel
theorem dX6_mayGo_49 : decode cX6_mayGo 49 = .ok (.ireturn, 1) := by decide +kernel
theorem dX6_mayGo_50 : decode cX6_mayGo 50 = .ok (.aload_n 0, 1) := by decide +kernel
theorem dX6_mayGo_51 : decode cX6_mayGo 51 = .ok (.iload_n 1, 1) := by decide +kernel
theorem dX6_mayGo_52 : decode cX6_mayGo 52 = .ok (.iload_n 2, 1) := by decide +kernel
theorem dX6_mayGo_53 : decode cX6_mayGo 53 = .ok (.iload_n 3, 1) := by decide +kernel
theorem dX6_mayGo_54 : decode cX6_mayGo 54 = .ok (.invokevirtual 127, 3) := by decide +kernel
theorem dX6_mayGo_57 : decode cX6_mayGo 57 = .ok (.aload_n 0, 1) := by decide +kernel
theorem dX6_mayGo_58 : decode cX6_mayGo 58 = .ok (.getfield 13, 3) := by decide +kernel
theorem dX6_mayGo_61 : decode cX6_mayGo 61 = .ok (.iconst 2, 1) := by decide +kernel
theorem dX6_mayGo_62 : decode cX6_mayGo 62 = .ok (.iload_n 2, 1) := by decide +kernel
theorem dX6_mayGo_63 : decode cX6_mayGo 63 = .ok (.imul, 1) := by decide +kernel
theorem dX6_mayGo_64 : decode cX6_mayGo 64 = .ok (.iaload, 1) := by decide +kernel
theorem dX6_mayGo_65 : decode cX6_mayGo 65 = .ok (.aload_n 0, 1) := by decide +kernel
theorem dX6_mayGo_66 : decode cX6_mayGo 66 = .ok (.getfield 16, 3) := by decide +kernel
theorem dX6_mayGo_69 : decode cX6_mayGo 69 = .ok (.iconst 2, 1) := by decide +kernel
theorem dX6_mayGo_70 : decode cX6_mayGo 70 = .ok (.iload_n 1, 1) := by decide +kernel
theorem dX6_mayGo_71 : decode cX6_mayGo 71 = .ok (.imul, 1) := by decide +kernel
theorem dX6_mayGo_72 : decode cX6_mayGo 72 = .ok (.iaload, 1) := by decide +kernel
theorem dX6_mayGo_73 : decode cX6_mayGo 73 = .ok (.imul, 1) := by decide +kernel
theorem dX6_mayGo_74 : decode cX6_mayGo 74 = .ok (.if_icmp .le 5, 3) := by decide +kernel
theorem dX6_mayGo_77 : decode cX6_mayGo 77 = .ok (.iconst 0, 1) := by decide +kernel
theorem dX6_mayGo_78 : decode cX6_mayGo 78 = .ok (.ireturn, 1) := by decide +kernel
theorem dX6_mayGo_79 : decode cX6_mayGo 79 = .ok (.iconst 2, 1) := by decide +kernel
theorem dX6_mayGo_80 : decode cX6_mayGo 80 = .ok (.aload_n 0, 1) := by decide +kernel
theorem dX6_mayGo_81 : decode cX6_mayGo 81 = .ok (.getfield 16, 3) := by decide +kernel
theorem dX6_mayGo_84 : decode cX6_mayGo 84 = .ok (.iconst 2, 1) := by decide +kernel
theorem dX6_mayGo_85 : decode cX6_mayGo 85 = .ok (.iload_n 1, 1) := by decide +kernel
theorem dX6_mayGo_86 : decode cX6_mayGo 86 = .ok (.imul, 1) := by decide +kernel
theorem dX6_mayGo_87 : decode cX6_mayGo 87 = .ok (.iaload, 1) := by decide +kernel
theorem dX6_mayGo_88 : decode cX6_mayGo 88 = .ok (.imul, 1) := by decide +kernel
theorem dX6_mayGo_89 : decode cX6_mayGo 89 = .ok (.aload_n 0, 1) := by decide +kernel
theorem dX6_mayGo_90 : decode cX6_mayGo 90 = .ok (.getfield 7, 3) := by decide +kernel
theorem dX6_mayGo_93 : decode cX6_mayGo 93 = .ok (.iconst 2, 1) := by decide +kernel
theorem dX6_mayGo_94 : decode cX6_mayGo 94 = .ok (.iaload, 1) := by decide +kernel
theorem dX6_mayGo_95 : decode cX6_mayGo 95 = .ok (.imul, 1) := by decide +kernel
theorem dX6_mayGo_96 : decode cX6_mayGo 96 = .ok (.istore 4, 2) := by decide +kernel
theorem dX6_mayGo_98 : decode cX6_mayGo 98 = .ok (.iconst 0, 1) := by decide +kernel
theorem dX6_mayGo_99 : decode cX6_mayGo 99 = .ok (.istore 5, 2) := by decide +kernel
theorem dX6_mayGo_101 : decode cX6_mayGo 101 = .ok (.iload 5, 2) := by decide +kernel
theorem dX6_mayGo_103 : decode cX6_mayGo 103 = .ok (.iload_n 2, 1) := by decide +kernel
theorem dX6_mayGo_104 : decode cX6_mayGo 104 = .ok (.if_icmp .ge 41, 3) := by decide +kernel
theorem dX6_mayGo_107 : decode cX6_mayGo 107 = .ok (.aload_n 0, 1) := by decide +kernel
theorem dX6_mayGo_108 : decode cX6_mayGo 108 = .ok (.iload 5, 2) := by decide +kernel
theorem dX6_mayGo_110 : decode cX6_mayGo 110 = .ok (.invokevirtual 124, 3) := by decide +kernel
theorem dX6_mayGo_113 : decode cX6_mayGo 113 = .ok (.ifCond .ne 26, 3) := by decide +kernel
theorem dX6_mayGo_116 : decode cX6_mayGo 116 = .ok (.aload_n 0, 1) := by decide +kernel
theorem dX6_mayGo_117 : decode cX6_mayGo 117 = .ok (.iload_n 1, 1) := by decide +kernel
theorem dX6_mayGo_118 : decode cX6_mayGo 118 = .ok (.iload 5, 2) := by decide +kernel
theorem dX6_mayGo_120 : decode cX6_mayGo 120 = .ok (.aload_n 0, 1) := by decide +kernel
theorem dX6_mayGo_121 : decode cX6_mayGo 121 = .ok (.getfield 45, 3) := by decide +kernel
theorem dX6_mayGo_124 : decode cX6_mayGo 124 = .ok (.iload 5, 2) := by decide +kernel
theorem dX6_mayGo_126 : decode cX6_mayGo 126 = .ok (.iaload, 1) := by decide +kernel
theorem dX6_mayGo_127 : decode cX6_mayGo 127 = .ok (.iload_n 2, 1) := by decide +kernel
theorem dX6_mayGo_128 : decode cX6_mayGo 128 = .ok (.iload_n 3, 1) := by decide +kernel
theorem dX6_mayGo_129 : decode cX6_mayGo 129 = .ok (.invokevirtual 131, 3) := by decide +kernel
theorem dX6_mayGo_132 : decode cX6_mayGo 132 = .ok (.iload 4, 2) := by decide +kernel
theorem dX6_mayGo_134 : decode cX6_mayGo 134 = .ok (.if_icmp .ge 5, 3) := by decide +kernel
theorem dX6_mayGo_137 : decode cX6_mayGo 137 = .ok (.iconst 0, 1) := by decide +kernel
theorem dX6_mayGo_138 : decode cX6_mayGo 138 = .ok (.ireturn, 1) := by decide +kernel
theorem dX6_mayGo_139 : decode cX6_mayGo 139 = .ok (.iinc 5 1, 3) := by decide +kernel
theorem dX6_mayGo_142 : decode cX6_mayGo 142 = .ok (.goto (-41), 3) := by decide +kernel
theorem dX6_mayGo_145 : decode cX6_mayGo 145 = .ok (.iconst 1, 1) := by decide +kernel
theorem dX6_mayGo_146 : decode cX6_mayGo 146 = .ok (.ireturn, 1) := by decide +kernel
theorem dX6_areSolosGiven_0 : decode cX6_areSolosGiven 0 = .ok (.iconst 1, 1) := by decide +kernel
theorem dX6_areSolosGiven_1 : decode cX6_areSolosGiven 1 = .ok (.istore_n 2, 1) := by decide +kernel
theorem dX6_areSolosGiven_2 : decode cX6_areSolosGiven 2 = .ok (.iconst 0, 1) := by decide +kernel
theorem dX6_areSolosGiven_3 : decode cX6_areSolosGiven 3 = .ok (.istore_n 3, 1) := by decide +kernel
theorem dX6_areSolosGiven_4 : decode cX6_areSolosGiven 4 = .ok (.iload_n 3, 1) := by decide +kernel
theorem dX6_areSolosGiven_5 : decode cX6_areSolosGiven 5 = .ok (.aload_n 0, 1) := by decide +kernel
theorem dX6_areSolosGiven_6 : decode cX6_areSolosGiven 6 = .ok (.iload_n 1, 1) := by decide +kernel
theorem dX6_areSolosGiven_7 : decode cX6_areSolosGiven 7 = .ok (.invokevirtual 65, 3) := by decide +kernel
theorem dX6_areSolosGiven_10 : decode cX6_areSolosGiven 10 = .ok (.if_icmp .ge 101, 3) := by decide +kernel
theorem dX6_areSolosGiven_13 : decode cX6_areSolosGiven 13 = .ok (.aload_n 0, 1) := by decide +kernel
theorem dX6_areSolosGiven_14 : decode cX6_areSolosGiven 14 = .ok (.getfield 19, 3) := by decide +kernel
theorem dX6_areSolosGiven_17 : decode cX6_areSolosGiven 17 = .ok (.iconst 3, 1) := by decide +kernel
theorem dX6_areSolosGiven_18 : decode cX6_areSolosGiven 18 = .ok (.bipush 7, 2) := by decide +kernel
theorem dX6_areSolosGiven_20 : decode cX6_areSolosGiven 20 = .ok (.iload_n 1, 1) := by decide +kernel
theorem dX6_areSolosGiven_21 : decode cX6_areSolosGiven 21 = .ok (.imul, 1) := by decide +kernel
theorem dX6_areSolosGiven_22 : decode cX6_areSolosGiven 22 = .ok (.iload_n 3, 1) := by decide +kernel
theorem dX6_areSolosGiven_23 : decode cX6_areSolosGiven 23 = .ok (.iadd, 1) := by decide +kernel
theorem dX6_areSolosGiven_24 : decode cX6_areSolosGiven 24 = .ok (.imul, 1) := by decide +kernel
theorem dX6_areSolosGiven_25 : decode cX6_areSolosGiven 25 = .ok (.iconst 2, 1) := by decide +kernel
theorem dX6_areSolosGiven_26 : decode cX6_areSolosGiven 26 = .ok (.iadd, 1) := by decide +kernel
theorem dX6_areSolosGiven_27 : decode cX6_areSolosGiven 27 = .ok (.iaload, 1) := by decide +kernel
theorem dX6_areSolosGiven_28 : decode cX6_areSolosGiven 28 = .ok (.ifCond .ne 7, 3) := by decide +kernel
theorem dX6_areSolosGiven_31 : decode cX6_areSolosGiven 31 = .ok (.iconst 1, 1) := by decide +kernel
theorem dX6_areSolosGiven_32 : decode cX6_areSolosGiven 32 = .ok (.goto 4, 3) := by decide +kernel
theorem dX6_areSolosGiven_35 : decode cX6_areSolosGiven 35 = .ok (.iconst 0, 1) := by decide +kernel
theorem dX6_areSolosGiven_36 : decode cX6_areSolosGiven 36 = .ok (.istore 4, 2) := by decide +kernel
theorem dX6_areSolosGiven_38 : decode cX6_areSolosGiven 38 = .ok (.iconst 0, 1) := by decide +kernel
theorem dX6_areSolosGiven_39 : decode cX6_areSolosGiven 39 = .ok (.istore 5, 2) := by decide +kernel
theorem dX6_areSolosGiven_41 : decode cX6_areSolosGiven 41 = .ok (.iload 5, 2) := by decide +kernel
theorem dX6_areSolosGiven_43 : decode cX6_areSolosGiven 43 = .ok (.aload_n 0, 1) := by decide +kernel
theorem dX6_areSolosGiven_44 : decode cX6_areSolosGiven 44 = .ok (.getfield 7, 3) := by decide +kernel
theorem dX6_areSolosGiven_47 : decode cX6_areSolosGiven 47 = .ok (.iconst 0, 1) := by decide +kernel
theorem dX6_areSolosGiven_48 : decode cX6_areSolosGiven 48 = .ok (.iaload, 1) := by decide +kernel
theorem dX6_areSolosGiven_49 : decode cX6_areSolosGiven 49 = .ok (.if_icmp .ge 41, 3) := by decide +kernel
theorem dX6_areSolosGiven_52 : decode cX6_areSolosGiven 52 = .ok (.iload 4, 2) := by decide +kernel
theorem dX6_areSolosGiven_54 : decode cX6_areSolosGiven 54 = .ok (.ifCond .ne 23, 3) := by decide +kernel
theorem dX6_areSolosGiven_57 : decode cX6_areSolosGiven 57 = .ok (.aload_n 0, 1) := by decide +kernel
theorem dX6_areSolosGiven_58 : decode cX6_areSolosGiven 58 = .ok (.iload 5, 2) := by decide +kernel
theorem dX6_areSolosGiven_60 : decode cX6_areSolosGiven 60 = .ok (.invokevirtual 124, 3) := by decide +kernel
theorem dX6_areSolosGiven_63 : decode cX6_areSolosGiven 63 = .ok (.ifCond .ne 18, 3) := by decide +kernel
theorem dX6_areSolosGiven_66 : decode cX6_areSolosGiven 66 = .ok (.aload_n 0, 1) := by decide +kernel
theorem dX6_areSolosGiven_67 : decode cX6_areSolosGiven 67 = .ok (.getfield 45, 3) := by decide +kernel
theorem dX6_areSolosGiven_70 : decode cX6_areSolosGiven 70 = .ok (.iload 5, 2) := by decide +kernel
theorem dX6_areSolosGiven_72 : decode cX6_areSolosGiven 72 = .ok (.iaload, 1) := by decide +kernel
theorem dX6_areSolosGiven_73 : decode cX6_areSolosGiven 73 = .ok (.iload_n 3, 1) := by decide +kernel
theorem dX6_areSolosGiven_74 : decode cX6_areSolosGiven 74 = .ok (.if_icmp .ne 7, 3) := by decide +kernel
theorem dX6_areSolosGiven_77 : decode cX6_areSolosGiven 77 = .ok (.iconst 1, 1) := by decide +kernel
theorem dX6_areSolosGiven_78 : decode cX6_areSolosGiven 78 = .ok (.goto 4, 3) := by decide +kernel
theorem dX6_areSolosGiven_81 : decode cX6_areSolosGiven 81 = .ok (.iconst 0, 1) := by decide +kernel
theorem dX6_areSolosGiven_82 : decode cX6_areSolosGiven 82 = .ok (.istore 4, 2) := by decide +kernel
theorem dX6_areSolosGiven_84 : decode cX6_areSolosGiven 84 = .ok (.iinc 5 1, 3) := by decide +kernel
theorem dX6_areSolosGiven_87 : decode cX6_areSolosGiven 87 = .ok (.goto (-46), 3) := by decide +kernel
theorem dX6_areSolosGiven_90 : decode cX6_areSolosGiven 90 = .ok (.iload_n 2, 1) := by decide +kernel
theorem dX6_areSolosGiven_91 : decode cX6_areSolosGiven 91 = .ok (.ifCond .eq 12, 3) := by decide +kernel
theorem dX6_areSolosGiven_94 : decode cX6_areSolosGiven 94 = .ok (.iload 4, 2) := by decide +kernel
theorem dX6_areSolosGiven_96 : decode cX6_areSolosGiven 96 = .ok (.ifCond .eq 7, 3) := by decide +kernel
theorem dX6_areSolosGiven_99 : decode cX6_areSolosGiven 99 = .ok (.iconst 1, 1) := by decide +kernel
theorem dX6_areSolosGiven_100 : decode cX6_areSolosGiven 100 = .ok (.goto 4, 3) := by decide +kernel
theorem dX6_areSolosGiven_103 : decode cX6_areSolosGiven 103 = .ok (.iconst 0, 1) := by decide +kernel
theorem dX6_areSolosGiven_104 : decode cX6_areSolosGiven 104 = .ok (.istore_n 2, 1) := by decide +kernel
theorem dX6_areSolosGiven_105 : decode cX6_areSolosGiven 105 = .ok (.iinc 3 1, 3) := by decide +kernel
theorem dX6_areSolosGiven_108 : decode cX6_areSolosGiven 108 = .ok (.goto (-104), 3) := by decide +kernel
theorem dX6_areSolosGiven_111 : decode cX6_areSolosGiven 111 = .ok (.iload_n 2, 1) := by decide +kernel
theorem dX6_areSolosGiven_112 : decode cX6_areSolosGiven 112 = .ok (.ireturn, 1) := by decide +kernel
theorem dX6_takes_0 : decode cX6_takes 0 = .ok (.aload_n 0, 1) := by decide +kernel
theorem dX6_takes_1 : decode cX6_takes 1 = .ok (.iload_n 1, 1) := by decide +kernel
theorem dX6_takes_2 : decode cX6_takes 2 = .ok (.invokevirtual 135, 3) := by decide +kernel
theorem dX6_takes_5 : decode cX6_takes 5 = .ok (.ifCond .ne 4, 3) := by decide +kernel
theorem dX6_takes_8 : decode cX6_takes 8 = .ok (.return_, 1) := by decide +kernel
theorem dX6_takes_9 : decode cX6_takes 9 = .ok (.iconst 0, 1) := by decide +kernel
theorem dX6_takes_10 : decode cX6_takes 10 = .ok (.istore_n 2, 1) := by decide +kernel
theorem dX6_takes_11 : decode cX6_takes 11 = .ok (.iconst 0, 1) := by decide +kernel
theorem dX6_takes_12 : decode cX6_takes 12 = .ok (.istore_n 3, 1) := by decide +kernel
theorem dX6_takes_13 : decode cX6_takes 13 = .ok (.iconst 0, 1) := by decide +kernel
theorem dX6_takes_14 : decode cX6_takes 14 = .ok (.istore 4, 2) := by decide +kernel
theorem dX6_takes_16 : decode cX6_takes 16 = .ok (.iload 4, 2) := by decide +kernel
theorem dX6_takes_18 : decode cX6_takes 18 = .ok (.aload_n 0, 1) := by decide +kernel
theorem dX6_takes_19 : decode cX6_takes 19 = .ok (.getfield 7, 3) := by decide +kernel
theorem dX6_takes_22 : decode cX6_takes 22 = .ok (.iconst 0, 1) := by decide +kernel
theorem dX6_takes_23 : decode cX6_takes 23 = .ok (.iaload, 1) := by decide +kernel
theorem dX6_takes_24 : decode cX6_takes 24 = .ok (.if_icmp .ge 54, 3) := by decide +kernel
theorem dX6_takes_27 : decode cX6_takes 27 = .ok (.iload_n 1, 1) := by decide +kernel
theorem dX6_takes_28 : decode cX6_takes 28 = .ok (.ifCond .le 50, 3) := by decide +kernel
theorem dX6_takes_31 : decode cX6_takes 31 = .ok (.aload_n 0, 1) := by decide +kernel
theorem dX6_takes_32 : decode cX6_takes 32 = .ok (.iload 4, 2) := by decide +kernel
theorem dX6_takes_34 : decode cX6_takes 34 = .ok (.invokevirtual 124, 3) := by decide +kernel
theorem dX6_takes_37 : decode cX6_takes 37 = .ok (.ifCond .eq 7, 3) := by decide +kernel
theorem dX6_takes_40 : decode cX6_takes 40 = .ok (.iconst 0, 1) := by decide +kernel
theorem dX6_takes_41 : decode cX6_takes 41 = .ok (.goto 17, 3) := by decide +kernel
theorem dX6_takes_44 : decode cX6_takes 44 = .ok (.aload_n 0, 1) := by decide +kernel
theorem dX6_takes_45 : decode cX6_takes 45 = .ok (.iload_n 1, 1) := by decide +kernel
theorem dX6_takes_46 : decode cX6_takes 46 = .ok (.iload 4, 2) := by decide +kernel
theorem dX6_takes_48 : decode cX6_takes 48 = .ok (.aload_n 0, 1) := by decide +kernel
theorem dX6_takes_49 : decode cX6_takes 49 = .ok (.getfield 45, 3) := by decide +kernel
theorem dX6_takes_52 : decode cX6_takes 52 = .ok (.iload 4, 2) := by decide +kernel
theorem dX6_takes_54 : decode cX6_takes 54 = .ok (.iaload, 1) := by decide +kernel
theorem dX6_takes_55 : decode cX6_takes 55 = .ok (.invokevirtual 127, 3) := by decide +kernel
theorem dX6_takes_58 : decode cX6_takes 58 = .ok (.istore 5, 2) := by decide +kernel
theorem dX6_takes_60 : decode cX6_takes 60 = .ok (.iload_n 2, 1) := by decide +kernel
theorem dX6_takes_61 : decode cX6_takes 61 = .ok (.iload 5, 2) := by decide +kernel
theorem dX6_takes_63 : decode cX6_takes 63 = .ok (.invokestatic 120, 3) := by decide +kernel
theorem dX6_takes_66 : decode cX6_takes 66 = .ok (.istore_n 2, 1) := by decide +kernel
theorem dX6_takes_67 : decode cX6_takes 67 = .ok (.iload_n 3, 1) := by decide +kernel
theorem dX6_takes_68 : decode cX6_takes 68 = .ok (.iload 5, 2) := by decide +kernel
theorem dX6_takes_70 : decode cX6_takes 70 = .ok (.iadd, 1) := by decide +kernel
theorem dX6_takes_71 : decode cX6_takes 71 = .ok (.istore_n 3, 1) := by decide +kernel
theorem dX6_takes_72 : decode cX6_takes 72 = .ok (.iinc 4 1, 3) := by decide +kernel
theorem dX6_takes_75 : decode cX6_takes 75 = .ok (.goto (-59), 3) := by decide +kernel
theorem dX6_takes_78 : decode cX6_takes 78 = .ok (.aload_n 0, 1) := by decide +kernel
theorem dX6_takes_79 : decode cX6_takes 79 = .ok (.getfield 35, 3) := by decide +kernel
theorem dX6_takes_82 : decode cX6_takes 82 = .ok (.iload_n 1, 1) := by decide +kernel
theorem dX6_takes_83 : decode cX6_takes 83 = .ok (.baload, 1) := by decide +kernel
theorem dX6_takes_84 : decode cX6_takes 84 = .ok (.ifCond .eq 33, 3) := by decide +kernel
theorem dX6_takes_87 : decode cX6_takes 87 = .ok (.iload_n 2, 1) := by decide +kernel
theorem dX6_takes_88 : decode cX6_takes 88 = .ok (.aload_n 0, 1) := by decide +kernel
theorem dX6_takes_89 : decode cX6_takes 89 = .ok (.getfield 39, 3) := by decide +kernel
theorem dX6_takes_92 : decode cX6_takes 92 = .ok (.iload_n 1, 1) := by decide +kernel
theorem dX6_takes_93 : decode cX6_takes 93 = .ok (.iaload, 1) := by decide +kernel
theorem dX6_takes_94 : decode cX6_takes 94 = .ok (.if_icmp .lt 23, 3) := by decide +kernel
theorem dX6_takes_97 : decode cX6_takes 97 = .ok (.iload_n 2, 1) := by decide +kernel
theorem dX6_takes_98 : decode cX6_takes 98 = .ok (.aload_n 0, 1) := by decide +kernel
theorem dX6_takes_99 : decode cX6_takes 99 = .ok (.getfield 39, 3) := by decide +kernel
theorem dX6_takes_102 : decode cX6_takes 102 = .ok (.iload_n 1, 1) := by decide +kernel
theorem dX6_takes_103 : decode cX6_takes 103 = .ok (.iaload, 1) := by decide +kernel
theorem dX6_takes_104 : decode cX6_takes 104 = .ok (.if_icmp .ne 73, 3) := by decide +kernel
theorem dX6_takes_107 : decode cX6_takes 107 = .ok (.iload_n 3, 1) := by decide +kernel
theorem dX6_takes_108 : decode cX6_takes 108 = .ok (.aload_n 0, 1) := by decide +kernel
theorem dX6_takes_109 : decode cX6_takes 109 = .ok (.getfield 42, 3) := by decide +kernel
theorem dX6_takes_112 : decode cX6_takes 112 = .ok (.iload_n 1, 1) := by decide +kernel
theorem dX6_takes_113 : decode cX6_takes 113 = .ok (.iaload, 1) := by decide +kernel
theorem dX6_takes_114 : decode cX6_takes 114 = .ok (.if_icmp .ge 63, 3) := by decide +kernel
theorem dX6_takes_117 : decode cX6_takes 117 = .ok (.aload_n 0, 1) := by decide +kernel
theorem dX6_takes_118 : decode cX6_takes 118 = .ok (.getfield 35, 3) := by decide +kernel
theorem dX6_takes_121 : decode cX6_takes 121 = .ok (.iload_n 1, 1) := by decide +kernel
theorem dX6_takes_122 : decode cX6_takes 122 = .ok (.iconst 1, 1) := by decide +kernel
theorem dX6_takes_123 : decode cX6_takes 123 = .ok (.bastore, 1) := by decide +kernel
theorem dX6_takes_124 : decode cX6_takes 124 = .ok (.aload_n 0, 1) := by decide +kernel
theorem dX6_takes_125 : decode cX6_takes 125 = .ok (.getfield 39, 3) := by decide +kernel
theorem dX6_takes_128 : decode cX6_takes 128 = .ok (.iload_n 1, 1) := by decide +kernel
theorem dX6_takes_129 : decode cX6_takes 129 = .ok (.iload_n 2, 1) := by decide +kernel
theorem dX6_takes_130 : decode cX6_takes 130 = .ok (.iastore, 1) := by decide +kernel
theorem dX6_takes_131 : decode cX6_takes 131 = .ok (.aload_n 0, 1) := by decide +kernel
theorem dX6_takes_132 : decode cX6_takes 132 = .ok (.getfield 42, 3) := by decide +kernel
theorem dX6_takes_135 : decode cX6_takes 135 = .ok (.iload_n 1, 1) := by decide +kernel
theorem dX6_takes_136 : decode cX6_takes 136 = .ok (.iload_n 3, 1) := by decide +kernel
theorem dX6_takes_137 : decode cX6_takes 137 = .ok (.iastore, 1) := by decide +kernel
theorem dX6_takes_138 : decode cX6_takes 138 = .ok (.iconst 0, 1) := by decide +kernel
theorem dX6_takes_139 : decode cX6_takes 139 = .ok (.istore 4, 2) := by decide +kernel
theorem dX6_takes_141 : decode cX6_takes 141 = .ok (.iload 4, 2) := by decide +kernel
theorem dX6_takes_143 : decode cX6_takes 143 = .ok (.aload_n 0, 1) := by decide +kernel
theorem dX6_takes_144 : decode cX6_takes 144 = .ok (.getfield 7, 3) := by decide +kernel
theorem dX6_takes_147 : decode cX6_takes 147 = .ok (.iconst 0, 1) := by decide +kernel
theorem dX6_takes_148 : decode cX6_takes 148 = .ok (.iaload, 1) := by decide +kernel
theorem dX6_takes_149 : decode cX6_takes 149 = .ok (.if_icmp .ge 28, 3) := by decide +kernel
theorem dX6_takes_152 : decode cX6_takes 152 = .ok (.aload_n 0, 1) := by decide +kernel
theorem dX6_takes_153 : decode cX6_takes 153 = .ok (.getfield 32, 3) := by decide +kernel
theorem dX6_takes_156 : decode cX6_takes 156 = .ok (.bipush 6, 2) := by decide +kernel
theorem dX6_takes_158 : decode cX6_takes 158 = .ok (.iload_n 1, 1) := by decide +kernel
theorem dX6_takes_159 : decode cX6_takes 159 = .ok (.imul, 1) := by decide +kernel
theorem dX6_takes_160 : decode cX6_takes 160 = .ok (.iload 4, 2) := by decide +kernel
theorem dX6_takes_162 : decode cX6_takes 162 = .ok (.iadd, 1) := by decide +kernel
theorem dX6_takes_163 : decode cX6_takes 163 = .ok (.aload_n 0, 1) := by decide +kernel
theorem dX6_takes_164 : decode cX6_takes 164 = .ok (.getfield 45, 3) := by decide +kernel
theorem dX6_takes_167 : decode cX6_takes 167 = .ok (.iload 4, 2) := by decide +kernel
theorem dX6_takes_169 : decode cX6_takes 169 = .ok (.iaload, 1) := by decide +kernel
theorem dX6_takes_170 : decode cX6_takes 170 = .ok (.iastore, 1) := by decide +kernel
theorem dX6_takes_171 : decode cX6_takes 171 = .ok (.iinc 4 1, 3) := by decide +kernel
theorem dX6_takes_174 : decode cX6_takes 174 = .ok (.goto (-33), 3) := by decide +kernel
theorem dX6_takes_177 : decode cX6_takes 177 = .ok (.return_, 1) := by decide +kernel
theorem dX6_seek_0 : decode cX6_seek 0 = .ok (.aload_n 0, 1) := by decide +kernel
theorem dX6_seek_1 : decode cX6_seek 1 = .ok (.getfield 35, 3) := by decide +kernel
theorem dX6_seek_4 : decode cX6_seek 4 = .ok (.iload_n 1, 1) := by decide +kernel
theorem dX6_seek_5 : decode cX6_seek 5 = .ok (.iconst 0, 1) := by decide +kernel
theorem dX6_seek_6 : decode cX6_seek 6 = .ok (.bastore, 1) := by decide +kernel
theorem dX6_seek_7 : decode cX6_seek 7 = .ok (.iload_n 1, 1) := by decide +kernel
theorem dX6_seek_8 : decode cX6_seek 8 = .ok (.ifCond .le 15, 3) := by decide +kernel
theorem dX6_seek_11 : decode cX6_seek 11 = .ok (.aload_n 0, 1) := by decide +kernel
theorem dX6_seek_12 : decode cX6_seek 12 = .ok (.getfield 35, 3) := by decide +kernel
theorem dX6_seek_15 : decode cX6_seek 15 = .ok (.iload_n 1, 1) := by decide +kernel
theorem dX6_seek_16 : decode cX6_seek 16 = .ok (.iconst 1, 1) := by decide +kernel
theorem dX6_seek_17 : decode cX6_seek 17 = .ok (.isub, 1) := by decide +kernel
theorem dX6_seek_18 : decode cX6_seek 18 = .ok (.baload, 1) := by decide +kernel
theorem dX6_seek_19 : decode cX6_seek 19 = .ok (.ifCond .ne 4, 3) := by decide +kernel
theorem dX6_seek_22 : decode cX6_seek 22 = .ok (.return_, 1) := by decide +kernel
theorem dX6_seek_23 : decode cX6_seek 23 = .ok (.iconst 0, 1) := by decide +kernel
theorem dX6_seek_24 : decode cX6_seek 24 = .ok (.istore_n 2, 1) := by decide +kernel
theorem dX6_seek_25 : decode cX6_seek 25 = .ok (.iconst 0, 1) := by decide +kernel
theorem dX6_seek_26 : decode cX6_seek 26 = .ok (.istore_n 3, 1) := by decide +kernel
theorem dX6_seek_27 : decode cX6_seek 27 = .ok (.iload_n 3, 1) := by decide +kernel
theorem dX6_seek_28 : decode cX6_seek 28 = .ok (.aload_n 0, 1) := by decide +kernel
theorem dX6_seek_29 : decode cX6_seek 29 = .ok (.getfield 7, 3) := by decide +kernel
theorem dX6_seek_32 : decode cX6_seek 32 = .ok (.iconst 0, 1) := by decide +kernel
theorem dX6_seek_33 : decode cX6_seek 33 = .ok (.iaload, 1) := by decide +kernel
theorem dX6_seek_34 : decode cX6_seek 34 = .ok (.if_icmp .ge 27, 3) := by decide +kernel
theorem dX6_seek_37 : decode cX6_seek 37 = .ok (.aload_n 0, 1) := by decide +kernel
theorem dX6_seek_38 : decode cX6_seek 38 = .ok (.iload_n 3, 1) := by decide +kernel
theorem dX6_seek_39 : decode cX6_seek 39 = .ok (.invokevirtual 124, 3) := by decide +kernel
theorem dX6_seek_42 : decode cX6_seek 42 = .ok (.ifCond .ne 13, 3) := by decide +kernel
theorem dX6_seek_45 : decode cX6_seek 45 = .ok (.aload_n 0, 1) := by decide +kernel
theorem dX6_seek_46 : decode cX6_seek 46 = .ok (.getfield 48, 3) := by decide +kernel
theorem dX6_seek_49 : decode cX6_seek 49 = .ok (.iload_n 2, 1) := by decide +kernel
theorem dX6_seek_50 : decode cX6_seek 50 = .ok (.iload_n 3, 1) := by decide +kernel
theorem dX6_seek_51 : decode cX6_seek 51 = .ok (.iastore, 1) := by decide +kernel
theorem dX6_seek_52 : decode cX6_seek 52 = .ok (.iinc 2 1, 3) := by decide +kernel
theorem dX6_seek_55 : decode cX6_seek 55 = .ok (.iinc 3 1, 3) := by decide +kernel
theorem dX6_seek_58 : decode cX6_seek 58 = .ok (.goto (-31), 3) := by decide +kernel
theorem dX6_seek_61 : decode cX6_seek 61 = .ok (.iconst 0, 1) := by decide +kernel
theorem dX6_seek_62 : decode cX6_seek 62 = .ok (.istore_n 3, 1) := by decide +kernel
theorem dX6_seek_63 : decode cX6_seek 63 = .ok (.aload_n 0, 1) := by decide +kernel
theorem dX6_seek_64 : decode cX6_seek 64 = .ok (.getfield 45, 3) := by decide +kernel
theorem dX6_seek_67 : decode cX6_seek 67 = .ok (.aload_n 0, 1) := by decide +kernel
theorem dX6_seek_68 : decode cX6_seek 68 = .ok (.getfield 48, 3) := by decide +kernel
theorem dX6_seek_71 : decode cX6_seek 71 = .ok (.iconst 0, 1) := by decide +kernel
theorem dX6_seek_72 : decode cX6_seek 72 = .ok (.iaload, 1) := by decide +kernel
theorem dX6_seek_73 : decode cX6_seek 73 = .ok (.iconst (-1), 1) := by decide +kernel
theorem dX6_seek_74 : decode cX6_seek 74 = .ok (.iastore, 1) := by decide +kernel
theorem dX6_seek_75 : decode cX6_seek 75 = .ok (.iload_n 3, 1) := by decide +kernel
theorem dX6_seek_76 : decode cX6_seek 76 = .ok (.ifCond .lt 110, 3) := by decide +kernel
theorem dX6_seek_79 : decode cX6_seek 79 = .ok (.iload_n 3, 1) := by decide +kernel
theorem dX6_seek_80 : decode cX6_seek 80 = .ok (.iload_n 2, 1) := by decide +kernel
theorem dX6_seek_81 : decode cX6_seek 81 = .ok (.if_icmp .ne 32, 3) := by decide +kernel
theorem dX6_seek_84 : decode cX6_seek 84 = .ok (.aload_n 0, 1) := by decide +kernel
theorem dX6_seek_85 : decode cX6_seek 85 = .ok (.iload_n 1, 1) := by decide +kernel
theorem dX6_seek_86 : decode cX6_seek 86 = .ok (.invokevirtual 138, 3) := by decide +kernel
theorem dX6_seek_89 : decode cX6_seek 89 = .ok (.iload_n 1, 1) := by decide +kernel
theorem dX6_seek_90 : decode cX6_seek 90 = .ok (.ifCond .ne 16, 3) := by decide +kernel
theorem dX6_seek_93 : decode cX6_seek 93 = .ok (.aload_n 0, 1) := by decide +kernel
theorem dX6_seek_94 : decode cX6_seek 94 = .ok (.getfield 35, 3) := by decide +kernel
theorem dX6_seek_97 : decode cX6_seek 97 = .ok (.iconst 0, 1) := by decide +kernel
theorem dX6_seek_98 : decode cX6_seek 98 = .ok (.baload, 1) := by decide +kernel
theorem dX6_seek_99 : decode cX6_seek 99 = .ok (.ifCond .eq 7, 3) := by decide +kernel
theorem dX6_seek_102 : decode cX6_seek 102 = .ok (.iconst (-1), 1) := by decide +kernel
theorem dX6_seek_103 : decode cX6_seek 103 = .ok (.goto 6, 3) := by decide +kernel
theorem dX6_seek_106 : decode cX6_seek 106 = .ok (.iload_n 3, 1) := by decide +kernel
theorem dX6_seek_107 : decode cX6_seek 107 = .ok (.iconst 1, 1) := by decide +kernel
theorem dX6_seek_108 : decode cX6_seek 108 = .ok (.isub, 1) := by decide +kernel
theorem dX6_seek_109 : decode cX6_seek 109 = .ok (.istore_n 3, 1) := by decide +kernel
theorem dX6_seek_110 : decode cX6_seek 110 = .ok (.goto (-35), 3) := by decide +kernel
theorem dX6_seek_113 : decode cX6_seek 113 = .ok (.aload_n 0, 1) := by decide +kernel
theorem dX6_seek_114 : decode cX6_seek 114 = .ok (.getfield 48, 3) := by decide +kernel
theorem dX6_seek_117 : decode cX6_seek 117 = .ok (.iload_n 3, 1) := by decide +kernel
theorem dX6_seek_118 : decode cX6_seek 118 = .ok (.iaload, 1) := by decide +kernel
theorem dX6_seek_119 : decode cX6_seek 119 = .ok (.istore 4, 2) := by decide +kernel
theorem dX6_seek_121 : decode cX6_seek 121 = .ok (.aload_n 0, 1) := by decide +kernel
theorem dX6_seek_122 : decode cX6_seek 122 = .ok (.getfield 45, 3) := by decide +kernel
theorem dX6_seek_125 : decode cX6_seek 125 = .ok (.iload 4, 2) := by decide +kernel
theorem dX6_seek_127 : decode cX6_seek 127 = .ok (.dup2, 1) := by decide +kernel
theorem dX6_seek_128 : decode cX6_seek 128 = .ok (.iaload, 1) := by decide +kernel
theorem dX6_seek_129 : decode cX6_seek 129 = .ok (.iconst 1, 1) := by decide +kernel
theorem dX6_seek_130 : decode cX6_seek 130 = .ok (.iadd, 1) := by decide +kernel
theorem dX6_seek_131 : decode cX6_seek 131 = .ok (.iastore, 1) := by decide +kernel
theorem dX6_seek_132 : decode cX6_seek 132 = .ok (.aload_n 0, 1) := by decide +kernel
theorem dX6_seek_133 : decode cX6_seek 133 = .ok (.getfield 45, 3) := by decide +kernel
theorem dX6_seek_136 : decode cX6_seek 136 = .ok (.iload 4, 2) := by decide +kernel
theorem dX6_seek_138 : decode cX6_seek 138 = .ok (.iaload, 1) := by decide +kernel
theorem dX6_seek_139 : decode cX6_seek 139 = .ok (.aload_n 0, 1) := by decide +kernel
theorem dX6_seek_140 : decode cX6_seek 140 = .ok (.iload_n 1, 1) := by decide +kernel
theorem dX6_seek_141 : decode cX6_seek 141 = .ok (.invokevirtual 65, 3) := by decide +kernel
theorem dX6_seek_144 : decode cX6_seek 144 = .ok (.if_icmp .ne 9, 3) := by decide +kernel
theorem dX6_seek_147 : decode cX6_seek 147 = .ok (.iinc 3 (-1), 3) := by decide +kernel
theorem dX6_seek_150 : decode cX6_seek 150 = .ok (.goto 33, 3) := by decide +kernel
theorem dX6_seek_153 : decode cX6_seek 153 = .ok (.aload_n 0, 1) := by decide +kernel
theorem dX6_seek_154 : decode cX6_seek 154 = .ok (.iload_n 1, 1) := by decide +kernel
theorem dX6_seek_155 : decode cX6_seek 155 = .ok (.iload 4, 2) := by decide +kernel
theorem dX6_seek_157 : decode cX6_seek 157 = .ok (.invokevirtual 142, 3) := by decide +kernel
theorem dX6_seek_160 : decode cX6_seek 160 = .ok (.ifCond .eq 23, 3) := by decide +kernel
theorem dX6_seek_163 : decode cX6_seek 163 = .ok (.iinc 3 1, 3) := by decide +kernel
theorem dX6_seek_166 : decode cX6_seek 166 = .ok (.iload_n 3, 1) := by decide +kernel
theorem dX6_seek_167 : decode cX6_seek 167 = .ok (.iload_n 2, 1) := by decide +kernel
theorem dX6_seek_168 : decode cX6_seek 168 = .ok (.if_icmp .ge 15, 3) := by decide +kernel
theorem dX6_seek_171 : decode cX6_seek 171 = .ok (.aload_n 0, 1) := by decide +kernel
theorem dX6_seek_172 : decode cX6_seek 172 = .ok (.getfield 45, 3) := by decide +kernel
theorem dX6_seek_175 : decode cX6_seek 175 = .ok (.aload_n 0, 1) := by decide +kernel
theorem dX6_seek_176 : decode cX6_seek 176 = .ok (.getfield 48, 3) := by decide +kernel
theorem dX6_seek_179 : decode cX6_seek 179 = .ok (.iload_n 3, 1) := by decide +kernel
theorem dX6_seek_180 : decode cX6_seek 180 = .ok (.iaload, 1) := by decide +kernel
theorem dX6_seek_181 : decode cX6_seek 181 = .ok (.iconst (-1), 1) := by decide +kernel
theorem dX6_seek_182 : decode cX6_seek 182 = .ok (.iastore, 1) := by decide +kernel
theorem dX6_seek_183 : decode cX6_seek 183 = .ok (.goto (-108), 3) := by decide +kernel
theorem dX6_seek_186 : decode cX6_seek 186 = .ok (.return_, 1) := by decide +kernel
theorem dX6_findAll_0 : decode cX6_findAll 0 = .ok (.iconst 0, 1) := by decide +kernel
theorem dX6_findAll_1 : decode cX6_findAll 1 = .ok (.istore_n 1, 1) := by decide +kernel
theorem dX6_findAll_2 : decode cX6_findAll 2 = .ok (.iload_n 1, 1) := by decide +kernel
theorem dX6_findAll_3 : decode cX6_findAll 3 = .ok (.aload_n 0, 1) := by decide +kernel
theorem dX6_findAll_4 : decode cX6_findAll 4 = .ok (.getfield 7, 3) := by decide +kernel
theorem dX6_findAll_7 : decode cX6_findAll 7 = .ok (.iconst 1, 1) := by decide +kernel
theorem dX6_findAll_8 : decode cX6_findAll 8 = .ok (.iaload, 1) := by decide +kernel
theorem dX6_findAll_9 : decode cX6_findAll 9 = .ok (.if_icmp .ge 14, 3) := by decide +kernel
theorem dX6_findAll_12 : decode cX6_findAll 12 = .ok (.aload_n 0, 1) := by decide +kernel
theorem dX6_findAll_13 : decode cX6_findAll 13 = .ok (.iload_n 1, 1) := by decide +kernel
theorem dX6_findAll_14 : decode cX6_findAll 14 = .ok (.invokevirtual 145, 3) := by decide +kernel
theorem dX6_findAll_17 : decode cX6_findAll 17 = .ok (.iinc 1 1, 3) := by decide +kernel
theorem dX6_findAll_20 : decode cX6_findAll 20 = .ok (.goto (-18), 3) := by decide +kernel
theorem dX6_findAll_23 : decode cX6_findAll 23 = .ok (.return_, 1) := by decide +kernel
end
section
theorem dX6_set_0 : decode cX6_set 0 = .ok (.aload_n 0, 1) := by decide +kernel
theorem dX6_set_1 : decode cX6_set 1 = .ok (.iload_n 1, 1) := by decide +kernel
theorem dX6_set_2 : decode cX6_set 2 = .ok (.invokevirtual 61, 3) := by decide +kernel
theorem dX6_set_5 : decode cX6_set 5 = .ok (.ifCond .eq 11, 3) := by decide +kernel
theorem dX6_set_8 : decode cX6_set 8 = .ok (.aload_n 0, 1) := by decide +kernel
theorem dX6_set_9 : decode cX6_set 9 = .ok (.iload_n 2, 1) := by decide +kernel
theorem dX6_set_10 : decode cX6_set 10 = .ok (.invokevirtual 71, 3) := by decide +kernel
theorem dX6_set_13 : decode cX6_set 13 = .ok (.ifCond .ne 5, 3) := by decide +kernel
theorem dX6_set_16 : decode cX6_set 16 = .ok (.iconst (-1), 1) := by decide +kernel
theorem dX6_set_17 : decode cX6_set 17 = .ok (.ireturn, 1) := by decide +kernel
theorem dX6_set_18 : decode cX6_set 18 = .ok (.aload_n 0, 1) := by decide +kernel
theorem dX6_set_19 : decode cX6_set 19 = .ok (.iload_n 2, 1) := by decide +kernel
theorem dX6_set_20 : decode cX6_set 20 = .ok (.invokevirtual 124, 3) := by decide +kernel
theorem dX6_set_23 : decode cX6_set 23 = .ok (.ifCond .eq 6, 3) := by decide +kernel
theorem dX6_set_26 : decode cX6_set 26 = .ok (.bipush (-5), 2) := by decide +kernel
theorem dX6_set_28 : decode cX6_set 28 = .ok (.ireturn, 1) := by decide +kernel
theorem dX6_set_29 : decode cX6_set 29 = .ok (.aload_n 0, 1) := by decide +kernel
theorem dX6_set_30 : decode cX6_set 30 = .ok (.invokevirtual 148, 3) := by decide +kernel
theorem dX6_set_33 : decode cX6_set 33 = .ok (.aload_n 0, 1) := by decide +kernel
theorem dX6_set_34 : decode cX6_set 34 = .ok (.getfield 35, 3) := by decide +kernel
theorem dX6_set_37 : decode cX6_set 37 = .ok (.iload_n 1, 1) := by decide +kernel
theorem dX6_set_38 : decode cX6_set 38 = .ok (.baload, 1) := by decide +kernel
theorem dX6_set_39 : decode cX6_set 39 = .ok (.ifCond .eq 17, 3) := by decide +kernel
theorem dX6_set_42 : decode cX6_set 42 = .ok (.aload_n 0, 1) := by decide +kernel
theorem dX6_set_43 : decode cX6_set 43 = .ok (.getfield 32, 3) := by decide +kernel
theorem dX6_set_46 : decode cX6_set 46 = .ok (.bipush 6, 2) := by decide +kernel
theorem dX6_set_48 : decode cX6_set 48 = .ok (.iload_n 1, 1) := by decide +kernel
theorem dX6_set_49 : decode cX6_set 49 = .ok (.imul, 1) := by decide +kernel
theorem dX6_set_50 : decode cX6_set 50 = .ok (.iload_n 2, 1) := by decide +kernel
theorem dX6_set_51 : decode cX6_set 51 = .ok (.iadd, 1) := by decide +kernel
theorem dX6_set_52 : decode cX6_set 52 = .ok (.iaload, 1) := by decide +kernel
theorem dX6_set_53 : decode cX6_set 53 = .ok (.goto 5, 3) := by decide +kernel
theorem dX6_set_56 : decode cX6_set 56 = .ok (.bipush (-3), 2) := by decide +kernel
theorem dX6_set_58 : decode cX6_set 58 = .ok (.ireturn, 1) := by decide +kernel
theorem dX6_steps_0 : decode cX6_steps 0 = .ok (.aload_n 0, 1) := by decide +kernel
theorem dX6_steps_1 : decode cX6_steps 1 = .ok (.iload_n 1, 1) := by decide +kernel
theorem dX6_steps_2 : decode cX6_steps 2 = .ok (.invokevirtual 61, 3) := by decide +kernel
theorem dX6_steps_5 : decode cX6_steps 5 = .ok (.ifCond .eq 15, 3) := by decide +kernel
theorem dX6_steps_8 : decode cX6_steps 8 = .ok (.iload_n 2, 1) := by decide +kernel
theorem dX6_steps_9 : decode cX6_steps 9 = .ok (.i2l, 1) := by decide +kernel
theorem dX6_steps_10 : decode cX6_steps 10 = .ok (.lconst 0, 1) := by decide +kernel
theorem dX6_steps_11 : decode cX6_steps 11 = .ok (.ldc2_w 108, 3) := by decide +kernel
theorem dX6_steps_14 : decode cX6_steps 14 = .ok (.invokestatic 57, 3) := by decide +kernel
theorem dX6_steps_17 : decode cX6_steps 17 = .ok (.ifCond .ne 5, 3) := by decide +kernel
theorem dX6_steps_20 : decode cX6_steps 20 = .ok (.iconst (-1), 1) := by decide +kernel
theorem dX6_steps_21 : decode cX6_steps 21 = .ok (.ireturn, 1) := by decide +kernel
theorem dX6_steps_22 : decode cX6_steps 22 = .ok (.aload_n 0, 1) := by decide +kernel
theorem dX6_steps_23 : decode cX6_steps 23 = .ok (.invokevirtual 148, 3) := by decide +kernel
theorem dX6_steps_26 : decode cX6_steps 26 = .ok (.aload_n 0, 1) := by decide +kernel
theorem dX6_steps_27 : decode cX6_steps 27 = .ok (.getfield 35, 3) := by decide +kernel
theorem dX6_steps_30 : decode cX6_steps 30 = .ok (.iload_n 1, 1) := by decide +kernel
theorem dX6_steps_31 : decode cX6_steps 31 = .ok (.baload, 1) := by decide +kernel
theorem dX6_steps_32 : decode cX6_steps 32 = .ok (.ifCond .ne 6, 3) := by decide +kernel
theorem dX6_steps_35 : decode cX6_steps 35 = .ok (.bipush (-3), 2) := by decide +kernel
theorem dX6_steps_37 : decode cX6_steps 37 = .ok (.ireturn, 1) := by decide +kernel
theorem dX6_steps_38 : decode cX6_steps 38 = .ok (.iload_n 2, 1) := by decide +kernel
theorem dX6_steps_39 : decode cX6_steps 39 = .ok (.ifCond .ne 12, 3) := by decide +kernel
theorem dX6_steps_42 : decode cX6_steps 42 = .ok (.aload_n 0, 1) := by decide +kernel
theorem dX6_steps_43 : decode cX6_steps 43 = .ok (.getfield 39, 3) := by decide +kernel
theorem dX6_steps_46 : decode cX6_steps 46 = .ok (.iload_n 1, 1) := by decide +kernel
theorem dX6_steps_47 : decode cX6_steps 47 = .ok (.iaload, 1) := by decide +kernel
theorem dX6_steps_48 : decode cX6_steps 48 = .ok (.goto 27, 3) := by decide +kernel
theorem dX6_steps_51 : decode cX6_steps 51 = .ok (.iload_n 2, 1) := by decide +kernel
theorem dX6_steps_52 : decode cX6_steps 52 = .ok (.iconst 1, 1) := by decide +kernel
theorem dX6_steps_53 : decode cX6_steps 53 = .ok (.if_icmp .ne 12, 3) := by decide +kernel
theorem dX6_steps_56 : decode cX6_steps 56 = .ok (.aload_n 0, 1) := by decide +kernel
theorem dX6_steps_57 : decode cX6_steps 57 = .ok (.getfield 42, 3) := by decide +kernel
theorem dX6_steps_60 : decode cX6_steps 60 = .ok (.iload_n 1, 1) := by decide +kernel
theorem dX6_steps_61 : decode cX6_steps 61 = .ok (.iaload, 1) := by decide +kernel
theorem dX6_steps_62 : decode cX6_steps 62 = .ok (.goto 13, 3) := by decide +kernel
theorem dX6_steps_65 : decode cX6_steps 65 = .ok (.aload_n 0, 1) := by decide +kernel
theorem dX6_steps_66 : decode cX6_steps 66 = .ok (.iload_n 1, 1) := by decide +kernel
theorem dX6_steps_67 : decode cX6_steps 67 = .ok (.invokevirtual 65, 3) := by decide +kernel
theorem dX6_steps_70 : decode cX6_steps 70 = .ok (.aload_n 0, 1) := by decide +kernel
theorem dX6_steps_71 : decode cX6_steps 71 = .ok (.invokevirtual 151, 3) := by decide +kernel
theorem dX6_steps_74 : decode cX6_steps 74 = .ok (.isub, 1) := by decide +kernel
theorem dX6_steps_75 : decode cX6_steps 75 = .ok (.ireturn, 1) := by decide +kernel
theorem dX6_present_0 : decode cX6_present 0 = .ok (.iconst 0, 1) := by decide +kernel
theorem dX6_present_1 : decode cX6_present 1 = .ok (.istore_n 1, 1) := by decide +kernel
theorem dX6_present_2 : decode cX6_present 2 = .ok (.iconst 0, 1) := by decide +kernel
theorem dX6_present_3 : decode cX6_present 3 = .ok (.istore_n 2, 1) := by decide +kernel
theorem dX6_present_4 : decode cX6_present 4 = .ok (.iload_n 2, 1) := by decide +kernel
theorem dX6_present_5 : decode cX6_present 5 = .ok (.aload_n 0, 1) := by decide +kernel
theorem dX6_present_6 : decode cX6_present 6 = .ok (.getfield 7, 3) := by decide +kernel
theorem dX6_present_9 : decode cX6_present 9 = .ok (.iconst 0, 1) := by decide +kernel
theorem dX6_present_10 : decode cX6_present 10 = .ok (.iaload, 1) := by decide +kernel
theorem dX6_present_11 : decode cX6_present 11 = .ok (.if_icmp .ge 25, 3) := by decide +kernel
theorem dX6_present_14 : decode cX6_present 14 = .ok (.iload_n 1, 1) := by decide +kernel
theorem dX6_present_15 : decode cX6_present 15 = .ok (.aload_n 0, 1) := by decide +kernel
theorem dX6_present_16 : decode cX6_present 16 = .ok (.iload_n 2, 1) := by decide +kernel
theorem dX6_present_17 : decode cX6_present 17 = .ok (.invokevirtual 124, 3) := by decide +kernel
theorem dX6_present_20 : decode cX6_present 20 = .ok (.ifCond .eq 7, 3) := by decide +kernel
theorem dX6_present_23 : decode cX6_present 23 = .ok (.iconst 0, 1) := by decide +kernel
theorem dX6_present_24 : decode cX6_present 24 = .ok (.goto 4, 3) := by decide +kernel
theorem dX6_present_27 : decode cX6_present 27 = .ok (.iconst 1, 1) := by decide +kernel
theorem dX6_present_28 : decode cX6_present 28 = .ok (.iadd, 1) := by decide +kernel
theorem dX6_present_29 : decode cX6_present 29 = .ok (.istore_n 1, 1) := by decide +kernel
theorem dX6_present_30 : decode cX6_present 30 = .ok (.iinc 2 1, 3) := by decide +kernel
theorem dX6_present_33 : decode cX6_present 33 = .ok (.goto (-29), 3) := by decide +kernel
theorem dX6_present_36 : decode cX6_present 36 = .ok (.iload_n 1, 1) := by decide +kernel
theorem dX6_present_37 : decode cX6_present 37 = .ok (.ireturn, 1) := by decide +kernel
theorem dX6_divisor_0 : decode cX6_divisor 0 = .ok (.iload_n 0, 1) := by decide +kernel
theorem dX6_divisor_1 : decode cX6_divisor 1 = .ok (.istore_n 2, 1) := by decide +kernel
theorem dX6_divisor_2 : decode cX6_divisor 2 = .ok (.iload_n 1, 1) := by decide +kernel
theorem dX6_divisor_3 : decode cX6_divisor 3 = .ok (.istore_n 3, 1) := by decide +kernel
theorem dX6_divisor_4 : decode cX6_divisor 4 = .ok (.iload_n 3, 1) := by decide +kernel
theorem dX6_divisor_5 : decode cX6_divisor 5 = .ok (.ifCond .eq 16, 3) := by decide +kernel
theorem dX6_divisor_8 : decode cX6_divisor 8 = .ok (.iload_n 2, 1) := by decide +kernel
theorem dX6_divisor_9 : decode cX6_divisor 9 = .ok (.iload_n 3, 1) := by decide +kernel
theorem dX6_divisor_10 : decode cX6_divisor 10 = .ok (.irem, 1) := by decide +kernel
theorem dX6_divisor_11 : decode cX6_divisor 11 = .ok (.istore 4, 2) := by decide +kernel
theorem dX6_divisor_13 : decode cX6_divisor 13 = .ok (.iload_n 3, 1) := by decide +kernel
theorem dX6_divisor_14 : decode cX6_divisor 14 = .ok (.istore_n 2, 1) := by decide +kernel
theorem dX6_divisor_15 : decode cX6_divisor 15 = .ok (.iload 4, 2) := by decide +kernel
theorem dX6_divisor_17 : decode cX6_divisor 17 = .ok (.istore_n 3, 1) := by decide +kernel
theorem dX6_divisor_18 : decode cX6_divisor 18 = .ok (.goto (-14), 3) := by decide +kernel
theorem dX6_divisor_21 : decode cX6_divisor 21 = .ok (.iload_n 2, 1) := by decide +kernel
theorem dX6_divisor_22 : decode cX6_divisor 22 = .ok (.ireturn, 1) := by decide +kernel
theorem dX6_way_0 : decode cX6_way 0 = .ok (.aload_n 0, 1) := by decide +kernel
theorem dX6_way_1 : decode cX6_way 1 = .ok (.iload_n 1, 1) := by decide +kernel
theorem dX6_way_2 : decode cX6_way 2 = .ok (.invokevirtual 61, 3) := by decide +kernel
theorem dX6_way_5 : decode cX6_way 5 = .ok (.ifCond .eq 48, 3) := by decide +kernel
theorem dX6_way_8 : decode cX6_way 8 = .ok (.iload_n 1, 1) := by decide +kernel
theorem dX6_way_9 : decode cX6_way 9 = .ok (.ifCond .eq 44, 3) := by decide +kernel
theorem dX6_way_12 : decode cX6_way 12 = .ok (.aload_n 0, 1) := by decide +kernel
theorem dX6_way_13 : decode cX6_way 13 = .ok (.iload_n 2, 1) := by decide +kernel
theorem dX6_way_14 : decode cX6_way 14 = .ok (.invokevirtual 71, 3) := by decide +kernel
theorem dX6_way_17 : decode cX6_way 17 = .ok (.ifCond .eq 36, 3) := by decide +kernel
theorem dX6_way_20 : decode cX6_way 20 = .ok (.iload_n 3, 1) := by decide +kernel
theorem dX6_way_21 : decode cX6_way 21 = .ok (.i2l, 1) := by decide +kernel
theorem dX6_way_22 : decode cX6_way 22 = .ok (.lconst 0, 1) := by decide +kernel
theorem dX6_way_23 : decode cX6_way 23 = .ok (.iconst 2, 1) := by decide +kernel
theorem dX6_way_24 : decode cX6_way 24 = .ok (.aload_n 0, 1) := by decide +kernel
theorem dX6_way_25 : decode cX6_way 25 = .ok (.getfield 16, 3) := by decide +kernel
theorem dX6_way_28 : decode cX6_way 28 = .ok (.iconst 2, 1) := by decide +kernel
theorem dX6_way_29 : decode cX6_way 29 = .ok (.iload_n 1, 1) := by decide +kernel
theorem dX6_way_30 : decode cX6_way 30 = .ok (.imul, 1) := by decide +kernel
theorem dX6_way_31 : decode cX6_way 31 = .ok (.iaload, 1) := by decide +kernel
theorem dX6_way_32 : decode cX6_way 32 = .ok (.imul, 1) := by decide +kernel
theorem dX6_way_33 : decode cX6_way 33 = .ok (.i2l, 1) := by decide +kernel
theorem dX6_way_34 : decode cX6_way 34 = .ok (.invokestatic 57, 3) := by decide +kernel
theorem dX6_way_37 : decode cX6_way 37 = .ok (.ifCond .eq 16, 3) := by decide +kernel
theorem dX6_way_40 : decode cX6_way 40 = .ok (.iload 4, 2) := by decide +kernel
theorem dX6_way_42 : decode cX6_way 42 = .ok (.i2l, 1) := by decide +kernel
theorem dX6_way_43 : decode cX6_way 43 = .ok (.lconst 0, 1) := by decide +kernel
theorem dX6_way_44 : decode cX6_way 44 = .ok (.ldc2_w 104, 3) := by decide +kernel
theorem dX6_way_47 : decode cX6_way 47 = .ok (.invokestatic 57, 3) := by decide +kernel
theorem dX6_way_50 : decode cX6_way 50 = .ok (.ifCond .ne 5, 3) := by decide +kernel
theorem dX6_way_53 : decode cX6_way 53 = .ok (.iconst (-1), 1) := by decide +kernel
theorem dX6_way_54 : decode cX6_way 54 = .ok (.ireturn, 1) := by decide +kernel
theorem dX6_way_55 : decode cX6_way 55 = .ok (.aload_n 0, 1) := by decide +kernel
theorem dX6_way_56 : decode cX6_way 56 = .ok (.iload_n 2, 1) := by decide +kernel
theorem dX6_way_57 : decode cX6_way 57 = .ok (.invokevirtual 124, 3) := by decide +kernel
theorem dX6_way_60 : decode cX6_way 60 = .ok (.ifCond .eq 6, 3) := by decide +kernel
theorem dX6_way_63 : decode cX6_way 63 = .ok (.bipush (-5), 2) := by decide +kernel
theorem dX6_way_65 : decode cX6_way 65 = .ok (.ireturn, 1) := by decide +kernel
theorem dX6_way_66 : decode cX6_way 66 = .ok (.aload_n 0, 1) := by decide +kernel
theorem dX6_way_67 : decode cX6_way 67 = .ok (.invokevirtual 148, 3) := by decide +kernel
theorem dX6_way_70 : decode cX6_way 70 = .ok (.aload_n 0, 1) := by decide +kernel
theorem dX6_way_71 : decode cX6_way 71 = .ok (.getfield 35, 3) := by decide +kernel
theorem dX6_way_74 : decode cX6_way 74 = .ok (.iload_n 1, 1) := by decide +kernel
theorem dX6_way_75 : decode cX6_way 75 = .ok (.baload, 1) := by decide +kernel
theorem dX6_way_76 : decode cX6_way 76 = .ok (.ifCond .ne 6, 3) := by decide +kernel
theorem dX6_way_79 : decode cX6_way 79 = .ok (.bipush (-3), 2) := by decide +kernel
theorem dX6_way_81 : decode cX6_way 81 = .ok (.ireturn, 1) := by decide +kernel
theorem dX6_way_82 : decode cX6_way 82 = .ok (.aload_n 0, 1) := by decide +kernel
theorem dX6_way_83 : decode cX6_way 83 = .ok (.getfield 32, 3) := by decide +kernel
theorem dX6_way_86 : decode cX6_way 86 = .ok (.bipush 6, 2) := by decide +kernel
theorem dX6_way_88 : decode cX6_way 88 = .ok (.iload_n 1, 1) := by decide +kernel
theorem dX6_way_89 : decode cX6_way 89 = .ok (.iconst 1, 1) := by decide +kernel
theorem dX6_way_90 : decode cX6_way 90 = .ok (.isub, 1) := by decide +kernel
theorem dX6_way_91 : decode cX6_way 91 = .ok (.imul, 1) := by decide +kernel
theorem dX6_way_92 : decode cX6_way 92 = .ok (.iload_n 2, 1) := by decide +kernel
theorem dX6_way_93 : decode cX6_way 93 = .ok (.iadd, 1) := by decide +kernel
theorem dX6_way_94 : decode cX6_way 94 = .ok (.iaload, 1) := by decide +kernel
theorem dX6_way_95 : decode cX6_way 95 = .ok (.istore 5, 2) := by decide +kernel
theorem dX6_way_97 : decode cX6_way 97 = .ok (.aload_n 0, 1) := by decide +kernel
theorem dX6_way_98 : decode cX6_way 98 = .ok (.getfield 32, 3) := by decide +kernel
theorem dX6_way_101 : decode cX6_way 101 = .ok (.bipush 6, 2) := by decide +kernel
theorem dX6_way_103 : decode cX6_way 103 = .ok (.iload_n 1, 1) := by decide +kernel
theorem dX6_way_104 : decode cX6_way 104 = .ok (.imul, 1) := by decide +kernel
theorem dX6_way_105 : decode cX6_way 105 = .ok (.iload_n 2, 1) := by decide +kernel
theorem dX6_way_106 : decode cX6_way 106 = .ok (.iadd, 1) := by decide +kernel
theorem dX6_way_107 : decode cX6_way 107 = .ok (.iaload, 1) := by decide +kernel
theorem dX6_way_108 : decode cX6_way 108 = .ok (.istore 6, 2) := by decide +kernel
theorem dX6_way_110 : decode cX6_way 110 = .ok (.iload 4, 2) := by decide +kernel
theorem dX6_way_112 : decode cX6_way 112 = .ok (.iconst 2, 1) := by decide +kernel
theorem dX6_way_113 : decode cX6_way 113 = .ok (.if_icmp .ge 15, 3) := by decide +kernel
theorem dX6_way_116 : decode cX6_way 116 = .ok (.aload_n 0, 1) := by decide +kernel
theorem dX6_way_117 : decode cX6_way 117 = .ok (.iload_n 1, 1) := by decide +kernel
theorem dX6_way_118 : decode cX6_way 118 = .ok (.iconst 1, 1) := by decide +kernel
theorem dX6_way_119 : decode cX6_way 119 = .ok (.isub, 1) := by decide +kernel
theorem dX6_way_120 : decode cX6_way 120 = .ok (.iload 5, 2) := by decide +kernel
theorem dX6_way_122 : decode cX6_way 122 = .ok (.invokevirtual 110, 3) := by decide +kernel
theorem dX6_way_125 : decode cX6_way 125 = .ok (.goto 12, 3) := by decide +kernel
theorem dX6_way_128 : decode cX6_way 128 = .ok (.aload_n 0, 1) := by decide +kernel
theorem dX6_way_129 : decode cX6_way 129 = .ok (.iload_n 1, 1) := by decide +kernel
theorem dX6_way_130 : decode cX6_way 130 = .ok (.iconst 1, 1) := by decide +kernel
theorem dX6_way_131 : decode cX6_way 131 = .ok (.isub, 1) := by decide +kernel
theorem dX6_way_132 : decode cX6_way 132 = .ok (.iload 5, 2) := by decide +kernel
theorem dX6_way_134 : decode cX6_way 134 = .ok (.invokevirtual 117, 3) := by decide +kernel
theorem dX6_way_137 : decode cX6_way 137 = .ok (.istore 7, 2) := by decide +kernel
theorem dX6_way_139 : decode cX6_way 139 = .ok (.iload 4, 2) := by decide +kernel
theorem dX6_way_141 : decode cX6_way 141 = .ok (.iconst 2, 1) := by decide +kernel
theorem dX6_way_142 : decode cX6_way 142 = .ok (.if_icmp .ge 13, 3) := by decide +kernel
theorem dX6_way_145 : decode cX6_way 145 = .ok (.aload_n 0, 1) := by decide +kernel
theorem dX6_way_146 : decode cX6_way 146 = .ok (.iload_n 1, 1) := by decide +kernel
theorem dX6_way_147 : decode cX6_way 147 = .ok (.iload 6, 2) := by decide +kernel
theorem dX6_way_149 : decode cX6_way 149 = .ok (.invokevirtual 110, 3) := by decide +kernel
theorem dX6_way_152 : decode cX6_way 152 = .ok (.goto 10, 3) := by decide +kernel
theorem dX6_way_155 : decode cX6_way 155 = .ok (.aload_n 0, 1) := by decide +kernel
theorem dX6_way_156 : decode cX6_way 156 = .ok (.iload_n 1, 1) := by decide +kernel
theorem dX6_way_157 : decode cX6_way 157 = .ok (.iload 6, 2) := by decide +kernel
theorem dX6_way_159 : decode cX6_way 159 = .ok (.invokevirtual 117, 3) := by decide +kernel
theorem dX6_way_162 : decode cX6_way 162 = .ok (.istore 8, 2) := by decide +kernel
theorem dX6_way_164 : decode cX6_way 164 = .ok (.iconst 2, 1) := by decide +kernel
theorem dX6_way_165 : decode cX6_way 165 = .ok (.aload_n 0, 1) := by decide +kernel
theorem dX6_way_166 : decode cX6_way 166 = .ok (.getfield 16, 3) := by decide +kernel
theorem dX6_way_169 : decode cX6_way 169 = .ok (.iconst 2, 1) := by decide +kernel
theorem dX6_way_170 : decode cX6_way 170 = .ok (.iload_n 1, 1) := by decide +kernel
theorem dX6_way_171 : decode cX6_way 171 = .ok (.imul, 1) := by decide +kernel
theorem dX6_way_172 : decode cX6_way 172 = .ok (.iaload, 1) := by decide +kernel
theorem dX6_way_173 : decode cX6_way 173 = .ok (.imul, 1) := by decide +kernel
theorem dX6_way_174 : decode cX6_way 174 = .ok (.istore 9, 2) := by decide +kernel
theorem dX6_way_176 : decode cX6_way 176 = .ok (.iload 9, 2) := by decide +kernel
theorem dX6_way_178 : decode cX6_way 178 = .ok (.iload 7, 2) := by decide +kernel
theorem dX6_way_180 : decode cX6_way 180 = .ok (.imul, 1) := by decide +kernel
theorem dX6_way_181 : decode cX6_way 181 = .ok (.iload_n 3, 1) := by decide +kernel
theorem dX6_way_182 : decode cX6_way 182 = .ok (.iload 8, 2) := by decide +kernel
theorem dX6_way_184 : decode cX6_way 184 = .ok (.iload 7, 2) := by decide +kernel
theorem dX6_way_186 : decode cX6_way 186 = .ok (.isub, 1) := by decide +kernel
theorem dX6_way_187 : decode cX6_way 187 = .ok (.imul, 1) := by decide +kernel
theorem dX6_way_188 : decode cX6_way 188 = .ok (.iadd, 1) := by decide +kernel
theorem dX6_way_189 : decode cX6_way 189 = .ok (.istore 10, 2) := by decide +kernel
theorem dX6_way_191 : decode cX6_way 191 = .ok (.iload 10, 2) := by decide +kernel
theorem dX6_way_193 : decode cX6_way 193 = .ok (.iload 9, 2) := by decide +kernel
theorem dX6_way_195 : decode cX6_way 195 = .ok (.invokestatic 155, 3) := by decide +kernel
theorem dX6_way_198 : decode cX6_way 198 = .ok (.istore 11, 2) := by decide +kernel
theorem dX6_way_200 : decode cX6_way 200 = .ok (.iload 4, 2) := by decide +kernel
theorem dX6_way_202 : decode cX6_way 202 = .ok (.iconst 2, 1) := by decide +kernel
theorem dX6_way_203 : decode cX6_way 203 = .ok (.irem, 1) := by decide +kernel
theorem dX6_way_204 : decode cX6_way 204 = .ok (.ifCond .ne 11, 3) := by decide +kernel
theorem dX6_way_207 : decode cX6_way 207 = .ok (.iload 10, 2) := by decide +kernel
theorem dX6_way_209 : decode cX6_way 209 = .ok (.iload 11, 2) := by decide +kernel
theorem dX6_way_211 : decode cX6_way 211 = .ok (.idiv, 1) := by decide +kernel
theorem dX6_way_212 : decode cX6_way 212 = .ok (.goto 8, 3) := by decide +kernel
theorem dX6_way_215 : decode cX6_way 215 = .ok (.iload 9, 2) := by decide +kernel
theorem dX6_way_217 : decode cX6_way 217 = .ok (.iload 11, 2) := by decide +kernel
theorem dX6_way_219 : decode cX6_way 219 = .ok (.idiv, 1) := by decide +kernel
theorem dX6_way_220 : decode cX6_way 220 = .ok (.ireturn, 1) := by decide +kernel
theorem dX6_closest_0 : decode cX6_closest 0 = .ok (.aload_n 0, 1) := by decide +kernel
theorem dX6_closest_1 : decode cX6_closest 1 = .ok (.iload_n 1, 1) := by decide +kernel
theorem dX6_closest_2 : decode cX6_closest 2 = .ok (.invokevirtual 61, 3) := by decide +kernel
theorem dX6_closest_5 : decode cX6_closest 5 = .ok (.ifCond .eq 28, 3) := by decide +kernel
theorem dX6_closest_8 : decode cX6_closest 8 = .ok (.iload_n 1, 1) := by decide +kernel
theorem dX6_closest_9 : decode cX6_closest 9 = .ok (.ifCond .eq 24, 3) := by decide +kernel
theorem dX6_closest_12 : decode cX6_closest 12 = .ok (.aload_n 0, 1) := by decide +kernel
theorem dX6_closest_13 : decode cX6_closest 13 = .ok (.iload_n 2, 1) := by decide +kernel
theorem dX6_closest_14 : decode cX6_closest 14 = .ok (.invokevirtual 71, 3) := by decide +kernel
theorem dX6_closest_17 : decode cX6_closest 17 = .ok (.ifCond .eq 16, 3) := by decide +kernel
theorem dX6_closest_20 : decode cX6_closest 20 = .ok (.aload_n 0, 1) := by decide +kernel
theorem dX6_closest_21 : decode cX6_closest 21 = .ok (.iload_n 3, 1) := by decide +kernel
theorem dX6_closest_22 : decode cX6_closest 22 = .ok (.invokevirtual 71, 3) := by decide +kernel
theorem dX6_closest_25 : decode cX6_closest 25 = .ok (.ifCond .eq 8, 3) := by decide +kernel
theorem dX6_closest_28 : decode cX6_closest 28 = .ok (.iload_n 2, 1) := by decide +kernel
theorem dX6_closest_29 : decode cX6_closest 29 = .ok (.iload_n 3, 1) := by decide +kernel
theorem dX6_closest_30 : decode cX6_closest 30 = .ok (.if_icmp .ne 5, 3) := by decide +kernel
theorem dX6_closest_33 : decode cX6_closest 33 = .ok (.iconst (-1), 1) := by decide +kernel
theorem dX6_closest_34 : decode cX6_closest 34 = .ok (.ireturn, 1) := by decide +kernel
theorem dX6_closest_35 : decode cX6_closest 35 = .ok (.aload_n 0, 1) := by decide +kernel
theorem dX6_closest_36 : decode cX6_closest 36 = .ok (.iload_n 2, 1) := by decide +kernel
theorem dX6_closest_37 : decode cX6_closest 37 = .ok (.invokevirtual 124, 3) := by decide +kernel
theorem dX6_closest_40 : decode cX6_closest 40 = .ok (.ifCond .ne 11, 3) := by decide +kernel
theorem dX6_closest_43 : decode cX6_closest 43 = .ok (.aload_n 0, 1) := by decide +kernel
theorem dX6_closest_44 : decode cX6_closest 44 = .ok (.iload_n 3, 1) := by decide +kernel
theorem dX6_closest_45 : decode cX6_closest 45 = .ok (.invokevirtual 124, 3) := by decide +kernel
theorem dX6_closest_48 : decode cX6_closest 48 = .ok (.ifCond .eq 6, 3) := by decide +kernel
theorem dX6_closest_51 : decode cX6_closest 51 = .ok (.bipush (-5), 2) := by decide +kernel
theorem dX6_closest_53 : decode cX6_closest 53 = .ok (.ireturn, 1) := by decide +kernel
theorem dX6_closest_54 : decode cX6_closest 54 = .ok (.aload_n 0, 1) := by decide +kernel
theorem dX6_closest_55 : decode cX6_closest 55 = .ok (.invokevirtual 148, 3) := by decide +kernel
theorem dX6_closest_58 : decode cX6_closest 58 = .ok (.aload_n 0, 1) := by decide +kernel
theorem dX6_closest_59 : decode cX6_closest 59 = .ok (.getfield 35, 3) := by decide +kernel
theorem dX6_closest_62 : decode cX6_closest 62 = .ok (.iload_n 1, 1) := by decide +kernel
theorem dX6_closest_63 : decode cX6_closest 63 = .ok (.baload, 1) := by decide +kernel
theorem dX6_closest_64 : decode cX6_closest 64 = .ok (.ifCond .eq 35, 3) := by decide +kernel
theorem dX6_closest_67 : decode cX6_closest 67 = .ok (.aload_n 0, 1) := by decide +kernel
theorem dX6_closest_68 : decode cX6_closest 68 = .ok (.iload_n 1, 1) := by decide +kernel
theorem dX6_closest_69 : decode cX6_closest 69 = .ok (.iload_n 2, 1) := by decide +kernel
theorem dX6_closest_70 : decode cX6_closest 70 = .ok (.aload_n 0, 1) := by decide +kernel
theorem dX6_closest_71 : decode cX6_closest 71 = .ok (.getfield 32, 3) := by decide +kernel
theorem dX6_closest_74 : decode cX6_closest 74 = .ok (.bipush 6, 2) := by decide +kernel
theorem dX6_closest_76 : decode cX6_closest 76 = .ok (.iload_n 1, 1) := by decide +kernel
theorem dX6_closest_77 : decode cX6_closest 77 = .ok (.imul, 1) := by decide +kernel
theorem dX6_closest_78 : decode cX6_closest 78 = .ok (.iload_n 2, 1) := by decide +kernel
theorem dX6_closest_79 : decode cX6_closest 79 = .ok (.iadd, 1) := by decide +kernel
theorem dX6_closest_80 : decode cX6_closest 80 = .ok (.iaload, 1) := by decide +kernel
theorem dX6_closest_81 : decode cX6_closest 81 = .ok (.iload_n 3, 1) := by decide +kernel
theorem dX6_closest_82 : decode cX6_closest 82 = .ok (.aload_n 0, 1) := by decide +kernel
theorem dX6_closest_83 : decode cX6_closest 83 = .ok (.getfield 32, 3) := by decide +kernel
theorem dX6_closest_86 : decode cX6_closest 86 = .ok (.bipush 6, 2) := by decide +kernel
theorem dX6_closest_88 : decode cX6_closest 88 = .ok (.iload_n 1, 1) := by decide +kernel
theorem dX6_closest_89 : decode cX6_closest 89 = .ok (.imul, 1) := by decide +kernel
theorem dX6_closest_90 : decode cX6_closest 90 = .ok (.iload_n 3, 1) := by decide +kernel
theorem dX6_closest_91 : decode cX6_closest 91 = .ok (.iadd, 1) := by decide +kernel
theorem dX6_closest_92 : decode cX6_closest 92 = .ok (.iaload, 1) := by decide +kernel
theorem dX6_closest_93 : decode cX6_closest 93 = .ok (.invokevirtual 131, 3) := by decide +kernel
theorem dX6_closest_96 : decode cX6_closest 96 = .ok (.goto 5, 3) := by decide +kernel
theorem dX6_closest_99 : decode cX6_closest 99 = .ok (.bipush (-3), 2) := by decide +kernel
theorem dX6_closest_101 : decode cX6_closest 101 = .ok (.ireturn, 1) := by decide +kernel
theorem dX6_late_0 : decode cX6_late 0 = .ok (.aload_n 0, 1) := by decide +kernel
theorem dX6_late_1 : decode cX6_late 1 = .ok (.iload_n 1, 1) := by decide +kernel
theorem dX6_late_2 : decode cX6_late 2 = .ok (.invokevirtual 61, 3) := by decide +kernel
theorem dX6_late_5 : decode cX6_late 5 = .ok (.ifCond .eq 11, 3) := by decide +kernel
theorem dX6_late_8 : decode cX6_late 8 = .ok (.aload_n 0, 1) := by decide +kernel
theorem dX6_late_9 : decode cX6_late 9 = .ok (.iload_n 2, 1) := by decide +kernel
theorem dX6_late_10 : decode cX6_late 10 = .ok (.invokevirtual 71, 3) := by decide +kernel
theorem dX6_late_13 : decode cX6_late 13 = .ok (.ifCond .ne 5, 3) := by decide +kernel
theorem dX6_late_16 : decode cX6_late 16 = .ok (.iconst (-1), 1) := by decide +kernel
theorem dX6_late_17 : decode cX6_late 17 = .ok (.ireturn, 1) := by decide +kernel
theorem dX6_late_18 : decode cX6_late 18 = .ok (.aload_n 0, 1) := by decide +kernel
theorem dX6_late_19 : decode cX6_late 19 = .ok (.iload_n 2, 1) := by decide +kernel
theorem dX6_late_20 : decode cX6_late 20 = .ok (.invokevirtual 124, 3) := by decide +kernel
theorem dX6_late_23 : decode cX6_late 23 = .ok (.ifCond .eq 6, 3) := by decide +kernel
theorem dX6_late_26 : decode cX6_late 26 = .ok (.bipush (-5), 2) := by decide +kernel
theorem dX6_late_28 : decode cX6_late 28 = .ok (.ireturn, 1) := by decide +kernel
theorem dX6_late_29 : decode cX6_late 29 = .ok (.aload_n 0, 1) := by decide +kernel
theorem dX6_late_30 : decode cX6_late 30 = .ok (.invokevirtual 148, 3) := by decide +kernel
theorem dX6_late_33 : decode cX6_late 33 = .ok (.aload_n 0, 1) := by decide +kernel
theorem dX6_late_34 : decode cX6_late 34 = .ok (.getfield 35, 3) := by decide +kernel
theorem dX6_late_37 : decode cX6_late 37 = .ok (.iload_n 1, 1) := by decide +kernel
theorem dX6_late_38 : decode cX6_late 38 = .ok (.baload, 1) := by decide +kernel
theorem dX6_late_39 : decode cX6_late 39 = .ok (.ifCond .ne 6, 3) := by decide +kernel
theorem dX6_late_42 : decode cX6_late 42 = .ok (.bipush (-3), 2) := by decide +kernel
theorem dX6_late_44 : decode cX6_late 44 = .ok (.ireturn, 1) := by decide +kernel
theorem dX6_late_45 : decode cX6_late 45 = .ok (.aload_n 0, 1) := by decide +kernel
theorem dX6_late_46 : decode cX6_late 46 = .ok (.getfield 32, 3) := by decide +kernel
theorem dX6_late_49 : decode cX6_late 49 = .ok (.bipush 6, 2) := by decide +kernel
theorem dX6_late_51 : decode cX6_late 51 = .ok (.iload_n 1, 1) := by decide +kernel
theorem dX6_late_52 : decode cX6_late 52 = .ok (.imul, 1) := by decide +kernel
theorem dX6_late_53 : decode cX6_late 53 = .ok (.iload_n 2, 1) := by decide +kernel
theorem dX6_late_54 : decode cX6_late 54 = .ok (.iadd, 1) := by decide +kernel
theorem dX6_late_55 : decode cX6_late 55 = .ok (.iaload, 1) := by decide +kernel
theorem dX6_late_56 : decode cX6_late 56 = .ok (.istore_n 3, 1) := by decide +kernel
theorem dX6_late_57 : decode cX6_late 57 = .ok (.aload_n 0, 1) := by decide +kernel
theorem dX6_late_58 : decode cX6_late 58 = .ok (.iload_n 1, 1) := by decide +kernel
theorem dX6_late_59 : decode cX6_late 59 = .ok (.iload_n 3, 1) := by decide +kernel
theorem dX6_late_60 : decode cX6_late 60 = .ok (.invokevirtual 110, 3) := by decide +kernel
theorem dX6_late_63 : decode cX6_late 63 = .ok (.aload_n 0, 1) := by decide +kernel
theorem dX6_late_64 : decode cX6_late 64 = .ok (.getfield 7, 3) := by decide +kernel
theorem dX6_late_67 : decode cX6_late 67 = .ok (.iconst 4, 1) := by decide +kernel
theorem dX6_late_68 : decode cX6_late 68 = .ok (.iaload, 1) := by decide +kernel
theorem dX6_late_69 : decode cX6_late 69 = .ok (.isub, 1) := by decide +kernel
theorem dX6_late_70 : decode cX6_late 70 = .ok (.invokestatic 114, 3) := by decide +kernel
theorem dX6_late_73 : decode cX6_late 73 = .ok (.aload_n 0, 1) := by decide +kernel
theorem dX6_late_74 : decode cX6_late 74 = .ok (.iload_n 1, 1) := by decide +kernel
theorem dX6_late_75 : decode cX6_late 75 = .ok (.iload_n 3, 1) := by decide +kernel
theorem dX6_late_76 : decode cX6_late 76 = .ok (.invokevirtual 117, 3) := by decide +kernel
theorem dX6_late_79 : decode cX6_late 79 = .ok (.aload_n 0, 1) := by decide +kernel
theorem dX6_late_80 : decode cX6_late 80 = .ok (.getfield 7, 3) := by decide +kernel
theorem dX6_late_83 : decode cX6_late 83 = .ok (.iconst 5, 1) := by decide +kernel
theorem dX6_late_84 : decode cX6_late 84 = .ok (.iaload, 1) := by decide +kernel
theorem dX6_late_85 : decode cX6_late 85 = .ok (.isub, 1) := by decide +kernel
theorem dX6_late_86 : decode cX6_late 86 = .ok (.invokestatic 114, 3) := by decide +kernel
theorem dX6_late_89 : decode cX6_late 89 = .ok (.iadd, 1) := by decide +kernel
theorem dX6_late_90 : decode cX6_late 90 = .ok (.aload_n 0, 1) := by decide +kernel
theorem dX6_late_91 : decode cX6_late 91 = .ok (.getfield 7, 3) := by decide +kernel
theorem dX6_late_94 : decode cX6_late 94 = .ok (.iconst 3, 1) := by decide +kernel
theorem dX6_late_95 : decode cX6_late 95 = .ok (.iaload, 1) := by decide +kernel
theorem dX6_late_96 : decode cX6_late 96 = .ok (.idiv, 1) := by decide +kernel
theorem dX6_late_97 : decode cX6_late 97 = .ok (.ireturn, 1) := by decide +kernel
theorem dX6_hole_0 : decode cX6_hole 0 = .ok (.aload_n 0, 1) := by decide +kernel
theorem dX6_hole_1 : decode cX6_hole 1 = .ok (.iload_n 1, 1) := by decide +kernel
theorem dX6_hole_2 : decode cX6_hole 2 = .ok (.invokevirtual 71, 3) := by decide +kernel
theorem dX6_hole_5 : decode cX6_hole 5 = .ok (.ifCond .ne 5, 3) := by decide +kernel
theorem dX6_hole_8 : decode cX6_hole 8 = .ok (.iconst (-1), 1) := by decide +kernel
theorem dX6_hole_9 : decode cX6_hole 9 = .ok (.ireturn, 1) := by decide +kernel
theorem dX6_hole_10 : decode cX6_hole 10 = .ok (.aload_n 0, 1) := by decide +kernel
theorem dX6_hole_11 : decode cX6_hole 11 = .ok (.iload_n 1, 1) := by decide +kernel
theorem dX6_hole_12 : decode cX6_hole 12 = .ok (.invokevirtual 124, 3) := by decide +kernel
theorem dX6_hole_15 : decode cX6_hole 15 = .ok (.ifCond .eq 6, 3) := by decide +kernel
theorem dX6_hole_18 : decode cX6_hole 18 = .ok (.bipush (-5), 2) := by decide +kernel
theorem dX6_hole_20 : decode cX6_hole 20 = .ok (.ireturn, 1) := by decide +kernel
theorem dX6_hole_21 : decode cX6_hole 21 = .ok (.aload_n 0, 1) := by decide +kernel
theorem dX6_hole_22 : decode cX6_hole 22 = .ok (.invokevirtual 148, 3) := by decide +kernel
theorem dX6_hole_25 : decode cX6_hole 25 = .ok (.iconst 0, 1) := by decide +kernel
theorem dX6_hole_26 : decode cX6_hole 26 = .ok (.istore_n 2, 1) := by decide +kernel
theorem dX6_hole_27 : decode cX6_hole 27 = .ok (.iload_n 2, 1) := by decide +kernel
theorem dX6_hole_28 : decode cX6_hole 28 = .ok (.bipush 30, 2) := by decide +kernel
theorem dX6_hole_30 : decode cX6_hole 30 = .ok (.if_icmp .ge 21, 3) := by decide +kernel
theorem dX6_hole_33 : decode cX6_hole 33 = .ok (.aload_n 0, 1) := by decide +kernel
theorem dX6_hole_34 : decode cX6_hole 34 = .ok (.getfield 51, 3) := by decide +kernel
theorem dX6_hole_37 : decode cX6_hole 37 = .ok (.iload_n 2, 1) := by decide +kernel
theorem dX6_hole_38 : decode cX6_hole 38 = .ok (.aload_n 0, 1) := by decide +kernel
theorem dX6_hole_39 : decode cX6_hole 39 = .ok (.getfield 32, 3) := by decide +kernel
theorem dX6_hole_42 : decode cX6_hole 42 = .ok (.iload_n 2, 1) := by decide +kernel
theorem dX6_hole_43 : decode cX6_hole 43 = .ok (.iaload, 1) := by decide +kernel
theorem dX6_hole_44 : decode cX6_hole 44 = .ok (.iastore, 1) := by decide +kernel
theorem dX6_hole_45 : decode cX6_hole 45 = .ok (.iinc 2 1, 3) := by decide +kernel
theorem dX6_hole_48 : decode cX6_hole 48 = .ok (.goto (-21), 3) := by decide +kernel
theorem dX6_hole_51 : decode cX6_hole 51 = .ok (.iconst 0, 1) := by decide +kernel
theorem dX6_hole_52 : decode cX6_hole 52 = .ok (.istore_n 2, 1) := by decide +kernel
theorem dX6_hole_53 : decode cX6_hole 53 = .ok (.iload_n 2, 1) := by decide +kernel
theorem dX6_hole_54 : decode cX6_hole 54 = .ok (.aload_n 0, 1) := by decide +kernel
theorem dX6_hole_55 : decode cX6_hole 55 = .ok (.getfield 7, 3) := by decide +kernel
theorem dX6_hole_58 : decode cX6_hole 58 = .ok (.iconst 1, 1) := by decide +kernel
theorem dX6_hole_59 : decode cX6_hole 59 = .ok (.iaload, 1) := by decide +kernel
theorem dX6_hole_60 : decode cX6_hole 60 = .ok (.if_icmp .ge 21, 3) := by decide +kernel
theorem dX6_hole_63 : decode cX6_hole 63 = .ok (.aload_n 0, 1) := by decide +kernel
theorem dX6_hole_64 : decode cX6_hole 64 = .ok (.getfield 54, 3) := by decide +kernel
theorem dX6_hole_67 : decode cX6_hole 67 = .ok (.iload_n 2, 1) := by decide +kernel
theorem dX6_hole_68 : decode cX6_hole 68 = .ok (.aload_n 0, 1) := by decide +kernel
theorem dX6_hole_69 : decode cX6_hole 69 = .ok (.getfield 35, 3) := by decide +kernel
theorem dX6_hole_72 : decode cX6_hole 72 = .ok (.iload_n 2, 1) := by decide +kernel
theorem dX6_hole_73 : decode cX6_hole 73 = .ok (.baload, 1) := by decide +kernel
theorem dX6_hole_74 : decode cX6_hole 74 = .ok (.bastore, 1) := by decide +kernel
theorem dX6_hole_75 : decode cX6_hole 75 = .ok (.iinc 2 1, 3) := by decide +kernel
theorem dX6_hole_78 : decode cX6_hole 78 = .ok (.goto (-25), 3) := by decide +kernel
theorem dX6_hole_81 : decode cX6_hole 81 = .ok (.aload_n 0, 1) := by decide +kernel
theorem dX6_hole_82 : decode cX6_hole 82 = .ok (.getfield 13, 3) := by decide +kernel
theorem dX6_hole_85 : decode cX6_hole 85 = .ok (.iconst 2, 1) := by decide +kernel
theorem dX6_hole_86 : decode cX6_hole 86 = .ok (.iload_n 1, 1) := by decide +kernel
theorem dX6_hole_87 : decode cX6_hole 87 = .ok (.imul, 1) := by decide +kernel
theorem dX6_hole_88 : decode cX6_hole 88 = .ok (.iconst 1, 1) := by decide +kernel
theorem dX6_hole_89 : decode cX6_hole 89 = .ok (.iadd, 1) := by decide +kernel
theorem dX6_hole_90 : decode cX6_hole 90 = .ok (.iconst 1, 1) := by decide +kernel
theorem dX6_hole_91 : decode cX6_hole 91 = .ok (.iastore, 1) := by decide +kernel
theorem dX6_hole_92 : decode cX6_hole 92 = .ok (.aload_n 0, 1) := by decide +kernel
theorem dX6_hole_93 : decode cX6_hole 93 = .ok (.invokevirtual 148, 3) := by decide +kernel
theorem dX6_hole_96 : decode cX6_hole 96 = .ok (.iconst 0, 1) := by decide +kernel
theorem dX6_hole_97 : decode cX6_hole 97 = .ok (.istore_n 2, 1) := by decide +kernel
theorem dX6_hole_98 : decode cX6_hole 98 = .ok (.iconst 0, 1) := by decide +kernel
theorem dX6_hole_99 : decode cX6_hole 99 = .ok (.istore_n 3, 1) := by decide +kernel
theorem dX6_hole_100 : decode cX6_hole 100 = .ok (.iload_n 3, 1) := by decide +kernel
theorem dX6_hole_101 : decode cX6_hole 101 = .ok (.aload_n 0, 1) := by decide +kernel
theorem dX6_hole_102 : decode cX6_hole 102 = .ok (.getfield 7, 3) := by decide +kernel
theorem dX6_hole_105 : decode cX6_hole 105 = .ok (.iconst 1, 1) := by decide +kernel
theorem dX6_hole_106 : decode cX6_hole 106 = .ok (.iaload, 1) := by decide +kernel
theorem dX6_hole_107 : decode cX6_hole 107 = .ok (.if_icmp .ge 109, 3) := by decide +kernel
theorem dX6_hole_110 : decode cX6_hole 110 = .ok (.iconst 0, 1) := by decide +kernel
theorem dX6_hole_111 : decode cX6_hole 111 = .ok (.istore 4, 2) := by decide +kernel
theorem dX6_hole_113 : decode cX6_hole 113 = .ok (.iload 4, 2) := by decide +kernel
theorem dX6_hole_115 : decode cX6_hole 115 = .ok (.aload_n 0, 1) := by decide +kernel
theorem dX6_hole_116 : decode cX6_hole 116 = .ok (.getfield 7, 3) := by decide +kernel
theorem dX6_hole_119 : decode cX6_hole 119 = .ok (.iconst 0, 1) := by decide +kernel
theorem dX6_hole_120 : decode cX6_hole 120 = .ok (.iaload, 1) := by decide +kernel
theorem dX6_hole_121 : decode cX6_hole 121 = .ok (.if_icmp .ge 89, 3) := by decide +kernel
theorem dX6_hole_124 : decode cX6_hole 124 = .ok (.aload_n 0, 1) := by decide +kernel
theorem dX6_hole_125 : decode cX6_hole 125 = .ok (.getfield 54, 3) := by decide +kernel
theorem dX6_hole_128 : decode cX6_hole 128 = .ok (.iload_n 3, 1) := by decide +kernel
theorem dX6_hole_129 : decode cX6_hole 129 = .ok (.baload, 1) := by decide +kernel
theorem dX6_hole_130 : decode cX6_hole 130 = .ok (.aload_n 0, 1) := by decide +kernel
theorem dX6_hole_131 : decode cX6_hole 131 = .ok (.getfield 35, 3) := by decide +kernel
theorem dX6_hole_134 : decode cX6_hole 134 = .ok (.iload_n 3, 1) := by decide +kernel
theorem dX6_hole_135 : decode cX6_hole 135 = .ok (.baload, 1) := by decide +kernel
theorem dX6_hole_136 : decode cX6_hole 136 = .ok (.if_icmp .ne 39, 3) := by decide +kernel
theorem dX6_hole_139 : decode cX6_hole 139 = .ok (.aload_n 0, 1) := by decide +kernel
theorem dX6_hole_140 : decode cX6_hole 140 = .ok (.getfield 35, 3) := by decide +kernel
theorem dX6_hole_143 : decode cX6_hole 143 = .ok (.iload_n 3, 1) := by decide +kernel
theorem dX6_hole_144 : decode cX6_hole 144 = .ok (.baload, 1) := by decide +kernel
theorem dX6_hole_145 : decode cX6_hole 145 = .ok (.ifCond .eq 34, 3) := by decide +kernel
theorem dX6_hole_148 : decode cX6_hole 148 = .ok (.aload_n 0, 1) := by decide +kernel
theorem dX6_hole_149 : decode cX6_hole 149 = .ok (.getfield 51, 3) := by decide +kernel
theorem dX6_hole_152 : decode cX6_hole 152 = .ok (.bipush 6, 2) := by decide +kernel
theorem dX6_hole_154 : decode cX6_hole 154 = .ok (.iload_n 3, 1) := by decide +kernel
theorem dX6_hole_155 : decode cX6_hole 155 = .ok (.imul, 1) := by decide +kernel
theorem dX6_hole_156 : decode cX6_hole 156 = .ok (.iload 4, 2) := by decide +kernel
theorem dX6_hole_158 : decode cX6_hole 158 = .ok (.iadd, 1) := by decide +kernel
theorem dX6_hole_159 : decode cX6_hole 159 = .ok (.iaload, 1) := by decide +kernel
theorem dX6_hole_160 : decode cX6_hole 160 = .ok (.aload_n 0, 1) := by decide +kernel
theorem dX6_hole_161 : decode cX6_hole 161 = .ok (.getfield 32, 3) := by decide +kernel
theorem dX6_hole_164 : decode cX6_hole 164 = .ok (.bipush 6, 2) := by decide +kernel
theorem dX6_hole_166 : decode cX6_hole 166 = .ok (.iload_n 3, 1) := by decide +kernel
theorem dX6_hole_167 : decode cX6_hole 167 = .ok (.imul, 1) := by decide +kernel
theorem dX6_hole_168 : decode cX6_hole 168 = .ok (.iload 4, 2) := by decide +kernel
theorem dX6_hole_170 : decode cX6_hole 170 = .ok (.iadd, 1) := by decide +kernel
theorem dX6_hole_171 : decode cX6_hole 171 = .ok (.iaload, 1) := by decide +kernel
theorem dX6_hole_172 : decode cX6_hole 172 = .ok (.if_icmp .eq 7, 3) := by decide +kernel
theorem dX6_hole_175 : decode cX6_hole 175 = .ok (.iconst 1, 1) := by decide +kernel
theorem dX6_hole_176 : decode cX6_hole 176 = .ok (.goto 4, 3) := by decide +kernel
theorem dX6_hole_179 : decode cX6_hole 179 = .ok (.iconst 0, 1) := by decide +kernel
theorem dX6_hole_180 : decode cX6_hole 180 = .ok (.istore 5, 2) := by decide +kernel
theorem dX6_hole_182 : decode cX6_hole 182 = .ok (.iload_n 2, 1) := by decide +kernel
theorem dX6_hole_183 : decode cX6_hole 183 = .ok (.aload_n 0, 1) := by decide +kernel
theorem dX6_hole_184 : decode cX6_hole 184 = .ok (.iload 4, 2) := by decide +kernel
theorem dX6_hole_186 : decode cX6_hole 186 = .ok (.invokevirtual 124, 3) := by decide +kernel
theorem dX6_hole_189 : decode cX6_hole 189 = .ok (.ifCond .ne 12, 3) := by decide +kernel
theorem dX6_hole_192 : decode cX6_hole 192 = .ok (.iload 5, 2) := by decide +kernel
theorem dX6_hole_194 : decode cX6_hole 194 = .ok (.ifCond .eq 7, 3) := by decide +kernel
theorem dX6_hole_197 : decode cX6_hole 197 = .ok (.iconst 1, 1) := by decide +kernel
theorem dX6_hole_198 : decode cX6_hole 198 = .ok (.goto 4, 3) := by decide +kernel
theorem dX6_hole_201 : decode cX6_hole 201 = .ok (.iconst 0, 1) := by decide +kernel
theorem dX6_hole_202 : decode cX6_hole 202 = .ok (.iadd, 1) := by decide +kernel
theorem dX6_hole_203 : decode cX6_hole 203 = .ok (.istore_n 2, 1) := by decide +kernel
theorem dX6_hole_204 : decode cX6_hole 204 = .ok (.iinc 4 1, 3) := by decide +kernel
theorem dX6_hole_207 : decode cX6_hole 207 = .ok (.goto (-94), 3) := by decide +kernel
theorem dX6_hole_210 : decode cX6_hole 210 = .ok (.iinc 3 1, 3) := by decide +kernel
theorem dX6_hole_213 : decode cX6_hole 213 = .ok (.goto (-113), 3) := by decide +kernel
theorem dX6_hole_216 : decode cX6_hole 216 = .ok (.aload_n 0, 1) := by decide +kernel
theorem dX6_hole_217 : decode cX6_hole 217 = .ok (.getfield 13, 3) := by decide +kernel
theorem dX6_hole_220 : decode cX6_hole 220 = .ok (.iconst 2, 1) := by decide +kernel
theorem dX6_hole_221 : decode cX6_hole 221 = .ok (.iload_n 1, 1) := by decide +kernel
theorem dX6_hole_222 : decode cX6_hole 222 = .ok (.imul, 1) := by decide +kernel
theorem dX6_hole_223 : decode cX6_hole 223 = .ok (.iconst 1, 1) := by decide +kernel
theorem dX6_hole_224 : decode cX6_hole 224 = .ok (.iadd, 1) := by decide +kernel
theorem dX6_hole_225 : decode cX6_hole 225 = .ok (.iconst 0, 1) := by decide +kernel
theorem dX6_hole_226 : decode cX6_hole 226 = .ok (.iastore, 1) := by decide +kernel
theorem dX6_hole_227 : decode cX6_hole 227 = .ok (.iload_n 2, 1) := by decide +kernel
theorem dX6_hole_228 : decode cX6_hole 228 = .ok (.ireturn, 1) := by decide +kernel
theorem dX6_ready_0 : decode cX6_ready 0 = .ok (.aload_n 0, 1) := by decide +kernel
theorem dX6_ready_1 : decode cX6_ready 1 = .ok (.invokevirtual 148, 3) := by decide +kernel
theorem dX6_ready_4 : decode cX6_ready 4 = .ok (.iconst 0, 1) := by decide +kernel
theorem dX6_ready_5 : decode cX6_ready 5 = .ok (.istore_n 1, 1) := by decide +kernel
theorem dX6_ready_6 : decode cX6_ready 6 = .ok (.iload_n 1, 1) := by decide +kernel
theorem dX6_ready_7 : decode cX6_ready 7 = .ok (.aload_n 0, 1) := by decide +kernel
theorem dX6_ready_8 : decode cX6_ready 8 = .ok (.getfield 7, 3) := by decide +kernel
theorem dX6_ready_11 : decode cX6_ready 11 = .ok (.iconst 1, 1) := by decide +kernel
theorem dX6_ready_12 : decode cX6_ready 12 = .ok (.iaload, 1) := by decide +kernel
theorem dX6_ready_13 : decode cX6_ready 13 = .ok (.if_icmp .ge 18, 3) := by decide +kernel
theorem dX6_ready_16 : decode cX6_ready 16 = .ok (.aload_n 0, 1) := by decide +kernel
theorem dX6_ready_17 : decode cX6_ready 17 = .ok (.getfield 35, 3) := by decide +kernel
theorem dX6_ready_20 : decode cX6_ready 20 = .ok (.iload_n 1, 1) := by decide +kernel
theorem dX6_ready_21 : decode cX6_ready 21 = .ok (.baload, 1) := by decide +kernel
theorem dX6_ready_22 : decode cX6_ready 22 = .ok (.ifCond .eq 9, 3) := by decide +kernel
theorem dX6_ready_25 : decode cX6_ready 25 = .ok (.iinc 1 1, 3) := by decide +kernel
theorem dX6_ready_28 : decode cX6_ready 28 = .ok (.goto (-22), 3) := by decide +kernel
theorem dX6_ready_31 : decode cX6_ready 31 = .ok (.iload_n 1, 1) := by decide +kernel
theorem dX6_ready_32 : decode cX6_ready 32 = .ok (.ireturn, 1) := by decide +kernel
theorem dX6_soloMany_0 : decode cX6_soloMany 0 = .ok (.iconst 0, 1) := by decide +kernel
theorem dX6_soloMany_1 : decode cX6_soloMany 1 = .ok (.istore_n 1, 1) := by decide +kernel
theorem dX6_soloMany_2 : decode cX6_soloMany 2 = .ok (.iconst 0, 1) := by decide +kernel
theorem dX6_soloMany_3 : decode cX6_soloMany 3 = .ok (.istore_n 2, 1) := by decide +kernel
theorem dX6_soloMany_4 : decode cX6_soloMany 4 = .ok (.iload_n 2, 1) := by decide +kernel
theorem dX6_soloMany_5 : decode cX6_soloMany 5 = .ok (.aload_n 0, 1) := by decide +kernel
theorem dX6_soloMany_6 : decode cX6_soloMany 6 = .ok (.getfield 7, 3) := by decide +kernel
theorem dX6_soloMany_9 : decode cX6_soloMany 9 = .ok (.iconst 1, 1) := by decide +kernel
theorem dX6_soloMany_10 : decode cX6_soloMany 10 = .ok (.iaload, 1) := by decide +kernel
theorem dX6_soloMany_11 : decode cX6_soloMany 11 = .ok (.if_icmp .ge 44, 3) := by decide +kernel
theorem dX6_soloMany_14 : decode cX6_soloMany 14 = .ok (.iconst 0, 1) := by decide +kernel
theorem dX6_soloMany_15 : decode cX6_soloMany 15 = .ok (.istore_n 3, 1) := by decide +kernel
theorem dX6_soloMany_16 : decode cX6_soloMany 16 = .ok (.iload_n 3, 1) := by decide +kernel
theorem dX6_soloMany_17 : decode cX6_soloMany 17 = .ok (.aload_n 0, 1) := by decide +kernel
theorem dX6_soloMany_18 : decode cX6_soloMany 18 = .ok (.iload_n 2, 1) := by decide +kernel
theorem dX6_soloMany_19 : decode cX6_soloMany 19 = .ok (.invokevirtual 65, 3) := by decide +kernel
theorem dX6_soloMany_22 : decode cX6_soloMany 22 = .ok (.if_icmp .ge 27, 3) := by decide +kernel
theorem dX6_soloMany_25 : decode cX6_soloMany 25 = .ok (.iload_n 1, 1) := by decide +kernel
theorem dX6_soloMany_26 : decode cX6_soloMany 26 = .ok (.aload_n 0, 1) := by decide +kernel
theorem dX6_soloMany_27 : decode cX6_soloMany 27 = .ok (.getfield 19, 3) := by decide +kernel
theorem dX6_soloMany_30 : decode cX6_soloMany 30 = .ok (.iconst 3, 1) := by decide +kernel
theorem dX6_soloMany_31 : decode cX6_soloMany 31 = .ok (.bipush 7, 2) := by decide +kernel
theorem dX6_soloMany_33 : decode cX6_soloMany 33 = .ok (.iload_n 2, 1) := by decide +kernel
theorem dX6_soloMany_34 : decode cX6_soloMany 34 = .ok (.imul, 1) := by decide +kernel
theorem dX6_soloMany_35 : decode cX6_soloMany 35 = .ok (.iload_n 3, 1) := by decide +kernel
theorem dX6_soloMany_36 : decode cX6_soloMany 36 = .ok (.iadd, 1) := by decide +kernel
theorem dX6_soloMany_37 : decode cX6_soloMany 37 = .ok (.imul, 1) := by decide +kernel
theorem dX6_soloMany_38 : decode cX6_soloMany 38 = .ok (.iconst 2, 1) := by decide +kernel
theorem dX6_soloMany_39 : decode cX6_soloMany 39 = .ok (.iadd, 1) := by decide +kernel
theorem dX6_soloMany_40 : decode cX6_soloMany 40 = .ok (.iaload, 1) := by decide +kernel
theorem dX6_soloMany_41 : decode cX6_soloMany 41 = .ok (.iadd, 1) := by decide +kernel
theorem dX6_soloMany_42 : decode cX6_soloMany 42 = .ok (.istore_n 1, 1) := by decide +kernel
theorem dX6_soloMany_43 : decode cX6_soloMany 43 = .ok (.iinc 3 1, 3) := by decide +kernel
theorem dX6_soloMany_46 : decode cX6_soloMany 46 = .ok (.goto (-30), 3) := by decide +kernel
theorem dX6_soloMany_49 : decode cX6_soloMany 49 = .ok (.iinc 2 1, 3) := by decide +kernel
theorem dX6_soloMany_52 : decode cX6_soloMany 52 = .ok (.goto (-48), 3) := by decide +kernel
theorem dX6_soloMany_55 : decode cX6_soloMany 55 = .ok (.iload_n 1, 1) := by decide +kernel
theorem dX6_soloMany_56 : decode cX6_soloMany 56 = .ok (.ireturn, 1) := by decide +kernel
theorem dX6_allDots_0 : decode cX6_allDots 0 = .ok (.iconst 0, 1) := by decide +kernel
theorem dX6_allDots_1 : decode cX6_allDots 1 = .ok (.istore_n 1, 1) := by decide +kernel
theorem dX6_allDots_2 : decode cX6_allDots 2 = .ok (.iconst 0, 1) := by decide +kernel
theorem dX6_allDots_3 : decode cX6_allDots 3 = .ok (.istore_n 2, 1) := by decide +kernel
theorem dX6_allDots_4 : decode cX6_allDots 4 = .ok (.iload_n 2, 1) := by decide +kernel
theorem dX6_allDots_5 : decode cX6_allDots 5 = .ok (.aload_n 0, 1) := by decide +kernel
theorem dX6_allDots_6 : decode cX6_allDots 6 = .ok (.getfield 7, 3) := by decide +kernel
theorem dX6_allDots_9 : decode cX6_allDots 9 = .ok (.iconst 1, 1) := by decide +kernel
theorem dX6_allDots_10 : decode cX6_allDots 10 = .ok (.iaload, 1) := by decide +kernel
theorem dX6_allDots_11 : decode cX6_allDots 11 = .ok (.if_icmp .ge 17, 3) := by decide +kernel
theorem dX6_allDots_14 : decode cX6_allDots 14 = .ok (.iload_n 1, 1) := by decide +kernel
theorem dX6_allDots_15 : decode cX6_allDots 15 = .ok (.aload_n 0, 1) := by decide +kernel
theorem dX6_allDots_16 : decode cX6_allDots 16 = .ok (.iload_n 2, 1) := by decide +kernel
theorem dX6_allDots_17 : decode cX6_allDots 17 = .ok (.invokevirtual 65, 3) := by decide +kernel
theorem dX6_allDots_20 : decode cX6_allDots 20 = .ok (.iadd, 1) := by decide +kernel
theorem dX6_allDots_21 : decode cX6_allDots 21 = .ok (.istore_n 1, 1) := by decide +kernel
theorem dX6_allDots_22 : decode cX6_allDots 22 = .ok (.iinc 2 1, 3) := by decide +kernel
theorem dX6_allDots_25 : decode cX6_allDots 25 = .ok (.goto (-21), 3) := by decide +kernel
theorem dX6_allDots_28 : decode cX6_allDots 28 = .ok (.iload_n 1, 1) := by decide +kernel
theorem dX6_allDots_29 : decode cX6_allDots 29 = .ok (.ireturn, 1) := by decide +kernel
theorem dX6_allSteps_0 : decode cX6_allSteps 0 = .ok (.aload_n 0, 1) := by decide +kernel
theorem dX6_allSteps_1 : decode cX6_allSteps 1 = .ok (.invokevirtual 148, 3) := by decide +kernel
theorem dX6_allSteps_4 : decode cX6_allSteps 4 = .ok (.iconst 0, 1) := by decide +kernel
theorem dX6_allSteps_5 : decode cX6_allSteps 5 = .ok (.istore_n 1, 1) := by decide +kernel
theorem dX6_allSteps_6 : decode cX6_allSteps 6 = .ok (.iconst 0, 1) := by decide +kernel
theorem dX6_allSteps_7 : decode cX6_allSteps 7 = .ok (.istore_n 2, 1) := by decide +kernel
theorem dX6_allSteps_8 : decode cX6_allSteps 8 = .ok (.iload_n 2, 1) := by decide +kernel
theorem dX6_allSteps_9 : decode cX6_allSteps 9 = .ok (.aload_n 0, 1) := by decide +kernel
theorem dX6_allSteps_10 : decode cX6_allSteps 10 = .ok (.getfield 7, 3) := by decide +kernel
theorem dX6_allSteps_13 : decode cX6_allSteps 13 = .ok (.iconst 1, 1) := by decide +kernel
theorem dX6_allSteps_14 : decode cX6_allSteps 14 = .ok (.iaload, 1) := by decide +kernel
theorem dX6_allSteps_15 : decode cX6_allSteps 15 = .ok (.if_icmp .ge 31, 3) := by decide +kernel
theorem dX6_allSteps_18 : decode cX6_allSteps 18 = .ok (.iload_n 1, 1) := by decide +kernel
theorem dX6_allSteps_19 : decode cX6_allSteps 19 = .ok (.aload_n 0, 1) := by decide +kernel
theorem dX6_allSteps_20 : decode cX6_allSteps 20 = .ok (.getfield 35, 3) := by decide +kernel
theorem dX6_allSteps_23 : decode cX6_allSteps 23 = .ok (.iload_n 2, 1) := by decide +kernel
theorem dX6_allSteps_24 : decode cX6_allSteps 24 = .ok (.baload, 1) := by decide +kernel
theorem dX6_allSteps_25 : decode cX6_allSteps 25 = .ok (.ifCond .eq 12, 3) := by decide +kernel
theorem dX6_allSteps_28 : decode cX6_allSteps 28 = .ok (.aload_n 0, 1) := by decide +kernel
theorem dX6_allSteps_29 : decode cX6_allSteps 29 = .ok (.getfield 42, 3) := by decide +kernel
theorem dX6_allSteps_32 : decode cX6_allSteps 32 = .ok (.iload_n 2, 1) := by decide +kernel
theorem dX6_allSteps_33 : decode cX6_allSteps 33 = .ok (.iaload, 1) := by decide +kernel
theorem dX6_allSteps_34 : decode cX6_allSteps 34 = .ok (.goto 4, 3) := by decide +kernel
theorem dX6_allSteps_37 : decode cX6_allSteps 37 = .ok (.iconst 0, 1) := by decide +kernel
theorem dX6_allSteps_38 : decode cX6_allSteps 38 = .ok (.iadd, 1) := by decide +kernel
theorem dX6_allSteps_39 : decode cX6_allSteps 39 = .ok (.istore_n 1, 1) := by decide +kernel
theorem dX6_allSteps_40 : decode cX6_allSteps 40 = .ok (.iinc 2 1, 3) := by decide +kernel
theorem dX6_allSteps_43 : decode cX6_allSteps 43 = .ok (.goto (-35), 3) := by decide +kernel
theorem dX6_allSteps_46 : decode cX6_allSteps 46 = .ok (.iload_n 1, 1) := by decide +kernel
theorem dX6_allSteps_47 : decode cX6_allSteps 47 = .ok (.ireturn, 1) := by decide +kernel
theorem dX6_many_0 : decode cX6_many 0 = .ok (.iload_n 1, 1) := by decide +kernel
theorem dX6_many_1 : decode cX6_many 1 = .ok (.tableswitch 73 0 5 #[39, 46, 51, 58, 63, 68], 39) := by decide +kernel
theorem dX6_many_40 : decode cX6_many 40 = .ok (.aload_n 0, 1) := by decide +kernel
theorem dX6_many_41 : decode cX6_many 41 = .ok (.getfield 7, 3) := by decide +kernel
theorem dX6_many_44 : decode cX6_many 44 = .ok (.iconst 0, 1) := by decide +kernel
theorem dX6_many_45 : decode cX6_many 45 = .ok (.iaload, 1) := by decide +kernel
theorem dX6_many_46 : decode cX6_many 46 = .ok (.ireturn, 1) := by decide +kernel
theorem dX6_many_47 : decode cX6_many 47 = .ok (.aload_n 0, 1) := by decide +kernel
theorem dX6_many_48 : decode cX6_many 48 = .ok (.invokevirtual 151, 3) := by decide +kernel
theorem dX6_many_51 : decode cX6_many 51 = .ok (.ireturn, 1) := by decide +kernel
theorem dX6_many_52 : decode cX6_many 52 = .ok (.aload_n 0, 1) := by decide +kernel
theorem dX6_many_53 : decode cX6_many 53 = .ok (.getfield 7, 3) := by decide +kernel
theorem dX6_many_56 : decode cX6_many 56 = .ok (.iconst 1, 1) := by decide +kernel
theorem dX6_many_57 : decode cX6_many 57 = .ok (.iaload, 1) := by decide +kernel
theorem dX6_many_58 : decode cX6_many 58 = .ok (.ireturn, 1) := by decide +kernel
theorem dX6_many_59 : decode cX6_many 59 = .ok (.aload_n 0, 1) := by decide +kernel
theorem dX6_many_60 : decode cX6_many 60 = .ok (.invokevirtual 158, 3) := by decide +kernel
theorem dX6_many_63 : decode cX6_many 63 = .ok (.ireturn, 1) := by decide +kernel
theorem dX6_many_64 : decode cX6_many 64 = .ok (.aload_n 0, 1) := by decide +kernel
theorem dX6_many_65 : decode cX6_many 65 = .ok (.invokevirtual 161, 3) := by decide +kernel
theorem dX6_many_68 : decode cX6_many 68 = .ok (.ireturn, 1) := by decide +kernel
theorem dX6_many_69 : decode cX6_many 69 = .ok (.aload_n 0, 1) := by decide +kernel
theorem dX6_many_70 : decode cX6_many 70 = .ok (.invokevirtual 164, 3) := by decide +kernel
theorem dX6_many_73 : decode cX6_many 73 = .ok (.ireturn, 1) := by decide +kernel
theorem dX6_many_74 : decode cX6_many 74 = .ok (.iconst (-1), 1) := by decide +kernel
theorem dX6_many_75 : decode cX6_many 75 = .ok (.ireturn, 1) := by decide +kernel
theorem dX6_move_0 : decode cX6_move 0 = .ok (.iconst 0, 1) := by decide +kernel
theorem dX6_move_1 : decode cX6_move 1 = .ok (.istore 4, 2) := by decide +kernel
theorem dX6_move_3 : decode cX6_move 3 = .ok (.iload 4, 2) := by decide +kernel
theorem dX6_move_5 : decode cX6_move 5 = .ok (.iload_n 2, 1) := by decide +kernel
theorem dX6_move_6 : decode cX6_move 6 = .ok (.if_icmp .ge 52, 3) := by decide +kernel
theorem dX6_move_9 : decode cX6_move 9 = .ok (.iload_n 3, 1) := by decide +kernel
theorem dX6_move_10 : decode cX6_move 10 = .ok (.ifCond .eq 19, 3) := by decide +kernel
theorem dX6_move_13 : decode cX6_move 13 = .ok (.aload_n 0, 1) := by decide +kernel
theorem dX6_move_14 : decode cX6_move 14 = .ok (.getfield 22, 3) := by decide +kernel
theorem dX6_move_17 : decode cX6_move 17 = .ok (.aload_n 0, 1) := by decide +kernel
theorem dX6_move_18 : decode cX6_move 18 = .ok (.getfield 167, 3) := by decide +kernel
theorem dX6_move_21 : decode cX6_move 21 = .ok (.aload_n 1, 1) := by decide +kernel
theorem dX6_move_22 : decode cX6_move 22 = .ok (.iload 4, 2) := by decide +kernel
theorem dX6_move_24 : decode cX6_move 24 = .ok (.iaload, 1) := by decide +kernel
theorem dX6_move_25 : decode cX6_move 25 = .ok (.iastore, 1) := by decide +kernel
theorem dX6_move_26 : decode cX6_move 26 = .ok (.goto 16, 3) := by decide +kernel
theorem dX6_move_29 : decode cX6_move 29 = .ok (.aload_n 1, 1) := by decide +kernel
theorem dX6_move_30 : decode cX6_move 30 = .ok (.iload 4, 2) := by decide +kernel
theorem dX6_move_32 : decode cX6_move 32 = .ok (.aload_n 0, 1) := by decide +kernel
theorem dX6_move_33 : decode cX6_move 33 = .ok (.getfield 22, 3) := by decide +kernel
theorem dX6_move_36 : decode cX6_move 36 = .ok (.aload_n 0, 1) := by decide +kernel
theorem dX6_move_37 : decode cX6_move 37 = .ok (.getfield 167, 3) := by decide +kernel
theorem dX6_move_40 : decode cX6_move 40 = .ok (.iaload, 1) := by decide +kernel
theorem dX6_move_41 : decode cX6_move 41 = .ok (.iastore, 1) := by decide +kernel
theorem dX6_move_42 : decode cX6_move 42 = .ok (.aload_n 0, 1) := by decide +kernel
theorem dX6_move_43 : decode cX6_move 43 = .ok (.dup, 1) := by decide +kernel
theorem dX6_move_44 : decode cX6_move 44 = .ok (.getfield 167, 3) := by decide +kernel
theorem dX6_move_47 : decode cX6_move 47 = .ok (.iconst 1, 1) := by decide +kernel
theorem dX6_move_48 : decode cX6_move 48 = .ok (.iadd, 1) := by decide +kernel
theorem dX6_move_49 : decode cX6_move 49 = .ok (.putfield 167, 3) := by decide +kernel
theorem dX6_move_52 : decode cX6_move 52 = .ok (.iinc 4 1, 3) := by decide +kernel
theorem dX6_move_55 : decode cX6_move 55 = .ok (.goto (-52), 3) := by decide +kernel
theorem dX6_move_58 : decode cX6_move 58 = .ok (.return_, 1) := by decide +kernel
theorem dX6_moveAll_0 : decode cX6_moveAll 0 = .ok (.aload_n 0, 1) := by decide +kernel
theorem dX6_moveAll_1 : decode cX6_moveAll 1 = .ok (.iconst 0, 1) := by decide +kernel
theorem dX6_moveAll_2 : decode cX6_moveAll 2 = .ok (.putfield 167, 3) := by decide +kernel
theorem dX6_moveAll_5 : decode cX6_moveAll 5 = .ok (.aload_n 0, 1) := by decide +kernel
theorem dX6_moveAll_6 : decode cX6_moveAll 6 = .ok (.aload_n 0, 1) := by decide +kernel
theorem dX6_moveAll_7 : decode cX6_moveAll 7 = .ok (.getfield 7, 3) := by decide +kernel
theorem dX6_moveAll_10 : decode cX6_moveAll 10 = .ok (.bipush 6, 2) := by decide +kernel
theorem dX6_moveAll_12 : decode cX6_moveAll 12 = .ok (.iload_n 1, 1) := by decide +kernel
theorem dX6_moveAll_13 : decode cX6_moveAll 13 = .ok (.invokevirtual 170, 3) := by decide +kernel
theorem dX6_moveAll_16 : decode cX6_moveAll 16 = .ok (.aload_n 0, 1) := by decide +kernel
theorem dX6_moveAll_17 : decode cX6_moveAll 17 = .ok (.aload_n 0, 1) := by decide +kernel
theorem dX6_moveAll_18 : decode cX6_moveAll 18 = .ok (.getfield 13, 3) := by decide +kernel
theorem dX6_moveAll_21 : decode cX6_moveAll 21 = .ok (.bipush 12, 2) := by decide +kernel
theorem dX6_moveAll_23 : decode cX6_moveAll 23 = .ok (.iload_n 1, 1) := by decide +kernel
theorem dX6_moveAll_24 : decode cX6_moveAll 24 = .ok (.invokevirtual 170, 3) := by decide +kernel
theorem dX6_moveAll_27 : decode cX6_moveAll 27 = .ok (.aload_n 0, 1) := by decide +kernel
theorem dX6_moveAll_28 : decode cX6_moveAll 28 = .ok (.aload_n 0, 1) := by decide +kernel
theorem dX6_moveAll_29 : decode cX6_moveAll 29 = .ok (.getfield 16, 3) := by decide +kernel
theorem dX6_moveAll_32 : decode cX6_moveAll 32 = .ok (.bipush 10, 2) := by decide +kernel
theorem dX6_moveAll_34 : decode cX6_moveAll 34 = .ok (.iload_n 1, 1) := by decide +kernel
theorem dX6_moveAll_35 : decode cX6_moveAll 35 = .ok (.invokevirtual 170, 3) := by decide +kernel
theorem dX6_moveAll_38 : decode cX6_moveAll 38 = .ok (.aload_n 0, 1) := by decide +kernel
theorem dX6_moveAll_39 : decode cX6_moveAll 39 = .ok (.aload_n 0, 1) := by decide +kernel
theorem dX6_moveAll_40 : decode cX6_moveAll 40 = .ok (.getfield 19, 3) := by decide +kernel
theorem dX6_moveAll_43 : decode cX6_moveAll 43 = .ok (.bipush 105, 2) := by decide +kernel
theorem dX6_moveAll_45 : decode cX6_moveAll 45 = .ok (.iload_n 1, 1) := by decide +kernel
theorem dX6_moveAll_46 : decode cX6_moveAll 46 = .ok (.invokevirtual 170, 3) := by decide +kernel
theorem dX6_moveAll_49 : decode cX6_moveAll 49 = .ok (.return_, 1) := by decide +kernel
theorem dX6_keep_0 : decode cX6_keep 0 = .ok (.aload_n 0, 1) := by decide +kernel
theorem dX6_keep_1 : decode cX6_keep 1 = .ok (.iconst 1, 1) := by decide +kernel
theorem dX6_keep_2 : decode cX6_keep 2 = .ok (.invokevirtual 174, 3) := by decide +kernel
theorem dX6_keep_5 : decode cX6_keep 5 = .ok (.aload_n 0, 1) := by decide +kernel
theorem dX6_keep_6 : decode cX6_keep 6 = .ok (.iconst 1, 1) := by decide +kernel
theorem dX6_keep_7 : decode cX6_keep 7 = .ok (.putfield 178, 3) := by decide +kernel
theorem dX6_keep_10 : decode cX6_keep 10 = .ok (.iconst 1, 1) := by decide +kernel
theorem dX6_keep_11 : decode cX6_keep 11 = .ok (.ireturn, 1) := by decide +kernel
theorem dX6_back_0 : decode cX6_back 0 = .ok (.aload_n 0, 1) := by decide +kernel
theorem dX6_back_1 : decode cX6_back 1 = .ok (.getfield 178, 3) := by decide +kernel
theorem dX6_back_4 : decode cX6_back 4 = .ok (.ifCond .ne 6, 3) := by decide +kernel
theorem dX6_back_7 : decode cX6_back 7 = .ok (.bipush (-3), 2) := by decide +kernel
theorem dX6_back_9 : decode cX6_back 9 = .ok (.ireturn, 1) := by decide +kernel
theorem dX6_back_10 : decode cX6_back 10 = .ok (.aload_n 0, 1) := by decide +kernel
theorem dX6_back_11 : decode cX6_back 11 = .ok (.iconst 0, 1) := by decide +kernel
theorem dX6_back_12 : decode cX6_back 12 = .ok (.invokevirtual 174, 3) := by decide +kernel
theorem dX6_back_15 : decode cX6_back 15 = .ok (.iconst 1, 1) := by decide +kernel
theorem dX6_back_16 : decode cX6_back 16 = .ok (.ireturn, 1) := by decide +kernel
end
section
theorem dX0_init_0 : decode cX0_init 0 = .ok (.aload_n 0, 1) := by decide +kernel
theorem dX0_init_1 : decode cX0_init 1 = .ok (.invokespecial 3, 3) := by decide +kernel
theorem dX0_init_4 : decode cX0_init 4 = .ok (.aload_n 0, 1) := by decide +kernel
theorem dX0_init_5 : decode cX0_init 5 = .ok (.bipush 7, 2) := by decide +kernel
theorem dX0_init_7 : decode cX0_init 7 = .ok (.newarray .int, 2) := by decide +kernel
theorem dX0_init_9 : decode cX0_init 9 = .ok (.putfield 9, 3) := by decide +kernel
theorem dX0_init_12 : decode cX0_init 12 = .ok (.aload_n 0, 1) := by decide +kernel
theorem dX0_init_13 : decode cX0_init 13 = .ok (.bipush 7, 2) := by decide +kernel
theorem dX0_init_15 : decode cX0_init 15 = .ok (.newarray .int, 2) := by decide +kernel
theorem dX0_init_17 : decode cX0_init 17 = .ok (.putfield 15, 3) := by decide +kernel
theorem dX0_init_20 : decode cX0_init 20 = .ok (.aload_n 0, 1) := by decide +kernel
theorem dX0_init_21 : decode cX0_init 21 = .ok (.bipush 7, 2) := by decide +kernel
theorem dX0_init_23 : decode cX0_init 23 = .ok (.newarray .boolean, 2) := by decide +kernel
theorem dX0_init_25 : decode cX0_init 25 = .ok (.putfield 18, 3) := by decide +kernel
theorem dX0_init_28 : decode cX0_init 28 = .ok (.aload_n 0, 1) := by decide +kernel
theorem dX0_init_29 : decode cX0_init 29 = .ok (.iconst 1, 1) := by decide +kernel
theorem dX0_init_30 : decode cX0_init 30 = .ok (.putfield 22, 3) := by decide +kernel
theorem dX0_init_33 : decode cX0_init 33 = .ok (.return_, 1) := by decide +kernel
theorem dX0_begin_0 : decode cX0_begin 0 = .ok (.aload_n 0, 1) := by decide +kernel
theorem dX0_begin_1 : decode cX0_begin 1 = .ok (.iload_n 1, 1) := by decide +kernel
theorem dX0_begin_2 : decode cX0_begin 2 = .ok (.putfield 22, 3) := by decide +kernel
theorem dX0_begin_5 : decode cX0_begin 5 = .ok (.aload_n 0, 1) := by decide +kernel
theorem dX0_begin_6 : decode cX0_begin 6 = .ok (.iconst 0, 1) := by decide +kernel
theorem dX0_begin_7 : decode cX0_begin 7 = .ok (.putfield 26, 3) := by decide +kernel
theorem dX0_begin_10 : decode cX0_begin 10 = .ok (.return_, 1) := by decide +kernel
theorem dX0_become_0 : decode cX0_become 0 = .ok (.aload_n 0, 1) := by decide +kernel
theorem dX0_become_1 : decode cX0_become 1 = .ok (.aload_n 1, 1) := by decide +kernel
theorem dX0_become_2 : decode cX0_become 2 = .ok (.getfield 22, 3) := by decide +kernel
theorem dX0_become_5 : decode cX0_become 5 = .ok (.putfield 22, 3) := by decide +kernel
theorem dX0_become_8 : decode cX0_become 8 = .ok (.aload_n 0, 1) := by decide +kernel
theorem dX0_become_9 : decode cX0_become 9 = .ok (.aload_n 1, 1) := by decide +kernel
theorem dX0_become_10 : decode cX0_become 10 = .ok (.getfield 26, 3) := by decide +kernel
theorem dX0_become_13 : decode cX0_become 13 = .ok (.putfield 26, 3) := by decide +kernel
theorem dX0_become_16 : decode cX0_become 16 = .ok (.aload_n 1, 1) := by decide +kernel
theorem dX0_become_17 : decode cX0_become 17 = .ok (.getfield 9, 3) := by decide +kernel
theorem dX0_become_20 : decode cX0_become 20 = .ok (.iconst 0, 1) := by decide +kernel
theorem dX0_become_21 : decode cX0_become 21 = .ok (.aload_n 0, 1) := by decide +kernel
theorem dX0_become_22 : decode cX0_become 22 = .ok (.getfield 9, 3) := by decide +kernel
theorem dX0_become_25 : decode cX0_become 25 = .ok (.iconst 0, 1) := by decide +kernel
theorem dX0_become_26 : decode cX0_become 26 = .ok (.bipush 7, 2) := by decide +kernel
theorem dX0_become_28 : decode cX0_become 28 = .ok (.invokestatic 29, 3) := by decide +kernel
theorem dX0_become_31 : decode cX0_become 31 = .ok (.aload_n 1, 1) := by decide +kernel
theorem dX0_become_32 : decode cX0_become 32 = .ok (.getfield 15, 3) := by decide +kernel
theorem dX0_become_35 : decode cX0_become 35 = .ok (.iconst 0, 1) := by decide +kernel
theorem dX0_become_36 : decode cX0_become 36 = .ok (.aload_n 0, 1) := by decide +kernel
theorem dX0_become_37 : decode cX0_become 37 = .ok (.getfield 15, 3) := by decide +kernel
theorem dX0_become_40 : decode cX0_become 40 = .ok (.iconst 0, 1) := by decide +kernel
theorem dX0_become_41 : decode cX0_become 41 = .ok (.bipush 7, 2) := by decide +kernel
theorem dX0_become_43 : decode cX0_become 43 = .ok (.invokestatic 29, 3) := by decide +kernel
theorem dX0_become_46 : decode cX0_become 46 = .ok (.aload_n 1, 1) := by decide +kernel
theorem dX0_become_47 : decode cX0_become 47 = .ok (.getfield 18, 3) := by decide +kernel
theorem dX0_become_50 : decode cX0_become 50 = .ok (.iconst 0, 1) := by decide +kernel
theorem dX0_become_51 : decode cX0_become 51 = .ok (.aload_n 0, 1) := by decide +kernel
theorem dX0_become_52 : decode cX0_become 52 = .ok (.getfield 18, 3) := by decide +kernel
theorem dX0_become_55 : decode cX0_become 55 = .ok (.iconst 0, 1) := by decide +kernel
theorem dX0_become_56 : decode cX0_become 56 = .ok (.bipush 7, 2) := by decide +kernel
theorem dX0_become_58 : decode cX0_become 58 = .ok (.invokestatic 29, 3) := by decide +kernel
theorem dX0_become_61 : decode cX0_become 61 = .ok (.return_, 1) := by decide +kernel
theorem dX0_hasDot_0 : decode cX0_hasDot 0 = .ok (.iload_n 1, 1) := by decide +kernel
theorem dX0_hasDot_1 : decode cX0_hasDot 1 = .ok (.ifCond .lt 15, 3) := by decide +kernel
theorem dX0_hasDot_4 : decode cX0_hasDot 4 = .ok (.iload_n 1, 1) := by decide +kernel
theorem dX0_hasDot_5 : decode cX0_hasDot 5 = .ok (.aload_n 0, 1) := by decide +kernel
theorem dX0_hasDot_6 : decode cX0_hasDot 6 = .ok (.getfield 26, 3) := by decide +kernel
theorem dX0_hasDot_9 : decode cX0_hasDot 9 = .ok (.if_icmp .ge 7, 3) := by decide +kernel
theorem dX0_hasDot_12 : decode cX0_hasDot 12 = .ok (.iconst 1, 1) := by decide +kernel
theorem dX0_hasDot_13 : decode cX0_hasDot 13 = .ok (.goto 4, 3) := by decide +kernel
theorem dX0_hasDot_16 : decode cX0_hasDot 16 = .ok (.iconst 0, 1) := by decide +kernel
theorem dX0_hasDot_17 : decode cX0_hasDot 17 = .ok (.ireturn, 1) := by decide +kernel
theorem dX0_xOf_0 : decode cX0_xOf 0 = .ok (.aload_n 0, 1) := by decide +kernel
theorem dX0_xOf_1 : decode cX0_xOf 1 = .ok (.iload_n 1, 1) := by decide +kernel
theorem dX0_xOf_2 : decode cX0_xOf 2 = .ok (.invokevirtual 35, 3) := by decide +kernel
theorem dX0_xOf_5 : decode cX0_xOf 5 = .ok (.ifCond .eq 12, 3) := by decide +kernel
theorem dX0_xOf_8 : decode cX0_xOf 8 = .ok (.aload_n 0, 1) := by decide +kernel
theorem dX0_xOf_9 : decode cX0_xOf 9 = .ok (.getfield 9, 3) := by decide +kernel
theorem dX0_xOf_12 : decode cX0_xOf 12 = .ok (.iload_n 1, 1) := by decide +kernel
theorem dX0_xOf_13 : decode cX0_xOf 13 = .ok (.iaload, 1) := by decide +kernel
theorem dX0_xOf_14 : decode cX0_xOf 14 = .ok (.goto 4, 3) := by decide +kernel
theorem dX0_xOf_17 : decode cX0_xOf 17 = .ok (.iconst 0, 1) := by decide +kernel
theorem dX0_xOf_18 : decode cX0_xOf 18 = .ok (.ireturn, 1) := by decide +kernel
theorem dX0_yOf_0 : decode cX0_yOf 0 = .ok (.aload_n 0, 1) := by decide +kernel
theorem dX0_yOf_1 : decode cX0_yOf 1 = .ok (.iload_n 1, 1) := by decide +kernel
theorem dX0_yOf_2 : decode cX0_yOf 2 = .ok (.invokevirtual 35, 3) := by decide +kernel
theorem dX0_yOf_5 : decode cX0_yOf 5 = .ok (.ifCond .eq 12, 3) := by decide +kernel
theorem dX0_yOf_8 : decode cX0_yOf 8 = .ok (.aload_n 0, 1) := by decide +kernel
theorem dX0_yOf_9 : decode cX0_yOf 9 = .ok (.getfield 15, 3) := by decide +kernel
theorem dX0_yOf_12 : decode cX0_yOf 12 = .ok (.iload_n 1, 1) := by decide +kernel
theorem dX0_yOf_13 : decode cX0_yOf 13 = .ok (.iaload, 1) := by decide +kernel
theorem dX0_yOf_14 : decode cX0_yOf 14 = .ok (.goto 4, 3) := by decide +kernel
theorem dX0_yOf_17 : decode cX0_yOf 17 = .ok (.iconst 0, 1) := by decide +kernel
theorem dX0_yOf_18 : decode cX0_yOf 18 = .ok (.ireturn, 1) := by decide +kernel
theorem dX0_solos_0 : decode cX0_solos 0 = .ok (.iconst 0, 1) := by decide +kernel
theorem dX0_solos_1 : decode cX0_solos 1 = .ok (.istore_n 1, 1) := by decide +kernel
theorem dX0_solos_2 : decode cX0_solos 2 = .ok (.iconst 0, 1) := by decide +kernel
theorem dX0_solos_3 : decode cX0_solos 3 = .ok (.istore_n 2, 1) := by decide +kernel
theorem dX0_solos_4 : decode cX0_solos 4 = .ok (.iload_n 2, 1) := by decide +kernel
theorem dX0_solos_5 : decode cX0_solos 5 = .ok (.aload_n 0, 1) := by decide +kernel
theorem dX0_solos_6 : decode cX0_solos 6 = .ok (.getfield 26, 3) := by decide +kernel
theorem dX0_solos_9 : decode cX0_solos 9 = .ok (.if_icmp .ge 21, 3) := by decide +kernel
theorem dX0_solos_12 : decode cX0_solos 12 = .ok (.aload_n 0, 1) := by decide +kernel
theorem dX0_solos_13 : decode cX0_solos 13 = .ok (.getfield 18, 3) := by decide +kernel
theorem dX0_solos_16 : decode cX0_solos 16 = .ok (.iload_n 2, 1) := by decide +kernel
theorem dX0_solos_17 : decode cX0_solos 17 = .ok (.baload, 1) := by decide +kernel
theorem dX0_solos_18 : decode cX0_solos 18 = .ok (.ifCond .eq 6, 3) := by decide +kernel
theorem dX0_solos_21 : decode cX0_solos 21 = .ok (.iinc 1 1, 3) := by decide +kernel
theorem dX0_solos_24 : decode cX0_solos 24 = .ok (.iinc 2 1, 3) := by decide +kernel
theorem dX0_solos_27 : decode cX0_solos 27 = .ok (.goto (-23), 3) := by decide +kernel
theorem dX0_solos_30 : decode cX0_solos 30 = .ok (.iload_n 1, 1) := by decide +kernel
theorem dX0_solos_31 : decode cX0_solos 31 = .ok (.ireturn, 1) := by decide +kernel
theorem dX0_hasRoomFor_0 : decode cX0_hasRoomFor 0 = .ok (.aload_n 0, 1) := by decide +kernel
theorem dX0_hasRoomFor_1 : decode cX0_hasRoomFor 1 = .ok (.getfield 26, 3) := by decide +kernel
theorem dX0_hasRoomFor_4 : decode cX0_hasRoomFor 4 = .ok (.iload_n 1, 1) := by decide +kernel
theorem dX0_hasRoomFor_5 : decode cX0_hasRoomFor 5 = .ok (.iadd, 1) := by decide +kernel
theorem dX0_hasRoomFor_6 : decode cX0_hasRoomFor 6 = .ok (.bipush 7, 2) := by decide +kernel
theorem dX0_hasRoomFor_8 : decode cX0_hasRoomFor 8 = .ok (.if_icmp .gt 7, 3) := by decide +kernel
theorem dX0_hasRoomFor_11 : decode cX0_hasRoomFor 11 = .ok (.iconst 1, 1) := by decide +kernel
theorem dX0_hasRoomFor_12 : decode cX0_hasRoomFor 12 = .ok (.goto 4, 3) := by decide +kernel
theorem dX0_hasRoomFor_15 : decode cX0_hasRoomFor 15 = .ok (.iconst 0, 1) := by decide +kernel
theorem dX0_hasRoomFor_16 : decode cX0_hasRoomFor 16 = .ok (.ireturn, 1) := by decide +kernel
theorem dX0_canTake_0 : decode cX0_canTake 0 = .ok (.iconst 0, 1) := by decide +kernel
theorem dX0_canTake_1 : decode cX0_canTake 1 = .ok (.istore_n 2, 1) := by decide +kernel
theorem dX0_canTake_2 : decode cX0_canTake 2 = .ok (.iload_n 2, 1) := by decide +kernel
theorem dX0_canTake_3 : decode cX0_canTake 3 = .ok (.aload_n 1, 1) := by decide +kernel
theorem dX0_canTake_4 : decode cX0_canTake 4 = .ok (.getfield 39, 3) := by decide +kernel
theorem dX0_canTake_7 : decode cX0_canTake 7 = .ok (.if_icmp .ge 48, 3) := by decide +kernel
theorem dX0_canTake_10 : decode cX0_canTake 10 = .ok (.aload_n 1, 1) := by decide +kernel
theorem dX0_canTake_11 : decode cX0_canTake 11 = .ok (.getfield 42, 3) := by decide +kernel
theorem dX0_canTake_14 : decode cX0_canTake 14 = .ok (.iload_n 2, 1) := by decide +kernel
theorem dX0_canTake_15 : decode cX0_canTake 15 = .ok (.iaload, 1) := by decide +kernel
theorem dX0_canTake_16 : decode cX0_canTake 16 = .ok (.aload_n 1, 1) := by decide +kernel
theorem dX0_canTake_17 : decode cX0_canTake 17 = .ok (.getfield 43, 3) := by decide +kernel
theorem dX0_canTake_20 : decode cX0_canTake 20 = .ok (.iload_n 2, 1) := by decide +kernel
theorem dX0_canTake_21 : decode cX0_canTake 21 = .ok (.iaload, 1) := by decide +kernel
theorem dX0_canTake_22 : decode cX0_canTake 22 = .ok (.invokestatic 44, 3) := by decide +kernel
theorem dX0_canTake_25 : decode cX0_canTake 25 = .ok (.ifCond .eq 22, 3) := by decide +kernel
theorem dX0_canTake_28 : decode cX0_canTake 28 = .ok (.aload_n 0, 1) := by decide +kernel
theorem dX0_canTake_29 : decode cX0_canTake 29 = .ok (.aload_n 1, 1) := by decide +kernel
theorem dX0_canTake_30 : decode cX0_canTake 30 = .ok (.getfield 42, 3) := by decide +kernel
theorem dX0_canTake_33 : decode cX0_canTake 33 = .ok (.iload_n 2, 1) := by decide +kernel
theorem dX0_canTake_34 : decode cX0_canTake 34 = .ok (.iaload, 1) := by decide +kernel
theorem dX0_canTake_35 : decode cX0_canTake 35 = .ok (.aload_n 1, 1) := by decide +kernel
theorem dX0_canTake_36 : decode cX0_canTake 36 = .ok (.getfield 43, 3) := by decide +kernel
theorem dX0_canTake_39 : decode cX0_canTake 39 = .ok (.iload_n 2, 1) := by decide +kernel
theorem dX0_canTake_40 : decode cX0_canTake 40 = .ok (.iaload, 1) := by decide +kernel
theorem dX0_canTake_41 : decode cX0_canTake 41 = .ok (.invokevirtual 48, 3) := by decide +kernel
theorem dX0_canTake_44 : decode cX0_canTake 44 = .ok (.ifCond .eq 5, 3) := by decide +kernel
theorem dX0_canTake_47 : decode cX0_canTake 47 = .ok (.iconst 0, 1) := by decide +kernel
theorem dX0_canTake_48 : decode cX0_canTake 48 = .ok (.ireturn, 1) := by decide +kernel
theorem dX0_canTake_49 : decode cX0_canTake 49 = .ok (.iinc 2 1, 3) := by decide +kernel
theorem dX0_canTake_52 : decode cX0_canTake 52 = .ok (.goto (-50), 3) := by decide +kernel
theorem dX0_canTake_55 : decode cX0_canTake 55 = .ok (.aload_n 1, 1) := by decide +kernel
theorem dX0_canTake_56 : decode cX0_canTake 56 = .ok (.invokevirtual 51, 3) := by decide +kernel
theorem dX0_canTake_59 : decode cX0_canTake 59 = .ok (.ifCond .ne 7, 3) := by decide +kernel
theorem dX0_canTake_62 : decode cX0_canTake 62 = .ok (.iconst 1, 1) := by decide +kernel
theorem dX0_canTake_63 : decode cX0_canTake 63 = .ok (.goto 4, 3) := by decide +kernel
theorem dX0_canTake_66 : decode cX0_canTake 66 = .ok (.iconst 0, 1) := by decide +kernel
theorem dX0_canTake_67 : decode cX0_canTake 67 = .ok (.ireturn, 1) := by decide +kernel
theorem dX0_hasDotAt_0 : decode cX0_hasDotAt 0 = .ok (.iconst 0, 1) := by decide +kernel
theorem dX0_hasDotAt_1 : decode cX0_hasDotAt 1 = .ok (.istore_n 3, 1) := by decide +kernel
theorem dX0_hasDotAt_2 : decode cX0_hasDotAt 2 = .ok (.iload_n 3, 1) := by decide +kernel
theorem dX0_hasDotAt_3 : decode cX0_hasDotAt 3 = .ok (.aload_n 0, 1) := by decide +kernel
theorem dX0_hasDotAt_4 : decode cX0_hasDotAt 4 = .ok (.getfield 26, 3) := by decide +kernel
theorem dX0_hasDotAt_7 : decode cX0_hasDotAt 7 = .ok (.if_icmp .ge 31, 3) := by decide +kernel
theorem dX0_hasDotAt_10 : decode cX0_hasDotAt 10 = .ok (.aload_n 0, 1) := by decide +kernel
theorem dX0_hasDotAt_11 : decode cX0_hasDotAt 11 = .ok (.getfield 9, 3) := by decide +kernel
theorem dX0_hasDotAt_14 : decode cX0_hasDotAt 14 = .ok (.iload_n 3, 1) := by decide +kernel
theorem dX0_hasDotAt_15 : decode cX0_hasDotAt 15 = .ok (.iaload, 1) := by decide +kernel
theorem dX0_hasDotAt_16 : decode cX0_hasDotAt 16 = .ok (.iload_n 1, 1) := by decide +kernel
theorem dX0_hasDotAt_17 : decode cX0_hasDotAt 17 = .ok (.if_icmp .ne 15, 3) := by decide +kernel
theorem dX0_hasDotAt_20 : decode cX0_hasDotAt 20 = .ok (.aload_n 0, 1) := by decide +kernel
theorem dX0_hasDotAt_21 : decode cX0_hasDotAt 21 = .ok (.getfield 15, 3) := by decide +kernel
theorem dX0_hasDotAt_24 : decode cX0_hasDotAt 24 = .ok (.iload_n 3, 1) := by decide +kernel
theorem dX0_hasDotAt_25 : decode cX0_hasDotAt 25 = .ok (.iaload, 1) := by decide +kernel
theorem dX0_hasDotAt_26 : decode cX0_hasDotAt 26 = .ok (.iload_n 2, 1) := by decide +kernel
theorem dX0_hasDotAt_27 : decode cX0_hasDotAt 27 = .ok (.if_icmp .ne 5, 3) := by decide +kernel
theorem dX0_hasDotAt_30 : decode cX0_hasDotAt 30 = .ok (.iconst 1, 1) := by decide +kernel
theorem dX0_hasDotAt_31 : decode cX0_hasDotAt 31 = .ok (.ireturn, 1) := by decide +kernel
theorem dX0_hasDotAt_32 : decode cX0_hasDotAt 32 = .ok (.iinc 3 1, 3) := by decide +kernel
theorem dX0_hasDotAt_35 : decode cX0_hasDotAt 35 = .ok (.goto (-33), 3) := by decide +kernel
theorem dX0_hasDotAt_38 : decode cX0_hasDotAt 38 = .ok (.iconst 0, 1) := by decide +kernel
theorem dX0_hasDotAt_39 : decode cX0_hasDotAt 39 = .ok (.ireturn, 1) := by decide +kernel
theorem dX0_take_0 : decode cX0_take 0 = .ok (.iconst 0, 1) := by decide +kernel
theorem dX0_take_1 : decode cX0_take 1 = .ok (.istore_n 2, 1) := by decide +kernel
theorem dX0_take_2 : decode cX0_take 2 = .ok (.iload_n 2, 1) := by decide +kernel
theorem dX0_take_3 : decode cX0_take 3 = .ok (.aload_n 1, 1) := by decide +kernel
theorem dX0_take_4 : decode cX0_take 4 = .ok (.getfield 39, 3) := by decide +kernel
theorem dX0_take_7 : decode cX0_take 7 = .ok (.if_icmp .ge 68, 3) := by decide +kernel
theorem dX0_take_10 : decode cX0_take 10 = .ok (.aload_n 0, 1) := by decide +kernel
theorem dX0_take_11 : decode cX0_take 11 = .ok (.getfield 26, 3) := by decide +kernel
theorem dX0_take_14 : decode cX0_take 14 = .ok (.bipush 7, 2) := by decide +kernel
theorem dX0_take_16 : decode cX0_take 16 = .ok (.if_icmp .ge 59, 3) := by decide +kernel
theorem dX0_take_19 : decode cX0_take 19 = .ok (.aload_n 0, 1) := by decide +kernel
theorem dX0_take_20 : decode cX0_take 20 = .ok (.getfield 9, 3) := by decide +kernel
theorem dX0_take_23 : decode cX0_take 23 = .ok (.aload_n 0, 1) := by decide +kernel
theorem dX0_take_24 : decode cX0_take 24 = .ok (.getfield 26, 3) := by decide +kernel
theorem dX0_take_27 : decode cX0_take 27 = .ok (.aload_n 1, 1) := by decide +kernel
theorem dX0_take_28 : decode cX0_take 28 = .ok (.getfield 42, 3) := by decide +kernel
theorem dX0_take_31 : decode cX0_take 31 = .ok (.iload_n 2, 1) := by decide +kernel
theorem dX0_take_32 : decode cX0_take 32 = .ok (.iaload, 1) := by decide +kernel
theorem dX0_take_33 : decode cX0_take 33 = .ok (.iastore, 1) := by decide +kernel
theorem dX0_take_34 : decode cX0_take 34 = .ok (.aload_n 0, 1) := by decide +kernel
theorem dX0_take_35 : decode cX0_take 35 = .ok (.getfield 15, 3) := by decide +kernel
theorem dX0_take_38 : decode cX0_take 38 = .ok (.aload_n 0, 1) := by decide +kernel
theorem dX0_take_39 : decode cX0_take 39 = .ok (.getfield 26, 3) := by decide +kernel
theorem dX0_take_42 : decode cX0_take 42 = .ok (.aload_n 1, 1) := by decide +kernel
theorem dX0_take_43 : decode cX0_take 43 = .ok (.getfield 43, 3) := by decide +kernel
theorem dX0_take_46 : decode cX0_take 46 = .ok (.iload_n 2, 1) := by decide +kernel
theorem dX0_take_47 : decode cX0_take 47 = .ok (.iaload, 1) := by decide +kernel
theorem dX0_take_48 : decode cX0_take 48 = .ok (.iastore, 1) := by decide +kernel
theorem dX0_take_49 : decode cX0_take 49 = .ok (.aload_n 0, 1) := by decide +kernel
theorem dX0_take_50 : decode cX0_take 50 = .ok (.getfield 18, 3) := by decide +kernel
theorem dX0_take_53 : decode cX0_take 53 = .ok (.aload_n 0, 1) := by decide +kernel
theorem dX0_take_54 : decode cX0_take 54 = .ok (.getfield 26, 3) := by decide +kernel
theorem dX0_take_57 : decode cX0_take 57 = .ok (.iconst 0, 1) := by decide +kernel
theorem dX0_take_58 : decode cX0_take 58 = .ok (.bastore, 1) := by decide +kernel
theorem dX0_take_59 : decode cX0_take 59 = .ok (.aload_n 0, 1) := by decide +kernel
theorem dX0_take_60 : decode cX0_take 60 = .ok (.dup, 1) := by decide +kernel
theorem dX0_take_61 : decode cX0_take 61 = .ok (.getfield 26, 3) := by decide +kernel
theorem dX0_take_64 : decode cX0_take 64 = .ok (.iconst 1, 1) := by decide +kernel
theorem dX0_take_65 : decode cX0_take 65 = .ok (.iadd, 1) := by decide +kernel
theorem dX0_take_66 : decode cX0_take 66 = .ok (.putfield 26, 3) := by decide +kernel
theorem dX0_take_69 : decode cX0_take 69 = .ok (.iinc 2 1, 3) := by decide +kernel
theorem dX0_take_72 : decode cX0_take 72 = .ok (.goto (-70), 3) := by decide +kernel
theorem dX0_take_75 : decode cX0_take 75 = .ok (.return_, 1) := by decide +kernel
theorem dX1_init_0 : decode cX1_init 0 = .ok (.aload_n 0, 1) := by decide +kernel
theorem dX1_init_1 : decode cX1_init 1 = .ok (.invokespecial 3, 3) := by decide +kernel
theorem dX1_init_4 : decode cX1_init 4 = .ok (.aload_n 0, 1) := by decide +kernel
theorem dX1_init_5 : decode cX1_init 5 = .ok (.iconst 5, 1) := by decide +kernel
theorem dX1_init_6 : decode cX1_init 6 = .ok (.newarray .boolean, 2) := by decide +kernel
theorem dX1_init_8 : decode cX1_init 8 = .ok (.putfield 9, 3) := by decide +kernel
theorem dX1_init_11 : decode cX1_init 11 = .ok (.aload_n 0, 1) := by decide +kernel
theorem dX1_init_12 : decode cX1_init 12 = .ok (.iconst 5, 1) := by decide +kernel
theorem dX1_init_13 : decode cX1_init 13 = .ok (.newarray .int, 2) := by decide +kernel
theorem dX1_init_15 : decode cX1_init 15 = .ok (.putfield 15, 3) := by decide +kernel
theorem dX1_init_18 : decode cX1_init 18 = .ok (.aload_n 0, 1) := by decide +kernel
theorem dX1_init_19 : decode cX1_init 19 = .ok (.iconst 5, 1) := by decide +kernel
theorem dX1_init_20 : decode cX1_init 20 = .ok (.newarray .int, 2) := by decide +kernel
theorem dX1_init_22 : decode cX1_init 22 = .ok (.putfield 19, 3) := by decide +kernel
theorem dX1_init_25 : decode cX1_init 25 = .ok (.aload_n 0, 1) := by decide +kernel
theorem dX1_init_26 : decode cX1_init 26 = .ok (.iconst 5, 1) := by decide +kernel
theorem dX1_init_27 : decode cX1_init 27 = .ok (.bipush 6, 2) := by decide +kernel
theorem dX1_init_29 : decode cX1_init 29 = .ok (.multianewarray 22 2, 4) := by decide +kernel
theorem dX1_init_33 : decode cX1_init 33 = .ok (.putfield 24, 3) := by decide +kernel
theorem dX1_init_36 : decode cX1_init 36 = .ok (.aload_n 0, 1) := by decide +kernel
theorem dX1_init_37 : decode cX1_init 37 = .ok (.aload_n 1, 1) := by decide +kernel
theorem dX1_init_38 : decode cX1_init 38 = .ok (.putfield 27, 3) := by decide +kernel
theorem dX1_init_41 : decode cX1_init 41 = .ok (.return_, 1) := by decide +kernel
theorem dX1_forgetFrom_0 : decode cX1_forgetFrom 0 = .ok (.aload_n 0, 1) := by decide +kernel
theorem dX1_forgetFrom_1 : decode cX1_forgetFrom 1 = .ok (.aload_n 0, 1) := by decide +kernel
theorem dX1_forgetFrom_2 : decode cX1_forgetFrom 2 = .ok (.getfield 31, 3) := by decide +kernel
theorem dX1_forgetFrom_5 : decode cX1_forgetFrom 5 = .ok (.iload_n 1, 1) := by decide +kernel
theorem dX1_forgetFrom_6 : decode cX1_forgetFrom 6 = .ok (.invokestatic 35, 3) := by decide +kernel
theorem dX1_forgetFrom_9 : decode cX1_forgetFrom 9 = .ok (.putfield 31, 3) := by decide +kernel
theorem dX1_forgetFrom_12 : decode cX1_forgetFrom 12 = .ok (.return_, 1) := by decide +kernel
theorem dX1_dotOf_0 : decode cX1_dotOf 0 = .ok (.aload_n 0, 1) := by decide +kernel
theorem dX1_dotOf_1 : decode cX1_dotOf 1 = .ok (.getfield 24, 3) := by decide +kernel
theorem dX1_dotOf_4 : decode cX1_dotOf 4 = .ok (.iload_n 1, 1) := by decide +kernel
theorem dX1_dotOf_5 : decode cX1_dotOf 5 = .ok (.aaload, 1) := by decide +kernel
theorem dX1_dotOf_6 : decode cX1_dotOf 6 = .ok (.iload_n 2, 1) := by decide +kernel
theorem dX1_dotOf_7 : decode cX1_dotOf 7 = .ok (.iaload, 1) := by decide +kernel
theorem dX1_dotOf_8 : decode cX1_dotOf 8 = .ok (.ireturn, 1) := by decide +kernel
theorem dX1_settleTo_0 : decode cX1_settleTo 0 = .ok (.aload_n 0, 1) := by decide +kernel
theorem dX1_settleTo_1 : decode cX1_settleTo 1 = .ok (.getfield 31, 3) := by decide +kernel
theorem dX1_settleTo_4 : decode cX1_settleTo 4 = .ok (.istore 4, 2) := by decide +kernel
theorem dX1_settleTo_6 : decode cX1_settleTo 6 = .ok (.iload 4, 2) := by decide +kernel
theorem dX1_settleTo_8 : decode cX1_settleTo 8 = .ok (.iload_n 2, 1) := by decide +kernel
theorem dX1_settleTo_9 : decode cX1_settleTo 9 = .ok (.if_icmp .gt 34, 3) := by decide +kernel
theorem dX1_settleTo_12 : decode cX1_settleTo 12 = .ok (.iload 4, 2) := by decide +kernel
theorem dX1_settleTo_14 : decode cX1_settleTo 14 = .ok (.aload_n 1, 1) := by decide +kernel
theorem dX1_settleTo_15 : decode cX1_settleTo 15 = .ok (.getfield 41, 3) := by decide +kernel
theorem dX1_settleTo_18 : decode cX1_settleTo 18 = .ok (.if_icmp .ge 25, 3) := by decide +kernel
theorem dX1_settleTo_21 : decode cX1_settleTo 21 = .ok (.aload_n 0, 1) := by decide +kernel
theorem dX1_settleTo_22 : decode cX1_settleTo 22 = .ok (.aload_n 1, 1) := by decide +kernel
theorem dX1_settleTo_23 : decode cX1_settleTo 23 = .ok (.iload 4, 2) := by decide +kernel
theorem dX1_settleTo_25 : decode cX1_settleTo 25 = .ok (.iload_n 3, 1) := by decide +kernel
theorem dX1_settleTo_26 : decode cX1_settleTo 26 = .ok (.invokevirtual 46, 3) := by decide +kernel
theorem dX1_settleTo_29 : decode cX1_settleTo 29 = .ok (.aload_n 0, 1) := by decide +kernel
theorem dX1_settleTo_30 : decode cX1_settleTo 30 = .ok (.iload 4, 2) := by decide +kernel
theorem dX1_settleTo_32 : decode cX1_settleTo 32 = .ok (.iconst 1, 1) := by decide +kernel
theorem dX1_settleTo_33 : decode cX1_settleTo 33 = .ok (.iadd, 1) := by decide +kernel
theorem dX1_settleTo_34 : decode cX1_settleTo 34 = .ok (.putfield 31, 3) := by decide +kernel
theorem dX1_settleTo_37 : decode cX1_settleTo 37 = .ok (.iinc 4 1, 3) := by decide +kernel
theorem dX1_settleTo_40 : decode cX1_settleTo 40 = .ok (.goto (-34), 3) := by decide +kernel
theorem dX1_settleTo_43 : decode cX1_settleTo 43 = .ok (.return_, 1) := by decide +kernel
theorem dX1_settle_0 : decode cX1_settle 0 = .ok (.aload_n 0, 1) := by decide +kernel
theorem dX1_settle_1 : decode cX1_settle 1 = .ok (.getfield 9, 3) := by decide +kernel
theorem dX1_settle_4 : decode cX1_settle 4 = .ok (.iload_n 2, 1) := by decide +kernel
theorem dX1_settle_5 : decode cX1_settle 5 = .ok (.iconst 0, 1) := by decide +kernel
theorem dX1_settle_6 : decode cX1_settle 6 = .ok (.bastore, 1) := by decide +kernel
theorem dX1_settle_7 : decode cX1_settle 7 = .ok (.aload_n 0, 1) := by decide +kernel
theorem dX1_settle_8 : decode cX1_settle 8 = .ok (.getfield 24, 3) := by decide +kernel
theorem dX1_settle_11 : decode cX1_settle 11 = .ok (.iload_n 2, 1) := by decide +kernel
theorem dX1_settle_12 : decode cX1_settle 12 = .ok (.aaload, 1) := by decide +kernel
theorem dX1_settle_13 : decode cX1_settle 13 = .ok (.iconst (-1), 1) := by decide +kernel
theorem dX1_settle_14 : decode cX1_settle 14 = .ok (.invokestatic 50, 3) := by decide +kernel
theorem dX1_settle_17 : decode cX1_settle 17 = .ok (.aload_n 0, 1) := by decide +kernel
theorem dX1_settle_18 : decode cX1_settle 18 = .ok (.getfield 27, 3) := by decide +kernel
theorem dX1_settle_21 : decode cX1_settle 21 = .ok (.aload_n 1, 1) := by decide +kernel
theorem dX1_settle_22 : decode cX1_settle 22 = .ok (.iload_n 3, 1) := by decide +kernel
theorem dX1_settle_23 : decode cX1_settle 23 = .ok (.invokevirtual 56, 3) := by decide +kernel
theorem dX1_settle_26 : decode cX1_settle 26 = .ok (.iload_n 2, 1) := by decide +kernel
theorem dX1_settle_27 : decode cX1_settle 27 = .ok (.ifCond .ne 13, 3) := by decide +kernel
theorem dX1_settle_30 : decode cX1_settle 30 = .ok (.aload_n 0, 1) := by decide +kernel
theorem dX1_settle_31 : decode cX1_settle 31 = .ok (.getfield 27, 3) := by decide +kernel
theorem dX1_settle_34 : decode cX1_settle 34 = .ok (.invokevirtual 62, 3) := by decide +kernel
theorem dX1_settle_37 : decode cX1_settle 37 = .ok (.goto 35, 3) := by decide +kernel
theorem dX1_settle_40 : decode cX1_settle 40 = .ok (.aload_n 0, 1) := by decide +kernel
theorem dX1_settle_41 : decode cX1_settle 41 = .ok (.getfield 9, 3) := by decide +kernel
theorem dX1_settle_44 : decode cX1_settle 44 = .ok (.iload_n 2, 1) := by decide +kernel
theorem dX1_settle_45 : decode cX1_settle 45 = .ok (.iconst 1, 1) := by decide +kernel
theorem dX1_settle_46 : decode cX1_settle 46 = .ok (.isub, 1) := by decide +kernel
theorem dX1_settle_47 : decode cX1_settle 47 = .ok (.baload, 1) := by decide +kernel
theorem dX1_settle_48 : decode cX1_settle 48 = .ok (.ifCond .eq 23, 3) := by decide +kernel
theorem dX1_settle_51 : decode cX1_settle 51 = .ok (.aload_n 0, 1) := by decide +kernel
theorem dX1_settle_52 : decode cX1_settle 52 = .ok (.getfield 27, 3) := by decide +kernel
theorem dX1_settle_55 : decode cX1_settle 55 = .ok (.aload_n 1, 1) := by decide +kernel
theorem dX1_settle_56 : decode cX1_settle 56 = .ok (.iload_n 2, 1) := by decide +kernel
theorem dX1_settle_57 : decode cX1_settle 57 = .ok (.aload_n 0, 1) := by decide +kernel
theorem dX1_settle_58 : decode cX1_settle 58 = .ok (.getfield 24, 3) := by decide +kernel
theorem dX1_settle_61 : decode cX1_settle 61 = .ok (.iload_n 2, 1) := by decide +kernel
theorem dX1_settle_62 : decode cX1_settle 62 = .ok (.iconst 1, 1) := by decide +kernel
theorem dX1_settle_63 : decode cX1_settle 63 = .ok (.isub, 1) := by decide +kernel
theorem dX1_settle_64 : decode cX1_settle 64 = .ok (.aaload, 1) := by decide +kernel
theorem dX1_settle_65 : decode cX1_settle 65 = .ok (.invokevirtual 65, 3) := by decide +kernel
theorem dX1_settle_68 : decode cX1_settle 68 = .ok (.goto 4, 3) := by decide +kernel
theorem dX1_settle_71 : decode cX1_settle 71 = .ok (.return_, 1) := by decide +kernel
theorem dX1_settle_72 : decode cX1_settle 72 = .ok (.aload_n 1, 1) := by decide +kernel
theorem dX1_settle_73 : decode cX1_settle 73 = .ok (.getfield 69, 3) := by decide +kernel
theorem dX1_settle_76 : decode cX1_settle 76 = .ok (.iload_n 2, 1) := by decide +kernel
theorem dX1_settle_77 : decode cX1_settle 77 = .ok (.aaload, 1) := by decide +kernel
theorem dX1_settle_78 : decode cX1_settle 78 = .ok (.astore 4, 2) := by decide +kernel
theorem dX1_settle_80 : decode cX1_settle 80 = .ok (.aload_n 0, 1) := by decide +kernel
theorem dX1_settle_81 : decode cX1_settle 81 = .ok (.getfield 27, 3) := by decide +kernel
theorem dX1_settle_84 : decode cX1_settle 84 = .ok (.aload 4, 2) := by decide +kernel
theorem dX1_settle_86 : decode cX1_settle 86 = .ok (.iconst 0, 1) := by decide +kernel
theorem dX1_settle_87 : decode cX1_settle 87 = .ok (.iconst 0, 1) := by decide +kernel
theorem dX1_settle_88 : decode cX1_settle 88 = .ok (.aload 4, 2) := by decide +kernel
theorem dX1_settle_90 : decode cX1_settle 90 = .ok (.invokevirtual 73, 3) := by decide +kernel
theorem dX1_settle_93 : decode cX1_settle 93 = .ok (.iconst 0, 1) := by decide +kernel
theorem dX1_settle_94 : decode cX1_settle 94 = .ok (.iconst 0, 1) := by decide +kernel
theorem dX1_settle_95 : decode cX1_settle 95 = .ok (.invokevirtual 79, 3) := by decide +kernel
theorem dX1_settle_98 : decode cX1_settle 98 = .ok (.aload_n 0, 1) := by decide +kernel
theorem dX1_settle_99 : decode cX1_settle 99 = .ok (.getfield 9, 3) := by decide +kernel
theorem dX1_settle_102 : decode cX1_settle 102 = .ok (.iload_n 2, 1) := by decide +kernel
theorem dX1_settle_103 : decode cX1_settle 103 = .ok (.aload_n 0, 1) := by decide +kernel
theorem dX1_settle_104 : decode cX1_settle 104 = .ok (.getfield 27, 3) := by decide +kernel
theorem dX1_settle_107 : decode cX1_settle 107 = .ok (.getfield 83, 3) := by decide +kernel
theorem dX1_settle_110 : decode cX1_settle 110 = .ok (.bastore, 1) := by decide +kernel
theorem dX1_settle_111 : decode cX1_settle 111 = .ok (.aload_n 0, 1) := by decide +kernel
theorem dX1_settle_112 : decode cX1_settle 112 = .ok (.getfield 15, 3) := by decide +kernel
theorem dX1_settle_115 : decode cX1_settle 115 = .ok (.iload_n 2, 1) := by decide +kernel
theorem dX1_settle_116 : decode cX1_settle 116 = .ok (.aload_n 0, 1) := by decide +kernel
theorem dX1_settle_117 : decode cX1_settle 117 = .ok (.getfield 27, 3) := by decide +kernel
theorem dX1_settle_120 : decode cX1_settle 120 = .ok (.getfield 86, 3) := by decide +kernel
theorem dX1_settle_123 : decode cX1_settle 123 = .ok (.iastore, 1) := by decide +kernel
theorem dX1_settle_124 : decode cX1_settle 124 = .ok (.aload_n 0, 1) := by decide +kernel
theorem dX1_settle_125 : decode cX1_settle 125 = .ok (.getfield 19, 3) := by decide +kernel
theorem dX1_settle_128 : decode cX1_settle 128 = .ok (.iload_n 2, 1) := by decide +kernel
theorem dX1_settle_129 : decode cX1_settle 129 = .ok (.aload_n 0, 1) := by decide +kernel
theorem dX1_settle_130 : decode cX1_settle 130 = .ok (.getfield 27, 3) := by decide +kernel
theorem dX1_settle_133 : decode cX1_settle 133 = .ok (.getfield 89, 3) := by decide +kernel
theorem dX1_settle_136 : decode cX1_settle 136 = .ok (.iastore, 1) := by decide +kernel
theorem dX1_settle_137 : decode cX1_settle 137 = .ok (.aload_n 0, 1) := by decide +kernel
theorem dX1_settle_138 : decode cX1_settle 138 = .ok (.getfield 27, 3) := by decide +kernel
theorem dX1_settle_141 : decode cX1_settle 141 = .ok (.aload_n 0, 1) := by decide +kernel
theorem dX1_settle_142 : decode cX1_settle 142 = .ok (.getfield 24, 3) := by decide +kernel
theorem dX1_settle_145 : decode cX1_settle 145 = .ok (.iload_n 2, 1) := by decide +kernel
theorem dX1_settle_146 : decode cX1_settle 146 = .ok (.aaload, 1) := by decide +kernel
theorem dX1_settle_147 : decode cX1_settle 147 = .ok (.invokevirtual 92, 3) := by decide +kernel
theorem dX1_settle_150 : decode cX1_settle 150 = .ok (.return_, 1) := by decide +kernel
theorem dX2_init_0 : decode cX2_init 0 = .ok (.aload_n 0, 1) := by decide +kernel
theorem dX2_init_1 : decode cX2_init 1 = .ok (.invokespecial 3, 3) := by decide +kernel
theorem dX2_init_4 : decode cX2_init 4 = .ok (.aload_n 0, 1) := by decide +kernel
theorem dX2_init_5 : decode cX2_init 5 = .ok (.bipush 6, 2) := by decide +kernel
theorem dX2_init_7 : decode cX2_init 7 = .ok (.newarray .int, 2) := by decide +kernel
theorem dX2_init_9 : decode cX2_init 9 = .ok (.putfield 9, 3) := by decide +kernel
theorem dX2_init_12 : decode cX2_init 12 = .ok (.aload_n 0, 1) := by decide +kernel
theorem dX2_init_13 : decode cX2_init 13 = .ok (.bipush 6, 2) := by decide +kernel
theorem dX2_init_15 : decode cX2_init 15 = .ok (.newarray .int, 2) := by decide +kernel
theorem dX2_init_17 : decode cX2_init 17 = .ok (.putfield 15, 3) := by decide +kernel
theorem dX2_init_20 : decode cX2_init 20 = .ok (.aload_n 0, 1) := by decide +kernel
theorem dX2_init_21 : decode cX2_init 21 = .ok (.bipush 6, 2) := by decide +kernel
theorem dX2_init_23 : decode cX2_init 23 = .ok (.newarray .int, 2) := by decide +kernel
theorem dX2_init_25 : decode cX2_init 25 = .ok (.putfield 18, 3) := by decide +kernel
theorem dX2_init_28 : decode cX2_init 28 = .ok (.aload_n 0, 1) := by decide +kernel
theorem dX2_init_29 : decode cX2_init 29 = .ok (.bipush 6, 2) := by decide +kernel
theorem dX2_init_31 : decode cX2_init 31 = .ok (.newarray .int, 2) := by decide +kernel
theorem dX2_init_33 : decode cX2_init 33 = .ok (.putfield 21, 3) := by decide +kernel
theorem dX2_init_36 : decode cX2_init 36 = .ok (.aload_n 0, 1) := by decide +kernel
theorem dX2_init_37 : decode cX2_init 37 = .ok (.bipush 6, 2) := by decide +kernel
theorem dX2_init_39 : decode cX2_init 39 = .ok (.newarray .int, 2) := by decide +kernel
theorem dX2_init_41 : decode cX2_init 41 = .ok (.putfield 24, 3) := by decide +kernel
theorem dX2_init_44 : decode cX2_init 44 = .ok (.aload_n 0, 1) := by decide +kernel
theorem dX2_init_45 : decode cX2_init 45 = .ok (.bipush 42, 2) := by decide +kernel
theorem dX2_init_47 : decode cX2_init 47 = .ok (.newarray .int, 2) := by decide +kernel
theorem dX2_init_49 : decode cX2_init 49 = .ok (.putfield 27, 3) := by decide +kernel
theorem dX2_init_52 : decode cX2_init 52 = .ok (.aload_n 0, 1) := by decide +kernel
theorem dX2_init_53 : decode cX2_init 53 = .ok (.sipush 1764, 3) := by decide +kernel
theorem dX2_init_56 : decode cX2_init 56 = .ok (.newarray .int, 2) := by decide +kernel
theorem dX2_init_58 : decode cX2_init 58 = .ok (.putfield 30, 3) := by decide +kernel
theorem dX2_init_61 : decode cX2_init 61 = .ok (.return_, 1) := by decide +kernel
theorem dX2_begin_0 : decode cX2_begin 0 = .ok (.aload_n 0, 1) := by decide +kernel
theorem dX2_begin_1 : decode cX2_begin 1 = .ok (.iconst 0, 1) := by decide +kernel
theorem dX2_begin_2 : decode cX2_begin 2 = .ok (.putfield 33, 3) := by decide +kernel
theorem dX2_begin_5 : decode cX2_begin 5 = .ok (.aload_n 0, 1) := by decide +kernel
theorem dX2_begin_6 : decode cX2_begin 6 = .ok (.iconst 0, 1) := by decide +kernel
theorem dX2_begin_7 : decode cX2_begin 7 = .ok (.putfield 37, 3) := by decide +kernel
theorem dX2_begin_10 : decode cX2_begin 10 = .ok (.aload_n 0, 1) := by decide +kernel
theorem dX2_begin_11 : decode cX2_begin 11 = .ok (.iconst 0, 1) := by decide +kernel
theorem dX2_begin_12 : decode cX2_begin 12 = .ok (.putfield 41, 3) := by decide +kernel
theorem dX2_begin_15 : decode cX2_begin 15 = .ok (.aload_n 0, 1) := by decide +kernel
theorem dX2_begin_16 : decode cX2_begin 16 = .ok (.iconst 0, 1) := by decide +kernel
theorem dX2_begin_17 : decode cX2_begin 17 = .ok (.putfield 44, 3) := by decide +kernel
theorem dX2_begin_20 : decode cX2_begin 20 = .ok (.iconst 0, 1) := by decide +kernel
theorem dX2_begin_21 : decode cX2_begin 21 = .ok (.istore_n 3, 1) := by decide +kernel
theorem dX2_begin_22 : decode cX2_begin 22 = .ok (.iload_n 3, 1) := by decide +kernel
theorem dX2_begin_23 : decode cX2_begin 23 = .ok (.aload_n 1, 1) := by decide +kernel
theorem dX2_begin_24 : decode cX2_begin 24 = .ok (.getfield 47, 3) := by decide +kernel
theorem dX2_begin_27 : decode cX2_begin 27 = .ok (.if_icmp .ge 43, 3) := by decide +kernel
theorem dX2_begin_30 : decode cX2_begin 30 = .ok (.aload_n 1, 1) := by decide +kernel
theorem dX2_begin_31 : decode cX2_begin 31 = .ok (.getfield 52, 3) := by decide +kernel
theorem dX2_begin_34 : decode cX2_begin 34 = .ok (.iload_n 3, 1) := by decide +kernel
theorem dX2_begin_35 : decode cX2_begin 35 = .ok (.baload, 1) := by decide +kernel
theorem dX2_begin_36 : decode cX2_begin 36 = .ok (.ifCond .ne 28, 3) := by decide +kernel
theorem dX2_begin_39 : decode cX2_begin 39 = .ok (.iload_n 3, 1) := by decide +kernel
theorem dX2_begin_40 : decode cX2_begin 40 = .ok (.iload_n 2, 1) := by decide +kernel
theorem dX2_begin_41 : decode cX2_begin 41 = .ok (.if_icmp .eq 23, 3) := by decide +kernel
theorem dX2_begin_44 : decode cX2_begin 44 = .ok (.aload_n 0, 1) := by decide +kernel
theorem dX2_begin_45 : decode cX2_begin 45 = .ok (.getfield 15, 3) := by decide +kernel
theorem dX2_begin_48 : decode cX2_begin 48 = .ok (.aload_n 0, 1) := by decide +kernel
theorem dX2_begin_49 : decode cX2_begin 49 = .ok (.getfield 44, 3) := by decide +kernel
theorem dX2_begin_52 : decode cX2_begin 52 = .ok (.iload_n 3, 1) := by decide +kernel
theorem dX2_begin_53 : decode cX2_begin 53 = .ok (.iastore, 1) := by decide +kernel
theorem dX2_begin_54 : decode cX2_begin 54 = .ok (.aload_n 0, 1) := by decide +kernel
theorem dX2_begin_55 : decode cX2_begin 55 = .ok (.dup, 1) := by decide +kernel
theorem dX2_begin_56 : decode cX2_begin 56 = .ok (.getfield 44, 3) := by decide +kernel
theorem dX2_begin_59 : decode cX2_begin 59 = .ok (.iconst 1, 1) := by decide +kernel
theorem dX2_begin_60 : decode cX2_begin 60 = .ok (.iadd, 1) := by decide +kernel
theorem dX2_begin_61 : decode cX2_begin 61 = .ok (.putfield 44, 3) := by decide +kernel
theorem dX2_begin_64 : decode cX2_begin 64 = .ok (.iinc 3 1, 3) := by decide +kernel
theorem dX2_begin_67 : decode cX2_begin 67 = .ok (.goto (-45), 3) := by decide +kernel
theorem dX2_begin_70 : decode cX2_begin 70 = .ok (.return_, 1) := by decide +kernel
theorem dX2_startAnywhere_0 : decode cX2_startAnywhere 0 = .ok (.aload_n 0, 1) := by decide +kernel
theorem dX2_startAnywhere_1 : decode cX2_startAnywhere 1 = .ok (.getfield 27, 3) := by decide +kernel
theorem dX2_startAnywhere_4 : decode cX2_startAnywhere 4 = .ok (.iconst 0, 1) := by decide +kernel
theorem dX2_startAnywhere_5 : decode cX2_startAnywhere 5 = .ok (.invokestatic 56, 3) := by decide +kernel
theorem dX2_startAnywhere_8 : decode cX2_startAnywhere 8 = .ok (.aload_n 0, 1) := by decide +kernel
theorem dX2_startAnywhere_9 : decode cX2_startAnywhere 9 = .ok (.getfield 30, 3) := by decide +kernel
theorem dX2_startAnywhere_12 : decode cX2_startAnywhere 12 = .ok (.iconst 1, 1) := by decide +kernel
theorem dX2_startAnywhere_13 : decode cX2_startAnywhere 13 = .ok (.invokestatic 56, 3) := by decide +kernel
theorem dX2_startAnywhere_16 : decode cX2_startAnywhere 16 = .ok (.return_, 1) := by decide +kernel
theorem dX2_startFrom_0 : decode cX2_startFrom 0 = .ok (.aload_n 1, 1) := by decide +kernel
theorem dX2_startFrom_1 : decode cX2_startFrom 1 = .ok (.getfield 62, 3) := by decide +kernel
theorem dX2_startFrom_4 : decode cX2_startFrom 4 = .ok (.iload_n 2, 1) := by decide +kernel
theorem dX2_startFrom_5 : decode cX2_startFrom 5 = .ok (.iconst 1, 1) := by decide +kernel
theorem dX2_startFrom_6 : decode cX2_startFrom 6 = .ok (.isub, 1) := by decide +kernel
theorem dX2_startFrom_7 : decode cX2_startFrom 7 = .ok (.aaload, 1) := by decide +kernel
theorem dX2_startFrom_8 : decode cX2_startFrom 8 = .ok (.astore 4, 2) := by decide +kernel
theorem dX2_startFrom_10 : decode cX2_startFrom 10 = .ok (.aload_n 1, 1) := by decide +kernel
theorem dX2_startFrom_11 : decode cX2_startFrom 11 = .ok (.getfield 62, 3) := by decide +kernel
theorem dX2_startFrom_14 : decode cX2_startFrom 14 = .ok (.iload_n 2, 1) := by decide +kernel
theorem dX2_startFrom_15 : decode cX2_startFrom 15 = .ok (.aaload, 1) := by decide +kernel
theorem dX2_startFrom_16 : decode cX2_startFrom 16 = .ok (.astore 5, 2) := by decide +kernel
theorem dX2_startFrom_18 : decode cX2_startFrom 18 = .ok (.aload_n 0, 1) := by decide +kernel
theorem dX2_startFrom_19 : decode cX2_startFrom 19 = .ok (.aload_n 1, 1) := by decide +kernel
theorem dX2_startFrom_20 : decode cX2_startFrom 20 = .ok (.getfield 66, 3) := by decide +kernel
theorem dX2_startFrom_23 : decode cX2_startFrom 23 = .ok (.putfield 69, 3) := by decide +kernel
theorem dX2_startFrom_26 : decode cX2_startFrom 26 = .ok (.aload_n 0, 1) := by decide +kernel
theorem dX2_startFrom_27 : decode cX2_startFrom 27 = .ok (.getfield 30, 3) := by decide +kernel
theorem dX2_startFrom_30 : decode cX2_startFrom 30 = .ok (.aload_n 0, 1) := by decide +kernel
theorem dX2_startFrom_31 : decode cX2_startFrom 31 = .ok (.getfield 69, 3) := by decide +kernel
theorem dX2_startFrom_34 : decode cX2_startFrom 34 = .ok (.ifCond .ne 7, 3) := by decide +kernel
theorem dX2_startFrom_37 : decode cX2_startFrom 37 = .ok (.iconst 1, 1) := by decide +kernel
theorem dX2_startFrom_38 : decode cX2_startFrom 38 = .ok (.goto 4, 3) := by decide +kernel
theorem dX2_startFrom_41 : decode cX2_startFrom 41 = .ok (.iconst 0, 1) := by decide +kernel
theorem dX2_startFrom_42 : decode cX2_startFrom 42 = .ok (.invokestatic 56, 3) := by decide +kernel
theorem dX2_startFrom_45 : decode cX2_startFrom 45 = .ok (.iconst 0, 1) := by decide +kernel
theorem dX2_startFrom_46 : decode cX2_startFrom 46 = .ok (.istore 6, 2) := by decide +kernel
theorem dX2_startFrom_48 : decode cX2_startFrom 48 = .ok (.iload 6, 2) := by decide +kernel
theorem dX2_startFrom_50 : decode cX2_startFrom 50 = .ok (.aload_n 0, 1) := by decide +kernel
theorem dX2_startFrom_51 : decode cX2_startFrom 51 = .ok (.getfield 44, 3) := by decide +kernel
theorem dX2_startFrom_54 : decode cX2_startFrom 54 = .ok (.if_icmp .ge 77, 3) := by decide +kernel
theorem dX2_startFrom_57 : decode cX2_startFrom 57 = .ok (.aload_n 0, 1) := by decide +kernel
theorem dX2_startFrom_58 : decode cX2_startFrom 58 = .ok (.getfield 18, 3) := by decide +kernel
theorem dX2_startFrom_61 : decode cX2_startFrom 61 = .ok (.iload 6, 2) := by decide +kernel
theorem dX2_startFrom_63 : decode cX2_startFrom 63 = .ok (.aload 4, 2) := by decide +kernel
theorem dX2_startFrom_65 : decode cX2_startFrom 65 = .ok (.aload_n 3, 1) := by decide +kernel
theorem dX2_startFrom_66 : decode cX2_startFrom 66 = .ok (.aload_n 0, 1) := by decide +kernel
theorem dX2_startFrom_67 : decode cX2_startFrom 67 = .ok (.getfield 15, 3) := by decide +kernel
theorem dX2_startFrom_70 : decode cX2_startFrom 70 = .ok (.iload 6, 2) := by decide +kernel
theorem dX2_startFrom_72 : decode cX2_startFrom 72 = .ok (.iaload, 1) := by decide +kernel
theorem dX2_startFrom_73 : decode cX2_startFrom 73 = .ok (.iaload, 1) := by decide +kernel
theorem dX2_startFrom_74 : decode cX2_startFrom 74 = .ok (.invokevirtual 70, 3) := by decide +kernel
theorem dX2_startFrom_77 : decode cX2_startFrom 77 = .ok (.iastore, 1) := by decide +kernel
theorem dX2_startFrom_78 : decode cX2_startFrom 78 = .ok (.aload_n 0, 1) := by decide +kernel
theorem dX2_startFrom_79 : decode cX2_startFrom 79 = .ok (.getfield 21, 3) := by decide +kernel
theorem dX2_startFrom_82 : decode cX2_startFrom 82 = .ok (.iload 6, 2) := by decide +kernel
theorem dX2_startFrom_84 : decode cX2_startFrom 84 = .ok (.aload 4, 2) := by decide +kernel
theorem dX2_startFrom_86 : decode cX2_startFrom 86 = .ok (.aload_n 3, 1) := by decide +kernel
theorem dX2_startFrom_87 : decode cX2_startFrom 87 = .ok (.aload_n 0, 1) := by decide +kernel
theorem dX2_startFrom_88 : decode cX2_startFrom 88 = .ok (.getfield 15, 3) := by decide +kernel
theorem dX2_startFrom_91 : decode cX2_startFrom 91 = .ok (.iload 6, 2) := by decide +kernel
theorem dX2_startFrom_93 : decode cX2_startFrom 93 = .ok (.iaload, 1) := by decide +kernel
theorem dX2_startFrom_94 : decode cX2_startFrom 94 = .ok (.iaload, 1) := by decide +kernel
theorem dX2_startFrom_95 : decode cX2_startFrom 95 = .ok (.invokevirtual 76, 3) := by decide +kernel
theorem dX2_startFrom_98 : decode cX2_startFrom 98 = .ok (.iastore, 1) := by decide +kernel
theorem dX2_startFrom_99 : decode cX2_startFrom 99 = .ok (.aload_n 0, 1) := by decide +kernel
theorem dX2_startFrom_100 : decode cX2_startFrom 100 = .ok (.aload 5, 2) := by decide +kernel
theorem dX2_startFrom_102 : decode cX2_startFrom 102 = .ok (.iload 6, 2) := by decide +kernel
theorem dX2_startFrom_104 : decode cX2_startFrom 104 = .ok (.aload_n 1, 1) := by decide +kernel
theorem dX2_startFrom_105 : decode cX2_startFrom 105 = .ok (.getfield 79, 3) := by decide +kernel
theorem dX2_startFrom_108 : decode cX2_startFrom 108 = .ok (.aload_n 0, 1) := by decide +kernel
theorem dX2_startFrom_109 : decode cX2_startFrom 109 = .ok (.getfield 15, 3) := by decide +kernel
theorem dX2_startFrom_112 : decode cX2_startFrom 112 = .ok (.iload 6, 2) := by decide +kernel
theorem dX2_startFrom_114 : decode cX2_startFrom 114 = .ok (.iaload, 1) := by decide +kernel
theorem dX2_startFrom_115 : decode cX2_startFrom 115 = .ok (.iaload, 1) := by decide +kernel
theorem dX2_startFrom_116 : decode cX2_startFrom 116 = .ok (.aload 5, 2) := by decide +kernel
theorem dX2_startFrom_118 : decode cX2_startFrom 118 = .ok (.getfield 82, 3) := by decide +kernel
theorem dX2_startFrom_121 : decode cX2_startFrom 121 = .ok (.imul, 1) := by decide +kernel
theorem dX2_startFrom_122 : decode cX2_startFrom 122 = .ok (.invokevirtual 85, 3) := by decide +kernel
theorem dX2_startFrom_125 : decode cX2_startFrom 125 = .ok (.iinc 6 1, 3) := by decide +kernel
theorem dX2_startFrom_128 : decode cX2_startFrom 128 = .ok (.goto (-80), 3) := by decide +kernel
theorem dX2_startFrom_131 : decode cX2_startFrom 131 = .ok (.return_, 1) := by decide +kernel
theorem dX2_measureSteps_0 : decode cX2_measureSteps 0 = .ok (.iconst 0, 1) := by decide +kernel
theorem dX2_measureSteps_1 : decode cX2_measureSteps 1 = .ok (.istore 4, 2) := by decide +kernel
theorem dX2_measureSteps_3 : decode cX2_measureSteps 3 = .ok (.iload 4, 2) := by decide +kernel
theorem dX2_measureSteps_5 : decode cX2_measureSteps 5 = .ok (.aload_n 1, 1) := by decide +kernel
theorem dX2_measureSteps_6 : decode cX2_measureSteps 6 = .ok (.getfield 89, 3) := by decide +kernel
theorem dX2_measureSteps_9 : decode cX2_measureSteps 9 = .ok (.if_icmp .ge 80, 3) := by decide +kernel
theorem dX2_measureSteps_12 : decode cX2_measureSteps 12 = .ok (.aload_n 1, 1) := by decide +kernel
theorem dX2_measureSteps_13 : decode cX2_measureSteps 13 = .ok (.getfield 92, 3) := by decide +kernel
theorem dX2_measureSteps_16 : decode cX2_measureSteps 16 = .ok (.iload 4, 2) := by decide +kernel
theorem dX2_measureSteps_18 : decode cX2_measureSteps 18 = .ok (.iaload, 1) := by decide +kernel
theorem dX2_measureSteps_19 : decode cX2_measureSteps 19 = .ok (.aload_n 0, 1) := by decide +kernel
theorem dX2_measureSteps_20 : decode cX2_measureSteps 20 = .ok (.getfield 18, 3) := by decide +kernel
theorem dX2_measureSteps_23 : decode cX2_measureSteps 23 = .ok (.iload_n 2, 1) := by decide +kernel
theorem dX2_measureSteps_24 : decode cX2_measureSteps 24 = .ok (.iaload, 1) := by decide +kernel
theorem dX2_measureSteps_25 : decode cX2_measureSteps 25 = .ok (.isub, 1) := by decide +kernel
theorem dX2_measureSteps_26 : decode cX2_measureSteps 26 = .ok (.invokestatic 95, 3) := by decide +kernel
theorem dX2_measureSteps_29 : decode cX2_measureSteps 29 = .ok (.istore 5, 2) := by decide +kernel
theorem dX2_measureSteps_31 : decode cX2_measureSteps 31 = .ok (.aload_n 1, 1) := by decide +kernel
theorem dX2_measureSteps_32 : decode cX2_measureSteps 32 = .ok (.getfield 100, 3) := by decide +kernel
theorem dX2_measureSteps_35 : decode cX2_measureSteps 35 = .ok (.iload 4, 2) := by decide +kernel
theorem dX2_measureSteps_37 : decode cX2_measureSteps 37 = .ok (.iaload, 1) := by decide +kernel
theorem dX2_measureSteps_38 : decode cX2_measureSteps 38 = .ok (.aload_n 0, 1) := by decide +kernel
theorem dX2_measureSteps_39 : decode cX2_measureSteps 39 = .ok (.getfield 21, 3) := by decide +kernel
theorem dX2_measureSteps_42 : decode cX2_measureSteps 42 = .ok (.iload_n 2, 1) := by decide +kernel
theorem dX2_measureSteps_43 : decode cX2_measureSteps 43 = .ok (.iaload, 1) := by decide +kernel
theorem dX2_measureSteps_44 : decode cX2_measureSteps 44 = .ok (.isub, 1) := by decide +kernel
theorem dX2_measureSteps_45 : decode cX2_measureSteps 45 = .ok (.invokestatic 95, 3) := by decide +kernel
theorem dX2_measureSteps_48 : decode cX2_measureSteps 48 = .ok (.istore 6, 2) := by decide +kernel
theorem dX2_measureSteps_50 : decode cX2_measureSteps 50 = .ok (.iload 5, 2) := by decide +kernel
theorem dX2_measureSteps_52 : decode cX2_measureSteps 52 = .ok (.iload 6, 2) := by decide +kernel
theorem dX2_measureSteps_54 : decode cX2_measureSteps 54 = .ok (.invokestatic 103, 3) := by decide +kernel
theorem dX2_measureSteps_57 : decode cX2_measureSteps 57 = .ok (.istore 7, 2) := by decide +kernel
theorem dX2_measureSteps_59 : decode cX2_measureSteps 59 = .ok (.aload_n 0, 1) := by decide +kernel
theorem dX2_measureSteps_60 : decode cX2_measureSteps 60 = .ok (.getfield 27, 3) := by decide +kernel
theorem dX2_measureSteps_63 : decode cX2_measureSteps 63 = .ok (.iload_n 2, 1) := by decide +kernel
theorem dX2_measureSteps_64 : decode cX2_measureSteps 64 = .ok (.bipush 7, 2) := by decide +kernel
theorem dX2_measureSteps_66 : decode cX2_measureSteps 66 = .ok (.imul, 1) := by decide +kernel
theorem dX2_measureSteps_67 : decode cX2_measureSteps 67 = .ok (.iload 4, 2) := by decide +kernel
theorem dX2_measureSteps_69 : decode cX2_measureSteps 69 = .ok (.iadd, 1) := by decide +kernel
theorem dX2_measureSteps_70 : decode cX2_measureSteps 70 = .ok (.iload 7, 2) := by decide +kernel
theorem dX2_measureSteps_72 : decode cX2_measureSteps 72 = .ok (.iload_n 3, 1) := by decide +kernel
theorem dX2_measureSteps_73 : decode cX2_measureSteps 73 = .ok (.if_icmp .gt 8, 3) := by decide +kernel
theorem dX2_measureSteps_76 : decode cX2_measureSteps 76 = .ok (.iload 7, 2) := by decide +kernel
theorem dX2_measureSteps_78 : decode cX2_measureSteps 78 = .ok (.goto 4, 3) := by decide +kernel
theorem dX2_measureSteps_81 : decode cX2_measureSteps 81 = .ok (.iconst (-1), 1) := by decide +kernel
theorem dX2_measureSteps_82 : decode cX2_measureSteps 82 = .ok (.iastore, 1) := by decide +kernel
theorem dX2_measureSteps_83 : decode cX2_measureSteps 83 = .ok (.iinc 4 1, 3) := by decide +kernel
theorem dX2_measureSteps_86 : decode cX2_measureSteps 86 = .ok (.goto (-83), 3) := by decide +kernel
theorem dX2_measureSteps_89 : decode cX2_measureSteps 89 = .ok (.return_, 1) := by decide +kernel
theorem dX2_tell_0 : decode cX2_tell 0 = .ok (.iconst 0, 1) := by decide +kernel
theorem dX2_tell_1 : decode cX2_tell 1 = .ok (.istore_n 2, 1) := by decide +kernel
theorem dX2_tell_2 : decode cX2_tell 2 = .ok (.aload_n 0, 1) := by decide +kernel
theorem dX2_tell_3 : decode cX2_tell 3 = .ok (.getfield 33, 3) := by decide +kernel
theorem dX2_tell_6 : decode cX2_tell 6 = .ok (.ifCond .eq 31, 3) := by decide +kernel
theorem dX2_tell_9 : decode cX2_tell 9 = .ok (.iload_n 2, 1) := by decide +kernel
theorem dX2_tell_10 : decode cX2_tell 10 = .ok (.aload_n 0, 1) := by decide +kernel
theorem dX2_tell_11 : decode cX2_tell 11 = .ok (.getfield 44, 3) := by decide +kernel
theorem dX2_tell_14 : decode cX2_tell 14 = .ok (.if_icmp .ge 23, 3) := by decide +kernel
theorem dX2_tell_17 : decode cX2_tell 17 = .ok (.aload_n 1, 1) := by decide +kernel
theorem dX2_tell_18 : decode cX2_tell 18 = .ok (.aload_n 0, 1) := by decide +kernel
theorem dX2_tell_19 : decode cX2_tell 19 = .ok (.getfield 15, 3) := by decide +kernel
theorem dX2_tell_22 : decode cX2_tell 22 = .ok (.iload_n 2, 1) := by decide +kernel
theorem dX2_tell_23 : decode cX2_tell 23 = .ok (.iaload, 1) := by decide +kernel
theorem dX2_tell_24 : decode cX2_tell 24 = .ok (.aload_n 0, 1) := by decide +kernel
theorem dX2_tell_25 : decode cX2_tell 25 = .ok (.getfield 9, 3) := by decide +kernel
theorem dX2_tell_28 : decode cX2_tell 28 = .ok (.iload_n 2, 1) := by decide +kernel
theorem dX2_tell_29 : decode cX2_tell 29 = .ok (.iaload, 1) := by decide +kernel
theorem dX2_tell_30 : decode cX2_tell 30 = .ok (.iastore, 1) := by decide +kernel
theorem dX2_tell_31 : decode cX2_tell 31 = .ok (.iinc 2 1, 3) := by decide +kernel
theorem dX2_tell_34 : decode cX2_tell 34 = .ok (.goto (-32), 3) := by decide +kernel
theorem dX2_tell_37 : decode cX2_tell 37 = .ok (.return_, 1) := by decide +kernel
theorem dX2_choose_0 : decode cX2_choose 0 = .ok (.iload 4, 2) := by decide +kernel
theorem dX2_choose_2 : decode cX2_choose 2 = .ok (.aload_n 0, 1) := by decide +kernel
theorem dX2_choose_3 : decode cX2_choose 3 = .ok (.getfield 44, 3) := by decide +kernel
theorem dX2_choose_6 : decode cX2_choose 6 = .ok (.iload_n 2, 1) := by decide +kernel
theorem dX2_choose_7 : decode cX2_choose 7 = .ok (.isub, 1) := by decide +kernel
theorem dX2_choose_8 : decode cX2_choose 8 = .ok (.if_icmp .le 4, 3) := by decide +kernel
theorem dX2_choose_11 : decode cX2_choose 11 = .ok (.return_, 1) := by decide +kernel
theorem dX2_choose_12 : decode cX2_choose 12 = .ok (.iload_n 2, 1) := by decide +kernel
theorem dX2_choose_13 : decode cX2_choose 13 = .ok (.aload_n 0, 1) := by decide +kernel
theorem dX2_choose_14 : decode cX2_choose 14 = .ok (.getfield 44, 3) := by decide +kernel
theorem dX2_choose_17 : decode cX2_choose 17 = .ok (.if_icmp .lt 12, 3) := by decide +kernel
theorem dX2_choose_20 : decode cX2_choose 20 = .ok (.aload_n 0, 1) := by decide +kernel
theorem dX2_choose_21 : decode cX2_choose 21 = .ok (.iload 5, 2) := by decide +kernel
theorem dX2_choose_23 : decode cX2_choose 23 = .ok (.iload 6, 2) := by decide +kernel
theorem dX2_choose_25 : decode cX2_choose 25 = .ok (.invokevirtual 107, 3) := by decide +kernel
theorem dX2_choose_28 : decode cX2_choose 28 = .ok (.return_, 1) := by decide +kernel
theorem dX2_choose_29 : decode cX2_choose 29 = .ok (.iconst 0, 1) := by decide +kernel
theorem dX2_choose_30 : decode cX2_choose 30 = .ok (.istore 7, 2) := by decide +kernel
theorem dX2_choose_32 : decode cX2_choose 32 = .ok (.iload 7, 2) := by decide +kernel
theorem dX2_choose_34 : decode cX2_choose 34 = .ok (.aload_n 1, 1) := by decide +kernel
theorem dX2_choose_35 : decode cX2_choose 35 = .ok (.getfield 89, 3) := by decide +kernel
theorem dX2_choose_38 : decode cX2_choose 38 = .ok (.if_icmp .ge 121, 3) := by decide +kernel
theorem dX2_choose_41 : decode cX2_choose 41 = .ok (.aload_n 0, 1) := by decide +kernel
theorem dX2_choose_42 : decode cX2_choose 42 = .ok (.getfield 27, 3) := by decide +kernel
theorem dX2_choose_45 : decode cX2_choose 45 = .ok (.iload_n 2, 1) := by decide +kernel
theorem dX2_choose_46 : decode cX2_choose 46 = .ok (.bipush 7, 2) := by decide +kernel
theorem dX2_choose_48 : decode cX2_choose 48 = .ok (.imul, 1) := by decide +kernel
theorem dX2_choose_49 : decode cX2_choose 49 = .ok (.iload 7, 2) := by decide +kernel
theorem dX2_choose_51 : decode cX2_choose 51 = .ok (.iadd, 1) := by decide +kernel
theorem dX2_choose_52 : decode cX2_choose 52 = .ok (.iaload, 1) := by decide +kernel
theorem dX2_choose_53 : decode cX2_choose 53 = .ok (.istore 8, 2) := by decide +kernel
theorem dX2_choose_55 : decode cX2_choose 55 = .ok (.iload_n 3, 1) := by decide +kernel
theorem dX2_choose_56 : decode cX2_choose 56 = .ok (.iload 7, 2) := by decide +kernel
theorem dX2_choose_58 : decode cX2_choose 58 = .ok (.ishr, 1) := by decide +kernel
theorem dX2_choose_59 : decode cX2_choose 59 = .ok (.iconst 1, 1) := by decide +kernel
theorem dX2_choose_60 : decode cX2_choose 60 = .ok (.iand, 1) := by decide +kernel
theorem dX2_choose_61 : decode cX2_choose 61 = .ok (.ifCond .ne 92, 3) := by decide +kernel
theorem dX2_choose_64 : decode cX2_choose 64 = .ok (.iload 8, 2) := by decide +kernel
theorem dX2_choose_66 : decode cX2_choose 66 = .ok (.iconst (-1), 1) := by decide +kernel
theorem dX2_choose_67 : decode cX2_choose 67 = .ok (.if_icmp .eq 86, 3) := by decide +kernel
theorem dX2_choose_70 : decode cX2_choose 70 = .ok (.aload_n 0, 1) := by decide +kernel
theorem dX2_choose_71 : decode cX2_choose 71 = .ok (.iload 5, 2) := by decide +kernel
theorem dX2_choose_73 : decode cX2_choose 73 = .ok (.iload 8, 2) := by decide +kernel
theorem dX2_choose_75 : decode cX2_choose 75 = .ok (.invokestatic 103, 3) := by decide +kernel
theorem dX2_choose_78 : decode cX2_choose 78 = .ok (.iload 6, 2) := by decide +kernel
theorem dX2_choose_80 : decode cX2_choose 80 = .ok (.iload 8, 2) := by decide +kernel
theorem dX2_choose_82 : decode cX2_choose 82 = .ok (.iadd, 1) := by decide +kernel
theorem dX2_choose_83 : decode cX2_choose 83 = .ok (.invokevirtual 111, 3) := by decide +kernel
theorem dX2_choose_86 : decode cX2_choose 86 = .ok (.ifCond .eq 67, 3) := by decide +kernel
theorem dX2_choose_89 : decode cX2_choose 89 = .ok (.aload_n 0, 1) := by decide +kernel
theorem dX2_choose_90 : decode cX2_choose 90 = .ok (.aload_n 1, 1) := by decide +kernel
theorem dX2_choose_91 : decode cX2_choose 91 = .ok (.iload_n 2, 1) := by decide +kernel
theorem dX2_choose_92 : decode cX2_choose 92 = .ok (.iload 7, 2) := by decide +kernel
theorem dX2_choose_94 : decode cX2_choose 94 = .ok (.invokevirtual 115, 3) := by decide +kernel
theorem dX2_choose_97 : decode cX2_choose 97 = .ok (.ifCond .eq 56, 3) := by decide +kernel
theorem dX2_choose_100 : decode cX2_choose 100 = .ok (.aload_n 0, 1) := by decide +kernel
theorem dX2_choose_101 : decode cX2_choose 101 = .ok (.getfield 24, 3) := by decide +kernel
theorem dX2_choose_104 : decode cX2_choose 104 = .ok (.iload_n 2, 1) := by decide +kernel
theorem dX2_choose_105 : decode cX2_choose 105 = .ok (.iload 7, 2) := by decide +kernel
theorem dX2_choose_107 : decode cX2_choose 107 = .ok (.iastore, 1) := by decide +kernel
theorem dX2_choose_108 : decode cX2_choose 108 = .ok (.aload_n 0, 1) := by decide +kernel
theorem dX2_choose_109 : decode cX2_choose 109 = .ok (.aload_n 1, 1) := by decide +kernel
theorem dX2_choose_110 : decode cX2_choose 110 = .ok (.iload_n 2, 1) := by decide +kernel
theorem dX2_choose_111 : decode cX2_choose 111 = .ok (.iconst 1, 1) := by decide +kernel
theorem dX2_choose_112 : decode cX2_choose 112 = .ok (.iadd, 1) := by decide +kernel
theorem dX2_choose_113 : decode cX2_choose 113 = .ok (.iload_n 3, 1) := by decide +kernel
theorem dX2_choose_114 : decode cX2_choose 114 = .ok (.iconst 1, 1) := by decide +kernel
theorem dX2_choose_115 : decode cX2_choose 115 = .ok (.iload 7, 2) := by decide +kernel
theorem dX2_choose_117 : decode cX2_choose 117 = .ok (.ishl, 1) := by decide +kernel
theorem dX2_choose_118 : decode cX2_choose 118 = .ok (.ior, 1) := by decide +kernel
theorem dX2_choose_119 : decode cX2_choose 119 = .ok (.aload_n 1, 1) := by decide +kernel
theorem dX2_choose_120 : decode cX2_choose 120 = .ok (.getfield 119, 3) := by decide +kernel
theorem dX2_choose_123 : decode cX2_choose 123 = .ok (.iload 7, 2) := by decide +kernel
theorem dX2_choose_125 : decode cX2_choose 125 = .ok (.baload, 1) := by decide +kernel
theorem dX2_choose_126 : decode cX2_choose 126 = .ok (.ifCond .eq 10, 3) := by decide +kernel
theorem dX2_choose_129 : decode cX2_choose 129 = .ok (.iload 4, 2) := by decide +kernel
theorem dX2_choose_131 : decode cX2_choose 131 = .ok (.iconst 1, 1) := by decide +kernel
theorem dX2_choose_132 : decode cX2_choose 132 = .ok (.isub, 1) := by decide +kernel
theorem dX2_choose_133 : decode cX2_choose 133 = .ok (.goto 5, 3) := by decide +kernel
theorem dX2_choose_136 : decode cX2_choose 136 = .ok (.iload 4, 2) := by decide +kernel
theorem dX2_choose_138 : decode cX2_choose 138 = .ok (.iload 5, 2) := by decide +kernel
theorem dX2_choose_140 : decode cX2_choose 140 = .ok (.iload 8, 2) := by decide +kernel
theorem dX2_choose_142 : decode cX2_choose 142 = .ok (.invokestatic 103, 3) := by decide +kernel
theorem dX2_choose_145 : decode cX2_choose 145 = .ok (.iload 6, 2) := by decide +kernel
theorem dX2_choose_147 : decode cX2_choose 147 = .ok (.iload 8, 2) := by decide +kernel
theorem dX2_choose_149 : decode cX2_choose 149 = .ok (.iadd, 1) := by decide +kernel
theorem dX2_choose_150 : decode cX2_choose 150 = .ok (.invokevirtual 122, 3) := by decide +kernel
theorem dX2_choose_153 : decode cX2_choose 153 = .ok (.iinc 7 1, 3) := by decide +kernel
theorem dX2_choose_156 : decode cX2_choose 156 = .ok (.goto (-124), 3) := by decide +kernel
theorem dX2_choose_159 : decode cX2_choose 159 = .ok (.return_, 1) := by decide +kernel
theorem dX2_isBetter_0 : decode cX2_isBetter 0 = .ok (.aload_n 0, 1) := by decide +kernel
theorem dX2_isBetter_1 : decode cX2_isBetter 1 = .ok (.getfield 33, 3) := by decide +kernel
theorem dX2_isBetter_4 : decode cX2_isBetter 4 = .ok (.ifCond .eq 27, 3) := by decide +kernel
theorem dX2_isBetter_7 : decode cX2_isBetter 7 = .ok (.iload_n 1, 1) := by decide +kernel
theorem dX2_isBetter_8 : decode cX2_isBetter 8 = .ok (.aload_n 0, 1) := by decide +kernel
theorem dX2_isBetter_9 : decode cX2_isBetter 9 = .ok (.getfield 37, 3) := by decide +kernel
theorem dX2_isBetter_12 : decode cX2_isBetter 12 = .ok (.if_icmp .lt 19, 3) := by decide +kernel
theorem dX2_isBetter_15 : decode cX2_isBetter 15 = .ok (.iload_n 1, 1) := by decide +kernel
theorem dX2_isBetter_16 : decode cX2_isBetter 16 = .ok (.aload_n 0, 1) := by decide +kernel
theorem dX2_isBetter_17 : decode cX2_isBetter 17 = .ok (.getfield 37, 3) := by decide +kernel
theorem dX2_isBetter_20 : decode cX2_isBetter 20 = .ok (.if_icmp .ne 15, 3) := by decide +kernel
theorem dX2_isBetter_23 : decode cX2_isBetter 23 = .ok (.iload_n 2, 1) := by decide +kernel
theorem dX2_isBetter_24 : decode cX2_isBetter 24 = .ok (.aload_n 0, 1) := by decide +kernel
theorem dX2_isBetter_25 : decode cX2_isBetter 25 = .ok (.getfield 41, 3) := by decide +kernel
theorem dX2_isBetter_28 : decode cX2_isBetter 28 = .ok (.if_icmp .ge 7, 3) := by decide +kernel
theorem dX2_isBetter_31 : decode cX2_isBetter 31 = .ok (.iconst 1, 1) := by decide +kernel
theorem dX2_isBetter_32 : decode cX2_isBetter 32 = .ok (.goto 4, 3) := by decide +kernel
theorem dX2_isBetter_35 : decode cX2_isBetter 35 = .ok (.iconst 0, 1) := by decide +kernel
theorem dX2_isBetter_36 : decode cX2_isBetter 36 = .ok (.ireturn, 1) := by decide +kernel
theorem dX2_remember_0 : decode cX2_remember 0 = .ok (.aload_n 0, 1) := by decide +kernel
theorem dX2_remember_1 : decode cX2_remember 1 = .ok (.iconst 1, 1) := by decide +kernel
theorem dX2_remember_2 : decode cX2_remember 2 = .ok (.putfield 33, 3) := by decide +kernel
theorem dX2_remember_5 : decode cX2_remember 5 = .ok (.aload_n 0, 1) := by decide +kernel
theorem dX2_remember_6 : decode cX2_remember 6 = .ok (.iload_n 1, 1) := by decide +kernel
theorem dX2_remember_7 : decode cX2_remember 7 = .ok (.putfield 37, 3) := by decide +kernel
theorem dX2_remember_10 : decode cX2_remember 10 = .ok (.aload_n 0, 1) := by decide +kernel
theorem dX2_remember_11 : decode cX2_remember 11 = .ok (.iload_n 2, 1) := by decide +kernel
theorem dX2_remember_12 : decode cX2_remember 12 = .ok (.putfield 41, 3) := by decide +kernel
theorem dX2_remember_15 : decode cX2_remember 15 = .ok (.aload_n 0, 1) := by decide +kernel
theorem dX2_remember_16 : decode cX2_remember 16 = .ok (.getfield 24, 3) := by decide +kernel
theorem dX2_remember_19 : decode cX2_remember 19 = .ok (.iconst 0, 1) := by decide +kernel
theorem dX2_remember_20 : decode cX2_remember 20 = .ok (.aload_n 0, 1) := by decide +kernel
theorem dX2_remember_21 : decode cX2_remember 21 = .ok (.getfield 9, 3) := by decide +kernel
theorem dX2_remember_24 : decode cX2_remember 24 = .ok (.iconst 0, 1) := by decide +kernel
theorem dX2_remember_25 : decode cX2_remember 25 = .ok (.bipush 6, 2) := by decide +kernel
theorem dX2_remember_27 : decode cX2_remember 27 = .ok (.invokestatic 126, 3) := by decide +kernel
theorem dX2_remember_30 : decode cX2_remember 30 = .ok (.return_, 1) := by decide +kernel
theorem dX2_isClear_0 : decode cX2_isClear 0 = .ok (.iconst 0, 1) := by decide +kernel
theorem dX2_isClear_1 : decode cX2_isClear 1 = .ok (.istore 4, 2) := by decide +kernel
theorem dX2_isClear_3 : decode cX2_isClear 3 = .ok (.iload 4, 2) := by decide +kernel
theorem dX2_isClear_5 : decode cX2_isClear 5 = .ok (.iload_n 2, 1) := by decide +kernel
theorem dX2_isClear_6 : decode cX2_isClear 6 = .ok (.if_icmp .ge 154, 3) := by decide +kernel
theorem dX2_isClear_9 : decode cX2_isClear 9 = .ok (.aload_n 0, 1) := by decide +kernel
theorem dX2_isClear_10 : decode cX2_isClear 10 = .ok (.getfield 24, 3) := by decide +kernel
theorem dX2_isClear_13 : decode cX2_isClear 13 = .ok (.iload 4, 2) := by decide +kernel
theorem dX2_isClear_15 : decode cX2_isClear 15 = .ok (.iaload, 1) := by decide +kernel
theorem dX2_isClear_16 : decode cX2_isClear 16 = .ok (.istore 5, 2) := by decide +kernel
theorem dX2_isClear_18 : decode cX2_isClear 18 = .ok (.iload 4, 2) := by decide +kernel
theorem dX2_isClear_20 : decode cX2_isClear 20 = .ok (.bipush 7, 2) := by decide +kernel
theorem dX2_isClear_22 : decode cX2_isClear 22 = .ok (.imul, 1) := by decide +kernel
theorem dX2_isClear_23 : decode cX2_isClear 23 = .ok (.iload 5, 2) := by decide +kernel
theorem dX2_isClear_25 : decode cX2_isClear 25 = .ok (.iadd, 1) := by decide +kernel
theorem dX2_isClear_26 : decode cX2_isClear 26 = .ok (.bipush 6, 2) := by decide +kernel
theorem dX2_isClear_28 : decode cX2_isClear 28 = .ok (.imul, 1) := by decide +kernel
theorem dX2_isClear_29 : decode cX2_isClear 29 = .ok (.iload_n 2, 1) := by decide +kernel
theorem dX2_isClear_30 : decode cX2_isClear 30 = .ok (.iadd, 1) := by decide +kernel
theorem dX2_isClear_31 : decode cX2_isClear 31 = .ok (.bipush 7, 2) := by decide +kernel
theorem dX2_isClear_33 : decode cX2_isClear 33 = .ok (.imul, 1) := by decide +kernel
theorem dX2_isClear_34 : decode cX2_isClear 34 = .ok (.iload_n 3, 1) := by decide +kernel
theorem dX2_isClear_35 : decode cX2_isClear 35 = .ok (.iadd, 1) := by decide +kernel
theorem dX2_isClear_36 : decode cX2_isClear 36 = .ok (.istore 6, 2) := by decide +kernel
theorem dX2_isClear_38 : decode cX2_isClear 38 = .ok (.aload_n 0, 1) := by decide +kernel
theorem dX2_isClear_39 : decode cX2_isClear 39 = .ok (.getfield 30, 3) := by decide +kernel
theorem dX2_isClear_42 : decode cX2_isClear 42 = .ok (.iload 6, 2) := by decide +kernel
theorem dX2_isClear_44 : decode cX2_isClear 44 = .ok (.iaload, 1) := by decide +kernel
theorem dX2_isClear_45 : decode cX2_isClear 45 = .ok (.ifCond .ne 96, 3) := by decide +kernel
theorem dX2_isClear_48 : decode cX2_isClear 48 = .ok (.aload_n 1, 1) := by decide +kernel
theorem dX2_isClear_49 : decode cX2_isClear 49 = .ok (.getfield 82, 3) := by decide +kernel
theorem dX2_isClear_52 : decode cX2_isClear 52 = .ok (.aload_n 0, 1) := by decide +kernel
theorem dX2_isClear_53 : decode cX2_isClear 53 = .ok (.getfield 18, 3) := by decide +kernel
theorem dX2_isClear_56 : decode cX2_isClear 56 = .ok (.iload_n 2, 1) := by decide +kernel
theorem dX2_isClear_57 : decode cX2_isClear 57 = .ok (.iaload, 1) := by decide +kernel
theorem dX2_isClear_58 : decode cX2_isClear 58 = .ok (.aload_n 0, 1) := by decide +kernel
theorem dX2_isClear_59 : decode cX2_isClear 59 = .ok (.getfield 18, 3) := by decide +kernel
theorem dX2_isClear_62 : decode cX2_isClear 62 = .ok (.iload 4, 2) := by decide +kernel
theorem dX2_isClear_64 : decode cX2_isClear 64 = .ok (.iaload, 1) := by decide +kernel
theorem dX2_isClear_65 : decode cX2_isClear 65 = .ok (.isub, 1) := by decide +kernel
theorem dX2_isClear_66 : decode cX2_isClear 66 = .ok (.aload_n 0, 1) := by decide +kernel
theorem dX2_isClear_67 : decode cX2_isClear 67 = .ok (.getfield 21, 3) := by decide +kernel
theorem dX2_isClear_70 : decode cX2_isClear 70 = .ok (.iload_n 2, 1) := by decide +kernel
theorem dX2_isClear_71 : decode cX2_isClear 71 = .ok (.iaload, 1) := by decide +kernel
theorem dX2_isClear_72 : decode cX2_isClear 72 = .ok (.aload_n 0, 1) := by decide +kernel
theorem dX2_isClear_73 : decode cX2_isClear 73 = .ok (.getfield 21, 3) := by decide +kernel
theorem dX2_isClear_76 : decode cX2_isClear 76 = .ok (.iload 4, 2) := by decide +kernel
theorem dX2_isClear_78 : decode cX2_isClear 78 = .ok (.iaload, 1) := by decide +kernel
theorem dX2_isClear_79 : decode cX2_isClear 79 = .ok (.isub, 1) := by decide +kernel
theorem dX2_isClear_80 : decode cX2_isClear 80 = .ok (.aload_n 1, 1) := by decide +kernel
theorem dX2_isClear_81 : decode cX2_isClear 81 = .ok (.getfield 92, 3) := by decide +kernel
theorem dX2_isClear_84 : decode cX2_isClear 84 = .ok (.iload_n 3, 1) := by decide +kernel
theorem dX2_isClear_85 : decode cX2_isClear 85 = .ok (.iaload, 1) := by decide +kernel
theorem dX2_isClear_86 : decode cX2_isClear 86 = .ok (.aload_n 1, 1) := by decide +kernel
theorem dX2_isClear_87 : decode cX2_isClear 87 = .ok (.getfield 92, 3) := by decide +kernel
theorem dX2_isClear_90 : decode cX2_isClear 90 = .ok (.iload 5, 2) := by decide +kernel
theorem dX2_isClear_92 : decode cX2_isClear 92 = .ok (.iaload, 1) := by decide +kernel
theorem dX2_isClear_93 : decode cX2_isClear 93 = .ok (.isub, 1) := by decide +kernel
theorem dX2_isClear_94 : decode cX2_isClear 94 = .ok (.aload_n 1, 1) := by decide +kernel
theorem dX2_isClear_95 : decode cX2_isClear 95 = .ok (.getfield 100, 3) := by decide +kernel
theorem dX2_isClear_98 : decode cX2_isClear 98 = .ok (.iload_n 3, 1) := by decide +kernel
theorem dX2_isClear_99 : decode cX2_isClear 99 = .ok (.iaload, 1) := by decide +kernel
theorem dX2_isClear_100 : decode cX2_isClear 100 = .ok (.aload_n 1, 1) := by decide +kernel
theorem dX2_isClear_101 : decode cX2_isClear 101 = .ok (.getfield 100, 3) := by decide +kernel
theorem dX2_isClear_104 : decode cX2_isClear 104 = .ok (.iload 5, 2) := by decide +kernel
theorem dX2_isClear_106 : decode cX2_isClear 106 = .ok (.iaload, 1) := by decide +kernel
theorem dX2_isClear_107 : decode cX2_isClear 107 = .ok (.isub, 1) := by decide +kernel
theorem dX2_isClear_108 : decode cX2_isClear 108 = .ok (.invokestatic 132, 3) := by decide +kernel
theorem dX2_isClear_111 : decode cX2_isClear 111 = .ok (.istore 7, 2) := by decide +kernel
theorem dX2_isClear_113 : decode cX2_isClear 113 = .ok (.aload_n 0, 1) := by decide +kernel
theorem dX2_isClear_114 : decode cX2_isClear 114 = .ok (.getfield 30, 3) := by decide +kernel
theorem dX2_isClear_117 : decode cX2_isClear 117 = .ok (.iload 6, 2) := by decide +kernel
theorem dX2_isClear_119 : decode cX2_isClear 119 = .ok (.iload 7, 2) := by decide +kernel
theorem dX2_isClear_121 : decode cX2_isClear 121 = .ok (.aload_n 0, 1) := by decide +kernel
theorem dX2_isClear_122 : decode cX2_isClear 122 = .ok (.getfield 69, 3) := by decide +kernel
theorem dX2_isClear_125 : decode cX2_isClear 125 = .ok (.iconst 2, 1) := by decide +kernel
theorem dX2_isClear_126 : decode cX2_isClear 126 = .ok (.imul, 1) := by decide +kernel
theorem dX2_isClear_127 : decode cX2_isClear 127 = .ok (.aload_n 1, 1) := by decide +kernel
theorem dX2_isClear_128 : decode cX2_isClear 128 = .ok (.getfield 82, 3) := by decide +kernel
theorem dX2_isClear_131 : decode cX2_isClear 131 = .ok (.imul, 1) := by decide +kernel
theorem dX2_isClear_132 : decode cX2_isClear 132 = .ok (.if_icmp .ge 7, 3) := by decide +kernel
theorem dX2_isClear_135 : decode cX2_isClear 135 = .ok (.iconst 2, 1) := by decide +kernel
theorem dX2_isClear_136 : decode cX2_isClear 136 = .ok (.goto 4, 3) := by decide +kernel
theorem dX2_isClear_139 : decode cX2_isClear 139 = .ok (.iconst 1, 1) := by decide +kernel
theorem dX2_isClear_140 : decode cX2_isClear 140 = .ok (.iastore, 1) := by decide +kernel
theorem dX2_isClear_141 : decode cX2_isClear 141 = .ok (.aload_n 0, 1) := by decide +kernel
theorem dX2_isClear_142 : decode cX2_isClear 142 = .ok (.getfield 30, 3) := by decide +kernel
theorem dX2_isClear_145 : decode cX2_isClear 145 = .ok (.iload 6, 2) := by decide +kernel
theorem dX2_isClear_147 : decode cX2_isClear 147 = .ok (.iaload, 1) := by decide +kernel
theorem dX2_isClear_148 : decode cX2_isClear 148 = .ok (.iconst 2, 1) := by decide +kernel
theorem dX2_isClear_149 : decode cX2_isClear 149 = .ok (.if_icmp .ne 5, 3) := by decide +kernel
theorem dX2_isClear_152 : decode cX2_isClear 152 = .ok (.iconst 0, 1) := by decide +kernel
theorem dX2_isClear_153 : decode cX2_isClear 153 = .ok (.ireturn, 1) := by decide +kernel
theorem dX2_isClear_154 : decode cX2_isClear 154 = .ok (.iinc 4 1, 3) := by decide +kernel
theorem dX2_isClear_157 : decode cX2_isClear 157 = .ok (.goto (-154), 3) := by decide +kernel
theorem dX2_isClear_160 : decode cX2_isClear 160 = .ok (.iconst 1, 1) := by decide +kernel
theorem dX2_isClear_161 : decode cX2_isClear 161 = .ok (.ireturn, 1) := by decide +kernel
theorem dX3_init_0 : decode cX3_init 0 = .ok (.aload_n 0, 1) := by decide +kernel
theorem dX3_init_1 : decode cX3_init 1 = .ok (.invokespecial 3, 3) := by decide +kernel
theorem dX3_init_4 : decode cX3_init 4 = .ok (.aload_n 0, 1) := by decide +kernel
theorem dX3_init_5 : decode cX3_init 5 = .ok (.bipush 7, 2) := by decide +kernel
theorem dX3_init_7 : decode cX3_init 7 = .ok (.newarray .int, 2) := by decide +kernel
theorem dX3_init_9 : decode cX3_init 9 = .ok (.putfield 9, 3) := by decide +kernel
theorem dX3_init_12 : decode cX3_init 12 = .ok (.aload_n 0, 1) := by decide +kernel
theorem dX3_init_13 : decode cX3_init 13 = .ok (.bipush 7, 2) := by decide +kernel
theorem dX3_init_15 : decode cX3_init 15 = .ok (.newarray .int, 2) := by decide +kernel
theorem dX3_init_17 : decode cX3_init 17 = .ok (.putfield 15, 3) := by decide +kernel
theorem dX3_init_20 : decode cX3_init 20 = .ok (.return_, 1) := by decide +kernel
theorem dX3_becomeLine_0 : decode cX3_becomeLine 0 = .ok (.aload_n 0, 1) := by decide +kernel
theorem dX3_becomeLine_1 : decode cX3_becomeLine 1 = .ok (.iconst 0, 1) := by decide +kernel
theorem dX3_becomeLine_2 : decode cX3_becomeLine 2 = .ok (.putfield 18, 3) := by decide +kernel
theorem dX3_becomeLine_5 : decode cX3_becomeLine 5 = .ok (.iconst 0, 1) := by decide +kernel
theorem dX3_becomeLine_6 : decode cX3_becomeLine 6 = .ok (.istore 6, 2) := by decide +kernel
theorem dX3_becomeLine_8 : decode cX3_becomeLine 8 = .ok (.iload 6, 2) := by decide +kernel
theorem dX3_becomeLine_10 : decode cX3_becomeLine 10 = .ok (.iload_n 1, 1) := by decide +kernel
theorem dX3_becomeLine_11 : decode cX3_becomeLine 11 = .ok (.if_icmp .ge 27, 3) := by decide +kernel
theorem dX3_becomeLine_14 : decode cX3_becomeLine 14 = .ok (.aload_n 0, 1) := by decide +kernel
theorem dX3_becomeLine_15 : decode cX3_becomeLine 15 = .ok (.iload_n 2, 1) := by decide +kernel
theorem dX3_becomeLine_16 : decode cX3_becomeLine 16 = .ok (.iload 6, 2) := by decide +kernel
theorem dX3_becomeLine_18 : decode cX3_becomeLine 18 = .ok (.iload 4, 2) := by decide +kernel
theorem dX3_becomeLine_20 : decode cX3_becomeLine 20 = .ok (.imul, 1) := by decide +kernel
theorem dX3_becomeLine_21 : decode cX3_becomeLine 21 = .ok (.iadd, 1) := by decide +kernel
theorem dX3_becomeLine_22 : decode cX3_becomeLine 22 = .ok (.iload_n 3, 1) := by decide +kernel
theorem dX3_becomeLine_23 : decode cX3_becomeLine 23 = .ok (.iload 6, 2) := by decide +kernel
theorem dX3_becomeLine_25 : decode cX3_becomeLine 25 = .ok (.iload 5, 2) := by decide +kernel
theorem dX3_becomeLine_27 : decode cX3_becomeLine 27 = .ok (.imul, 1) := by decide +kernel
theorem dX3_becomeLine_28 : decode cX3_becomeLine 28 = .ok (.iadd, 1) := by decide +kernel
theorem dX3_becomeLine_29 : decode cX3_becomeLine 29 = .ok (.invokevirtual 22, 3) := by decide +kernel
theorem dX3_becomeLine_32 : decode cX3_becomeLine 32 = .ok (.iinc 6 1, 3) := by decide +kernel
theorem dX3_becomeLine_35 : decode cX3_becomeLine 35 = .ok (.goto (-27), 3) := by decide +kernel
theorem dX3_becomeLine_38 : decode cX3_becomeLine 38 = .ok (.return_, 1) := by decide +kernel
theorem dX3_becomeBlock_0 : decode cX3_becomeBlock 0 = .ok (.aload_n 0, 1) := by decide +kernel
theorem dX3_becomeBlock_1 : decode cX3_becomeBlock 1 = .ok (.iconst 0, 1) := by decide +kernel
theorem dX3_becomeBlock_2 : decode cX3_becomeBlock 2 = .ok (.putfield 18, 3) := by decide +kernel
theorem dX3_becomeBlock_5 : decode cX3_becomeBlock 5 = .ok (.iconst 0, 1) := by decide +kernel
theorem dX3_becomeBlock_6 : decode cX3_becomeBlock 6 = .ok (.istore 6, 2) := by decide +kernel
theorem dX3_becomeBlock_8 : decode cX3_becomeBlock 8 = .ok (.iload 6, 2) := by decide +kernel
theorem dX3_becomeBlock_10 : decode cX3_becomeBlock 10 = .ok (.iload 4, 2) := by decide +kernel
theorem dX3_becomeBlock_12 : decode cX3_becomeBlock 12 = .ok (.if_icmp .ge 42, 3) := by decide +kernel
theorem dX3_becomeBlock_15 : decode cX3_becomeBlock 15 = .ok (.iconst 0, 1) := by decide +kernel
theorem dX3_becomeBlock_16 : decode cX3_becomeBlock 16 = .ok (.istore 7, 2) := by decide +kernel
theorem dX3_becomeBlock_18 : decode cX3_becomeBlock 18 = .ok (.iload 7, 2) := by decide +kernel
theorem dX3_becomeBlock_20 : decode cX3_becomeBlock 20 = .ok (.iload_n 3, 1) := by decide +kernel
theorem dX3_becomeBlock_21 : decode cX3_becomeBlock 21 = .ok (.if_icmp .ge 27, 3) := by decide +kernel
theorem dX3_becomeBlock_24 : decode cX3_becomeBlock 24 = .ok (.aload_n 0, 1) := by decide +kernel
theorem dX3_becomeBlock_25 : decode cX3_becomeBlock 25 = .ok (.iload_n 1, 1) := by decide +kernel
theorem dX3_becomeBlock_26 : decode cX3_becomeBlock 26 = .ok (.iload 7, 2) := by decide +kernel
theorem dX3_becomeBlock_28 : decode cX3_becomeBlock 28 = .ok (.iload 5, 2) := by decide +kernel
theorem dX3_becomeBlock_30 : decode cX3_becomeBlock 30 = .ok (.imul, 1) := by decide +kernel
theorem dX3_becomeBlock_31 : decode cX3_becomeBlock 31 = .ok (.iadd, 1) := by decide +kernel
theorem dX3_becomeBlock_32 : decode cX3_becomeBlock 32 = .ok (.iload_n 2, 1) := by decide +kernel
theorem dX3_becomeBlock_33 : decode cX3_becomeBlock 33 = .ok (.iload 6, 2) := by decide +kernel
theorem dX3_becomeBlock_35 : decode cX3_becomeBlock 35 = .ok (.iload 5, 2) := by decide +kernel
theorem dX3_becomeBlock_37 : decode cX3_becomeBlock 37 = .ok (.imul, 1) := by decide +kernel
theorem dX3_becomeBlock_38 : decode cX3_becomeBlock 38 = .ok (.iadd, 1) := by decide +kernel
theorem dX3_becomeBlock_39 : decode cX3_becomeBlock 39 = .ok (.invokevirtual 22, 3) := by decide +kernel
theorem dX3_becomeBlock_42 : decode cX3_becomeBlock 42 = .ok (.iinc 7 1, 3) := by decide +kernel
theorem dX3_becomeBlock_45 : decode cX3_becomeBlock 45 = .ok (.goto (-27), 3) := by decide +kernel
theorem dX3_becomeBlock_48 : decode cX3_becomeBlock 48 = .ok (.iinc 6 1, 3) := by decide +kernel
theorem dX3_becomeBlock_51 : decode cX3_becomeBlock 51 = .ok (.goto (-43), 3) := by decide +kernel
theorem dX3_becomeBlock_54 : decode cX3_becomeBlock 54 = .ok (.return_, 1) := by decide +kernel
theorem dX3_becomeCorner_0 : decode cX3_becomeCorner 0 = .ok (.aload_n 0, 1) := by decide +kernel
theorem dX3_becomeCorner_1 : decode cX3_becomeCorner 1 = .ok (.iconst 0, 1) := by decide +kernel
theorem dX3_becomeCorner_2 : decode cX3_becomeCorner 2 = .ok (.putfield 18, 3) := by decide +kernel
theorem dX3_becomeCorner_5 : decode cX3_becomeCorner 5 = .ok (.iconst 0, 1) := by decide +kernel
theorem dX3_becomeCorner_6 : decode cX3_becomeCorner 6 = .ok (.istore 5, 2) := by decide +kernel
theorem dX3_becomeCorner_8 : decode cX3_becomeCorner 8 = .ok (.iload 5, 2) := by decide +kernel
theorem dX3_becomeCorner_10 : decode cX3_becomeCorner 10 = .ok (.iload_n 3, 1) := by decide +kernel
theorem dX3_becomeCorner_11 : decode cX3_becomeCorner 11 = .ok (.if_icmp .ge 21, 3) := by decide +kernel
theorem dX3_becomeCorner_14 : decode cX3_becomeCorner 14 = .ok (.aload_n 0, 1) := by decide +kernel
theorem dX3_becomeCorner_15 : decode cX3_becomeCorner 15 = .ok (.iload_n 1, 1) := by decide +kernel
theorem dX3_becomeCorner_16 : decode cX3_becomeCorner 16 = .ok (.iload 5, 2) := by decide +kernel
theorem dX3_becomeCorner_18 : decode cX3_becomeCorner 18 = .ok (.iload 4, 2) := by decide +kernel
theorem dX3_becomeCorner_20 : decode cX3_becomeCorner 20 = .ok (.imul, 1) := by decide +kernel
theorem dX3_becomeCorner_21 : decode cX3_becomeCorner 21 = .ok (.iadd, 1) := by decide +kernel
theorem dX3_becomeCorner_22 : decode cX3_becomeCorner 22 = .ok (.iload_n 2, 1) := by decide +kernel
theorem dX3_becomeCorner_23 : decode cX3_becomeCorner 23 = .ok (.invokevirtual 22, 3) := by decide +kernel
theorem dX3_becomeCorner_26 : decode cX3_becomeCorner 26 = .ok (.iinc 5 1, 3) := by decide +kernel
theorem dX3_becomeCorner_29 : decode cX3_becomeCorner 29 = .ok (.goto (-21), 3) := by decide +kernel
theorem dX3_becomeCorner_32 : decode cX3_becomeCorner 32 = .ok (.iconst 1, 1) := by decide +kernel
theorem dX3_becomeCorner_33 : decode cX3_becomeCorner 33 = .ok (.istore 5, 2) := by decide +kernel
theorem dX3_becomeCorner_35 : decode cX3_becomeCorner 35 = .ok (.iload 5, 2) := by decide +kernel
theorem dX3_becomeCorner_37 : decode cX3_becomeCorner 37 = .ok (.iload_n 3, 1) := by decide +kernel
theorem dX3_becomeCorner_38 : decode cX3_becomeCorner 38 = .ok (.if_icmp .ge 28, 3) := by decide +kernel
theorem dX3_becomeCorner_41 : decode cX3_becomeCorner 41 = .ok (.aload_n 0, 1) := by decide +kernel
theorem dX3_becomeCorner_42 : decode cX3_becomeCorner 42 = .ok (.iload_n 1, 1) := by decide +kernel
theorem dX3_becomeCorner_43 : decode cX3_becomeCorner 43 = .ok (.iload_n 3, 1) := by decide +kernel
theorem dX3_becomeCorner_44 : decode cX3_becomeCorner 44 = .ok (.iconst 1, 1) := by decide +kernel
theorem dX3_becomeCorner_45 : decode cX3_becomeCorner 45 = .ok (.isub, 1) := by decide +kernel
theorem dX3_becomeCorner_46 : decode cX3_becomeCorner 46 = .ok (.iload 4, 2) := by decide +kernel
theorem dX3_becomeCorner_48 : decode cX3_becomeCorner 48 = .ok (.imul, 1) := by decide +kernel
theorem dX3_becomeCorner_49 : decode cX3_becomeCorner 49 = .ok (.iadd, 1) := by decide +kernel
theorem dX3_becomeCorner_50 : decode cX3_becomeCorner 50 = .ok (.iload_n 2, 1) := by decide +kernel
theorem dX3_becomeCorner_51 : decode cX3_becomeCorner 51 = .ok (.iload 5, 2) := by decide +kernel
theorem dX3_becomeCorner_53 : decode cX3_becomeCorner 53 = .ok (.iload 4, 2) := by decide +kernel
theorem dX3_becomeCorner_55 : decode cX3_becomeCorner 55 = .ok (.imul, 1) := by decide +kernel
theorem dX3_becomeCorner_56 : decode cX3_becomeCorner 56 = .ok (.iadd, 1) := by decide +kernel
theorem dX3_becomeCorner_57 : decode cX3_becomeCorner 57 = .ok (.invokevirtual 22, 3) := by decide +kernel
theorem dX3_becomeCorner_60 : decode cX3_becomeCorner 60 = .ok (.iinc 5 1, 3) := by decide +kernel
theorem dX3_becomeCorner_63 : decode cX3_becomeCorner 63 = .ok (.goto (-28), 3) := by decide +kernel
theorem dX3_becomeCorner_66 : decode cX3_becomeCorner 66 = .ok (.return_, 1) := by decide +kernel
theorem dX3_put_0 : decode cX3_put 0 = .ok (.aload_n 0, 1) := by decide +kernel
theorem dX3_put_1 : decode cX3_put 1 = .ok (.getfield 18, 3) := by decide +kernel
theorem dX3_put_4 : decode cX3_put 4 = .ok (.bipush 7, 2) := by decide +kernel
theorem dX3_put_6 : decode cX3_put 6 = .ok (.if_icmp .ge 33, 3) := by decide +kernel
theorem dX3_put_9 : decode cX3_put 9 = .ok (.aload_n 0, 1) := by decide +kernel
theorem dX3_put_10 : decode cX3_put 10 = .ok (.getfield 9, 3) := by decide +kernel
theorem dX3_put_13 : decode cX3_put 13 = .ok (.aload_n 0, 1) := by decide +kernel
theorem dX3_put_14 : decode cX3_put 14 = .ok (.getfield 18, 3) := by decide +kernel
theorem dX3_put_17 : decode cX3_put 17 = .ok (.iload_n 1, 1) := by decide +kernel
theorem dX3_put_18 : decode cX3_put 18 = .ok (.iastore, 1) := by decide +kernel
theorem dX3_put_19 : decode cX3_put 19 = .ok (.aload_n 0, 1) := by decide +kernel
theorem dX3_put_20 : decode cX3_put 20 = .ok (.getfield 15, 3) := by decide +kernel
theorem dX3_put_23 : decode cX3_put 23 = .ok (.aload_n 0, 1) := by decide +kernel
theorem dX3_put_24 : decode cX3_put 24 = .ok (.getfield 18, 3) := by decide +kernel
theorem dX3_put_27 : decode cX3_put 27 = .ok (.iload_n 2, 1) := by decide +kernel
theorem dX3_put_28 : decode cX3_put 28 = .ok (.iastore, 1) := by decide +kernel
theorem dX3_put_29 : decode cX3_put 29 = .ok (.aload_n 0, 1) := by decide +kernel
theorem dX3_put_30 : decode cX3_put 30 = .ok (.dup, 1) := by decide +kernel
theorem dX3_put_31 : decode cX3_put 31 = .ok (.getfield 18, 3) := by decide +kernel
theorem dX3_put_34 : decode cX3_put 34 = .ok (.iconst 1, 1) := by decide +kernel
theorem dX3_put_35 : decode cX3_put 35 = .ok (.iadd, 1) := by decide +kernel
theorem dX3_put_36 : decode cX3_put 36 = .ok (.putfield 18, 3) := by decide +kernel
theorem dX3_put_39 : decode cX3_put 39 = .ok (.return_, 1) := by decide +kernel
theorem dX3_hasTwins_0 : decode cX3_hasTwins 0 = .ok (.iconst 0, 1) := by decide +kernel
theorem dX3_hasTwins_1 : decode cX3_hasTwins 1 = .ok (.istore_n 1, 1) := by decide +kernel
theorem dX3_hasTwins_2 : decode cX3_hasTwins 2 = .ok (.iload_n 1, 1) := by decide +kernel
theorem dX3_hasTwins_3 : decode cX3_hasTwins 3 = .ok (.aload_n 0, 1) := by decide +kernel
theorem dX3_hasTwins_4 : decode cX3_hasTwins 4 = .ok (.getfield 18, 3) := by decide +kernel
theorem dX3_hasTwins_7 : decode cX3_hasTwins 7 = .ok (.if_icmp .ge 54, 3) := by decide +kernel
theorem dX3_hasTwins_10 : decode cX3_hasTwins 10 = .ok (.iconst 0, 1) := by decide +kernel
theorem dX3_hasTwins_11 : decode cX3_hasTwins 11 = .ok (.istore_n 2, 1) := by decide +kernel
theorem dX3_hasTwins_12 : decode cX3_hasTwins 12 = .ok (.iload_n 2, 1) := by decide +kernel
theorem dX3_hasTwins_13 : decode cX3_hasTwins 13 = .ok (.iload_n 1, 1) := by decide +kernel
theorem dX3_hasTwins_14 : decode cX3_hasTwins 14 = .ok (.if_icmp .ge 41, 3) := by decide +kernel
theorem dX3_hasTwins_17 : decode cX3_hasTwins 17 = .ok (.aload_n 0, 1) := by decide +kernel
theorem dX3_hasTwins_18 : decode cX3_hasTwins 18 = .ok (.getfield 9, 3) := by decide +kernel
theorem dX3_hasTwins_21 : decode cX3_hasTwins 21 = .ok (.iload_n 1, 1) := by decide +kernel
theorem dX3_hasTwins_22 : decode cX3_hasTwins 22 = .ok (.iaload, 1) := by decide +kernel
theorem dX3_hasTwins_23 : decode cX3_hasTwins 23 = .ok (.aload_n 0, 1) := by decide +kernel
theorem dX3_hasTwins_24 : decode cX3_hasTwins 24 = .ok (.getfield 9, 3) := by decide +kernel
theorem dX3_hasTwins_27 : decode cX3_hasTwins 27 = .ok (.iload_n 2, 1) := by decide +kernel
theorem dX3_hasTwins_28 : decode cX3_hasTwins 28 = .ok (.iaload, 1) := by decide +kernel
theorem dX3_hasTwins_29 : decode cX3_hasTwins 29 = .ok (.if_icmp .ne 20, 3) := by decide +kernel
theorem dX3_hasTwins_32 : decode cX3_hasTwins 32 = .ok (.aload_n 0, 1) := by decide +kernel
theorem dX3_hasTwins_33 : decode cX3_hasTwins 33 = .ok (.getfield 15, 3) := by decide +kernel
theorem dX3_hasTwins_36 : decode cX3_hasTwins 36 = .ok (.iload_n 1, 1) := by decide +kernel
theorem dX3_hasTwins_37 : decode cX3_hasTwins 37 = .ok (.iaload, 1) := by decide +kernel
theorem dX3_hasTwins_38 : decode cX3_hasTwins 38 = .ok (.aload_n 0, 1) := by decide +kernel
theorem dX3_hasTwins_39 : decode cX3_hasTwins 39 = .ok (.getfield 15, 3) := by decide +kernel
theorem dX3_hasTwins_42 : decode cX3_hasTwins 42 = .ok (.iload_n 2, 1) := by decide +kernel
theorem dX3_hasTwins_43 : decode cX3_hasTwins 43 = .ok (.iaload, 1) := by decide +kernel
theorem dX3_hasTwins_44 : decode cX3_hasTwins 44 = .ok (.if_icmp .ne 5, 3) := by decide +kernel
theorem dX3_hasTwins_47 : decode cX3_hasTwins 47 = .ok (.iconst 1, 1) := by decide +kernel
theorem dX3_hasTwins_48 : decode cX3_hasTwins 48 = .ok (.ireturn, 1) := by decide +kernel
theorem dX3_hasTwins_49 : decode cX3_hasTwins 49 = .ok (.iinc 2 1, 3) := by decide +kernel
theorem dX3_hasTwins_52 : decode cX3_hasTwins 52 = .ok (.goto (-40), 3) := by decide +kernel
theorem dX3_hasTwins_55 : decode cX3_hasTwins 55 = .ok (.iinc 1 1, 3) := by decide +kernel
theorem dX3_hasTwins_58 : decode cX3_hasTwins 58 = .ok (.goto (-56), 3) := by decide +kernel
theorem dX3_hasTwins_61 : decode cX3_hasTwins 61 = .ok (.iconst 0, 1) := by decide +kernel
theorem dX3_hasTwins_62 : decode cX3_hasTwins 62 = .ok (.ireturn, 1) := by decide +kernel
theorem dX4_init_0 : decode cX4_init 0 = .ok (.aload_n 0, 1) := by decide +kernel
theorem dX4_init_1 : decode cX4_init 1 = .ok (.invokespecial 3, 3) := by decide +kernel
theorem dX4_init_4 : decode cX4_init 4 = .ok (.aload_n 0, 1) := by decide +kernel
theorem dX4_init_5 : decode cX4_init 5 = .ok (.bipush 6, 2) := by decide +kernel
theorem dX4_init_7 : decode cX4_init 7 = .ok (.newarray .int, 2) := by decide +kernel
theorem dX4_init_9 : decode cX4_init 9 = .ok (.putfield 9, 3) := by decide +kernel
theorem dX4_init_12 : decode cX4_init 12 = .ok (.aload_n 0, 1) := by decide +kernel
theorem dX4_init_13 : decode cX4_init 13 = .ok (.bipush 6, 2) := by decide +kernel
theorem dX4_init_15 : decode cX4_init 15 = .ok (.newarray .boolean, 2) := by decide +kernel
theorem dX4_init_17 : decode cX4_init 17 = .ok (.putfield 15, 3) := by decide +kernel
theorem dX4_init_20 : decode cX4_init 20 = .ok (.aload_n 0, 1) := by decide +kernel
theorem dX4_init_21 : decode cX4_init 21 = .ok (.iconst 5, 1) := by decide +kernel
theorem dX4_init_22 : decode cX4_init 22 = .ok (.anewarray 19, 3) := by decide +kernel
theorem dX4_init_25 : decode cX4_init 25 = .ok (.putfield 21, 3) := by decide +kernel
theorem dX4_init_28 : decode cX4_init 28 = .ok (.aload_n 0, 1) := by decide +kernel
theorem dX4_init_29 : decode cX4_init 29 = .ok (.iconst 1, 1) := by decide +kernel
theorem dX4_init_30 : decode cX4_init 30 = .ok (.putfield 25, 3) := by decide +kernel
theorem dX4_init_33 : decode cX4_init 33 = .ok (.aload_n 0, 1) := by decide +kernel
theorem dX4_init_34 : decode cX4_init 34 = .ok (.bipush 10, 2) := by decide +kernel
theorem dX4_init_36 : decode cX4_init 36 = .ok (.putfield 29, 3) := by decide +kernel
theorem dX4_init_39 : decode cX4_init 39 = .ok (.aload_n 0, 1) := by decide +kernel
theorem dX4_init_40 : decode cX4_init 40 = .ok (.bipush 20, 2) := by decide +kernel
theorem dX4_init_42 : decode cX4_init 42 = .ok (.putfield 32, 3) := by decide +kernel
theorem dX4_init_45 : decode cX4_init 45 = .ok (.iconst 0, 1) := by decide +kernel
theorem dX4_init_46 : decode cX4_init 46 = .ok (.istore_n 1, 1) := by decide +kernel
theorem dX4_init_47 : decode cX4_init 47 = .ok (.iload_n 1, 1) := by decide +kernel
theorem dX4_init_48 : decode cX4_init 48 = .ok (.iconst 5, 1) := by decide +kernel
theorem dX4_init_49 : decode cX4_init 49 = .ok (.if_icmp .ge 22, 3) := by decide +kernel
theorem dX4_init_52 : decode cX4_init 52 = .ok (.aload_n 0, 1) := by decide +kernel
theorem dX4_init_53 : decode cX4_init 53 = .ok (.getfield 21, 3) := by decide +kernel
theorem dX4_init_56 : decode cX4_init 56 = .ok (.iload_n 1, 1) := by decide +kernel
theorem dX4_init_57 : decode cX4_init 57 = .ok (.new 19, 3) := by decide +kernel
theorem dX4_init_60 : decode cX4_init 60 = .ok (.dup, 1) := by decide +kernel
theorem dX4_init_61 : decode cX4_init 61 = .ok (.invokespecial 35, 3) := by decide +kernel
theorem dX4_init_64 : decode cX4_init 64 = .ok (.aastore, 1) := by decide +kernel
theorem dX4_init_65 : decode cX4_init 65 = .ok (.iinc 1 1, 3) := by decide +kernel
theorem dX4_init_68 : decode cX4_init 68 = .ok (.goto (-21), 3) := by decide +kernel
theorem dX4_init_71 : decode cX4_init 71 = .ok (.return_, 1) := by decide +kernel
theorem dX4_become_0 : decode cX4_become 0 = .ok (.aload_n 1, 1) := by decide +kernel
theorem dX4_become_1 : decode cX4_become 1 = .ok (.getfield 9, 3) := by decide +kernel
theorem dX4_become_4 : decode cX4_become 4 = .ok (.iconst 0, 1) := by decide +kernel
theorem dX4_become_5 : decode cX4_become 5 = .ok (.aload_n 0, 1) := by decide +kernel
theorem dX4_become_6 : decode cX4_become 6 = .ok (.getfield 9, 3) := by decide +kernel
theorem dX4_become_9 : decode cX4_become 9 = .ok (.iconst 0, 1) := by decide +kernel
theorem dX4_become_10 : decode cX4_become 10 = .ok (.bipush 6, 2) := by decide +kernel
theorem dX4_become_12 : decode cX4_become 12 = .ok (.invokestatic 36, 3) := by decide +kernel
theorem dX4_become_15 : decode cX4_become 15 = .ok (.aload_n 1, 1) := by decide +kernel
theorem dX4_become_16 : decode cX4_become 16 = .ok (.getfield 15, 3) := by decide +kernel
theorem dX4_become_19 : decode cX4_become 19 = .ok (.iconst 0, 1) := by decide +kernel
theorem dX4_become_20 : decode cX4_become 20 = .ok (.aload_n 0, 1) := by decide +kernel
theorem dX4_become_21 : decode cX4_become 21 = .ok (.getfield 15, 3) := by decide +kernel
theorem dX4_become_24 : decode cX4_become 24 = .ok (.iconst 0, 1) := by decide +kernel
theorem dX4_become_25 : decode cX4_become 25 = .ok (.bipush 6, 2) := by decide +kernel
theorem dX4_become_27 : decode cX4_become 27 = .ok (.invokestatic 36, 3) := by decide +kernel
theorem dX4_become_30 : decode cX4_become 30 = .ok (.aload_n 0, 1) := by decide +kernel
theorem dX4_become_31 : decode cX4_become 31 = .ok (.aload_n 1, 1) := by decide +kernel
theorem dX4_become_32 : decode cX4_become 32 = .ok (.getfield 42, 3) := by decide +kernel
theorem dX4_become_35 : decode cX4_become 35 = .ok (.putfield 42, 3) := by decide +kernel
theorem dX4_become_38 : decode cX4_become 38 = .ok (.iconst 0, 1) := by decide +kernel
theorem dX4_become_39 : decode cX4_become 39 = .ok (.istore_n 2, 1) := by decide +kernel
theorem dX4_become_40 : decode cX4_become 40 = .ok (.iload_n 2, 1) := by decide +kernel
theorem dX4_become_41 : decode cX4_become 41 = .ok (.iconst 5, 1) := by decide +kernel
theorem dX4_become_42 : decode cX4_become 42 = .ok (.if_icmp .ge 24, 3) := by decide +kernel
theorem dX4_become_45 : decode cX4_become 45 = .ok (.aload_n 0, 1) := by decide +kernel
theorem dX4_become_46 : decode cX4_become 46 = .ok (.getfield 21, 3) := by decide +kernel
theorem dX4_become_49 : decode cX4_become 49 = .ok (.iload_n 2, 1) := by decide +kernel
theorem dX4_become_50 : decode cX4_become 50 = .ok (.aaload, 1) := by decide +kernel
theorem dX4_become_51 : decode cX4_become 51 = .ok (.aload_n 1, 1) := by decide +kernel
theorem dX4_become_52 : decode cX4_become 52 = .ok (.getfield 21, 3) := by decide +kernel
theorem dX4_become_55 : decode cX4_become 55 = .ok (.iload_n 2, 1) := by decide +kernel
theorem dX4_become_56 : decode cX4_become 56 = .ok (.aaload, 1) := by decide +kernel
theorem dX4_become_57 : decode cX4_become 57 = .ok (.invokevirtual 45, 3) := by decide +kernel
theorem dX4_become_60 : decode cX4_become 60 = .ok (.iinc 2 1, 3) := by decide +kernel
theorem dX4_become_63 : decode cX4_become 63 = .ok (.goto (-23), 3) := by decide +kernel
theorem dX4_become_66 : decode cX4_become 66 = .ok (.aload_n 0, 1) := by decide +kernel
theorem dX4_become_67 : decode cX4_become 67 = .ok (.aload_n 1, 1) := by decide +kernel
theorem dX4_become_68 : decode cX4_become 68 = .ok (.getfield 49, 3) := by decide +kernel
theorem dX4_become_71 : decode cX4_become 71 = .ok (.putfield 49, 3) := by decide +kernel
theorem dX4_become_74 : decode cX4_become 74 = .ok (.aload_n 0, 1) := by decide +kernel
theorem dX4_become_75 : decode cX4_become 75 = .ok (.aload_n 1, 1) := by decide +kernel
theorem dX4_become_76 : decode cX4_become 76 = .ok (.getfield 25, 3) := by decide +kernel
theorem dX4_become_79 : decode cX4_become 79 = .ok (.putfield 25, 3) := by decide +kernel
theorem dX4_become_82 : decode cX4_become 82 = .ok (.aload_n 0, 1) := by decide +kernel
theorem dX4_become_83 : decode cX4_become 83 = .ok (.aload_n 1, 1) := by decide +kernel
theorem dX4_become_84 : decode cX4_become 84 = .ok (.getfield 29, 3) := by decide +kernel
theorem dX4_become_87 : decode cX4_become 87 = .ok (.putfield 29, 3) := by decide +kernel
theorem dX4_become_90 : decode cX4_become 90 = .ok (.aload_n 0, 1) := by decide +kernel
theorem dX4_become_91 : decode cX4_become 91 = .ok (.aload_n 1, 1) := by decide +kernel
theorem dX4_become_92 : decode cX4_become 92 = .ok (.getfield 32, 3) := by decide +kernel
theorem dX4_become_95 : decode cX4_become 95 = .ok (.putfield 32, 3) := by decide +kernel
theorem dX4_become_98 : decode cX4_become 98 = .ok (.aload_n 0, 1) := by decide +kernel
theorem dX4_become_99 : decode cX4_become 99 = .ok (.aload_n 1, 1) := by decide +kernel
theorem dX4_become_100 : decode cX4_become 100 = .ok (.getfield 52, 3) := by decide +kernel
theorem dX4_become_103 : decode cX4_become 103 = .ok (.putfield 52, 3) := by decide +kernel
theorem dX4_become_106 : decode cX4_become 106 = .ok (.return_, 1) := by decide +kernel
theorem dX4_hasMarcher_0 : decode cX4_hasMarcher 0 = .ok (.iload_n 1, 1) := by decide +kernel
theorem dX4_hasMarcher_1 : decode cX4_hasMarcher 1 = .ok (.ifCond .lt 15, 3) := by decide +kernel
theorem dX4_hasMarcher_4 : decode cX4_hasMarcher 4 = .ok (.iload_n 1, 1) := by decide +kernel
theorem dX4_hasMarcher_5 : decode cX4_hasMarcher 5 = .ok (.aload_n 0, 1) := by decide +kernel
theorem dX4_hasMarcher_6 : decode cX4_hasMarcher 6 = .ok (.getfield 42, 3) := by decide +kernel
theorem dX4_hasMarcher_9 : decode cX4_hasMarcher 9 = .ok (.if_icmp .ge 7, 3) := by decide +kernel
theorem dX4_hasMarcher_12 : decode cX4_hasMarcher 12 = .ok (.iconst 1, 1) := by decide +kernel
theorem dX4_hasMarcher_13 : decode cX4_hasMarcher 13 = .ok (.goto 4, 3) := by decide +kernel
theorem dX4_hasMarcher_16 : decode cX4_hasMarcher 16 = .ok (.iconst 0, 1) := by decide +kernel
theorem dX4_hasMarcher_17 : decode cX4_hasMarcher 17 = .ok (.ireturn, 1) := by decide +kernel
theorem dX4_hasPicture_0 : decode cX4_hasPicture 0 = .ok (.iload_n 1, 1) := by decide +kernel
theorem dX4_hasPicture_1 : decode cX4_hasPicture 1 = .ok (.ifCond .lt 15, 3) := by decide +kernel
theorem dX4_hasPicture_4 : decode cX4_hasPicture 4 = .ok (.iload_n 1, 1) := by decide +kernel
theorem dX4_hasPicture_5 : decode cX4_hasPicture 5 = .ok (.aload_n 0, 1) := by decide +kernel
theorem dX4_hasPicture_6 : decode cX4_hasPicture 6 = .ok (.getfield 49, 3) := by decide +kernel
theorem dX4_hasPicture_9 : decode cX4_hasPicture 9 = .ok (.if_icmp .ge 7, 3) := by decide +kernel
theorem dX4_hasPicture_12 : decode cX4_hasPicture 12 = .ok (.iconst 1, 1) := by decide +kernel
theorem dX4_hasPicture_13 : decode cX4_hasPicture 13 = .ok (.goto 4, 3) := by decide +kernel
theorem dX4_hasPicture_16 : decode cX4_hasPicture 16 = .ok (.iconst 0, 1) := by decide +kernel
theorem dX4_hasPicture_17 : decode cX4_hasPicture 17 = .ok (.ireturn, 1) := by decide +kernel
theorem dX4_present_0 : decode cX4_present 0 = .ok (.iconst 0, 1) := by decide +kernel
theorem dX4_present_1 : decode cX4_present 1 = .ok (.istore_n 1, 1) := by decide +kernel
theorem dX4_present_2 : decode cX4_present 2 = .ok (.iconst 0, 1) := by decide +kernel
theorem dX4_present_3 : decode cX4_present 3 = .ok (.istore_n 2, 1) := by decide +kernel
theorem dX4_present_4 : decode cX4_present 4 = .ok (.iload_n 2, 1) := by decide +kernel
theorem dX4_present_5 : decode cX4_present 5 = .ok (.aload_n 0, 1) := by decide +kernel
theorem dX4_present_6 : decode cX4_present 6 = .ok (.getfield 42, 3) := by decide +kernel
theorem dX4_present_9 : decode cX4_present 9 = .ok (.if_icmp .ge 21, 3) := by decide +kernel
theorem dX4_present_12 : decode cX4_present 12 = .ok (.aload_n 0, 1) := by decide +kernel
theorem dX4_present_13 : decode cX4_present 13 = .ok (.getfield 15, 3) := by decide +kernel
theorem dX4_present_16 : decode cX4_present 16 = .ok (.iload_n 2, 1) := by decide +kernel
theorem dX4_present_17 : decode cX4_present 17 = .ok (.baload, 1) := by decide +kernel
theorem dX4_present_18 : decode cX4_present 18 = .ok (.ifCond .ne 6, 3) := by decide +kernel
theorem dX4_present_21 : decode cX4_present 21 = .ok (.iinc 1 1, 3) := by decide +kernel
theorem dX4_present_24 : decode cX4_present 24 = .ok (.iinc 2 1, 3) := by decide +kernel
theorem dX4_present_27 : decode cX4_present 27 = .ok (.goto (-23), 3) := by decide +kernel
theorem dX4_present_30 : decode cX4_present 30 = .ok (.iload_n 1, 1) := by decide +kernel
theorem dX4_present_31 : decode cX4_present 31 = .ok (.ireturn, 1) := by decide +kernel
theorem dJ7_fill_53178_0 : decode cJ7_fill_53178 0 = .ok (.iconst 0, 1) := by decide +kernel
theorem dJ7_fill_53178_1 : decode cJ7_fill_53178 1 = .ok (.istore_n 2, 1) := by decide +kernel
theorem dJ7_fill_53178_2 : decode cJ7_fill_53178 2 = .ok (.aload_n 0, 1) := by decide +kernel
theorem dJ7_fill_53178_3 : decode cJ7_fill_53178 3 = .ok (.arraylength, 1) := by decide +kernel
theorem dJ7_fill_53178_4 : decode cJ7_fill_53178 4 = .ok (.istore_n 3, 1) := by decide +kernel
theorem dJ7_fill_53178_5 : decode cJ7_fill_53178 5 = .ok (.iload_n 2, 1) := by decide +kernel
theorem dJ7_fill_53178_6 : decode cJ7_fill_53178 6 = .ok (.iload_n 3, 1) := by decide +kernel
theorem dJ7_fill_53178_7 : decode cJ7_fill_53178 7 = .ok (.if_icmp .ge 13, 3) := by decide +kernel
theorem dJ7_fill_53178_10 : decode cJ7_fill_53178 10 = .ok (.aload_n 0, 1) := by decide +kernel
theorem dJ7_fill_53178_11 : decode cJ7_fill_53178 11 = .ok (.iload_n 2, 1) := by decide +kernel
theorem dJ7_fill_53178_12 : decode cJ7_fill_53178 12 = .ok (.iload_n 1, 1) := by decide +kernel
theorem dJ7_fill_53178_13 : decode cJ7_fill_53178 13 = .ok (.iastore, 1) := by decide +kernel
theorem dJ7_fill_53178_14 : decode cJ7_fill_53178 14 = .ok (.iinc 2 1, 3) := by decide +kernel
theorem dJ7_fill_53178_17 : decode cJ7_fill_53178 17 = .ok (.goto (-12), 3) := by decide +kernel
theorem dJ7_fill_53178_20 : decode cJ7_fill_53178 20 = .ok (.return_, 1) := by decide +kernel
end
section
theorem dX5_init_0 : decode cX5_init 0 = .ok (.aload_n 0, 1) := by decide +kernel
theorem dX5_init_1 : decode cX5_init 1 = .ok (.invokespecial 1, 3) := by decide +kernel
theorem dX5_init_4 : decode cX5_init 4 = .ok (.aload_n 0, 1) := by decide +kernel
theorem dX5_init_5 : decode cX5_init 5 = .ok (.new 7, 3) := by decide +kernel
theorem dX5_init_8 : decode cX5_init 8 = .ok (.dup, 1) := by decide +kernel
theorem dX5_init_9 : decode cX5_init 9 = .ok (.invokespecial 9, 3) := by decide +kernel
theorem dX5_init_12 : decode cX5_init 12 = .ok (.putfield 10, 3) := by decide +kernel
theorem dX5_init_15 : decode cX5_init 15 = .ok (.aload_n 0, 1) := by decide +kernel
theorem dX5_init_16 : decode cX5_init 16 = .ok (.new 7, 3) := by decide +kernel
theorem dX5_init_19 : decode cX5_init 19 = .ok (.dup, 1) := by decide +kernel
theorem dX5_init_20 : decode cX5_init 20 = .ok (.invokespecial 9, 3) := by decide +kernel
theorem dX5_init_23 : decode cX5_init 23 = .ok (.putfield 16, 3) := by decide +kernel
theorem dX5_init_26 : decode cX5_init 26 = .ok (.aload_n 0, 1) := by decide +kernel
theorem dX5_init_27 : decode cX5_init 27 = .ok (.iconst 0, 1) := by decide +kernel
theorem dX5_init_28 : decode cX5_init 28 = .ok (.putfield 19, 3) := by decide +kernel
theorem dX5_init_31 : decode cX5_init 31 = .ok (.aload_n 0, 1) := by decide +kernel
theorem dX5_init_32 : decode cX5_init 32 = .ok (.new 23, 3) := by decide +kernel
theorem dX5_init_35 : decode cX5_init 35 = .ok (.dup, 1) := by decide +kernel
theorem dX5_init_36 : decode cX5_init 36 = .ok (.invokespecial 25, 3) := by decide +kernel
theorem dX5_init_39 : decode cX5_init 39 = .ok (.putfield 26, 3) := by decide +kernel
theorem dX5_init_42 : decode cX5_init 42 = .ok (.new 30, 3) := by decide +kernel
theorem dX5_init_45 : decode cX5_init 45 = .ok (.dup, 1) := by decide +kernel
theorem dX5_init_46 : decode cX5_init 46 = .ok (.invokespecial 32, 3) := by decide +kernel
theorem dX5_init_49 : decode cX5_init 49 = .ok (.astore_n 1, 1) := by decide +kernel
theorem dX5_init_50 : decode cX5_init 50 = .ok (.aload_n 0, 1) := by decide +kernel
theorem dX5_init_51 : decode cX5_init 51 = .ok (.new 33, 3) := by decide +kernel
theorem dX5_init_54 : decode cX5_init 54 = .ok (.dup, 1) := by decide +kernel
theorem dX5_init_55 : decode cX5_init 55 = .ok (.aload_n 1, 1) := by decide +kernel
theorem dX5_init_56 : decode cX5_init 56 = .ok (.invokespecial 35, 3) := by decide +kernel
theorem dX5_init_59 : decode cX5_init 59 = .ok (.putfield 38, 3) := by decide +kernel
theorem dX5_init_62 : decode cX5_init 62 = .ok (.aload_n 0, 1) := by decide +kernel
theorem dX5_init_63 : decode cX5_init 63 = .ok (.new 33, 3) := by decide +kernel
theorem dX5_init_66 : decode cX5_init 66 = .ok (.dup, 1) := by decide +kernel
theorem dX5_init_67 : decode cX5_init 67 = .ok (.aload_n 1, 1) := by decide +kernel
theorem dX5_init_68 : decode cX5_init 68 = .ok (.invokespecial 35, 3) := by decide +kernel
theorem dX5_init_71 : decode cX5_init 71 = .ok (.putfield 42, 3) := by decide +kernel
theorem dX5_init_74 : decode cX5_init 74 = .ok (.return_, 1) := by decide +kernel
theorem dX5_marcher_0 : decode cX5_marcher 0 = .ok (.iload_n 1, 1) := by decide +kernel
theorem dX5_marcher_1 : decode cX5_marcher 1 = .ok (.iconst 1, 1) := by decide +kernel
theorem dX5_marcher_2 : decode cX5_marcher 2 = .ok (.iconst 4, 1) := by decide +kernel
theorem dX5_marcher_3 : decode cX5_marcher 3 = .ok (.invokestatic 45, 3) := by decide +kernel
theorem dX5_marcher_6 : decode cX5_marcher 6 = .ok (.ifCond .eq 5, 3) := by decide +kernel
theorem dX5_marcher_9 : decode cX5_marcher 9 = .ok (.iconst (-1), 1) := by decide +kernel
theorem dX5_marcher_10 : decode cX5_marcher 10 = .ok (.ireturn, 1) := by decide +kernel
theorem dX5_marcher_11 : decode cX5_marcher 11 = .ok (.aload_n 0, 1) := by decide +kernel
theorem dX5_marcher_12 : decode cX5_marcher 12 = .ok (.getfield 10, 3) := by decide +kernel
theorem dX5_marcher_15 : decode cX5_marcher 15 = .ok (.getfield 49, 3) := by decide +kernel
theorem dX5_marcher_18 : decode cX5_marcher 18 = .ok (.bipush 6, 2) := by decide +kernel
theorem dX5_marcher_20 : decode cX5_marcher 20 = .ok (.if_icmp .lt 6, 3) := by decide +kernel
theorem dX5_marcher_23 : decode cX5_marcher 23 = .ok (.bipush (-2), 2) := by decide +kernel
theorem dX5_marcher_25 : decode cX5_marcher 25 = .ok (.ireturn, 1) := by decide +kernel
theorem dX5_marcher_26 : decode cX5_marcher 26 = .ok (.aload_n 0, 1) := by decide +kernel
theorem dX5_marcher_27 : decode cX5_marcher 27 = .ok (.getfield 10, 3) := by decide +kernel
theorem dX5_marcher_30 : decode cX5_marcher 30 = .ok (.getfield 49, 3) := by decide +kernel
theorem dX5_marcher_33 : decode cX5_marcher 33 = .ok (.istore_n 2, 1) := by decide +kernel
theorem dX5_marcher_34 : decode cX5_marcher 34 = .ok (.aload_n 0, 1) := by decide +kernel
theorem dX5_marcher_35 : decode cX5_marcher 35 = .ok (.getfield 10, 3) := by decide +kernel
theorem dX5_marcher_38 : decode cX5_marcher 38 = .ok (.getfield 53, 3) := by decide +kernel
theorem dX5_marcher_41 : decode cX5_marcher 41 = .ok (.iload_n 2, 1) := by decide +kernel
theorem dX5_marcher_42 : decode cX5_marcher 42 = .ok (.iload_n 1, 1) := by decide +kernel
theorem dX5_marcher_43 : decode cX5_marcher 43 = .ok (.iastore, 1) := by decide +kernel
theorem dX5_marcher_44 : decode cX5_marcher 44 = .ok (.aload_n 0, 1) := by decide +kernel
theorem dX5_marcher_45 : decode cX5_marcher 45 = .ok (.getfield 10, 3) := by decide +kernel
theorem dX5_marcher_48 : decode cX5_marcher 48 = .ok (.getfield 57, 3) := by decide +kernel
theorem dX5_marcher_51 : decode cX5_marcher 51 = .ok (.iload_n 2, 1) := by decide +kernel
theorem dX5_marcher_52 : decode cX5_marcher 52 = .ok (.iconst 0, 1) := by decide +kernel
theorem dX5_marcher_53 : decode cX5_marcher 53 = .ok (.bastore, 1) := by decide +kernel
theorem dX5_marcher_54 : decode cX5_marcher 54 = .ok (.aload_n 0, 1) := by decide +kernel
theorem dX5_marcher_55 : decode cX5_marcher 55 = .ok (.getfield 10, 3) := by decide +kernel
theorem dX5_marcher_58 : decode cX5_marcher 58 = .ok (.iload_n 2, 1) := by decide +kernel
theorem dX5_marcher_59 : decode cX5_marcher 59 = .ok (.iconst 1, 1) := by decide +kernel
theorem dX5_marcher_60 : decode cX5_marcher 60 = .ok (.iadd, 1) := by decide +kernel
theorem dX5_marcher_61 : decode cX5_marcher 61 = .ok (.putfield 49, 3) := by decide +kernel
theorem dX5_marcher_64 : decode cX5_marcher 64 = .ok (.aload_n 0, 1) := by decide +kernel
theorem dX5_marcher_65 : decode cX5_marcher 65 = .ok (.getfield 38, 3) := by decide +kernel
theorem dX5_marcher_68 : decode cX5_marcher 68 = .ok (.iconst 0, 1) := by decide +kernel
theorem dX5_marcher_69 : decode cX5_marcher 69 = .ok (.invokevirtual 61, 3) := by decide +kernel
theorem dX5_marcher_72 : decode cX5_marcher 72 = .ok (.iload_n 2, 1) := by decide +kernel
theorem dX5_marcher_73 : decode cX5_marcher 73 = .ok (.ireturn, 1) := by decide +kernel
theorem dX5_ill_0 : decode cX5_ill 0 = .ok (.aload_n 0, 1) := by decide +kernel
theorem dX5_ill_1 : decode cX5_ill 1 = .ok (.getfield 10, 3) := by decide +kernel
theorem dX5_ill_4 : decode cX5_ill 4 = .ok (.iload_n 1, 1) := by decide +kernel
theorem dX5_ill_5 : decode cX5_ill 5 = .ok (.invokevirtual 65, 3) := by decide +kernel
theorem dX5_ill_8 : decode cX5_ill 8 = .ok (.ifCond .ne 5, 3) := by decide +kernel
theorem dX5_ill_11 : decode cX5_ill 11 = .ok (.iconst (-1), 1) := by decide +kernel
theorem dX5_ill_12 : decode cX5_ill 12 = .ok (.ireturn, 1) := by decide +kernel
theorem dX5_ill_13 : decode cX5_ill 13 = .ok (.aload_n 0, 1) := by decide +kernel
theorem dX5_ill_14 : decode cX5_ill 14 = .ok (.getfield 10, 3) := by decide +kernel
theorem dX5_ill_17 : decode cX5_ill 17 = .ok (.getfield 57, 3) := by decide +kernel
theorem dX5_ill_20 : decode cX5_ill 20 = .ok (.iload_n 1, 1) := by decide +kernel
theorem dX5_ill_21 : decode cX5_ill 21 = .ok (.baload, 1) := by decide +kernel
theorem dX5_ill_22 : decode cX5_ill 22 = .ok (.iload_n 2, 1) := by decide +kernel
theorem dX5_ill_23 : decode cX5_ill 23 = .ok (.if_icmp .ne 5, 3) := by decide +kernel
theorem dX5_ill_26 : decode cX5_ill 26 = .ok (.iconst 0, 1) := by decide +kernel
theorem dX5_ill_27 : decode cX5_ill 27 = .ok (.ireturn, 1) := by decide +kernel
theorem dX5_ill_28 : decode cX5_ill 28 = .ok (.aload_n 0, 1) := by decide +kernel
theorem dX5_ill_29 : decode cX5_ill 29 = .ok (.getfield 10, 3) := by decide +kernel
theorem dX5_ill_32 : decode cX5_ill 32 = .ok (.getfield 57, 3) := by decide +kernel
theorem dX5_ill_35 : decode cX5_ill 35 = .ok (.iload_n 1, 1) := by decide +kernel
theorem dX5_ill_36 : decode cX5_ill 36 = .ok (.iload_n 2, 1) := by decide +kernel
theorem dX5_ill_37 : decode cX5_ill 37 = .ok (.bastore, 1) := by decide +kernel
theorem dX5_ill_38 : decode cX5_ill 38 = .ok (.aload_n 0, 1) := by decide +kernel
theorem dX5_ill_39 : decode cX5_ill 39 = .ok (.getfield 38, 3) := by decide +kernel
theorem dX5_ill_42 : decode cX5_ill 42 = .ok (.iconst 0, 1) := by decide +kernel
theorem dX5_ill_43 : decode cX5_ill 43 = .ok (.invokevirtual 61, 3) := by decide +kernel
theorem dX5_ill_46 : decode cX5_ill 46 = .ok (.iconst 1, 1) := by decide +kernel
theorem dX5_ill_47 : decode cX5_ill 47 = .ok (.ireturn, 1) := by decide +kernel
theorem dX5_bound_0 : decode cX5_bound 0 = .ok (.aload_n 0, 1) := by decide +kernel
theorem dX5_bound_1 : decode cX5_bound 1 = .ok (.getfield 10, 3) := by decide +kernel
theorem dX5_bound_4 : decode cX5_bound 4 = .ok (.iload_n 1, 1) := by decide +kernel
theorem dX5_bound_5 : decode cX5_bound 5 = .ok (.invokevirtual 65, 3) := by decide +kernel
theorem dX5_bound_8 : decode cX5_bound 8 = .ok (.ifCond .eq 12, 3) := by decide +kernel
theorem dX5_bound_11 : decode cX5_bound 11 = .ok (.iload_n 2, 1) := by decide +kernel
theorem dX5_bound_12 : decode cX5_bound 12 = .ok (.iconst 1, 1) := by decide +kernel
theorem dX5_bound_13 : decode cX5_bound 13 = .ok (.iconst 4, 1) := by decide +kernel
theorem dX5_bound_14 : decode cX5_bound 14 = .ok (.invokestatic 45, 3) := by decide +kernel
theorem dX5_bound_17 : decode cX5_bound 17 = .ok (.ifCond .eq 5, 3) := by decide +kernel
theorem dX5_bound_20 : decode cX5_bound 20 = .ok (.iconst (-1), 1) := by decide +kernel
theorem dX5_bound_21 : decode cX5_bound 21 = .ok (.ireturn, 1) := by decide +kernel
theorem dX5_bound_22 : decode cX5_bound 22 = .ok (.aload_n 0, 1) := by decide +kernel
theorem dX5_bound_23 : decode cX5_bound 23 = .ok (.getfield 10, 3) := by decide +kernel
theorem dX5_bound_26 : decode cX5_bound 26 = .ok (.getfield 53, 3) := by decide +kernel
theorem dX5_bound_29 : decode cX5_bound 29 = .ok (.iload_n 1, 1) := by decide +kernel
theorem dX5_bound_30 : decode cX5_bound 30 = .ok (.iaload, 1) := by decide +kernel
theorem dX5_bound_31 : decode cX5_bound 31 = .ok (.istore_n 3, 1) := by decide +kernel
theorem dX5_bound_32 : decode cX5_bound 32 = .ok (.aload_n 0, 1) := by decide +kernel
theorem dX5_bound_33 : decode cX5_bound 33 = .ok (.getfield 10, 3) := by decide +kernel
theorem dX5_bound_36 : decode cX5_bound 36 = .ok (.getfield 53, 3) := by decide +kernel
theorem dX5_bound_39 : decode cX5_bound 39 = .ok (.iload_n 1, 1) := by decide +kernel
theorem dX5_bound_40 : decode cX5_bound 40 = .ok (.iload_n 2, 1) := by decide +kernel
theorem dX5_bound_41 : decode cX5_bound 41 = .ok (.iastore, 1) := by decide +kernel
theorem dX5_bound_42 : decode cX5_bound 42 = .ok (.aload_n 0, 1) := by decide +kernel
theorem dX5_bound_43 : decode cX5_bound 43 = .ok (.getfield 38, 3) := by decide +kernel
theorem dX5_bound_46 : decode cX5_bound 46 = .ok (.iconst 1, 1) := by decide +kernel
theorem dX5_bound_47 : decode cX5_bound 47 = .ok (.invokevirtual 61, 3) := by decide +kernel
theorem dX5_bound_50 : decode cX5_bound 50 = .ok (.iload_n 3, 1) := by decide +kernel
theorem dX5_bound_51 : decode cX5_bound 51 = .ok (.ireturn, 1) := by decide +kernel
theorem dX5_picture_0 : decode cX5_picture 0 = .ok (.iload_n 1, 1) := by decide +kernel
theorem dX5_picture_1 : decode cX5_picture 1 = .ok (.iconst 1, 1) := by decide +kernel
theorem dX5_picture_2 : decode cX5_picture 2 = .ok (.bipush 16, 2) := by decide +kernel
theorem dX5_picture_4 : decode cX5_picture 4 = .ok (.invokestatic 45, 3) := by decide +kernel
theorem dX5_picture_7 : decode cX5_picture 7 = .ok (.ifCond .eq 5, 3) := by decide +kernel
theorem dX5_picture_10 : decode cX5_picture 10 = .ok (.iconst (-1), 1) := by decide +kernel
theorem dX5_picture_11 : decode cX5_picture 11 = .ok (.ireturn, 1) := by decide +kernel
theorem dX5_picture_12 : decode cX5_picture 12 = .ok (.aload_n 0, 1) := by decide +kernel
theorem dX5_picture_13 : decode cX5_picture 13 = .ok (.getfield 10, 3) := by decide +kernel
theorem dX5_picture_16 : decode cX5_picture 16 = .ok (.getfield 69, 3) := by decide +kernel
theorem dX5_picture_19 : decode cX5_picture 19 = .ok (.iconst 5, 1) := by decide +kernel
theorem dX5_picture_20 : decode cX5_picture 20 = .ok (.if_icmp .lt 6, 3) := by decide +kernel
theorem dX5_picture_23 : decode cX5_picture 23 = .ok (.bipush (-2), 2) := by decide +kernel
theorem dX5_picture_25 : decode cX5_picture 25 = .ok (.ireturn, 1) := by decide +kernel
theorem dX5_picture_26 : decode cX5_picture 26 = .ok (.aload_n 0, 1) := by decide +kernel
theorem dX5_picture_27 : decode cX5_picture 27 = .ok (.getfield 10, 3) := by decide +kernel
theorem dX5_picture_30 : decode cX5_picture 30 = .ok (.getfield 69, 3) := by decide +kernel
theorem dX5_picture_33 : decode cX5_picture 33 = .ok (.istore_n 2, 1) := by decide +kernel
theorem dX5_picture_34 : decode cX5_picture 34 = .ok (.aload_n 0, 1) := by decide +kernel
theorem dX5_picture_35 : decode cX5_picture 35 = .ok (.getfield 10, 3) := by decide +kernel
theorem dX5_picture_38 : decode cX5_picture 38 = .ok (.getfield 72, 3) := by decide +kernel
theorem dX5_picture_41 : decode cX5_picture 41 = .ok (.iload_n 2, 1) := by decide +kernel
theorem dX5_picture_42 : decode cX5_picture 42 = .ok (.aaload, 1) := by decide +kernel
theorem dX5_picture_43 : decode cX5_picture 43 = .ok (.iload_n 1, 1) := by decide +kernel
theorem dX5_picture_44 : decode cX5_picture 44 = .ok (.invokevirtual 76, 3) := by decide +kernel
theorem dX5_picture_47 : decode cX5_picture 47 = .ok (.aload_n 0, 1) := by decide +kernel
theorem dX5_picture_48 : decode cX5_picture 48 = .ok (.getfield 10, 3) := by decide +kernel
theorem dX5_picture_51 : decode cX5_picture 51 = .ok (.iload_n 2, 1) := by decide +kernel
theorem dX5_picture_52 : decode cX5_picture 52 = .ok (.iconst 1, 1) := by decide +kernel
theorem dX5_picture_53 : decode cX5_picture 53 = .ok (.iadd, 1) := by decide +kernel
theorem dX5_picture_54 : decode cX5_picture 54 = .ok (.putfield 69, 3) := by decide +kernel
theorem dX5_picture_57 : decode cX5_picture 57 = .ok (.aload_n 0, 1) := by decide +kernel
theorem dX5_picture_58 : decode cX5_picture 58 = .ok (.getfield 38, 3) := by decide +kernel
theorem dX5_picture_61 : decode cX5_picture 61 = .ok (.iload_n 2, 1) := by decide +kernel
theorem dX5_picture_62 : decode cX5_picture 62 = .ok (.invokevirtual 61, 3) := by decide +kernel
theorem dX5_picture_65 : decode cX5_picture 65 = .ok (.iload_n 2, 1) := by decide +kernel
theorem dX5_picture_66 : decode cX5_picture 66 = .ok (.ireturn, 1) := by decide +kernel
theorem dX5_counts_0 : decode cX5_counts 0 = .ok (.aload_n 0, 1) := by decide +kernel
theorem dX5_counts_1 : decode cX5_counts 1 = .ok (.getfield 10, 3) := by decide +kernel
theorem dX5_counts_4 : decode cX5_counts 4 = .ok (.iload_n 1, 1) := by decide +kernel
theorem dX5_counts_5 : decode cX5_counts 5 = .ok (.invokevirtual 81, 3) := by decide +kernel
theorem dX5_counts_8 : decode cX5_counts 8 = .ok (.ifCond .eq 13, 3) := by decide +kernel
theorem dX5_counts_11 : decode cX5_counts 11 = .ok (.iload_n 2, 1) := by decide +kernel
theorem dX5_counts_12 : decode cX5_counts 12 = .ok (.iconst 1, 1) := by decide +kernel
theorem dX5_counts_13 : decode cX5_counts 13 = .ok (.bipush 16, 2) := by decide +kernel
theorem dX5_counts_15 : decode cX5_counts 15 = .ok (.invokestatic 45, 3) := by decide +kernel
theorem dX5_counts_18 : decode cX5_counts 18 = .ok (.ifCond .eq 5, 3) := by decide +kernel
theorem dX5_counts_21 : decode cX5_counts 21 = .ok (.iconst (-1), 1) := by decide +kernel
theorem dX5_counts_22 : decode cX5_counts 22 = .ok (.ireturn, 1) := by decide +kernel
theorem dX5_counts_23 : decode cX5_counts 23 = .ok (.aload_n 0, 1) := by decide +kernel
theorem dX5_counts_24 : decode cX5_counts 24 = .ok (.getfield 10, 3) := by decide +kernel
theorem dX5_counts_27 : decode cX5_counts 27 = .ok (.getfield 72, 3) := by decide +kernel
theorem dX5_counts_30 : decode cX5_counts 30 = .ok (.iload_n 1, 1) := by decide +kernel
theorem dX5_counts_31 : decode cX5_counts 31 = .ok (.aaload, 1) := by decide +kernel
theorem dX5_counts_32 : decode cX5_counts 32 = .ok (.astore_n 3, 1) := by decide +kernel
theorem dX5_counts_33 : decode cX5_counts 33 = .ok (.aload_n 3, 1) := by decide +kernel
theorem dX5_counts_34 : decode cX5_counts 34 = .ok (.getfield 84, 3) := by decide +kernel
theorem dX5_counts_37 : decode cX5_counts 37 = .ok (.istore 4, 2) := by decide +kernel
theorem dX5_counts_39 : decode cX5_counts 39 = .ok (.aload_n 3, 1) := by decide +kernel
theorem dX5_counts_40 : decode cX5_counts 40 = .ok (.iload_n 2, 1) := by decide +kernel
theorem dX5_counts_41 : decode cX5_counts 41 = .ok (.putfield 84, 3) := by decide +kernel
theorem dX5_counts_44 : decode cX5_counts 44 = .ok (.aload_n 0, 1) := by decide +kernel
theorem dX5_counts_45 : decode cX5_counts 45 = .ok (.getfield 38, 3) := by decide +kernel
theorem dX5_counts_48 : decode cX5_counts 48 = .ok (.iload_n 1, 1) := by decide +kernel
theorem dX5_counts_49 : decode cX5_counts 49 = .ok (.invokevirtual 61, 3) := by decide +kernel
theorem dX5_counts_52 : decode cX5_counts 52 = .ok (.iload 4, 2) := by decide +kernel
theorem dX5_counts_54 : decode cX5_counts 54 = .ok (.ireturn, 1) := by decide +kernel
theorem dX5_line_0 : decode cX5_line 0 = .ok (.aload_n 0, 1) := by decide +kernel
theorem dX5_line_1 : decode cX5_line 1 = .ok (.getfield 10, 3) := by decide +kernel
theorem dX5_line_4 : decode cX5_line 4 = .ok (.iload_n 1, 1) := by decide +kernel
theorem dX5_line_5 : decode cX5_line 5 = .ok (.invokevirtual 81, 3) := by decide +kernel
theorem dX5_line_8 : decode cX5_line 8 = .ok (.ifCond .eq 37, 3) := by decide +kernel
theorem dX5_line_11 : decode cX5_line 11 = .ok (.iload_n 2, 1) := by decide +kernel
theorem dX5_line_12 : decode cX5_line 12 = .ok (.iconst 1, 1) := by decide +kernel
theorem dX5_line_13 : decode cX5_line 13 = .ok (.bipush 7, 2) := by decide +kernel
theorem dX5_line_15 : decode cX5_line 15 = .ok (.invokestatic 45, 3) := by decide +kernel
theorem dX5_line_18 : decode cX5_line 18 = .ok (.ifCond .ne 27, 3) := by decide +kernel
theorem dX5_line_21 : decode cX5_line 21 = .ok (.iload 5, 2) := by decide +kernel
theorem dX5_line_23 : decode cX5_line 23 = .ok (.bipush (-10), 2) := by decide +kernel
theorem dX5_line_25 : decode cX5_line 25 = .ok (.bipush 10, 2) := by decide +kernel
theorem dX5_line_27 : decode cX5_line 27 = .ok (.invokestatic 45, 3) := by decide +kernel
theorem dX5_line_30 : decode cX5_line 30 = .ok (.ifCond .ne 15, 3) := by decide +kernel
theorem dX5_line_33 : decode cX5_line 33 = .ok (.iload 6, 2) := by decide +kernel
theorem dX5_line_35 : decode cX5_line 35 = .ok (.bipush (-10), 2) := by decide +kernel
theorem dX5_line_37 : decode cX5_line 37 = .ok (.bipush 10, 2) := by decide +kernel
theorem dX5_line_39 : decode cX5_line 39 = .ok (.invokestatic 45, 3) := by decide +kernel
theorem dX5_line_42 : decode cX5_line 42 = .ok (.ifCond .eq 5, 3) := by decide +kernel
theorem dX5_line_45 : decode cX5_line 45 = .ok (.iconst (-1), 1) := by decide +kernel
theorem dX5_line_46 : decode cX5_line 46 = .ok (.ireturn, 1) := by decide +kernel
theorem dX5_line_47 : decode cX5_line 47 = .ok (.aload_n 0, 1) := by decide +kernel
theorem dX5_line_48 : decode cX5_line 48 = .ok (.getfield 10, 3) := by decide +kernel
theorem dX5_line_51 : decode cX5_line 51 = .ok (.getfield 72, 3) := by decide +kernel
theorem dX5_line_54 : decode cX5_line 54 = .ok (.iload_n 1, 1) := by decide +kernel
theorem dX5_line_55 : decode cX5_line 55 = .ok (.aaload, 1) := by decide +kernel
theorem dX5_line_56 : decode cX5_line 56 = .ok (.iload_n 2, 1) := by decide +kernel
theorem dX5_line_57 : decode cX5_line 57 = .ok (.invokevirtual 87, 3) := by decide +kernel
theorem dX5_line_60 : decode cX5_line 60 = .ok (.ifCond .ne 6, 3) := by decide +kernel
theorem dX5_line_63 : decode cX5_line 63 = .ok (.bipush (-2), 2) := by decide +kernel
theorem dX5_line_65 : decode cX5_line 65 = .ok (.ireturn, 1) := by decide +kernel
theorem dX5_line_66 : decode cX5_line 66 = .ok (.aload_n 0, 1) := by decide +kernel
theorem dX5_line_67 : decode cX5_line 67 = .ok (.getfield 26, 3) := by decide +kernel
theorem dX5_line_70 : decode cX5_line 70 = .ok (.iload_n 2, 1) := by decide +kernel
theorem dX5_line_71 : decode cX5_line 71 = .ok (.iload_n 3, 1) := by decide +kernel
theorem dX5_line_72 : decode cX5_line 72 = .ok (.iload 4, 2) := by decide +kernel
theorem dX5_line_74 : decode cX5_line 74 = .ok (.iload 5, 2) := by decide +kernel
theorem dX5_line_76 : decode cX5_line 76 = .ok (.iload 6, 2) := by decide +kernel
theorem dX5_line_78 : decode cX5_line 78 = .ok (.invokevirtual 90, 3) := by decide +kernel
theorem dX5_line_81 : decode cX5_line 81 = .ok (.aload_n 0, 1) := by decide +kernel
theorem dX5_line_82 : decode cX5_line 82 = .ok (.iload_n 1, 1) := by decide +kernel
theorem dX5_line_83 : decode cX5_line 83 = .ok (.invokevirtual 94, 3) := by decide +kernel
theorem dX5_line_86 : decode cX5_line 86 = .ok (.ireturn, 1) := by decide +kernel
theorem dX5_block_0 : decode cX5_block 0 = .ok (.aload_n 0, 1) := by decide +kernel
theorem dX5_block_1 : decode cX5_block 1 = .ok (.getfield 10, 3) := by decide +kernel
theorem dX5_block_4 : decode cX5_block 4 = .ok (.iload_n 1, 1) := by decide +kernel
theorem dX5_block_5 : decode cX5_block 5 = .ok (.invokevirtual 81, 3) := by decide +kernel
theorem dX5_block_8 : decode cX5_block 8 = .ok (.ifCond .eq 33, 3) := by decide +kernel
theorem dX5_block_11 : decode cX5_block 11 = .ok (.iload 4, 2) := by decide +kernel
theorem dX5_block_13 : decode cX5_block 13 = .ok (.iconst 1, 1) := by decide +kernel
theorem dX5_block_14 : decode cX5_block 14 = .ok (.iconst 4, 1) := by decide +kernel
theorem dX5_block_15 : decode cX5_block 15 = .ok (.invokestatic 45, 3) := by decide +kernel
theorem dX5_block_18 : decode cX5_block 18 = .ok (.ifCond .ne 23, 3) := by decide +kernel
theorem dX5_block_21 : decode cX5_block 21 = .ok (.iload 5, 2) := by decide +kernel
theorem dX5_block_23 : decode cX5_block 23 = .ok (.iconst 1, 1) := by decide +kernel
theorem dX5_block_24 : decode cX5_block 24 = .ok (.iconst 4, 1) := by decide +kernel
theorem dX5_block_25 : decode cX5_block 25 = .ok (.invokestatic 45, 3) := by decide +kernel
theorem dX5_block_28 : decode cX5_block 28 = .ok (.ifCond .ne 13, 3) := by decide +kernel
theorem dX5_block_31 : decode cX5_block 31 = .ok (.iload 6, 2) := by decide +kernel
theorem dX5_block_33 : decode cX5_block 33 = .ok (.iconst 1, 1) := by decide +kernel
theorem dX5_block_34 : decode cX5_block 34 = .ok (.iconst 5, 1) := by decide +kernel
theorem dX5_block_35 : decode cX5_block 35 = .ok (.invokestatic 45, 3) := by decide +kernel
theorem dX5_block_38 : decode cX5_block 38 = .ok (.ifCond .eq 5, 3) := by decide +kernel
theorem dX5_block_41 : decode cX5_block 41 = .ok (.iconst (-1), 1) := by decide +kernel
theorem dX5_block_42 : decode cX5_block 42 = .ok (.ireturn, 1) := by decide +kernel
theorem dX5_block_43 : decode cX5_block 43 = .ok (.aload_n 0, 1) := by decide +kernel
theorem dX5_block_44 : decode cX5_block 44 = .ok (.getfield 10, 3) := by decide +kernel
theorem dX5_block_47 : decode cX5_block 47 = .ok (.getfield 72, 3) := by decide +kernel
theorem dX5_block_50 : decode cX5_block 50 = .ok (.iload_n 1, 1) := by decide +kernel
theorem dX5_block_51 : decode cX5_block 51 = .ok (.aaload, 1) := by decide +kernel
theorem dX5_block_52 : decode cX5_block 52 = .ok (.iload 4, 2) := by decide +kernel
theorem dX5_block_54 : decode cX5_block 54 = .ok (.iload 5, 2) := by decide +kernel
theorem dX5_block_56 : decode cX5_block 56 = .ok (.imul, 1) := by decide +kernel
theorem dX5_block_57 : decode cX5_block 57 = .ok (.invokevirtual 87, 3) := by decide +kernel
theorem dX5_block_60 : decode cX5_block 60 = .ok (.ifCond .ne 6, 3) := by decide +kernel
theorem dX5_block_63 : decode cX5_block 63 = .ok (.bipush (-2), 2) := by decide +kernel
theorem dX5_block_65 : decode cX5_block 65 = .ok (.ireturn, 1) := by decide +kernel
theorem dX5_block_66 : decode cX5_block 66 = .ok (.aload_n 0, 1) := by decide +kernel
theorem dX5_block_67 : decode cX5_block 67 = .ok (.getfield 26, 3) := by decide +kernel
theorem dX5_block_70 : decode cX5_block 70 = .ok (.iload_n 2, 1) := by decide +kernel
theorem dX5_block_71 : decode cX5_block 71 = .ok (.iload_n 3, 1) := by decide +kernel
theorem dX5_block_72 : decode cX5_block 72 = .ok (.iload 4, 2) := by decide +kernel
theorem dX5_block_74 : decode cX5_block 74 = .ok (.iload 5, 2) := by decide +kernel
theorem dX5_block_76 : decode cX5_block 76 = .ok (.iload 6, 2) := by decide +kernel
theorem dX5_block_78 : decode cX5_block 78 = .ok (.invokevirtual 98, 3) := by decide +kernel
theorem dX5_block_81 : decode cX5_block 81 = .ok (.aload_n 0, 1) := by decide +kernel
theorem dX5_block_82 : decode cX5_block 82 = .ok (.iload_n 1, 1) := by decide +kernel
theorem dX5_block_83 : decode cX5_block 83 = .ok (.invokevirtual 94, 3) := by decide +kernel
theorem dX5_block_86 : decode cX5_block 86 = .ok (.ireturn, 1) := by decide +kernel
theorem dX5_corner_0 : decode cX5_corner 0 = .ok (.aload_n 0, 1) := by decide +kernel
theorem dX5_corner_1 : decode cX5_corner 1 = .ok (.getfield 10, 3) := by decide +kernel
theorem dX5_corner_4 : decode cX5_corner 4 = .ok (.iload_n 1, 1) := by decide +kernel
theorem dX5_corner_5 : decode cX5_corner 5 = .ok (.invokevirtual 81, 3) := by decide +kernel
theorem dX5_corner_8 : decode cX5_corner 8 = .ok (.ifCond .eq 23, 3) := by decide +kernel
theorem dX5_corner_11 : decode cX5_corner 11 = .ok (.iload 4, 2) := by decide +kernel
theorem dX5_corner_13 : decode cX5_corner 13 = .ok (.iconst 1, 1) := by decide +kernel
theorem dX5_corner_14 : decode cX5_corner 14 = .ok (.iconst 4, 1) := by decide +kernel
theorem dX5_corner_15 : decode cX5_corner 15 = .ok (.invokestatic 45, 3) := by decide +kernel
theorem dX5_corner_18 : decode cX5_corner 18 = .ok (.ifCond .ne 13, 3) := by decide +kernel
theorem dX5_corner_21 : decode cX5_corner 21 = .ok (.iload 5, 2) := by decide +kernel
theorem dX5_corner_23 : decode cX5_corner 23 = .ok (.iconst 1, 1) := by decide +kernel
theorem dX5_corner_24 : decode cX5_corner 24 = .ok (.iconst 5, 1) := by decide +kernel
theorem dX5_corner_25 : decode cX5_corner 25 = .ok (.invokestatic 45, 3) := by decide +kernel
theorem dX5_corner_28 : decode cX5_corner 28 = .ok (.ifCond .eq 5, 3) := by decide +kernel
theorem dX5_corner_31 : decode cX5_corner 31 = .ok (.iconst (-1), 1) := by decide +kernel
theorem dX5_corner_32 : decode cX5_corner 32 = .ok (.ireturn, 1) := by decide +kernel
theorem dX5_corner_33 : decode cX5_corner 33 = .ok (.aload_n 0, 1) := by decide +kernel
theorem dX5_corner_34 : decode cX5_corner 34 = .ok (.getfield 10, 3) := by decide +kernel
theorem dX5_corner_37 : decode cX5_corner 37 = .ok (.getfield 72, 3) := by decide +kernel
theorem dX5_corner_40 : decode cX5_corner 40 = .ok (.iload_n 1, 1) := by decide +kernel
theorem dX5_corner_41 : decode cX5_corner 41 = .ok (.aaload, 1) := by decide +kernel
theorem dX5_corner_42 : decode cX5_corner 42 = .ok (.iload 4, 2) := by decide +kernel
theorem dX5_corner_44 : decode cX5_corner 44 = .ok (.iload 4, 2) := by decide +kernel
theorem dX5_corner_46 : decode cX5_corner 46 = .ok (.iadd, 1) := by decide +kernel
theorem dX5_corner_47 : decode cX5_corner 47 = .ok (.iconst 1, 1) := by decide +kernel
theorem dX5_corner_48 : decode cX5_corner 48 = .ok (.isub, 1) := by decide +kernel
theorem dX5_corner_49 : decode cX5_corner 49 = .ok (.invokevirtual 87, 3) := by decide +kernel
theorem dX5_corner_52 : decode cX5_corner 52 = .ok (.ifCond .ne 6, 3) := by decide +kernel
theorem dX5_corner_55 : decode cX5_corner 55 = .ok (.bipush (-2), 2) := by decide +kernel
theorem dX5_corner_57 : decode cX5_corner 57 = .ok (.ireturn, 1) := by decide +kernel
theorem dX5_corner_58 : decode cX5_corner 58 = .ok (.aload_n 0, 1) := by decide +kernel
theorem dX5_corner_59 : decode cX5_corner 59 = .ok (.getfield 26, 3) := by decide +kernel
theorem dX5_corner_62 : decode cX5_corner 62 = .ok (.iload_n 2, 1) := by decide +kernel
theorem dX5_corner_63 : decode cX5_corner 63 = .ok (.iload_n 3, 1) := by decide +kernel
theorem dX5_corner_64 : decode cX5_corner 64 = .ok (.iload 4, 2) := by decide +kernel
theorem dX5_corner_66 : decode cX5_corner 66 = .ok (.iload 5, 2) := by decide +kernel
theorem dX5_corner_68 : decode cX5_corner 68 = .ok (.invokevirtual 101, 3) := by decide +kernel
theorem dX5_corner_71 : decode cX5_corner 71 = .ok (.aload_n 0, 1) := by decide +kernel
theorem dX5_corner_72 : decode cX5_corner 72 = .ok (.iload_n 1, 1) := by decide +kernel
theorem dX5_corner_73 : decode cX5_corner 73 = .ok (.invokevirtual 94, 3) := by decide +kernel
theorem dX5_corner_76 : decode cX5_corner 76 = .ok (.ireturn, 1) := by decide +kernel
theorem dX5_solo_0 : decode cX5_solo 0 = .ok (.aload_n 0, 1) := by decide +kernel
theorem dX5_solo_1 : decode cX5_solo 1 = .ok (.getfield 10, 3) := by decide +kernel
theorem dX5_solo_4 : decode cX5_solo 4 = .ok (.iload_n 1, 1) := by decide +kernel
theorem dX5_solo_5 : decode cX5_solo 5 = .ok (.invokevirtual 81, 3) := by decide +kernel
theorem dX5_solo_8 : decode cX5_solo 8 = .ok (.ifCond .eq 19, 3) := by decide +kernel
theorem dX5_solo_11 : decode cX5_solo 11 = .ok (.aload_n 0, 1) := by decide +kernel
theorem dX5_solo_12 : decode cX5_solo 12 = .ok (.getfield 10, 3) := by decide +kernel
theorem dX5_solo_15 : decode cX5_solo 15 = .ok (.getfield 72, 3) := by decide +kernel
theorem dX5_solo_18 : decode cX5_solo 18 = .ok (.iload_n 1, 1) := by decide +kernel
theorem dX5_solo_19 : decode cX5_solo 19 = .ok (.aaload, 1) := by decide +kernel
theorem dX5_solo_20 : decode cX5_solo 20 = .ok (.iload_n 2, 1) := by decide +kernel
theorem dX5_solo_21 : decode cX5_solo 21 = .ok (.invokevirtual 105, 3) := by decide +kernel
theorem dX5_solo_24 : decode cX5_solo 24 = .ok (.ifCond .ne 5, 3) := by decide +kernel
theorem dX5_solo_27 : decode cX5_solo 27 = .ok (.iconst (-1), 1) := by decide +kernel
theorem dX5_solo_28 : decode cX5_solo 28 = .ok (.ireturn, 1) := by decide +kernel
theorem dX5_solo_29 : decode cX5_solo 29 = .ok (.aload_n 0, 1) := by decide +kernel
theorem dX5_solo_30 : decode cX5_solo 30 = .ok (.getfield 10, 3) := by decide +kernel
theorem dX5_solo_33 : decode cX5_solo 33 = .ok (.getfield 72, 3) := by decide +kernel
theorem dX5_solo_36 : decode cX5_solo 36 = .ok (.iload_n 1, 1) := by decide +kernel
theorem dX5_solo_37 : decode cX5_solo 37 = .ok (.aaload, 1) := by decide +kernel
theorem dX5_solo_38 : decode cX5_solo 38 = .ok (.astore 4, 2) := by decide +kernel
theorem dX5_solo_40 : decode cX5_solo 40 = .ok (.aload 4, 2) := by decide +kernel
theorem dX5_solo_42 : decode cX5_solo 42 = .ok (.getfield 108, 3) := by decide +kernel
theorem dX5_solo_45 : decode cX5_solo 45 = .ok (.iload_n 2, 1) := by decide +kernel
theorem dX5_solo_46 : decode cX5_solo 46 = .ok (.baload, 1) := by decide +kernel
theorem dX5_solo_47 : decode cX5_solo 47 = .ok (.iload_n 3, 1) := by decide +kernel
theorem dX5_solo_48 : decode cX5_solo 48 = .ok (.if_icmp .ne 5, 3) := by decide +kernel
theorem dX5_solo_51 : decode cX5_solo 51 = .ok (.iconst 0, 1) := by decide +kernel
theorem dX5_solo_52 : decode cX5_solo 52 = .ok (.ireturn, 1) := by decide +kernel
theorem dX5_solo_53 : decode cX5_solo 53 = .ok (.aload 4, 2) := by decide +kernel
theorem dX5_solo_55 : decode cX5_solo 55 = .ok (.getfield 108, 3) := by decide +kernel
theorem dX5_solo_58 : decode cX5_solo 58 = .ok (.iload_n 2, 1) := by decide +kernel
theorem dX5_solo_59 : decode cX5_solo 59 = .ok (.iload_n 3, 1) := by decide +kernel
theorem dX5_solo_60 : decode cX5_solo 60 = .ok (.bastore, 1) := by decide +kernel
theorem dX5_solo_61 : decode cX5_solo 61 = .ok (.aload_n 0, 1) := by decide +kernel
theorem dX5_solo_62 : decode cX5_solo 62 = .ok (.getfield 38, 3) := by decide +kernel
theorem dX5_solo_65 : decode cX5_solo 65 = .ok (.iload_n 1, 1) := by decide +kernel
theorem dX5_solo_66 : decode cX5_solo 66 = .ok (.invokevirtual 61, 3) := by decide +kernel
theorem dX5_solo_69 : decode cX5_solo 69 = .ok (.iconst 1, 1) := by decide +kernel
theorem dX5_solo_70 : decode cX5_solo 70 = .ok (.ireturn, 1) := by decide +kernel
theorem dX5_scrub_0 : decode cX5_scrub 0 = .ok (.aload_n 0, 1) := by decide +kernel
theorem dX5_scrub_1 : decode cX5_scrub 1 = .ok (.getfield 10, 3) := by decide +kernel
theorem dX5_scrub_4 : decode cX5_scrub 4 = .ok (.iload_n 1, 1) := by decide +kernel
theorem dX5_scrub_5 : decode cX5_scrub 5 = .ok (.invokevirtual 81, 3) := by decide +kernel
theorem dX5_scrub_8 : decode cX5_scrub 8 = .ok (.ifCond .ne 5, 3) := by decide +kernel
theorem dX5_scrub_11 : decode cX5_scrub 11 = .ok (.iconst (-1), 1) := by decide +kernel
theorem dX5_scrub_12 : decode cX5_scrub 12 = .ok (.ireturn, 1) := by decide +kernel
theorem dX5_scrub_13 : decode cX5_scrub 13 = .ok (.aload_n 0, 1) := by decide +kernel
theorem dX5_scrub_14 : decode cX5_scrub 14 = .ok (.getfield 10, 3) := by decide +kernel
theorem dX5_scrub_17 : decode cX5_scrub 17 = .ok (.getfield 72, 3) := by decide +kernel
theorem dX5_scrub_20 : decode cX5_scrub 20 = .ok (.iload_n 1, 1) := by decide +kernel
theorem dX5_scrub_21 : decode cX5_scrub 21 = .ok (.aaload, 1) := by decide +kernel
theorem dX5_scrub_22 : decode cX5_scrub 22 = .ok (.astore_n 2, 1) := by decide +kernel
theorem dX5_scrub_23 : decode cX5_scrub 23 = .ok (.aload_n 2, 1) := by decide +kernel
theorem dX5_scrub_24 : decode cX5_scrub 24 = .ok (.getfield 111, 3) := by decide +kernel
theorem dX5_scrub_27 : decode cX5_scrub 27 = .ok (.iconst 1, 1) := by decide +kernel
theorem dX5_scrub_28 : decode cX5_scrub 28 = .ok (.if_icmp .ge 6, 3) := by decide +kernel
theorem dX5_scrub_31 : decode cX5_scrub 31 = .ok (.bipush (-3), 2) := by decide +kernel
theorem dX5_scrub_33 : decode cX5_scrub 33 = .ok (.ireturn, 1) := by decide +kernel
theorem dX5_scrub_34 : decode cX5_scrub 34 = .ok (.aload_n 2, 1) := by decide +kernel
theorem dX5_scrub_35 : decode cX5_scrub 35 = .ok (.dup, 1) := by decide +kernel
theorem dX5_scrub_36 : decode cX5_scrub 36 = .ok (.getfield 111, 3) := by decide +kernel
theorem dX5_scrub_39 : decode cX5_scrub 39 = .ok (.iconst 1, 1) := by decide +kernel
theorem dX5_scrub_40 : decode cX5_scrub 40 = .ok (.isub, 1) := by decide +kernel
theorem dX5_scrub_41 : decode cX5_scrub 41 = .ok (.putfield 111, 3) := by decide +kernel
theorem dX5_scrub_44 : decode cX5_scrub 44 = .ok (.aload_n 0, 1) := by decide +kernel
theorem dX5_scrub_45 : decode cX5_scrub 45 = .ok (.getfield 38, 3) := by decide +kernel
theorem dX5_scrub_48 : decode cX5_scrub 48 = .ok (.iload_n 1, 1) := by decide +kernel
theorem dX5_scrub_49 : decode cX5_scrub 49 = .ok (.invokevirtual 61, 3) := by decide +kernel
theorem dX5_scrub_52 : decode cX5_scrub 52 = .ok (.aload_n 2, 1) := by decide +kernel
theorem dX5_scrub_53 : decode cX5_scrub 53 = .ok (.getfield 111, 3) := by decide +kernel
theorem dX5_scrub_56 : decode cX5_scrub 56 = .ok (.ireturn, 1) := by decide +kernel
theorem dX5_rule_0 : decode cX5_rule 0 = .ok (.iload_n 1, 1) := by decide +kernel
theorem dX5_rule_1 : decode cX5_rule 1 = .ok (.ifCond .ne 38, 3) := by decide +kernel
theorem dX5_rule_4 : decode cX5_rule 4 = .ok (.iload_n 2, 1) := by decide +kernel
theorem dX5_rule_5 : decode cX5_rule 5 = .ok (.iconst 0, 1) := by decide +kernel
theorem dX5_rule_6 : decode cX5_rule 6 = .ok (.iconst 3, 1) := by decide +kernel
theorem dX5_rule_7 : decode cX5_rule 7 = .ok (.invokestatic 45, 3) := by decide +kernel
theorem dX5_rule_10 : decode cX5_rule 10 = .ok (.ifCond .ne 29, 3) := by decide +kernel
theorem dX5_rule_13 : decode cX5_rule 13 = .ok (.aload_n 0, 1) := by decide +kernel
theorem dX5_rule_14 : decode cX5_rule 14 = .ok (.getfield 10, 3) := by decide +kernel
theorem dX5_rule_17 : decode cX5_rule 17 = .ok (.getfield 114, 3) := by decide +kernel
theorem dX5_rule_20 : decode cX5_rule 20 = .ok (.istore_n 3, 1) := by decide +kernel
theorem dX5_rule_21 : decode cX5_rule 21 = .ok (.aload_n 0, 1) := by decide +kernel
theorem dX5_rule_22 : decode cX5_rule 22 = .ok (.getfield 10, 3) := by decide +kernel
theorem dX5_rule_25 : decode cX5_rule 25 = .ok (.iload_n 2, 1) := by decide +kernel
theorem dX5_rule_26 : decode cX5_rule 26 = .ok (.putfield 114, 3) := by decide +kernel
theorem dX5_rule_29 : decode cX5_rule 29 = .ok (.aload_n 0, 1) := by decide +kernel
theorem dX5_rule_30 : decode cX5_rule 30 = .ok (.getfield 38, 3) := by decide +kernel
theorem dX5_rule_33 : decode cX5_rule 33 = .ok (.iconst 1, 1) := by decide +kernel
theorem dX5_rule_34 : decode cX5_rule 34 = .ok (.invokevirtual 61, 3) := by decide +kernel
theorem dX5_rule_37 : decode cX5_rule 37 = .ok (.iload_n 3, 1) := by decide +kernel
theorem dX5_rule_38 : decode cX5_rule 38 = .ok (.ireturn, 1) := by decide +kernel
theorem dX5_rule_39 : decode cX5_rule 39 = .ok (.iload_n 1, 1) := by decide +kernel
theorem dX5_rule_40 : decode cX5_rule 40 = .ok (.iconst 1, 1) := by decide +kernel
theorem dX5_rule_41 : decode cX5_rule 41 = .ok (.if_icmp .ne 31, 3) := by decide +kernel
theorem dX5_rule_44 : decode cX5_rule 44 = .ok (.iload_n 2, 1) := by decide +kernel
theorem dX5_rule_45 : decode cX5_rule 45 = .ok (.iconst 1, 1) := by decide +kernel
theorem dX5_rule_46 : decode cX5_rule 46 = .ok (.bipush 20, 2) := by decide +kernel
theorem dX5_rule_48 : decode cX5_rule 48 = .ok (.invokestatic 45, 3) := by decide +kernel
theorem dX5_rule_51 : decode cX5_rule 51 = .ok (.ifCond .ne 21, 3) := by decide +kernel
theorem dX5_rule_54 : decode cX5_rule 54 = .ok (.aload_n 0, 1) := by decide +kernel
theorem dX5_rule_55 : decode cX5_rule 55 = .ok (.getfield 10, 3) := by decide +kernel
theorem dX5_rule_58 : decode cX5_rule 58 = .ok (.getfield 117, 3) := by decide +kernel
theorem dX5_rule_61 : decode cX5_rule 61 = .ok (.istore_n 3, 1) := by decide +kernel
theorem dX5_rule_62 : decode cX5_rule 62 = .ok (.aload_n 0, 1) := by decide +kernel
theorem dX5_rule_63 : decode cX5_rule 63 = .ok (.getfield 10, 3) := by decide +kernel
theorem dX5_rule_66 : decode cX5_rule 66 = .ok (.iload_n 2, 1) := by decide +kernel
theorem dX5_rule_67 : decode cX5_rule 67 = .ok (.putfield 117, 3) := by decide +kernel
theorem dX5_rule_70 : decode cX5_rule 70 = .ok (.iload_n 3, 1) := by decide +kernel
theorem dX5_rule_71 : decode cX5_rule 71 = .ok (.ireturn, 1) := by decide +kernel
theorem dX5_rule_72 : decode cX5_rule 72 = .ok (.iconst (-1), 1) := by decide +kernel
theorem dX5_rule_73 : decode cX5_rule 73 = .ok (.ireturn, 1) := by decide +kernel
theorem dX5_drums_0 : decode cX5_drums 0 = .ok (.iload_n 1, 1) := by decide +kernel
theorem dX5_drums_1 : decode cX5_drums 1 = .ok (.iload_n 2, 1) := by decide +kernel
theorem dX5_drums_2 : decode cX5_drums 2 = .ok (.invokestatic 120, 3) := by decide +kernel
theorem dX5_drums_5 : decode cX5_drums 5 = .ok (.ifCond .ne 6, 3) := by decide +kernel
theorem dX5_drums_8 : decode cX5_drums 8 = .ok (.bipush (-4), 2) := by decide +kernel
theorem dX5_drums_10 : decode cX5_drums 10 = .ok (.ireturn, 1) := by decide +kernel
theorem dX5_drums_11 : decode cX5_drums 11 = .ok (.aload_n 0, 1) := by decide +kernel
theorem dX5_drums_12 : decode cX5_drums 12 = .ok (.getfield 10, 3) := by decide +kernel
theorem dX5_drums_15 : decode cX5_drums 15 = .ok (.iload_n 1, 1) := by decide +kernel
theorem dX5_drums_16 : decode cX5_drums 16 = .ok (.putfield 124, 3) := by decide +kernel
theorem dX5_drums_19 : decode cX5_drums 19 = .ok (.aload_n 0, 1) := by decide +kernel
theorem dX5_drums_20 : decode cX5_drums 20 = .ok (.getfield 10, 3) := by decide +kernel
theorem dX5_drums_23 : decode cX5_drums 23 = .ok (.iload_n 2, 1) := by decide +kernel
theorem dX5_drums_24 : decode cX5_drums 24 = .ok (.putfield 127, 3) := by decide +kernel
theorem dX5_drums_27 : decode cX5_drums 27 = .ok (.iconst 1, 1) := by decide +kernel
theorem dX5_drums_28 : decode cX5_drums 28 = .ok (.ireturn, 1) := by decide +kernel
theorem dX5_dot_0 : decode cX5_dot 0 = .ok (.aload_n 0, 1) := by decide +kernel
theorem dX5_dot_1 : decode cX5_dot 1 = .ok (.getfield 10, 3) := by decide +kernel
theorem dX5_dot_4 : decode cX5_dot 4 = .ok (.iload_n 1, 1) := by decide +kernel
theorem dX5_dot_5 : decode cX5_dot 5 = .ok (.invokevirtual 81, 3) := by decide +kernel
theorem dX5_dot_8 : decode cX5_dot 8 = .ok (.ifCond .eq 28, 3) := by decide +kernel
theorem dX5_dot_11 : decode cX5_dot 11 = .ok (.aload_n 0, 1) := by decide +kernel
theorem dX5_dot_12 : decode cX5_dot 12 = .ok (.getfield 10, 3) := by decide +kernel
theorem dX5_dot_15 : decode cX5_dot 15 = .ok (.getfield 72, 3) := by decide +kernel
theorem dX5_dot_18 : decode cX5_dot 18 = .ok (.iload_n 1, 1) := by decide +kernel
theorem dX5_dot_19 : decode cX5_dot 19 = .ok (.aaload, 1) := by decide +kernel
theorem dX5_dot_20 : decode cX5_dot 20 = .ok (.iload_n 2, 1) := by decide +kernel
theorem dX5_dot_21 : decode cX5_dot 21 = .ok (.invokevirtual 105, 3) := by decide +kernel
theorem dX5_dot_24 : decode cX5_dot 24 = .ok (.ifCond .eq 12, 3) := by decide +kernel
theorem dX5_dot_27 : decode cX5_dot 27 = .ok (.iload_n 3, 1) := by decide +kernel
theorem dX5_dot_28 : decode cX5_dot 28 = .ok (.iconst 0, 1) := by decide +kernel
theorem dX5_dot_29 : decode cX5_dot 29 = .ok (.iconst 2, 1) := by decide +kernel
theorem dX5_dot_30 : decode cX5_dot 30 = .ok (.invokestatic 45, 3) := by decide +kernel
theorem dX5_dot_33 : decode cX5_dot 33 = .ok (.ifCond .eq 5, 3) := by decide +kernel
theorem dX5_dot_36 : decode cX5_dot 36 = .ok (.iconst (-1), 1) := by decide +kernel
theorem dX5_dot_37 : decode cX5_dot 37 = .ok (.ireturn, 1) := by decide +kernel
theorem dX5_dot_38 : decode cX5_dot 38 = .ok (.aload_n 0, 1) := by decide +kernel
theorem dX5_dot_39 : decode cX5_dot 39 = .ok (.getfield 10, 3) := by decide +kernel
theorem dX5_dot_42 : decode cX5_dot 42 = .ok (.getfield 72, 3) := by decide +kernel
theorem dX5_dot_45 : decode cX5_dot 45 = .ok (.iload_n 1, 1) := by decide +kernel
theorem dX5_dot_46 : decode cX5_dot 46 = .ok (.aaload, 1) := by decide +kernel
theorem dX5_dot_47 : decode cX5_dot 47 = .ok (.astore 4, 2) := by decide +kernel
theorem dX5_dot_49 : decode cX5_dot 49 = .ok (.iload_n 3, 1) := by decide +kernel
theorem dX5_dot_50 : decode cX5_dot 50 = .ok (.iconst 2, 1) := by decide +kernel
theorem dX5_dot_51 : decode cX5_dot 51 = .ok (.if_icmp .ne 19, 3) := by decide +kernel
theorem dX5_dot_54 : decode cX5_dot 54 = .ok (.aload 4, 2) := by decide +kernel
theorem dX5_dot_56 : decode cX5_dot 56 = .ok (.getfield 108, 3) := by decide +kernel
theorem dX5_dot_59 : decode cX5_dot 59 = .ok (.iload_n 2, 1) := by decide +kernel
theorem dX5_dot_60 : decode cX5_dot 60 = .ok (.baload, 1) := by decide +kernel
theorem dX5_dot_61 : decode cX5_dot 61 = .ok (.ifCond .eq 7, 3) := by decide +kernel
theorem dX5_dot_64 : decode cX5_dot 64 = .ok (.iconst 1, 1) := by decide +kernel
theorem dX5_dot_65 : decode cX5_dot 65 = .ok (.goto 4, 3) := by decide +kernel
theorem dX5_dot_68 : decode cX5_dot 68 = .ok (.iconst 0, 1) := by decide +kernel
theorem dX5_dot_69 : decode cX5_dot 69 = .ok (.ireturn, 1) := by decide +kernel
theorem dX5_dot_70 : decode cX5_dot 70 = .ok (.iload_n 3, 1) := by decide +kernel
theorem dX5_dot_71 : decode cX5_dot 71 = .ok (.ifCond .ne 12, 3) := by decide +kernel
theorem dX5_dot_74 : decode cX5_dot 74 = .ok (.aload 4, 2) := by decide +kernel
theorem dX5_dot_76 : decode cX5_dot 76 = .ok (.iload_n 2, 1) := by decide +kernel
theorem dX5_dot_77 : decode cX5_dot 77 = .ok (.invokevirtual 130, 3) := by decide +kernel
theorem dX5_dot_80 : decode cX5_dot 80 = .ok (.goto 9, 3) := by decide +kernel
theorem dX5_dot_83 : decode cX5_dot 83 = .ok (.aload 4, 2) := by decide +kernel
theorem dX5_dot_85 : decode cX5_dot 85 = .ok (.iload_n 2, 1) := by decide +kernel
theorem dX5_dot_86 : decode cX5_dot 86 = .ok (.invokevirtual 133, 3) := by decide +kernel
theorem dX5_dot_89 : decode cX5_dot 89 = .ok (.ireturn, 1) := by decide +kernel
theorem dX5_set_0 : decode cX5_set 0 = .ok (.aload_n 0, 1) := by decide +kernel
theorem dX5_set_1 : decode cX5_set 1 = .ok (.iload_n 1, 1) := by decide +kernel
theorem dX5_set_2 : decode cX5_set 2 = .ok (.iload_n 2, 1) := by decide +kernel
theorem dX5_set_3 : decode cX5_set 3 = .ok (.invokevirtual 136, 3) := by decide +kernel
theorem dX5_set_6 : decode cX5_set 6 = .ok (.istore_n 3, 1) := by decide +kernel
theorem dX5_set_7 : decode cX5_set 7 = .ok (.iload_n 3, 1) := by decide +kernel
theorem dX5_set_8 : decode cX5_set 8 = .ok (.ifCond .ge 7, 3) := by decide +kernel
theorem dX5_set_11 : decode cX5_set 11 = .ok (.iload_n 3, 1) := by decide +kernel
theorem dX5_set_12 : decode cX5_set 12 = .ok (.goto 12, 3) := by decide +kernel
theorem dX5_set_15 : decode cX5_set 15 = .ok (.aload_n 0, 1) := by decide +kernel
theorem dX5_set_16 : decode cX5_set 16 = .ok (.getfield 38, 3) := by decide +kernel
theorem dX5_set_19 : decode cX5_set 19 = .ok (.iload_n 1, 1) := by decide +kernel
theorem dX5_set_20 : decode cX5_set 20 = .ok (.iload_n 2, 1) := by decide +kernel
theorem dX5_set_21 : decode cX5_set 21 = .ok (.invokevirtual 140, 3) := by decide +kernel
theorem dX5_set_24 : decode cX5_set 24 = .ok (.ireturn, 1) := by decide +kernel
theorem dX5_steps_0 : decode cX5_steps 0 = .ok (.aload_n 0, 1) := by decide +kernel
theorem dX5_steps_1 : decode cX5_steps 1 = .ok (.getfield 10, 3) := by decide +kernel
theorem dX5_steps_4 : decode cX5_steps 4 = .ok (.iload_n 1, 1) := by decide +kernel
theorem dX5_steps_5 : decode cX5_steps 5 = .ok (.invokevirtual 81, 3) := by decide +kernel
theorem dX5_steps_8 : decode cX5_steps 8 = .ok (.ifCond .eq 12, 3) := by decide +kernel
theorem dX5_steps_11 : decode cX5_steps 11 = .ok (.iload_n 2, 1) := by decide +kernel
theorem dX5_steps_12 : decode cX5_steps 12 = .ok (.iconst 0, 1) := by decide +kernel
theorem dX5_steps_13 : decode cX5_steps 13 = .ok (.iconst 2, 1) := by decide +kernel
theorem dX5_steps_14 : decode cX5_steps 14 = .ok (.invokestatic 45, 3) := by decide +kernel
theorem dX5_steps_17 : decode cX5_steps 17 = .ok (.ifCond .eq 5, 3) := by decide +kernel
theorem dX5_steps_20 : decode cX5_steps 20 = .ok (.iconst (-1), 1) := by decide +kernel
theorem dX5_steps_21 : decode cX5_steps 21 = .ok (.ireturn, 1) := by decide +kernel
theorem dX5_steps_22 : decode cX5_steps 22 = .ok (.aload_n 0, 1) := by decide +kernel
theorem dX5_steps_23 : decode cX5_steps 23 = .ok (.getfield 38, 3) := by decide +kernel
theorem dX5_steps_26 : decode cX5_steps 26 = .ok (.aload_n 0, 1) := by decide +kernel
theorem dX5_steps_27 : decode cX5_steps 27 = .ok (.getfield 10, 3) := by decide +kernel
theorem dX5_steps_30 : decode cX5_steps 30 = .ok (.iload_n 1, 1) := by decide +kernel
theorem dX5_steps_31 : decode cX5_steps 31 = .ok (.iconst (-1), 1) := by decide +kernel
theorem dX5_steps_32 : decode cX5_steps 32 = .ok (.invokevirtual 143, 3) := by decide +kernel
theorem dX5_steps_35 : decode cX5_steps 35 = .ok (.aload_n 0, 1) := by decide +kernel
theorem dX5_steps_36 : decode cX5_steps 36 = .ok (.getfield 38, 3) := by decide +kernel
theorem dX5_steps_39 : decode cX5_steps 39 = .ok (.getfield 147, 3) := by decide +kernel
theorem dX5_steps_42 : decode cX5_steps 42 = .ok (.iload_n 1, 1) := by decide +kernel
theorem dX5_steps_43 : decode cX5_steps 43 = .ok (.baload, 1) := by decide +kernel
theorem dX5_steps_44 : decode cX5_steps 44 = .ok (.ifCond .ne 6, 3) := by decide +kernel
theorem dX5_steps_47 : decode cX5_steps 47 = .ok (.bipush (-3), 2) := by decide +kernel
theorem dX5_steps_49 : decode cX5_steps 49 = .ok (.ireturn, 1) := by decide +kernel
theorem dX5_steps_50 : decode cX5_steps 50 = .ok (.iload_n 2, 1) := by decide +kernel
theorem dX5_steps_51 : decode cX5_steps 51 = .ok (.iconst 2, 1) := by decide +kernel
theorem dX5_steps_52 : decode cX5_steps 52 = .ok (.if_icmp .ne 24, 3) := by decide +kernel
theorem dX5_steps_55 : decode cX5_steps 55 = .ok (.aload_n 0, 1) := by decide +kernel
theorem dX5_steps_56 : decode cX5_steps 56 = .ok (.getfield 10, 3) := by decide +kernel
theorem dX5_steps_59 : decode cX5_steps 59 = .ok (.getfield 72, 3) := by decide +kernel
theorem dX5_steps_62 : decode cX5_steps 62 = .ok (.iload_n 1, 1) := by decide +kernel
theorem dX5_steps_63 : decode cX5_steps 63 = .ok (.aaload, 1) := by decide +kernel
theorem dX5_steps_64 : decode cX5_steps 64 = .ok (.getfield 111, 3) := by decide +kernel
theorem dX5_steps_67 : decode cX5_steps 67 = .ok (.aload_n 0, 1) := by decide +kernel
theorem dX5_steps_68 : decode cX5_steps 68 = .ok (.getfield 10, 3) := by decide +kernel
theorem dX5_steps_71 : decode cX5_steps 71 = .ok (.invokevirtual 150, 3) := by decide +kernel
theorem dX5_steps_74 : decode cX5_steps 74 = .ok (.isub, 1) := by decide +kernel
theorem dX5_steps_75 : decode cX5_steps 75 = .ok (.ireturn, 1) := by decide +kernel
theorem dX5_steps_76 : decode cX5_steps 76 = .ok (.iload_n 2, 1) := by decide +kernel
theorem dX5_steps_77 : decode cX5_steps 77 = .ok (.ifCond .ne 15, 3) := by decide +kernel
theorem dX5_steps_80 : decode cX5_steps 80 = .ok (.aload_n 0, 1) := by decide +kernel
theorem dX5_steps_81 : decode cX5_steps 81 = .ok (.getfield 38, 3) := by decide +kernel
theorem dX5_steps_84 : decode cX5_steps 84 = .ok (.getfield 154, 3) := by decide +kernel
theorem dX5_steps_87 : decode cX5_steps 87 = .ok (.iload_n 1, 1) := by decide +kernel
theorem dX5_steps_88 : decode cX5_steps 88 = .ok (.iaload, 1) := by decide +kernel
theorem dX5_steps_89 : decode cX5_steps 89 = .ok (.goto 12, 3) := by decide +kernel
theorem dX5_steps_92 : decode cX5_steps 92 = .ok (.aload_n 0, 1) := by decide +kernel
theorem dX5_steps_93 : decode cX5_steps 93 = .ok (.getfield 38, 3) := by decide +kernel
theorem dX5_steps_96 : decode cX5_steps 96 = .ok (.getfield 157, 3) := by decide +kernel
theorem dX5_steps_99 : decode cX5_steps 99 = .ok (.iload_n 1, 1) := by decide +kernel
theorem dX5_steps_100 : decode cX5_steps 100 = .ok (.iaload, 1) := by decide +kernel
theorem dX5_steps_101 : decode cX5_steps 101 = .ok (.ireturn, 1) := by decide +kernel
theorem dX5_way_0 : decode cX5_way 0 = .ok (.aload_n 0, 1) := by decide +kernel
theorem dX5_way_1 : decode cX5_way 1 = .ok (.getfield 10, 3) := by decide +kernel
theorem dX5_way_4 : decode cX5_way 4 = .ok (.iload_n 1, 1) := by decide +kernel
theorem dX5_way_5 : decode cX5_way 5 = .ok (.invokevirtual 81, 3) := by decide +kernel
theorem dX5_way_8 : decode cX5_way 8 = .ok (.ifCond .eq 17, 3) := by decide +kernel
theorem dX5_way_11 : decode cX5_way 11 = .ok (.iload_n 1, 1) := by decide +kernel
theorem dX5_way_12 : decode cX5_way 12 = .ok (.ifCond .eq 13, 3) := by decide +kernel
theorem dX5_way_15 : decode cX5_way 15 = .ok (.iload 4, 2) := by decide +kernel
theorem dX5_way_17 : decode cX5_way 17 = .ok (.iconst 0, 1) := by decide +kernel
theorem dX5_way_18 : decode cX5_way 18 = .ok (.iconst 3, 1) := by decide +kernel
theorem dX5_way_19 : decode cX5_way 19 = .ok (.invokestatic 45, 3) := by decide +kernel
theorem dX5_way_22 : decode cX5_way 22 = .ok (.ifCond .eq 5, 3) := by decide +kernel
theorem dX5_way_25 : decode cX5_way 25 = .ok (.iconst (-1), 1) := by decide +kernel
theorem dX5_way_26 : decode cX5_way 26 = .ok (.ireturn, 1) := by decide +kernel
theorem dX5_way_27 : decode cX5_way 27 = .ok (.iconst 2, 1) := by decide +kernel
theorem dX5_way_28 : decode cX5_way 28 = .ok (.aload_n 0, 1) := by decide +kernel
theorem dX5_way_29 : decode cX5_way 29 = .ok (.getfield 10, 3) := by decide +kernel
theorem dX5_way_32 : decode cX5_way 32 = .ok (.getfield 72, 3) := by decide +kernel
theorem dX5_way_35 : decode cX5_way 35 = .ok (.iload_n 1, 1) := by decide +kernel
theorem dX5_way_36 : decode cX5_way 36 = .ok (.aaload, 1) := by decide +kernel
theorem dX5_way_37 : decode cX5_way 37 = .ok (.getfield 84, 3) := by decide +kernel
theorem dX5_way_40 : decode cX5_way 40 = .ok (.imul, 1) := by decide +kernel
theorem dX5_way_41 : decode cX5_way 41 = .ok (.istore 5, 2) := by decide +kernel
theorem dX5_way_43 : decode cX5_way 43 = .ok (.iload_n 3, 1) := by decide +kernel
theorem dX5_way_44 : decode cX5_way 44 = .ok (.iconst 0, 1) := by decide +kernel
theorem dX5_way_45 : decode cX5_way 45 = .ok (.iload 5, 2) := by decide +kernel
theorem dX5_way_47 : decode cX5_way 47 = .ok (.invokestatic 45, 3) := by decide +kernel
theorem dX5_way_50 : decode cX5_way 50 = .ok (.ifCond .eq 5, 3) := by decide +kernel
theorem dX5_way_53 : decode cX5_way 53 = .ok (.iconst (-1), 1) := by decide +kernel
theorem dX5_way_54 : decode cX5_way 54 = .ok (.ireturn, 1) := by decide +kernel
theorem dX5_way_55 : decode cX5_way 55 = .ok (.aload_n 0, 1) := by decide +kernel
theorem dX5_way_56 : decode cX5_way 56 = .ok (.iload_n 1, 1) := by decide +kernel
theorem dX5_way_57 : decode cX5_way 57 = .ok (.iload_n 2, 1) := by decide +kernel
theorem dX5_way_58 : decode cX5_way 58 = .ok (.invokevirtual 136, 3) := by decide +kernel
theorem dX5_way_61 : decode cX5_way 61 = .ok (.istore 6, 2) := by decide +kernel
theorem dX5_way_63 : decode cX5_way 63 = .ok (.iload 6, 2) := by decide +kernel
theorem dX5_way_65 : decode cX5_way 65 = .ok (.ifCond .ge 6, 3) := by decide +kernel
theorem dX5_way_68 : decode cX5_way 68 = .ok (.iload 6, 2) := by decide +kernel
theorem dX5_way_70 : decode cX5_way 70 = .ok (.ireturn, 1) := by decide +kernel
theorem dX5_way_71 : decode cX5_way 71 = .ok (.iload 4, 2) := by decide +kernel
theorem dX5_way_73 : decode cX5_way 73 = .ok (.iconst 2, 1) := by decide +kernel
theorem dX5_way_74 : decode cX5_way 74 = .ok (.if_icmp .ge 7, 3) := by decide +kernel
theorem dX5_way_77 : decode cX5_way 77 = .ok (.iconst 1, 1) := by decide +kernel
theorem dX5_way_78 : decode cX5_way 78 = .ok (.goto 4, 3) := by decide +kernel
theorem dX5_way_81 : decode cX5_way 81 = .ok (.iconst 0, 1) := by decide +kernel
theorem dX5_way_82 : decode cX5_way 82 = .ok (.istore 7, 2) := by decide +kernel
theorem dX5_way_84 : decode cX5_way 84 = .ok (.iload 7, 2) := by decide +kernel
theorem dX5_way_86 : decode cX5_way 86 = .ok (.ifCond .eq 14, 3) := by decide +kernel
theorem dX5_way_89 : decode cX5_way 89 = .ok (.aload_n 0, 1) := by decide +kernel
theorem dX5_way_90 : decode cX5_way 90 = .ok (.iload_n 1, 1) := by decide +kernel
theorem dX5_way_91 : decode cX5_way 91 = .ok (.iconst 1, 1) := by decide +kernel
theorem dX5_way_92 : decode cX5_way 92 = .ok (.isub, 1) := by decide +kernel
theorem dX5_way_93 : decode cX5_way 93 = .ok (.iload_n 2, 1) := by decide +kernel
theorem dX5_way_94 : decode cX5_way 94 = .ok (.invokevirtual 160, 3) := by decide +kernel
theorem dX5_way_97 : decode cX5_way 97 = .ok (.goto 11, 3) := by decide +kernel
theorem dX5_way_100 : decode cX5_way 100 = .ok (.aload_n 0, 1) := by decide +kernel
theorem dX5_way_101 : decode cX5_way 101 = .ok (.iload_n 1, 1) := by decide +kernel
theorem dX5_way_102 : decode cX5_way 102 = .ok (.iconst 1, 1) := by decide +kernel
theorem dX5_way_103 : decode cX5_way 103 = .ok (.isub, 1) := by decide +kernel
theorem dX5_way_104 : decode cX5_way 104 = .ok (.iload_n 2, 1) := by decide +kernel
theorem dX5_way_105 : decode cX5_way 105 = .ok (.invokevirtual 163, 3) := by decide +kernel
theorem dX5_way_108 : decode cX5_way 108 = .ok (.istore 8, 2) := by decide +kernel
theorem dX5_way_110 : decode cX5_way 110 = .ok (.iload 7, 2) := by decide +kernel
theorem dX5_way_112 : decode cX5_way 112 = .ok (.ifCond .eq 12, 3) := by decide +kernel
theorem dX5_way_115 : decode cX5_way 115 = .ok (.aload_n 0, 1) := by decide +kernel
theorem dX5_way_116 : decode cX5_way 116 = .ok (.iload_n 1, 1) := by decide +kernel
theorem dX5_way_117 : decode cX5_way 117 = .ok (.iload_n 2, 1) := by decide +kernel
theorem dX5_way_118 : decode cX5_way 118 = .ok (.invokevirtual 160, 3) := by decide +kernel
theorem dX5_way_121 : decode cX5_way 121 = .ok (.goto 9, 3) := by decide +kernel
theorem dX5_way_124 : decode cX5_way 124 = .ok (.aload_n 0, 1) := by decide +kernel
theorem dX5_way_125 : decode cX5_way 125 = .ok (.iload_n 1, 1) := by decide +kernel
theorem dX5_way_126 : decode cX5_way 126 = .ok (.iload_n 2, 1) := by decide +kernel
theorem dX5_way_127 : decode cX5_way 127 = .ok (.invokevirtual 163, 3) := by decide +kernel
theorem dX5_way_130 : decode cX5_way 130 = .ok (.istore 9, 2) := by decide +kernel
theorem dX5_way_132 : decode cX5_way 132 = .ok (.iload 8, 2) := by decide +kernel
theorem dX5_way_134 : decode cX5_way 134 = .ok (.iload 5, 2) := by decide +kernel
theorem dX5_way_136 : decode cX5_way 136 = .ok (.iload_n 3, 1) := by decide +kernel
theorem dX5_way_137 : decode cX5_way 137 = .ok (.isub, 1) := by decide +kernel
theorem dX5_way_138 : decode cX5_way 138 = .ok (.imul, 1) := by decide +kernel
theorem dX5_way_139 : decode cX5_way 139 = .ok (.iload 9, 2) := by decide +kernel
theorem dX5_way_141 : decode cX5_way 141 = .ok (.iload_n 3, 1) := by decide +kernel
theorem dX5_way_142 : decode cX5_way 142 = .ok (.imul, 1) := by decide +kernel
theorem dX5_way_143 : decode cX5_way 143 = .ok (.iadd, 1) := by decide +kernel
theorem dX5_way_144 : decode cX5_way 144 = .ok (.istore 10, 2) := by decide +kernel
theorem dX5_way_146 : decode cX5_way 146 = .ok (.iload 4, 2) := by decide +kernel
theorem dX5_way_148 : decode cX5_way 148 = .ok (.ifCond .eq 9, 3) := by decide +kernel
theorem dX5_way_151 : decode cX5_way 151 = .ok (.iload 4, 2) := by decide +kernel
theorem dX5_way_153 : decode cX5_way 153 = .ok (.iconst 2, 1) := by decide +kernel
theorem dX5_way_154 : decode cX5_way 154 = .ok (.if_icmp .ne 7, 3) := by decide +kernel
theorem dX5_way_157 : decode cX5_way 157 = .ok (.iconst 1, 1) := by decide +kernel
theorem dX5_way_158 : decode cX5_way 158 = .ok (.goto 4, 3) := by decide +kernel
theorem dX5_way_161 : decode cX5_way 161 = .ok (.iconst 0, 1) := by decide +kernel
theorem dX5_way_162 : decode cX5_way 162 = .ok (.istore 11, 2) := by decide +kernel
theorem dX5_way_164 : decode cX5_way 164 = .ok (.iload 11, 2) := by decide +kernel
theorem dX5_way_166 : decode cX5_way 166 = .ok (.ifCond .eq 8, 3) := by decide +kernel
theorem dX5_way_169 : decode cX5_way 169 = .ok (.iload 10, 2) := by decide +kernel
theorem dX5_way_171 : decode cX5_way 171 = .ok (.goto 5, 3) := by decide +kernel
theorem dX5_way_174 : decode cX5_way 174 = .ok (.iload 5, 2) := by decide +kernel
theorem dX5_way_176 : decode cX5_way 176 = .ok (.iload 10, 2) := by decide +kernel
theorem dX5_way_178 : decode cX5_way 178 = .ok (.iload 5, 2) := by decide +kernel
theorem dX5_way_180 : decode cX5_way 180 = .ok (.invokestatic 166, 3) := by decide +kernel
theorem dX5_way_183 : decode cX5_way 183 = .ok (.ireturn, 1) := by decide +kernel
theorem dX5_closest_0 : decode cX5_closest 0 = .ok (.aload_n 0, 1) := by decide +kernel
theorem dX5_closest_1 : decode cX5_closest 1 = .ok (.getfield 10, 3) := by decide +kernel
theorem dX5_closest_4 : decode cX5_closest 4 = .ok (.iload_n 1, 1) := by decide +kernel
theorem dX5_closest_5 : decode cX5_closest 5 = .ok (.invokevirtual 81, 3) := by decide +kernel
theorem dX5_closest_8 : decode cX5_closest 8 = .ok (.ifCond .eq 34, 3) := by decide +kernel
theorem dX5_closest_11 : decode cX5_closest 11 = .ok (.iload_n 1, 1) := by decide +kernel
theorem dX5_closest_12 : decode cX5_closest 12 = .ok (.ifCond .eq 30, 3) := by decide +kernel
theorem dX5_closest_15 : decode cX5_closest 15 = .ok (.aload_n 0, 1) := by decide +kernel
theorem dX5_closest_16 : decode cX5_closest 16 = .ok (.getfield 10, 3) := by decide +kernel
theorem dX5_closest_19 : decode cX5_closest 19 = .ok (.iload_n 2, 1) := by decide +kernel
theorem dX5_closest_20 : decode cX5_closest 20 = .ok (.invokevirtual 65, 3) := by decide +kernel
theorem dX5_closest_23 : decode cX5_closest 23 = .ok (.ifCond .eq 19, 3) := by decide +kernel
theorem dX5_closest_26 : decode cX5_closest 26 = .ok (.aload_n 0, 1) := by decide +kernel
theorem dX5_closest_27 : decode cX5_closest 27 = .ok (.getfield 10, 3) := by decide +kernel
theorem dX5_closest_30 : decode cX5_closest 30 = .ok (.iload_n 3, 1) := by decide +kernel
theorem dX5_closest_31 : decode cX5_closest 31 = .ok (.invokevirtual 65, 3) := by decide +kernel
theorem dX5_closest_34 : decode cX5_closest 34 = .ok (.ifCond .eq 8, 3) := by decide +kernel
theorem dX5_closest_37 : decode cX5_closest 37 = .ok (.iload_n 2, 1) := by decide +kernel
theorem dX5_closest_38 : decode cX5_closest 38 = .ok (.iload_n 3, 1) := by decide +kernel
theorem dX5_closest_39 : decode cX5_closest 39 = .ok (.if_icmp .ne 5, 3) := by decide +kernel
theorem dX5_closest_42 : decode cX5_closest 42 = .ok (.iconst (-1), 1) := by decide +kernel
theorem dX5_closest_43 : decode cX5_closest 43 = .ok (.ireturn, 1) := by decide +kernel
theorem dX5_closest_44 : decode cX5_closest 44 = .ok (.aload_n 0, 1) := by decide +kernel
theorem dX5_closest_45 : decode cX5_closest 45 = .ok (.getfield 10, 3) := by decide +kernel
theorem dX5_closest_48 : decode cX5_closest 48 = .ok (.getfield 57, 3) := by decide +kernel
theorem dX5_closest_51 : decode cX5_closest 51 = .ok (.iload_n 2, 1) := by decide +kernel
theorem dX5_closest_52 : decode cX5_closest 52 = .ok (.baload, 1) := by decide +kernel
theorem dX5_closest_53 : decode cX5_closest 53 = .ok (.ifCond .ne 15, 3) := by decide +kernel
theorem dX5_closest_56 : decode cX5_closest 56 = .ok (.aload_n 0, 1) := by decide +kernel
theorem dX5_closest_57 : decode cX5_closest 57 = .ok (.getfield 10, 3) := by decide +kernel
theorem dX5_closest_60 : decode cX5_closest 60 = .ok (.getfield 57, 3) := by decide +kernel
theorem dX5_closest_63 : decode cX5_closest 63 = .ok (.iload_n 3, 1) := by decide +kernel
theorem dX5_closest_64 : decode cX5_closest 64 = .ok (.baload, 1) := by decide +kernel
theorem dX5_closest_65 : decode cX5_closest 65 = .ok (.ifCond .eq 6, 3) := by decide +kernel
theorem dX5_closest_68 : decode cX5_closest 68 = .ok (.bipush (-5), 2) := by decide +kernel
theorem dX5_closest_70 : decode cX5_closest 70 = .ok (.ireturn, 1) := by decide +kernel
theorem dX5_closest_71 : decode cX5_closest 71 = .ok (.aload_n 0, 1) := by decide +kernel
theorem dX5_closest_72 : decode cX5_closest 72 = .ok (.getfield 38, 3) := by decide +kernel
theorem dX5_closest_75 : decode cX5_closest 75 = .ok (.aload_n 0, 1) := by decide +kernel
theorem dX5_closest_76 : decode cX5_closest 76 = .ok (.getfield 10, 3) := by decide +kernel
theorem dX5_closest_79 : decode cX5_closest 79 = .ok (.iload_n 1, 1) := by decide +kernel
theorem dX5_closest_80 : decode cX5_closest 80 = .ok (.iconst (-1), 1) := by decide +kernel
theorem dX5_closest_81 : decode cX5_closest 81 = .ok (.invokevirtual 143, 3) := by decide +kernel
theorem dX5_closest_84 : decode cX5_closest 84 = .ok (.aload_n 0, 1) := by decide +kernel
theorem dX5_closest_85 : decode cX5_closest 85 = .ok (.getfield 38, 3) := by decide +kernel
theorem dX5_closest_88 : decode cX5_closest 88 = .ok (.getfield 147, 3) := by decide +kernel
theorem dX5_closest_91 : decode cX5_closest 91 = .ok (.iload_n 1, 1) := by decide +kernel
theorem dX5_closest_92 : decode cX5_closest 92 = .ok (.baload, 1) := by decide +kernel
theorem dX5_closest_93 : decode cX5_closest 93 = .ok (.ifCond .ne 6, 3) := by decide +kernel
theorem dX5_closest_96 : decode cX5_closest 96 = .ok (.bipush (-3), 2) := by decide +kernel
theorem dX5_closest_98 : decode cX5_closest 98 = .ok (.ireturn, 1) := by decide +kernel
theorem dX5_closest_99 : decode cX5_closest 99 = .ok (.aload_n 0, 1) := by decide +kernel
theorem dX5_closest_100 : decode cX5_closest 100 = .ok (.getfield 10, 3) := by decide +kernel
theorem dX5_closest_103 : decode cX5_closest 103 = .ok (.getfield 72, 3) := by decide +kernel
theorem dX5_closest_106 : decode cX5_closest 106 = .ok (.iload_n 1, 1) := by decide +kernel
theorem dX5_closest_107 : decode cX5_closest 107 = .ok (.aaload, 1) := by decide +kernel
theorem dX5_closest_108 : decode cX5_closest 108 = .ok (.getfield 84, 3) := by decide +kernel
theorem dX5_closest_111 : decode cX5_closest 111 = .ok (.aload_n 0, 1) := by decide +kernel
theorem dX5_closest_112 : decode cX5_closest 112 = .ok (.iload_n 1, 1) := by decide +kernel
theorem dX5_closest_113 : decode cX5_closest 113 = .ok (.iconst 1, 1) := by decide +kernel
theorem dX5_closest_114 : decode cX5_closest 114 = .ok (.isub, 1) := by decide +kernel
theorem dX5_closest_115 : decode cX5_closest 115 = .ok (.iload_n 2, 1) := by decide +kernel
theorem dX5_closest_116 : decode cX5_closest 116 = .ok (.invokevirtual 160, 3) := by decide +kernel
theorem dX5_closest_119 : decode cX5_closest 119 = .ok (.aload_n 0, 1) := by decide +kernel
theorem dX5_closest_120 : decode cX5_closest 120 = .ok (.iload_n 1, 1) := by decide +kernel
theorem dX5_closest_121 : decode cX5_closest 121 = .ok (.iconst 1, 1) := by decide +kernel
theorem dX5_closest_122 : decode cX5_closest 122 = .ok (.isub, 1) := by decide +kernel
theorem dX5_closest_123 : decode cX5_closest 123 = .ok (.iload_n 3, 1) := by decide +kernel
theorem dX5_closest_124 : decode cX5_closest 124 = .ok (.invokevirtual 160, 3) := by decide +kernel
theorem dX5_closest_127 : decode cX5_closest 127 = .ok (.isub, 1) := by decide +kernel
theorem dX5_closest_128 : decode cX5_closest 128 = .ok (.aload_n 0, 1) := by decide +kernel
theorem dX5_closest_129 : decode cX5_closest 129 = .ok (.iload_n 1, 1) := by decide +kernel
theorem dX5_closest_130 : decode cX5_closest 130 = .ok (.iconst 1, 1) := by decide +kernel
theorem dX5_closest_131 : decode cX5_closest 131 = .ok (.isub, 1) := by decide +kernel
theorem dX5_closest_132 : decode cX5_closest 132 = .ok (.iload_n 2, 1) := by decide +kernel
theorem dX5_closest_133 : decode cX5_closest 133 = .ok (.invokevirtual 163, 3) := by decide +kernel
theorem dX5_closest_136 : decode cX5_closest 136 = .ok (.aload_n 0, 1) := by decide +kernel
theorem dX5_closest_137 : decode cX5_closest 137 = .ok (.iload_n 1, 1) := by decide +kernel
theorem dX5_closest_138 : decode cX5_closest 138 = .ok (.iconst 1, 1) := by decide +kernel
theorem dX5_closest_139 : decode cX5_closest 139 = .ok (.isub, 1) := by decide +kernel
theorem dX5_closest_140 : decode cX5_closest 140 = .ok (.iload_n 3, 1) := by decide +kernel
theorem dX5_closest_141 : decode cX5_closest 141 = .ok (.invokevirtual 163, 3) := by decide +kernel
theorem dX5_closest_144 : decode cX5_closest 144 = .ok (.isub, 1) := by decide +kernel
theorem dX5_closest_145 : decode cX5_closest 145 = .ok (.aload_n 0, 1) := by decide +kernel
theorem dX5_closest_146 : decode cX5_closest 146 = .ok (.iload_n 1, 1) := by decide +kernel
theorem dX5_closest_147 : decode cX5_closest 147 = .ok (.iload_n 2, 1) := by decide +kernel
theorem dX5_closest_148 : decode cX5_closest 148 = .ok (.invokevirtual 160, 3) := by decide +kernel
theorem dX5_closest_151 : decode cX5_closest 151 = .ok (.aload_n 0, 1) := by decide +kernel
theorem dX5_closest_152 : decode cX5_closest 152 = .ok (.iload_n 1, 1) := by decide +kernel
theorem dX5_closest_153 : decode cX5_closest 153 = .ok (.iload_n 3, 1) := by decide +kernel
theorem dX5_closest_154 : decode cX5_closest 154 = .ok (.invokevirtual 160, 3) := by decide +kernel
theorem dX5_closest_157 : decode cX5_closest 157 = .ok (.isub, 1) := by decide +kernel
theorem dX5_closest_158 : decode cX5_closest 158 = .ok (.aload_n 0, 1) := by decide +kernel
theorem dX5_closest_159 : decode cX5_closest 159 = .ok (.iload_n 1, 1) := by decide +kernel
theorem dX5_closest_160 : decode cX5_closest 160 = .ok (.iload_n 2, 1) := by decide +kernel
theorem dX5_closest_161 : decode cX5_closest 161 = .ok (.invokevirtual 163, 3) := by decide +kernel
theorem dX5_closest_164 : decode cX5_closest 164 = .ok (.aload_n 0, 1) := by decide +kernel
theorem dX5_closest_165 : decode cX5_closest 165 = .ok (.iload_n 1, 1) := by decide +kernel
theorem dX5_closest_166 : decode cX5_closest 166 = .ok (.iload_n 3, 1) := by decide +kernel
theorem dX5_closest_167 : decode cX5_closest 167 = .ok (.invokevirtual 163, 3) := by decide +kernel
theorem dX5_closest_170 : decode cX5_closest 170 = .ok (.isub, 1) := by decide +kernel
theorem dX5_closest_171 : decode cX5_closest 171 = .ok (.invokestatic 170, 3) := by decide +kernel
theorem dX5_closest_174 : decode cX5_closest 174 = .ok (.ireturn, 1) := by decide +kernel
end
section
theorem dX5_late_0 : decode cX5_late 0 = .ok (.aload_n 0, 1) := by decide +kernel
theorem dX5_late_1 : decode cX5_late 1 = .ok (.iload_n 1, 1) := by decide +kernel
theorem dX5_late_2 : decode cX5_late 2 = .ok (.iload_n 2, 1) := by decide +kernel
theorem dX5_late_3 : decode cX5_late 3 = .ok (.invokevirtual 136, 3) := by decide +kernel
theorem dX5_late_6 : decode cX5_late 6 = .ok (.istore_n 3, 1) := by decide +kernel
theorem dX5_late_7 : decode cX5_late 7 = .ok (.iload_n 3, 1) := by decide +kernel
theorem dX5_late_8 : decode cX5_late 8 = .ok (.ifCond .ge 5, 3) := by decide +kernel
theorem dX5_late_11 : decode cX5_late 11 = .ok (.iload_n 3, 1) := by decide +kernel
theorem dX5_late_12 : decode cX5_late 12 = .ok (.ireturn, 1) := by decide +kernel
theorem dX5_late_13 : decode cX5_late 13 = .ok (.aload_n 0, 1) := by decide +kernel
theorem dX5_late_14 : decode cX5_late 14 = .ok (.iload_n 1, 1) := by decide +kernel
theorem dX5_late_15 : decode cX5_late 15 = .ok (.iload_n 2, 1) := by decide +kernel
theorem dX5_late_16 : decode cX5_late 16 = .ok (.invokevirtual 160, 3) := by decide +kernel
theorem dX5_late_19 : decode cX5_late 19 = .ok (.aload_n 0, 1) := by decide +kernel
theorem dX5_late_20 : decode cX5_late 20 = .ok (.getfield 10, 3) := by decide +kernel
theorem dX5_late_23 : decode cX5_late 23 = .ok (.getfield 124, 3) := by decide +kernel
theorem dX5_late_26 : decode cX5_late 26 = .ok (.isub, 1) := by decide +kernel
theorem dX5_late_27 : decode cX5_late 27 = .ok (.invokestatic 174, 3) := by decide +kernel
theorem dX5_late_30 : decode cX5_late 30 = .ok (.aload_n 0, 1) := by decide +kernel
theorem dX5_late_31 : decode cX5_late 31 = .ok (.iload_n 1, 1) := by decide +kernel
theorem dX5_late_32 : decode cX5_late 32 = .ok (.iload_n 2, 1) := by decide +kernel
theorem dX5_late_33 : decode cX5_late 33 = .ok (.invokevirtual 163, 3) := by decide +kernel
theorem dX5_late_36 : decode cX5_late 36 = .ok (.aload_n 0, 1) := by decide +kernel
theorem dX5_late_37 : decode cX5_late 37 = .ok (.getfield 10, 3) := by decide +kernel
theorem dX5_late_40 : decode cX5_late 40 = .ok (.getfield 127, 3) := by decide +kernel
theorem dX5_late_43 : decode cX5_late 43 = .ok (.isub, 1) := by decide +kernel
theorem dX5_late_44 : decode cX5_late 44 = .ok (.invokestatic 174, 3) := by decide +kernel
theorem dX5_late_47 : decode cX5_late 47 = .ok (.iadd, 1) := by decide +kernel
theorem dX5_late_48 : decode cX5_late 48 = .ok (.istore 4, 2) := by decide +kernel
theorem dX5_late_50 : decode cX5_late 50 = .ok (.aload_n 0, 1) := by decide +kernel
theorem dX5_late_51 : decode cX5_late 51 = .ok (.getfield 10, 3) := by decide +kernel
theorem dX5_late_54 : decode cX5_late 54 = .ok (.getfield 117, 3) := by decide +kernel
theorem dX5_late_57 : decode cX5_late 57 = .ok (.iconst 1, 1) := by decide +kernel
theorem dX5_late_58 : decode cX5_late 58 = .ok (.if_icmp .ge 8, 3) := by decide +kernel
theorem dX5_late_61 : decode cX5_late 61 = .ok (.iload 4, 2) := by decide +kernel
theorem dX5_late_63 : decode cX5_late 63 = .ok (.goto 13, 3) := by decide +kernel
theorem dX5_late_66 : decode cX5_late 66 = .ok (.iload 4, 2) := by decide +kernel
theorem dX5_late_68 : decode cX5_late 68 = .ok (.aload_n 0, 1) := by decide +kernel
theorem dX5_late_69 : decode cX5_late 69 = .ok (.getfield 10, 3) := by decide +kernel
theorem dX5_late_72 : decode cX5_late 72 = .ok (.getfield 117, 3) := by decide +kernel
theorem dX5_late_75 : decode cX5_late 75 = .ok (.idiv, 1) := by decide +kernel
theorem dX5_late_76 : decode cX5_late 76 = .ok (.ireturn, 1) := by decide +kernel
theorem dX5_hole_0 : decode cX5_hole 0 = .ok (.aload_n 0, 1) := by decide +kernel
theorem dX5_hole_1 : decode cX5_hole 1 = .ok (.getfield 10, 3) := by decide +kernel
theorem dX5_hole_4 : decode cX5_hole 4 = .ok (.iload_n 1, 1) := by decide +kernel
theorem dX5_hole_5 : decode cX5_hole 5 = .ok (.invokevirtual 65, 3) := by decide +kernel
theorem dX5_hole_8 : decode cX5_hole 8 = .ok (.ifCond .ne 5, 3) := by decide +kernel
theorem dX5_hole_11 : decode cX5_hole 11 = .ok (.iconst (-1), 1) := by decide +kernel
theorem dX5_hole_12 : decode cX5_hole 12 = .ok (.ireturn, 1) := by decide +kernel
theorem dX5_hole_13 : decode cX5_hole 13 = .ok (.aload_n 0, 1) := by decide +kernel
theorem dX5_hole_14 : decode cX5_hole 14 = .ok (.getfield 10, 3) := by decide +kernel
theorem dX5_hole_17 : decode cX5_hole 17 = .ok (.getfield 57, 3) := by decide +kernel
theorem dX5_hole_20 : decode cX5_hole 20 = .ok (.iload_n 1, 1) := by decide +kernel
theorem dX5_hole_21 : decode cX5_hole 21 = .ok (.baload, 1) := by decide +kernel
theorem dX5_hole_22 : decode cX5_hole 22 = .ok (.ifCond .eq 6, 3) := by decide +kernel
theorem dX5_hole_25 : decode cX5_hole 25 = .ok (.bipush (-5), 2) := by decide +kernel
theorem dX5_hole_27 : decode cX5_hole 27 = .ok (.ireturn, 1) := by decide +kernel
theorem dX5_hole_28 : decode cX5_hole 28 = .ok (.aload_n 0, 1) := by decide +kernel
theorem dX5_hole_29 : decode cX5_hole 29 = .ok (.getfield 38, 3) := by decide +kernel
theorem dX5_hole_32 : decode cX5_hole 32 = .ok (.aload_n 0, 1) := by decide +kernel
theorem dX5_hole_33 : decode cX5_hole 33 = .ok (.getfield 10, 3) := by decide +kernel
theorem dX5_hole_36 : decode cX5_hole 36 = .ok (.aload_n 0, 1) := by decide +kernel
theorem dX5_hole_37 : decode cX5_hole 37 = .ok (.getfield 10, 3) := by decide +kernel
theorem dX5_hole_40 : decode cX5_hole 40 = .ok (.getfield 69, 3) := by decide +kernel
theorem dX5_hole_43 : decode cX5_hole 43 = .ok (.iconst 1, 1) := by decide +kernel
theorem dX5_hole_44 : decode cX5_hole 44 = .ok (.isub, 1) := by decide +kernel
theorem dX5_hole_45 : decode cX5_hole 45 = .ok (.iconst (-1), 1) := by decide +kernel
theorem dX5_hole_46 : decode cX5_hole 46 = .ok (.invokevirtual 143, 3) := by decide +kernel
theorem dX5_hole_49 : decode cX5_hole 49 = .ok (.aload_n 0, 1) := by decide +kernel
theorem dX5_hole_50 : decode cX5_hole 50 = .ok (.getfield 42, 3) := by decide +kernel
theorem dX5_hole_53 : decode cX5_hole 53 = .ok (.iconst 0, 1) := by decide +kernel
theorem dX5_hole_54 : decode cX5_hole 54 = .ok (.invokevirtual 61, 3) := by decide +kernel
theorem dX5_hole_57 : decode cX5_hole 57 = .ok (.aload_n 0, 1) := by decide +kernel
theorem dX5_hole_58 : decode cX5_hole 58 = .ok (.getfield 42, 3) := by decide +kernel
theorem dX5_hole_61 : decode cX5_hole 61 = .ok (.aload_n 0, 1) := by decide +kernel
theorem dX5_hole_62 : decode cX5_hole 62 = .ok (.getfield 10, 3) := by decide +kernel
theorem dX5_hole_65 : decode cX5_hole 65 = .ok (.aload_n 0, 1) := by decide +kernel
theorem dX5_hole_66 : decode cX5_hole 66 = .ok (.getfield 10, 3) := by decide +kernel
theorem dX5_hole_69 : decode cX5_hole 69 = .ok (.getfield 69, 3) := by decide +kernel
theorem dX5_hole_72 : decode cX5_hole 72 = .ok (.iconst 1, 1) := by decide +kernel
theorem dX5_hole_73 : decode cX5_hole 73 = .ok (.isub, 1) := by decide +kernel
theorem dX5_hole_74 : decode cX5_hole 74 = .ok (.iload_n 1, 1) := by decide +kernel
theorem dX5_hole_75 : decode cX5_hole 75 = .ok (.invokevirtual 143, 3) := by decide +kernel
theorem dX5_hole_78 : decode cX5_hole 78 = .ok (.iconst 0, 1) := by decide +kernel
theorem dX5_hole_79 : decode cX5_hole 79 = .ok (.istore_n 2, 1) := by decide +kernel
theorem dX5_hole_80 : decode cX5_hole 80 = .ok (.iconst 0, 1) := by decide +kernel
theorem dX5_hole_81 : decode cX5_hole 81 = .ok (.istore_n 3, 1) := by decide +kernel
theorem dX5_hole_82 : decode cX5_hole 82 = .ok (.iload_n 3, 1) := by decide +kernel
theorem dX5_hole_83 : decode cX5_hole 83 = .ok (.aload_n 0, 1) := by decide +kernel
theorem dX5_hole_84 : decode cX5_hole 84 = .ok (.getfield 10, 3) := by decide +kernel
theorem dX5_hole_87 : decode cX5_hole 87 = .ok (.getfield 69, 3) := by decide +kernel
theorem dX5_hole_90 : decode cX5_hole 90 = .ok (.if_icmp .ge 18, 3) := by decide +kernel
theorem dX5_hole_93 : decode cX5_hole 93 = .ok (.iload_n 2, 1) := by decide +kernel
theorem dX5_hole_94 : decode cX5_hole 94 = .ok (.aload_n 0, 1) := by decide +kernel
theorem dX5_hole_95 : decode cX5_hole 95 = .ok (.iload_n 3, 1) := by decide +kernel
theorem dX5_hole_96 : decode cX5_hole 96 = .ok (.iload_n 1, 1) := by decide +kernel
theorem dX5_hole_97 : decode cX5_hole 97 = .ok (.invokevirtual 179, 3) := by decide +kernel
theorem dX5_hole_100 : decode cX5_hole 100 = .ok (.iadd, 1) := by decide +kernel
theorem dX5_hole_101 : decode cX5_hole 101 = .ok (.istore_n 2, 1) := by decide +kernel
theorem dX5_hole_102 : decode cX5_hole 102 = .ok (.iinc 3 1, 3) := by decide +kernel
theorem dX5_hole_105 : decode cX5_hole 105 = .ok (.goto (-23), 3) := by decide +kernel
theorem dX5_hole_108 : decode cX5_hole 108 = .ok (.iload_n 2, 1) := by decide +kernel
theorem dX5_hole_109 : decode cX5_hole 109 = .ok (.ireturn, 1) := by decide +kernel
theorem dX5_ready_0 : decode cX5_ready 0 = .ok (.aload_n 0, 1) := by decide +kernel
theorem dX5_ready_1 : decode cX5_ready 1 = .ok (.getfield 38, 3) := by decide +kernel
theorem dX5_ready_4 : decode cX5_ready 4 = .ok (.aload_n 0, 1) := by decide +kernel
theorem dX5_ready_5 : decode cX5_ready 5 = .ok (.getfield 10, 3) := by decide +kernel
theorem dX5_ready_8 : decode cX5_ready 8 = .ok (.aload_n 0, 1) := by decide +kernel
theorem dX5_ready_9 : decode cX5_ready 9 = .ok (.getfield 10, 3) := by decide +kernel
theorem dX5_ready_12 : decode cX5_ready 12 = .ok (.getfield 69, 3) := by decide +kernel
theorem dX5_ready_15 : decode cX5_ready 15 = .ok (.iconst 1, 1) := by decide +kernel
theorem dX5_ready_16 : decode cX5_ready 16 = .ok (.isub, 1) := by decide +kernel
theorem dX5_ready_17 : decode cX5_ready 17 = .ok (.iconst (-1), 1) := by decide +kernel
theorem dX5_ready_18 : decode cX5_ready 18 = .ok (.invokevirtual 143, 3) := by decide +kernel
theorem dX5_ready_21 : decode cX5_ready 21 = .ok (.iconst 0, 1) := by decide +kernel
theorem dX5_ready_22 : decode cX5_ready 22 = .ok (.istore_n 1, 1) := by decide +kernel
theorem dX5_ready_23 : decode cX5_ready 23 = .ok (.iconst 0, 1) := by decide +kernel
theorem dX5_ready_24 : decode cX5_ready 24 = .ok (.istore_n 2, 1) := by decide +kernel
theorem dX5_ready_25 : decode cX5_ready 25 = .ok (.iload_n 2, 1) := by decide +kernel
theorem dX5_ready_26 : decode cX5_ready 26 = .ok (.aload_n 0, 1) := by decide +kernel
theorem dX5_ready_27 : decode cX5_ready 27 = .ok (.getfield 10, 3) := by decide +kernel
theorem dX5_ready_30 : decode cX5_ready 30 = .ok (.getfield 69, 3) := by decide +kernel
theorem dX5_ready_33 : decode cX5_ready 33 = .ok (.if_icmp .ge 24, 3) := by decide +kernel
theorem dX5_ready_36 : decode cX5_ready 36 = .ok (.aload_n 0, 1) := by decide +kernel
theorem dX5_ready_37 : decode cX5_ready 37 = .ok (.getfield 38, 3) := by decide +kernel
theorem dX5_ready_40 : decode cX5_ready 40 = .ok (.getfield 147, 3) := by decide +kernel
theorem dX5_ready_43 : decode cX5_ready 43 = .ok (.iload_n 2, 1) := by decide +kernel
theorem dX5_ready_44 : decode cX5_ready 44 = .ok (.baload, 1) := by decide +kernel
theorem dX5_ready_45 : decode cX5_ready 45 = .ok (.ifCond .eq 6, 3) := by decide +kernel
theorem dX5_ready_48 : decode cX5_ready 48 = .ok (.iinc 1 1, 3) := by decide +kernel
theorem dX5_ready_51 : decode cX5_ready 51 = .ok (.iinc 2 1, 3) := by decide +kernel
theorem dX5_ready_54 : decode cX5_ready 54 = .ok (.goto (-29), 3) := by decide +kernel
theorem dX5_ready_57 : decode cX5_ready 57 = .ok (.iload_n 1, 1) := by decide +kernel
theorem dX5_ready_58 : decode cX5_ready 58 = .ok (.ireturn, 1) := by decide +kernel
theorem dX5_many_0 : decode cX5_many 0 = .ok (.iload_n 1, 1) := by decide +kernel
theorem dX5_many_1 : decode cX5_many 1 = .ok (.tableswitch 78 0 5 #[39, 47, 55, 63, 68, 73], 39) := by decide +kernel
theorem dX5_many_40 : decode cX5_many 40 = .ok (.aload_n 0, 1) := by decide +kernel
theorem dX5_many_41 : decode cX5_many 41 = .ok (.getfield 10, 3) := by decide +kernel
theorem dX5_many_44 : decode cX5_many 44 = .ok (.getfield 49, 3) := by decide +kernel
theorem dX5_many_47 : decode cX5_many 47 = .ok (.ireturn, 1) := by decide +kernel
theorem dX5_many_48 : decode cX5_many 48 = .ok (.aload_n 0, 1) := by decide +kernel
theorem dX5_many_49 : decode cX5_many 49 = .ok (.getfield 10, 3) := by decide +kernel
theorem dX5_many_52 : decode cX5_many 52 = .ok (.invokevirtual 150, 3) := by decide +kernel
theorem dX5_many_55 : decode cX5_many 55 = .ok (.ireturn, 1) := by decide +kernel
theorem dX5_many_56 : decode cX5_many 56 = .ok (.aload_n 0, 1) := by decide +kernel
theorem dX5_many_57 : decode cX5_many 57 = .ok (.getfield 10, 3) := by decide +kernel
theorem dX5_many_60 : decode cX5_many 60 = .ok (.getfield 69, 3) := by decide +kernel
theorem dX5_many_63 : decode cX5_many 63 = .ok (.ireturn, 1) := by decide +kernel
theorem dX5_many_64 : decode cX5_many 64 = .ok (.aload_n 0, 1) := by decide +kernel
theorem dX5_many_65 : decode cX5_many 65 = .ok (.invokevirtual 182, 3) := by decide +kernel
theorem dX5_many_68 : decode cX5_many 68 = .ok (.ireturn, 1) := by decide +kernel
theorem dX5_many_69 : decode cX5_many 69 = .ok (.aload_n 0, 1) := by decide +kernel
theorem dX5_many_70 : decode cX5_many 70 = .ok (.invokevirtual 185, 3) := by decide +kernel
theorem dX5_many_73 : decode cX5_many 73 = .ok (.ireturn, 1) := by decide +kernel
theorem dX5_many_74 : decode cX5_many 74 = .ok (.aload_n 0, 1) := by decide +kernel
theorem dX5_many_75 : decode cX5_many 75 = .ok (.invokevirtual 188, 3) := by decide +kernel
theorem dX5_many_78 : decode cX5_many 78 = .ok (.ireturn, 1) := by decide +kernel
theorem dX5_many_79 : decode cX5_many 79 = .ok (.iconst (-1), 1) := by decide +kernel
theorem dX5_many_80 : decode cX5_many 80 = .ok (.ireturn, 1) := by decide +kernel
theorem dX5_keep_0 : decode cX5_keep 0 = .ok (.aload_n 0, 1) := by decide +kernel
theorem dX5_keep_1 : decode cX5_keep 1 = .ok (.getfield 16, 3) := by decide +kernel
theorem dX5_keep_4 : decode cX5_keep 4 = .ok (.aload_n 0, 1) := by decide +kernel
theorem dX5_keep_5 : decode cX5_keep 5 = .ok (.getfield 10, 3) := by decide +kernel
theorem dX5_keep_8 : decode cX5_keep 8 = .ok (.invokevirtual 191, 3) := by decide +kernel
theorem dX5_keep_11 : decode cX5_keep 11 = .ok (.aload_n 0, 1) := by decide +kernel
theorem dX5_keep_12 : decode cX5_keep 12 = .ok (.iconst 1, 1) := by decide +kernel
theorem dX5_keep_13 : decode cX5_keep 13 = .ok (.putfield 19, 3) := by decide +kernel
theorem dX5_keep_16 : decode cX5_keep 16 = .ok (.iconst 1, 1) := by decide +kernel
theorem dX5_keep_17 : decode cX5_keep 17 = .ok (.ireturn, 1) := by decide +kernel
theorem dX5_back_0 : decode cX5_back 0 = .ok (.aload_n 0, 1) := by decide +kernel
theorem dX5_back_1 : decode cX5_back 1 = .ok (.getfield 19, 3) := by decide +kernel
theorem dX5_back_4 : decode cX5_back 4 = .ok (.ifCond .ne 6, 3) := by decide +kernel
theorem dX5_back_7 : decode cX5_back 7 = .ok (.bipush (-3), 2) := by decide +kernel
theorem dX5_back_9 : decode cX5_back 9 = .ok (.ireturn, 1) := by decide +kernel
theorem dX5_back_10 : decode cX5_back 10 = .ok (.aload_n 0, 1) := by decide +kernel
theorem dX5_back_11 : decode cX5_back 11 = .ok (.getfield 10, 3) := by decide +kernel
theorem dX5_back_14 : decode cX5_back 14 = .ok (.aload_n 0, 1) := by decide +kernel
theorem dX5_back_15 : decode cX5_back 15 = .ok (.getfield 16, 3) := by decide +kernel
theorem dX5_back_18 : decode cX5_back 18 = .ok (.invokevirtual 191, 3) := by decide +kernel
theorem dX5_back_21 : decode cX5_back 21 = .ok (.aload_n 0, 1) := by decide +kernel
theorem dX5_back_22 : decode cX5_back 22 = .ok (.getfield 38, 3) := by decide +kernel
theorem dX5_back_25 : decode cX5_back 25 = .ok (.iconst 0, 1) := by decide +kernel
theorem dX5_back_26 : decode cX5_back 26 = .ok (.invokevirtual 61, 3) := by decide +kernel
theorem dX5_back_29 : decode cX5_back 29 = .ok (.iconst 1, 1) := by decide +kernel
theorem dX5_back_30 : decode cX5_back 30 = .ok (.ireturn, 1) := by decide +kernel
theorem dX5_isOutside_0 : decode cX5_isOutside 0 = .ok (.iload_n 0, 1) := by decide +kernel
theorem dX5_isOutside_1 : decode cX5_isOutside 1 = .ok (.iload_n 1, 1) := by decide +kernel
theorem dX5_isOutside_2 : decode cX5_isOutside 2 = .ok (.if_icmp .lt 8, 3) := by decide +kernel
theorem dX5_isOutside_5 : decode cX5_isOutside 5 = .ok (.iload_n 0, 1) := by decide +kernel
theorem dX5_isOutside_6 : decode cX5_isOutside 6 = .ok (.iload_n 2, 1) := by decide +kernel
theorem dX5_isOutside_7 : decode cX5_isOutside 7 = .ok (.if_icmp .le 7, 3) := by decide +kernel
theorem dX5_isOutside_10 : decode cX5_isOutside 10 = .ok (.iconst 1, 1) := by decide +kernel
theorem dX5_isOutside_11 : decode cX5_isOutside 11 = .ok (.goto 4, 3) := by decide +kernel
theorem dX5_isOutside_14 : decode cX5_isOutside 14 = .ok (.iconst 0, 1) := by decide +kernel
theorem dX5_isOutside_15 : decode cX5_isOutside 15 = .ok (.ireturn, 1) := by decide +kernel
theorem dX5_isOnGrass_0 : decode cX5_isOnGrass 0 = .ok (.iload_n 0, 1) := by decide +kernel
theorem dX5_isOnGrass_1 : decode cX5_isOnGrass 1 = .ok (.iconst 0, 1) := by decide +kernel
theorem dX5_isOnGrass_2 : decode cX5_isOnGrass 2 = .ok (.bipush 40, 2) := by decide +kernel
theorem dX5_isOnGrass_4 : decode cX5_isOnGrass 4 = .ok (.invokestatic 45, 3) := by decide +kernel
theorem dX5_isOnGrass_7 : decode cX5_isOnGrass 7 = .ok (.ifCond .ne 17, 3) := by decide +kernel
theorem dX5_isOnGrass_10 : decode cX5_isOnGrass 10 = .ok (.iload_n 1, 1) := by decide +kernel
theorem dX5_isOnGrass_11 : decode cX5_isOnGrass 11 = .ok (.iconst 0, 1) := by decide +kernel
theorem dX5_isOnGrass_12 : decode cX5_isOnGrass 12 = .ok (.bipush 40, 2) := by decide +kernel
theorem dX5_isOnGrass_14 : decode cX5_isOnGrass 14 = .ok (.invokestatic 45, 3) := by decide +kernel
theorem dX5_isOnGrass_17 : decode cX5_isOnGrass 17 = .ok (.ifCond .ne 7, 3) := by decide +kernel
theorem dX5_isOnGrass_20 : decode cX5_isOnGrass 20 = .ok (.iconst 1, 1) := by decide +kernel
theorem dX5_isOnGrass_21 : decode cX5_isOnGrass 21 = .ok (.goto 4, 3) := by decide +kernel
theorem dX5_isOnGrass_24 : decode cX5_isOnGrass 24 = .ok (.iconst 0, 1) := by decide +kernel
theorem dX5_isOnGrass_25 : decode cX5_isOnGrass 25 = .ok (.ireturn, 1) := by decide +kernel
theorem dX5_leastStep_0 : decode cX5_leastStep 0 = .ok (.iconst 2, 1) := by decide +kernel
theorem dX5_leastStep_1 : decode cX5_leastStep 1 = .ok (.iload_n 0, 1) := by decide +kernel
theorem dX5_leastStep_2 : decode cX5_leastStep 2 = .ok (.imul, 1) := by decide +kernel
theorem dX5_leastStep_3 : decode cX5_leastStep 3 = .ok (.istore 5, 2) := by decide +kernel
theorem dX5_leastStep_5 : decode cX5_leastStep 5 = .ok (.ldc 197, 2) := by decide +kernel
theorem dX5_leastStep_7 : decode cX5_leastStep 7 = .ok (.istore 6, 2) := by decide +kernel
theorem dX5_leastStep_9 : decode cX5_leastStep 9 = .ok (.iconst 1, 1) := by decide +kernel
theorem dX5_leastStep_10 : decode cX5_leastStep 10 = .ok (.istore 7, 2) := by decide +kernel
theorem dX5_leastStep_12 : decode cX5_leastStep 12 = .ok (.iload 7, 2) := by decide +kernel
theorem dX5_leastStep_14 : decode cX5_leastStep 14 = .ok (.iload 5, 2) := by decide +kernel
theorem dX5_leastStep_16 : decode cX5_leastStep 16 = .ok (.if_icmp .ge 58, 3) := by decide +kernel
theorem dX5_leastStep_19 : decode cX5_leastStep 19 = .ok (.iload_n 1, 1) := by decide +kernel
theorem dX5_leastStep_20 : decode cX5_leastStep 20 = .ok (.iload 5, 2) := by decide +kernel
theorem dX5_leastStep_22 : decode cX5_leastStep 22 = .ok (.iload 7, 2) := by decide +kernel
theorem dX5_leastStep_24 : decode cX5_leastStep 24 = .ok (.isub, 1) := by decide +kernel
theorem dX5_leastStep_25 : decode cX5_leastStep 25 = .ok (.imul, 1) := by decide +kernel
theorem dX5_leastStep_26 : decode cX5_leastStep 26 = .ok (.iload_n 3, 1) := by decide +kernel
theorem dX5_leastStep_27 : decode cX5_leastStep 27 = .ok (.iload 7, 2) := by decide +kernel
theorem dX5_leastStep_29 : decode cX5_leastStep 29 = .ok (.imul, 1) := by decide +kernel
theorem dX5_leastStep_30 : decode cX5_leastStep 30 = .ok (.iadd, 1) := by decide +kernel
theorem dX5_leastStep_31 : decode cX5_leastStep 31 = .ok (.invokestatic 174, 3) := by decide +kernel
theorem dX5_leastStep_34 : decode cX5_leastStep 34 = .ok (.istore 8, 2) := by decide +kernel
theorem dX5_leastStep_36 : decode cX5_leastStep 36 = .ok (.iload_n 2, 1) := by decide +kernel
theorem dX5_leastStep_37 : decode cX5_leastStep 37 = .ok (.iload 5, 2) := by decide +kernel
theorem dX5_leastStep_39 : decode cX5_leastStep 39 = .ok (.iload 7, 2) := by decide +kernel
theorem dX5_leastStep_41 : decode cX5_leastStep 41 = .ok (.isub, 1) := by decide +kernel
theorem dX5_leastStep_42 : decode cX5_leastStep 42 = .ok (.imul, 1) := by decide +kernel
theorem dX5_leastStep_43 : decode cX5_leastStep 43 = .ok (.iload 4, 2) := by decide +kernel
theorem dX5_leastStep_45 : decode cX5_leastStep 45 = .ok (.iload 7, 2) := by decide +kernel
theorem dX5_leastStep_47 : decode cX5_leastStep 47 = .ok (.imul, 1) := by decide +kernel
theorem dX5_leastStep_48 : decode cX5_leastStep 48 = .ok (.iadd, 1) := by decide +kernel
theorem dX5_leastStep_49 : decode cX5_leastStep 49 = .ok (.invokestatic 174, 3) := by decide +kernel
theorem dX5_leastStep_52 : decode cX5_leastStep 52 = .ok (.istore 9, 2) := by decide +kernel
theorem dX5_leastStep_54 : decode cX5_leastStep 54 = .ok (.iload 6, 2) := by decide +kernel
theorem dX5_leastStep_56 : decode cX5_leastStep 56 = .ok (.iload 8, 2) := by decide +kernel
theorem dX5_leastStep_58 : decode cX5_leastStep 58 = .ok (.iload 9, 2) := by decide +kernel
theorem dX5_leastStep_60 : decode cX5_leastStep 60 = .ok (.invokestatic 198, 3) := by decide +kernel
theorem dX5_leastStep_63 : decode cX5_leastStep 63 = .ok (.invokestatic 201, 3) := by decide +kernel
theorem dX5_leastStep_66 : decode cX5_leastStep 66 = .ok (.istore 6, 2) := by decide +kernel
theorem dX5_leastStep_68 : decode cX5_leastStep 68 = .ok (.iinc 7 1, 3) := by decide +kernel
theorem dX5_leastStep_71 : decode cX5_leastStep 71 = .ok (.goto (-59), 3) := by decide +kernel
theorem dX5_leastStep_74 : decode cX5_leastStep 74 = .ok (.iload 6, 2) := by decide +kernel
theorem dX5_leastStep_76 : decode cX5_leastStep 76 = .ok (.ireturn, 1) := by decide +kernel
theorem dX5_cleared_0 : decode cX5_cleared 0 = .ok (.iload_n 2, 1) := by decide +kernel
theorem dX5_cleared_1 : decode cX5_cleared 1 = .ok (.istore_n 3, 1) := by decide +kernel
theorem dX5_cleared_2 : decode cX5_cleared 2 = .ok (.iload_n 3, 1) := by decide +kernel
theorem dX5_cleared_3 : decode cX5_cleared 3 = .ok (.iconst 1, 1) := by decide +kernel
theorem dX5_cleared_4 : decode cX5_cleared 4 = .ok (.if_icmp .le 25, 3) := by decide +kernel
theorem dX5_cleared_7 : decode cX5_cleared 7 = .ok (.iload_n 1, 1) := by decide +kernel
theorem dX5_cleared_8 : decode cX5_cleared 8 = .ok (.iload_n 3, 1) := by decide +kernel
theorem dX5_cleared_9 : decode cX5_cleared 9 = .ok (.irem, 1) := by decide +kernel
theorem dX5_cleared_10 : decode cX5_cleared 10 = .ok (.ifCond .ne 13, 3) := by decide +kernel
theorem dX5_cleared_13 : decode cX5_cleared 13 = .ok (.iload_n 2, 1) := by decide +kernel
theorem dX5_cleared_14 : decode cX5_cleared 14 = .ok (.iload_n 3, 1) := by decide +kernel
theorem dX5_cleared_15 : decode cX5_cleared 15 = .ok (.irem, 1) := by decide +kernel
theorem dX5_cleared_16 : decode cX5_cleared 16 = .ok (.ifCond .ne 7, 3) := by decide +kernel
theorem dX5_cleared_19 : decode cX5_cleared 19 = .ok (.iload_n 0, 1) := by decide +kernel
theorem dX5_cleared_20 : decode cX5_cleared 20 = .ok (.iload_n 3, 1) := by decide +kernel
theorem dX5_cleared_21 : decode cX5_cleared 21 = .ok (.idiv, 1) := by decide +kernel
theorem dX5_cleared_22 : decode cX5_cleared 22 = .ok (.ireturn, 1) := by decide +kernel
theorem dX5_cleared_23 : decode cX5_cleared 23 = .ok (.iinc 3 (-1), 3) := by decide +kernel
theorem dX5_cleared_26 : decode cX5_cleared 26 = .ok (.goto (-24), 3) := by decide +kernel
theorem dX5_cleared_29 : decode cX5_cleared 29 = .ok (.iload_n 0, 1) := by decide +kernel
theorem dX5_cleared_30 : decode cX5_cleared 30 = .ok (.ireturn, 1) := by decide +kernel
theorem dX5_draw_0 : decode cX5_draw 0 = .ok (.aload_n 0, 1) := by decide +kernel
theorem dX5_draw_1 : decode cX5_draw 1 = .ok (.getfield 10, 3) := by decide +kernel
theorem dX5_draw_4 : decode cX5_draw 4 = .ok (.getfield 72, 3) := by decide +kernel
theorem dX5_draw_7 : decode cX5_draw 7 = .ok (.iload_n 1, 1) := by decide +kernel
theorem dX5_draw_8 : decode cX5_draw 8 = .ok (.aaload, 1) := by decide +kernel
theorem dX5_draw_9 : decode cX5_draw 9 = .ok (.astore_n 2, 1) := by decide +kernel
theorem dX5_draw_10 : decode cX5_draw 10 = .ok (.aload_n 2, 1) := by decide +kernel
theorem dX5_draw_11 : decode cX5_draw 11 = .ok (.aload_n 0, 1) := by decide +kernel
theorem dX5_draw_12 : decode cX5_draw 12 = .ok (.getfield 26, 3) := by decide +kernel
theorem dX5_draw_15 : decode cX5_draw 15 = .ok (.invokevirtual 204, 3) := by decide +kernel
theorem dX5_draw_18 : decode cX5_draw 18 = .ok (.ifCond .ne 6, 3) := by decide +kernel
theorem dX5_draw_21 : decode cX5_draw 21 = .ok (.bipush (-4), 2) := by decide +kernel
theorem dX5_draw_23 : decode cX5_draw 23 = .ok (.ireturn, 1) := by decide +kernel
theorem dX5_draw_24 : decode cX5_draw 24 = .ok (.aload_n 2, 1) := by decide +kernel
theorem dX5_draw_25 : decode cX5_draw 25 = .ok (.aload_n 0, 1) := by decide +kernel
theorem dX5_draw_26 : decode cX5_draw 26 = .ok (.getfield 26, 3) := by decide +kernel
theorem dX5_draw_29 : decode cX5_draw 29 = .ok (.invokevirtual 208, 3) := by decide +kernel
theorem dX5_draw_32 : decode cX5_draw 32 = .ok (.aload_n 0, 1) := by decide +kernel
theorem dX5_draw_33 : decode cX5_draw 33 = .ok (.getfield 38, 3) := by decide +kernel
theorem dX5_draw_36 : decode cX5_draw 36 = .ok (.iload_n 1, 1) := by decide +kernel
theorem dX5_draw_37 : decode cX5_draw 37 = .ok (.invokevirtual 61, 3) := by decide +kernel
theorem dX5_draw_40 : decode cX5_draw 40 = .ok (.aload_n 2, 1) := by decide +kernel
theorem dX5_draw_41 : decode cX5_draw 41 = .ok (.getfield 111, 3) := by decide +kernel
theorem dX5_draw_44 : decode cX5_draw 44 = .ok (.ireturn, 1) := by decide +kernel
theorem dX5_refusalOf_0 : decode cX5_refusalOf 0 = .ok (.aload_n 0, 1) := by decide +kernel
theorem dX5_refusalOf_1 : decode cX5_refusalOf 1 = .ok (.getfield 10, 3) := by decide +kernel
theorem dX5_refusalOf_4 : decode cX5_refusalOf 4 = .ok (.iload_n 1, 1) := by decide +kernel
theorem dX5_refusalOf_5 : decode cX5_refusalOf 5 = .ok (.invokevirtual 81, 3) := by decide +kernel
theorem dX5_refusalOf_8 : decode cX5_refusalOf 8 = .ok (.ifCond .eq 14, 3) := by decide +kernel
theorem dX5_refusalOf_11 : decode cX5_refusalOf 11 = .ok (.aload_n 0, 1) := by decide +kernel
theorem dX5_refusalOf_12 : decode cX5_refusalOf 12 = .ok (.getfield 10, 3) := by decide +kernel
theorem dX5_refusalOf_15 : decode cX5_refusalOf 15 = .ok (.iload_n 2, 1) := by decide +kernel
theorem dX5_refusalOf_16 : decode cX5_refusalOf 16 = .ok (.invokevirtual 65, 3) := by decide +kernel
theorem dX5_refusalOf_19 : decode cX5_refusalOf 19 = .ok (.ifCond .ne 5, 3) := by decide +kernel
theorem dX5_refusalOf_22 : decode cX5_refusalOf 22 = .ok (.iconst (-1), 1) := by decide +kernel
theorem dX5_refusalOf_23 : decode cX5_refusalOf 23 = .ok (.ireturn, 1) := by decide +kernel
theorem dX5_refusalOf_24 : decode cX5_refusalOf 24 = .ok (.aload_n 0, 1) := by decide +kernel
theorem dX5_refusalOf_25 : decode cX5_refusalOf 25 = .ok (.getfield 10, 3) := by decide +kernel
theorem dX5_refusalOf_28 : decode cX5_refusalOf 28 = .ok (.getfield 57, 3) := by decide +kernel
theorem dX5_refusalOf_31 : decode cX5_refusalOf 31 = .ok (.iload_n 2, 1) := by decide +kernel
theorem dX5_refusalOf_32 : decode cX5_refusalOf 32 = .ok (.baload, 1) := by decide +kernel
theorem dX5_refusalOf_33 : decode cX5_refusalOf 33 = .ok (.ifCond .eq 6, 3) := by decide +kernel
theorem dX5_refusalOf_36 : decode cX5_refusalOf 36 = .ok (.bipush (-5), 2) := by decide +kernel
theorem dX5_refusalOf_38 : decode cX5_refusalOf 38 = .ok (.ireturn, 1) := by decide +kernel
theorem dX5_refusalOf_39 : decode cX5_refusalOf 39 = .ok (.aload_n 0, 1) := by decide +kernel
theorem dX5_refusalOf_40 : decode cX5_refusalOf 40 = .ok (.getfield 38, 3) := by decide +kernel
theorem dX5_refusalOf_43 : decode cX5_refusalOf 43 = .ok (.aload_n 0, 1) := by decide +kernel
theorem dX5_refusalOf_44 : decode cX5_refusalOf 44 = .ok (.getfield 10, 3) := by decide +kernel
theorem dX5_refusalOf_47 : decode cX5_refusalOf 47 = .ok (.iload_n 1, 1) := by decide +kernel
theorem dX5_refusalOf_48 : decode cX5_refusalOf 48 = .ok (.iconst (-1), 1) := by decide +kernel
theorem dX5_refusalOf_49 : decode cX5_refusalOf 49 = .ok (.invokevirtual 143, 3) := by decide +kernel
theorem dX5_refusalOf_52 : decode cX5_refusalOf 52 = .ok (.aload_n 0, 1) := by decide +kernel
theorem dX5_refusalOf_53 : decode cX5_refusalOf 53 = .ok (.getfield 38, 3) := by decide +kernel
theorem dX5_refusalOf_56 : decode cX5_refusalOf 56 = .ok (.getfield 147, 3) := by decide +kernel
theorem dX5_refusalOf_59 : decode cX5_refusalOf 59 = .ok (.iload_n 1, 1) := by decide +kernel
theorem dX5_refusalOf_60 : decode cX5_refusalOf 60 = .ok (.baload, 1) := by decide +kernel
theorem dX5_refusalOf_61 : decode cX5_refusalOf 61 = .ok (.ifCond .eq 7, 3) := by decide +kernel
theorem dX5_refusalOf_64 : decode cX5_refusalOf 64 = .ok (.iconst 0, 1) := by decide +kernel
theorem dX5_refusalOf_65 : decode cX5_refusalOf 65 = .ok (.goto 5, 3) := by decide +kernel
theorem dX5_refusalOf_68 : decode cX5_refusalOf 68 = .ok (.bipush (-3), 2) := by decide +kernel
theorem dX5_refusalOf_70 : decode cX5_refusalOf 70 = .ok (.ireturn, 1) := by decide +kernel
theorem dX5_xIn_0 : decode cX5_xIn 0 = .ok (.aload_n 0, 1) := by decide +kernel
theorem dX5_xIn_1 : decode cX5_xIn 1 = .ok (.getfield 10, 3) := by decide +kernel
theorem dX5_xIn_4 : decode cX5_xIn 4 = .ok (.getfield 72, 3) := by decide +kernel
theorem dX5_xIn_7 : decode cX5_xIn 7 = .ok (.iload_n 1, 1) := by decide +kernel
theorem dX5_xIn_8 : decode cX5_xIn 8 = .ok (.aaload, 1) := by decide +kernel
theorem dX5_xIn_9 : decode cX5_xIn 9 = .ok (.aload_n 0, 1) := by decide +kernel
theorem dX5_xIn_10 : decode cX5_xIn 10 = .ok (.getfield 38, 3) := by decide +kernel
theorem dX5_xIn_13 : decode cX5_xIn 13 = .ok (.iload_n 1, 1) := by decide +kernel
theorem dX5_xIn_14 : decode cX5_xIn 14 = .ok (.iload_n 2, 1) := by decide +kernel
theorem dX5_xIn_15 : decode cX5_xIn 15 = .ok (.invokevirtual 140, 3) := by decide +kernel
theorem dX5_xIn_18 : decode cX5_xIn 18 = .ok (.invokevirtual 130, 3) := by decide +kernel
theorem dX5_xIn_21 : decode cX5_xIn 21 = .ok (.ireturn, 1) := by decide +kernel
theorem dX5_yIn_0 : decode cX5_yIn 0 = .ok (.aload_n 0, 1) := by decide +kernel
theorem dX5_yIn_1 : decode cX5_yIn 1 = .ok (.getfield 10, 3) := by decide +kernel
theorem dX5_yIn_4 : decode cX5_yIn 4 = .ok (.getfield 72, 3) := by decide +kernel
theorem dX5_yIn_7 : decode cX5_yIn 7 = .ok (.iload_n 1, 1) := by decide +kernel
theorem dX5_yIn_8 : decode cX5_yIn 8 = .ok (.aaload, 1) := by decide +kernel
theorem dX5_yIn_9 : decode cX5_yIn 9 = .ok (.aload_n 0, 1) := by decide +kernel
theorem dX5_yIn_10 : decode cX5_yIn 10 = .ok (.getfield 38, 3) := by decide +kernel
theorem dX5_yIn_13 : decode cX5_yIn 13 = .ok (.iload_n 1, 1) := by decide +kernel
theorem dX5_yIn_14 : decode cX5_yIn 14 = .ok (.iload_n 2, 1) := by decide +kernel
theorem dX5_yIn_15 : decode cX5_yIn 15 = .ok (.invokevirtual 140, 3) := by decide +kernel
theorem dX5_yIn_18 : decode cX5_yIn 18 = .ok (.invokevirtual 133, 3) := by decide +kernel
theorem dX5_yIn_21 : decode cX5_yIn 21 = .ok (.ireturn, 1) := by decide +kernel
theorem dX5_changesIn_0 : decode cX5_changesIn 0 = .ok (.aload_n 0, 1) := by decide +kernel
theorem dX5_changesIn_1 : decode cX5_changesIn 1 = .ok (.getfield 38, 3) := by decide +kernel
theorem dX5_changesIn_4 : decode cX5_changesIn 4 = .ok (.getfield 147, 3) := by decide +kernel
theorem dX5_changesIn_7 : decode cX5_changesIn 7 = .ok (.iload_n 1, 1) := by decide +kernel
theorem dX5_changesIn_8 : decode cX5_changesIn 8 = .ok (.baload, 1) := by decide +kernel
theorem dX5_changesIn_9 : decode cX5_changesIn 9 = .ok (.aload_n 0, 1) := by decide +kernel
theorem dX5_changesIn_10 : decode cX5_changesIn 10 = .ok (.getfield 42, 3) := by decide +kernel
theorem dX5_changesIn_13 : decode cX5_changesIn 13 = .ok (.getfield 147, 3) := by decide +kernel
theorem dX5_changesIn_16 : decode cX5_changesIn 16 = .ok (.iload_n 1, 1) := by decide +kernel
theorem dX5_changesIn_17 : decode cX5_changesIn 17 = .ok (.baload, 1) := by decide +kernel
theorem dX5_changesIn_18 : decode cX5_changesIn 18 = .ok (.if_icmp .eq 13, 3) := by decide +kernel
theorem dX5_changesIn_21 : decode cX5_changesIn 21 = .ok (.aload_n 0, 1) := by decide +kernel
theorem dX5_changesIn_22 : decode cX5_changesIn 22 = .ok (.getfield 10, 3) := by decide +kernel
theorem dX5_changesIn_25 : decode cX5_changesIn 25 = .ok (.invokevirtual 150, 3) := by decide +kernel
theorem dX5_changesIn_28 : decode cX5_changesIn 28 = .ok (.iconst 1, 1) := by decide +kernel
theorem dX5_changesIn_29 : decode cX5_changesIn 29 = .ok (.isub, 1) := by decide +kernel
theorem dX5_changesIn_30 : decode cX5_changesIn 30 = .ok (.ireturn, 1) := by decide +kernel
theorem dX5_changesIn_31 : decode cX5_changesIn 31 = .ok (.aload_n 0, 1) := by decide +kernel
theorem dX5_changesIn_32 : decode cX5_changesIn 32 = .ok (.getfield 38, 3) := by decide +kernel
theorem dX5_changesIn_35 : decode cX5_changesIn 35 = .ok (.getfield 147, 3) := by decide +kernel
theorem dX5_changesIn_38 : decode cX5_changesIn 38 = .ok (.iload_n 1, 1) := by decide +kernel
theorem dX5_changesIn_39 : decode cX5_changesIn 39 = .ok (.baload, 1) := by decide +kernel
theorem dX5_changesIn_40 : decode cX5_changesIn 40 = .ok (.ifCond .ne 5, 3) := by decide +kernel
theorem dX5_changesIn_43 : decode cX5_changesIn 43 = .ok (.iconst 0, 1) := by decide +kernel
theorem dX5_changesIn_44 : decode cX5_changesIn 44 = .ok (.ireturn, 1) := by decide +kernel
theorem dX5_changesIn_45 : decode cX5_changesIn 45 = .ok (.iconst 0, 1) := by decide +kernel
theorem dX5_changesIn_46 : decode cX5_changesIn 46 = .ok (.istore_n 3, 1) := by decide +kernel
theorem dX5_changesIn_47 : decode cX5_changesIn 47 = .ok (.iconst 0, 1) := by decide +kernel
theorem dX5_changesIn_48 : decode cX5_changesIn 48 = .ok (.istore 4, 2) := by decide +kernel
theorem dX5_changesIn_50 : decode cX5_changesIn 50 = .ok (.iload 4, 2) := by decide +kernel
theorem dX5_changesIn_52 : decode cX5_changesIn 52 = .ok (.aload_n 0, 1) := by decide +kernel
theorem dX5_changesIn_53 : decode cX5_changesIn 53 = .ok (.getfield 10, 3) := by decide +kernel
theorem dX5_changesIn_56 : decode cX5_changesIn 56 = .ok (.getfield 49, 3) := by decide +kernel
theorem dX5_changesIn_59 : decode cX5_changesIn 59 = .ok (.if_icmp .ge 41, 3) := by decide +kernel
theorem dX5_changesIn_62 : decode cX5_changesIn 62 = .ok (.iload 4, 2) := by decide +kernel
theorem dX5_changesIn_64 : decode cX5_changesIn 64 = .ok (.iload_n 2, 1) := by decide +kernel
theorem dX5_changesIn_65 : decode cX5_changesIn 65 = .ok (.if_icmp .eq 29, 3) := by decide +kernel
theorem dX5_changesIn_68 : decode cX5_changesIn 68 = .ok (.aload_n 0, 1) := by decide +kernel
theorem dX5_changesIn_69 : decode cX5_changesIn 69 = .ok (.getfield 38, 3) := by decide +kernel
theorem dX5_changesIn_72 : decode cX5_changesIn 72 = .ok (.iload_n 1, 1) := by decide +kernel
theorem dX5_changesIn_73 : decode cX5_changesIn 73 = .ok (.iload 4, 2) := by decide +kernel
theorem dX5_changesIn_75 : decode cX5_changesIn 75 = .ok (.invokevirtual 140, 3) := by decide +kernel
theorem dX5_changesIn_78 : decode cX5_changesIn 78 = .ok (.aload_n 0, 1) := by decide +kernel
theorem dX5_changesIn_79 : decode cX5_changesIn 79 = .ok (.getfield 42, 3) := by decide +kernel
theorem dX5_changesIn_82 : decode cX5_changesIn 82 = .ok (.iload_n 1, 1) := by decide +kernel
theorem dX5_changesIn_83 : decode cX5_changesIn 83 = .ok (.iload 4, 2) := by decide +kernel
theorem dX5_changesIn_85 : decode cX5_changesIn 85 = .ok (.invokevirtual 140, 3) := by decide +kernel
theorem dX5_changesIn_88 : decode cX5_changesIn 88 = .ok (.if_icmp .eq 6, 3) := by decide +kernel
theorem dX5_changesIn_91 : decode cX5_changesIn 91 = .ok (.iinc 3 1, 3) := by decide +kernel
theorem dX5_changesIn_94 : decode cX5_changesIn 94 = .ok (.iinc 4 1, 3) := by decide +kernel
theorem dX5_changesIn_97 : decode cX5_changesIn 97 = .ok (.goto (-47), 3) := by decide +kernel
theorem dX5_changesIn_100 : decode cX5_changesIn 100 = .ok (.iload_n 3, 1) := by decide +kernel
theorem dX5_changesIn_101 : decode cX5_changesIn 101 = .ok (.ireturn, 1) := by decide +kernel
theorem dX5_allDots_0 : decode cX5_allDots 0 = .ok (.iconst 0, 1) := by decide +kernel
theorem dX5_allDots_1 : decode cX5_allDots 1 = .ok (.istore_n 1, 1) := by decide +kernel
theorem dX5_allDots_2 : decode cX5_allDots 2 = .ok (.iconst 0, 1) := by decide +kernel
theorem dX5_allDots_3 : decode cX5_allDots 3 = .ok (.istore_n 2, 1) := by decide +kernel
theorem dX5_allDots_4 : decode cX5_allDots 4 = .ok (.iload_n 2, 1) := by decide +kernel
theorem dX5_allDots_5 : decode cX5_allDots 5 = .ok (.aload_n 0, 1) := by decide +kernel
theorem dX5_allDots_6 : decode cX5_allDots 6 = .ok (.getfield 10, 3) := by decide +kernel
theorem dX5_allDots_9 : decode cX5_allDots 9 = .ok (.getfield 69, 3) := by decide +kernel
theorem dX5_allDots_12 : decode cX5_allDots 12 = .ok (.if_icmp .ge 24, 3) := by decide +kernel
theorem dX5_allDots_15 : decode cX5_allDots 15 = .ok (.iload_n 1, 1) := by decide +kernel
theorem dX5_allDots_16 : decode cX5_allDots 16 = .ok (.aload_n 0, 1) := by decide +kernel
theorem dX5_allDots_17 : decode cX5_allDots 17 = .ok (.getfield 10, 3) := by decide +kernel
theorem dX5_allDots_20 : decode cX5_allDots 20 = .ok (.getfield 72, 3) := by decide +kernel
theorem dX5_allDots_23 : decode cX5_allDots 23 = .ok (.iload_n 2, 1) := by decide +kernel
theorem dX5_allDots_24 : decode cX5_allDots 24 = .ok (.aaload, 1) := by decide +kernel
theorem dX5_allDots_25 : decode cX5_allDots 25 = .ok (.getfield 111, 3) := by decide +kernel
theorem dX5_allDots_28 : decode cX5_allDots 28 = .ok (.iadd, 1) := by decide +kernel
theorem dX5_allDots_29 : decode cX5_allDots 29 = .ok (.istore_n 1, 1) := by decide +kernel
theorem dX5_allDots_30 : decode cX5_allDots 30 = .ok (.iinc 2 1, 3) := by decide +kernel
theorem dX5_allDots_33 : decode cX5_allDots 33 = .ok (.goto (-29), 3) := by decide +kernel
theorem dX5_allDots_36 : decode cX5_allDots 36 = .ok (.iload_n 1, 1) := by decide +kernel
theorem dX5_allDots_37 : decode cX5_allDots 37 = .ok (.ireturn, 1) := by decide +kernel
theorem dX5_allSolos_0 : decode cX5_allSolos 0 = .ok (.iconst 0, 1) := by decide +kernel
theorem dX5_allSolos_1 : decode cX5_allSolos 1 = .ok (.istore_n 1, 1) := by decide +kernel
theorem dX5_allSolos_2 : decode cX5_allSolos 2 = .ok (.iconst 0, 1) := by decide +kernel
theorem dX5_allSolos_3 : decode cX5_allSolos 3 = .ok (.istore_n 2, 1) := by decide +kernel
theorem dX5_allSolos_4 : decode cX5_allSolos 4 = .ok (.iload_n 2, 1) := by decide +kernel
theorem dX5_allSolos_5 : decode cX5_allSolos 5 = .ok (.aload_n 0, 1) := by decide +kernel
theorem dX5_allSolos_6 : decode cX5_allSolos 6 = .ok (.getfield 10, 3) := by decide +kernel
theorem dX5_allSolos_9 : decode cX5_allSolos 9 = .ok (.getfield 69, 3) := by decide +kernel
theorem dX5_allSolos_12 : decode cX5_allSolos 12 = .ok (.if_icmp .ge 24, 3) := by decide +kernel
theorem dX5_allSolos_15 : decode cX5_allSolos 15 = .ok (.iload_n 1, 1) := by decide +kernel
theorem dX5_allSolos_16 : decode cX5_allSolos 16 = .ok (.aload_n 0, 1) := by decide +kernel
theorem dX5_allSolos_17 : decode cX5_allSolos 17 = .ok (.getfield 10, 3) := by decide +kernel
theorem dX5_allSolos_20 : decode cX5_allSolos 20 = .ok (.getfield 72, 3) := by decide +kernel
theorem dX5_allSolos_23 : decode cX5_allSolos 23 = .ok (.iload_n 2, 1) := by decide +kernel
theorem dX5_allSolos_24 : decode cX5_allSolos 24 = .ok (.aaload, 1) := by decide +kernel
theorem dX5_allSolos_25 : decode cX5_allSolos 25 = .ok (.invokevirtual 212, 3) := by decide +kernel
theorem dX5_allSolos_28 : decode cX5_allSolos 28 = .ok (.iadd, 1) := by decide +kernel
theorem dX5_allSolos_29 : decode cX5_allSolos 29 = .ok (.istore_n 1, 1) := by decide +kernel
theorem dX5_allSolos_30 : decode cX5_allSolos 30 = .ok (.iinc 2 1, 3) := by decide +kernel
theorem dX5_allSolos_33 : decode cX5_allSolos 33 = .ok (.goto (-29), 3) := by decide +kernel
theorem dX5_allSolos_36 : decode cX5_allSolos 36 = .ok (.iload_n 1, 1) := by decide +kernel
theorem dX5_allSolos_37 : decode cX5_allSolos 37 = .ok (.ireturn, 1) := by decide +kernel
theorem dX5_allSteps_0 : decode cX5_allSteps 0 = .ok (.aload_n 0, 1) := by decide +kernel
theorem dX5_allSteps_1 : decode cX5_allSteps 1 = .ok (.getfield 38, 3) := by decide +kernel
theorem dX5_allSteps_4 : decode cX5_allSteps 4 = .ok (.aload_n 0, 1) := by decide +kernel
theorem dX5_allSteps_5 : decode cX5_allSteps 5 = .ok (.getfield 10, 3) := by decide +kernel
theorem dX5_allSteps_8 : decode cX5_allSteps 8 = .ok (.aload_n 0, 1) := by decide +kernel
theorem dX5_allSteps_9 : decode cX5_allSteps 9 = .ok (.getfield 10, 3) := by decide +kernel
theorem dX5_allSteps_12 : decode cX5_allSteps 12 = .ok (.getfield 69, 3) := by decide +kernel
theorem dX5_allSteps_15 : decode cX5_allSteps 15 = .ok (.iconst 1, 1) := by decide +kernel
theorem dX5_allSteps_16 : decode cX5_allSteps 16 = .ok (.isub, 1) := by decide +kernel
theorem dX5_allSteps_17 : decode cX5_allSteps 17 = .ok (.iconst (-1), 1) := by decide +kernel
theorem dX5_allSteps_18 : decode cX5_allSteps 18 = .ok (.invokevirtual 143, 3) := by decide +kernel
theorem dX5_allSteps_21 : decode cX5_allSteps 21 = .ok (.iconst 0, 1) := by decide +kernel
theorem dX5_allSteps_22 : decode cX5_allSteps 22 = .ok (.istore_n 1, 1) := by decide +kernel
theorem dX5_allSteps_23 : decode cX5_allSteps 23 = .ok (.iconst 0, 1) := by decide +kernel
theorem dX5_allSteps_24 : decode cX5_allSteps 24 = .ok (.istore_n 2, 1) := by decide +kernel
theorem dX5_allSteps_25 : decode cX5_allSteps 25 = .ok (.iload_n 2, 1) := by decide +kernel
theorem dX5_allSteps_26 : decode cX5_allSteps 26 = .ok (.aload_n 0, 1) := by decide +kernel
theorem dX5_allSteps_27 : decode cX5_allSteps 27 = .ok (.getfield 10, 3) := by decide +kernel
theorem dX5_allSteps_30 : decode cX5_allSteps 30 = .ok (.getfield 69, 3) := by decide +kernel
theorem dX5_allSteps_33 : decode cX5_allSteps 33 = .ok (.if_icmp .ge 33, 3) := by decide +kernel
theorem dX5_allSteps_36 : decode cX5_allSteps 36 = .ok (.aload_n 0, 1) := by decide +kernel
theorem dX5_allSteps_37 : decode cX5_allSteps 37 = .ok (.getfield 38, 3) := by decide +kernel
theorem dX5_allSteps_40 : decode cX5_allSteps 40 = .ok (.getfield 147, 3) := by decide +kernel
theorem dX5_allSteps_43 : decode cX5_allSteps 43 = .ok (.iload_n 2, 1) := by decide +kernel
theorem dX5_allSteps_44 : decode cX5_allSteps 44 = .ok (.baload, 1) := by decide +kernel
theorem dX5_allSteps_45 : decode cX5_allSteps 45 = .ok (.ifCond .eq 15, 3) := by decide +kernel
theorem dX5_allSteps_48 : decode cX5_allSteps 48 = .ok (.iload_n 1, 1) := by decide +kernel
theorem dX5_allSteps_49 : decode cX5_allSteps 49 = .ok (.aload_n 0, 1) := by decide +kernel
theorem dX5_allSteps_50 : decode cX5_allSteps 50 = .ok (.getfield 38, 3) := by decide +kernel
theorem dX5_allSteps_53 : decode cX5_allSteps 53 = .ok (.getfield 157, 3) := by decide +kernel
theorem dX5_allSteps_56 : decode cX5_allSteps 56 = .ok (.iload_n 2, 1) := by decide +kernel
theorem dX5_allSteps_57 : decode cX5_allSteps 57 = .ok (.iaload, 1) := by decide +kernel
theorem dX5_allSteps_58 : decode cX5_allSteps 58 = .ok (.iadd, 1) := by decide +kernel
theorem dX5_allSteps_59 : decode cX5_allSteps 59 = .ok (.istore_n 1, 1) := by decide +kernel
theorem dX5_allSteps_60 : decode cX5_allSteps 60 = .ok (.iinc 2 1, 3) := by decide +kernel
theorem dX5_allSteps_63 : decode cX5_allSteps 63 = .ok (.goto (-38), 3) := by decide +kernel
theorem dX5_allSteps_66 : decode cX5_allSteps 66 = .ok (.iload_n 1, 1) := by decide +kernel
theorem dX5_allSteps_67 : decode cX5_allSteps 67 = .ok (.ireturn, 1) := by decide +kernel
end
section
abbrev zV : Type := Int → Int
/-- what a state of the show may be: 0 marchers, 1 pictures, 2 apart, 3 speed, 4, 5 drums, 6 + 2 m bound, 7 + 2 m ill, 18 + 2 k counts, 19 + 2 k dots, 28 + 3 (7 k + d) x, y, solo -/
def v_ok (V : zV) : Prop := ((0 ≤ V 0 ∧ V 0 ≤ 6) ∧ (0 ≤ V 1 ∧ V 1 ≤ 5) ∧ (0 ≤ V 2 ∧ V 2 ≤ 3) ∧ (1 ≤ V 3 ∧ V 3 ≤ 20) ∧ (0 ≤ V 4 ∧ V 4 ≤ 40) ∧ (0 ≤ V 5 ∧ V 5 ≤ 40)) ∧ (∀ m : Int, 0 ≤ m → m < 6 → (0 ≤ V (6 + 2 * m) ∧ V (6 + 2 * m) ≤ 4) ∧ 0 ≤ V (7 + 2 * m) ∧ V (7 + 2 * m) ≤ 1) ∧ (∀ m : Int, 0 ≤ m → m < V 0 → 1 ≤ V (6 + 2 * m)) ∧ (∀ k : Int, 0 ≤ k → k < 5 → (0 ≤ V (18 + 2 * k) ∧ V (18 + 2 * k) ≤ 16) ∧ 0 ≤ V (19 + 2 * k) ∧ V (19 + 2 * k) ≤ 7) ∧ (∀ k : Int, 0 ≤ k → k < V 1 → 1 ≤ V (18 + 2 * k)) ∧ (∀ j : Int, 0 ≤ j → j < 35 → (0 ≤ V (28 + 3 * j) ∧ V (28 + 3 * j) ≤ 40) ∧ (0 ≤ V (29 + 3 * j) ∧ V (29 + 3 * j) ≤ 40) ∧ 0 ≤ V (30 + 3 * j) ∧ V (30 + 3 * j) ≤ 1)
def zModel (σ : zSt) (V : zV) : Prop := (∀ j : Int, 0 ≤ j → j < 6 → σ 81 j = V j) ∧ (∀ j : Int, 0 ≤ j → j < 12 → σ 82 j = V (6 + j)) ∧ (∀ j : Int, 0 ≤ j → j < 10 → σ 83 j = V (18 + j)) ∧ (∀ j : Int, 0 ≤ j → j < 105 → σ 84 j = V (28 + j))
/-- σ' is σ, but that the model holds V and its scratch may be another -/
def zWho (σ : zSt) : Prop := ∀ j : Int, 0 ≤ j → j < 6 → 0 ≤ σ 93 j ∧ σ 93 j < 6
def zMup (σ σ' : zSt) (V : zV) : Prop := zModel σ' V ∧ (∀ c : Nat, c < 80 ∨ c = 85 → σ' c = σ c) ∧ σ' 80 4 = σ 80 4 ∧ (zWho σ → zWho σ')
theorem zWho.of {σ σ1 : zSt} (h : zWho σ) (e : σ1 93 = σ 93) : zWho σ1 := by unfold zWho; rw [e]; exact h
theorem zMup.refl {σ : zSt} {V : zV} (h : zModel σ V) : zMup σ σ V := ⟨h, fun _ _ => rfl, rfl, id⟩
theorem z_upf_s (f : Int → Int) (j v : Int) : z_upf f j v j = v := if_pos rfl
theorem z_upf_n {f : Int → Int} {j v i : Int} (h : i ≠ j) : z_upf f j v i = f i := if_neg h
theorem zM81 {σ : zSt} {V : zV} (h : zModel σ V) {j : Int} (v : Int) (h0 : 0 ≤ j) (h1 : j < 6) : zModel (z_up σ 81 j v) (z_upf V j v) := by
  obtain ⟨a, b, c, d⟩ := h
  refine ⟨fun i h2 h3 => ?_, fun i h2 h3 => ?_, fun i h2 h3 => ?_, fun i h2 h3 => ?_⟩
  · rw [z_up_a]
    unfold z_upf
    by_cases e : i = j
    · rw [if_pos ⟨rfl, e⟩, if_pos e]
    · rw [if_neg (fun q => e q.2), if_neg e]
      exact a i h2 h3
  · rw [z_up_c (by decide), z_upf_n (by omega)]; exact b i h2 h3
  · rw [z_up_c (by decide), z_upf_n (by omega)]; exact c i h2 h3
  · rw [z_up_c (by decide), z_upf_n (by omega)]; exact d i h2 h3
theorem zM82 {σ : zSt} {V : zV} (h : zModel σ V) {j : Int} (v : Int) (h0 : 0 ≤ j) (h1 : j < 12) : zModel (z_up σ 82 j v) (z_upf V (6 + j) v) := by
  obtain ⟨a, b, c, d⟩ := h
  refine ⟨fun i h2 h3 => ?_, fun i h2 h3 => ?_, fun i h2 h3 => ?_, fun i h2 h3 => ?_⟩
  · rw [z_up_c (by decide), z_upf_n (by omega)]; exact a i h2 h3
  · rw [z_up_a]
    unfold z_upf
    by_cases e : i = j
    · rw [if_pos ⟨rfl, e⟩, if_pos (by omega)]
    · rw [if_neg (fun q => e q.2), if_neg (by omega)]
      exact b i h2 h3
  · rw [z_up_c (by decide), z_upf_n (by omega)]; exact c i h2 h3
  · rw [z_up_c (by decide), z_upf_n (by omega)]; exact d i h2 h3
theorem zM83 {σ : zSt} {V : zV} (h : zModel σ V) {j : Int} (v : Int) (h0 : 0 ≤ j) (h1 : j < 10) : zModel (z_up σ 83 j v) (z_upf V (18 + j) v) := by
  obtain ⟨a, b, c, d⟩ := h
  refine ⟨fun i h2 h3 => ?_, fun i h2 h3 => ?_, fun i h2 h3 => ?_, fun i h2 h3 => ?_⟩
  · rw [z_up_c (by decide), z_upf_n (by omega)]; exact a i h2 h3
  · rw [z_up_c (by decide), z_upf_n (by omega)]; exact b i h2 h3
  · rw [z_up_a]
    unfold z_upf
    by_cases e : i = j
    · rw [if_pos ⟨rfl, e⟩, if_pos (by omega)]
    · rw [if_neg (fun q => e q.2), if_neg (by omega)]
      exact c i h2 h3
  · rw [z_up_c (by decide), z_upf_n (by omega)]; exact d i h2 h3
theorem zM84 {σ : zSt} {V : zV} (h : zModel σ V) {j : Int} (v : Int) (h0 : 0 ≤ j) (h1 : j < 105) : zModel (z_up σ 84 j v) (z_upf V (28 + j) v) := by
  obtain ⟨a, b, c, d⟩ := h
  refine ⟨fun i h2 h3 => ?_, fun i h2 h3 => ?_, fun i h2 h3 => ?_, fun i h2 h3 => ?_⟩
  · rw [z_up_c (by decide), z_upf_n (by omega)]; exact a i h2 h3
  · rw [z_up_c (by decide), z_upf_n (by omega)]; exact b i h2 h3
  · rw [z_up_c (by decide), z_upf_n (by omega)]; exact c i h2 h3
  · rw [z_up_a]
    unfold z_upf
    by_cases e : i = j
    · rw [if_pos ⟨rfl, e⟩, if_pos (by omega)]
    · rw [if_neg (fun q => e q.2), if_neg (by omega)]
      exact d i h2 h3
theorem zMup.u81 {σ σ1 : zSt} {V : zV} (h : zMup σ σ1 V) {j : Int} (v : Int) (h0 : 0 ≤ j) (h1 : j < 6) : zMup σ (z_up σ1 81 j v) (z_upf V j v) := ⟨zM81 h.1 v h0 h1, fun c hc => by rw [z_up_c (by omega)]; exact h.2.1 c hc, by rw [z_up_c (by decide)]; exact h.2.2.1, fun q => (h.2.2.2 q).of (z_up_c (by decide))⟩
theorem zMup.u82 {σ σ1 : zSt} {V : zV} (h : zMup σ σ1 V) {j : Int} (v : Int) (h0 : 0 ≤ j) (h1 : j < 12) : zMup σ (z_up σ1 82 j v) (z_upf V (6 + j) v) := ⟨zM82 h.1 v h0 h1, fun c hc => by rw [z_up_c (by omega)]; exact h.2.1 c hc, by rw [z_up_c (by decide)]; exact h.2.2.1, fun q => (h.2.2.2 q).of (z_up_c (by decide))⟩
theorem zMup.u83 {σ σ1 : zSt} {V : zV} (h : zMup σ σ1 V) {j : Int} (v : Int) (h0 : 0 ≤ j) (h1 : j < 10) : zMup σ (z_up σ1 83 j v) (z_upf V (18 + j) v) := ⟨zM83 h.1 v h0 h1, fun c hc => by rw [z_up_c (by omega)]; exact h.2.1 c hc, by rw [z_up_c (by decide)]; exact h.2.2.1, fun q => (h.2.2.2 q).of (z_up_c (by decide))⟩
theorem zMup.u84 {σ σ1 : zSt} {V : zV} (h : zMup σ σ1 V) {j : Int} (v : Int) (h0 : 0 ≤ j) (h1 : j < 105) : zMup σ (z_up σ1 84 j v) (z_upf V (28 + j) v) := ⟨zM84 h.1 v h0 h1, fun c hc => by rw [z_up_c (by omega)]; exact h.2.1 c hc, by rw [z_up_c (by decide)]; exact h.2.2.1, fun q => (h.2.2.2 q).of (z_up_c (by decide))⟩
theorem zModel.of {σ σ1 : zSt} {V : zV} (h : zModel σ V) (e1 : σ1 81 = σ 81) (e2 : σ1 82 = σ 82) (e3 : σ1 83 = σ 83) (e4 : σ1 84 = σ 84) : zModel σ1 V := by
  unfold zModel
  rw [e1, e2, e3, e4]
  exact h
theorem zMup.us {σ σ1 : zSt} {V : zV} (h : zMup σ σ1 V) {c : Nat} (j v : Int) (hc : 86 ≤ c ∧ c ≠ 93) : zMup σ (z_up σ1 c j v) V := ⟨h.1.of (z_up_c (by omega)) (z_up_c (by omega)) (z_up_c (by omega)) (z_up_c (by omega)), fun d hd => by rw [z_up_c (by omega)]; exact h.2.1 d hd, by rw [z_up_c (by omega)]; exact h.2.2.1, fun q => (h.2.2.2 q).of (z_up_c (by omega))⟩
theorem zMup.u80 {σ σ1 : zSt} {V : zV} (h : zMup σ σ1 V) {j : Int} (v : Int) (hj : j ≠ 4) : zMup σ (z_up σ1 80 j v) V := ⟨h.1.of (z_up_c (by decide)) (z_up_c (by decide)) (z_up_c (by decide)) (z_up_c (by decide)), fun d hd => by rw [z_up_c (by omega)]; exact h.2.1 d hd, by rw [z_up_j (by omega)]; exact h.2.2.1, fun q => (h.2.2.2 q).of (z_up_c (by decide))⟩
theorem zMup.trans {σ σ1 σ2 : zSt} {V V' : zV} (h : zMup σ σ1 V) (h2 : zMup σ1 σ2 V') : zMup σ σ2 V' := ⟨h2.1, fun c hc => (h2.2.1 c hc).trans (h.2.1 c hc), h2.2.2.1.trans h.2.2.1, fun q => h2.2.2.2 (h.2.2.2 q)⟩
/-- a refusal changes nothing -/
def z_if (z : Int) (V V' : zV) : zV := if z < 0 then V else V'
theorem zIf_n {z : Int} {V V' : zV} (h : z < 0) : z_if z V V' = V := if_pos h
theorem zIf_p {z : Int} {V V' : zV} (h : 0 ≤ z) : z_if z V V' = V' := if_neg (by omega)
theorem zMup.eq {σ σ1 : zSt} {V V' : zV} (h : zMup σ σ1 V) (e : V = V') : zMup σ σ1 V' := e ▸ h
/-! the answers and the states behind them -/
def s_marcher (V : zV) (b : Int) : Int := if 1 ≤ b ∧ b ≤ 4 then (if V 0 = 6 then -2 else V 0) else -1
def u_marcher (V : zV) (b : Int) : zV := z_upf (z_upf (z_upf V (6 + 2 * V 0) b) (6 + (2 * V 0 + 1)) 0) 0 (V 0 + 1)
def s_ill (V : zV) (m i : Int) : Int := if 0 ≤ m ∧ m < V 0 then (if V (6 + (2 * m + 1)) = i then 0 else 1) else -1
def u_ill (V : zV) (m i : Int) : zV := z_upf V (6 + (2 * m + 1)) i
def s_bound (V : zV) (m v : Int) : Int := if (0 ≤ m ∧ m < V 0) ∧ 1 ≤ v ∧ v ≤ 4 then V (6 + 2 * m) else -1
def u_bound (V : zV) (m v : Int) : zV := z_upf V (6 + 2 * m) v
def s_picture (V : zV) (c : Int) : Int := if 1 ≤ c ∧ c ≤ 16 then (if V 1 = 5 then -2 else V 1) else -1
def u_picture (V : zV) (c : Int) : zV := z_upf (z_upf (z_upf V (18 + 2 * V 1) c) (18 + (2 * V 1 + 1)) 0) 1 (V 1 + 1)
def s_counts (V : zV) (k v : Int) : Int := if (0 ≤ k ∧ k < V 1) ∧ 1 ≤ v ∧ v ≤ 16 then V (18 + 2 * k) else -1
def u_counts (V : zV) (k v : Int) : zV := z_upf V (18 + 2 * k) v
def s_solo (V : zV) (k d i : Int) : Int := if (0 ≤ k ∧ k < V 1) ∧ 0 ≤ d ∧ d < V (18 + (2 * k + 1)) then (if V (28 + (3 * (7 * k + d) + 2)) = i then 0 else 1) else -1
def u_solo (V : zV) (k d i : Int) : zV := z_upf V (28 + (3 * (7 * k + d) + 2)) i
def s_scrub (V : zV) (k : Int) : Int := if 0 ≤ k ∧ k < V 1 then (if V (18 + (2 * k + 1)) = 0 then -3 else V (18 + (2 * k + 1)) - 1) else -1
def u_scrub (V : zV) (k : Int) : zV := z_upf V (18 + (2 * k + 1)) (V (18 + (2 * k + 1)) - 1)
def s_rule (V : zV) (w v : Int) : Int := if (w = 0 ∧ 0 ≤ v ∧ v ≤ 3) ∨ (w = 1 ∧ 1 ≤ v ∧ v ≤ 20) then V (2 + w) else -1
def u_rule (V : zV) (w v : Int) : zV := z_upf V (2 + w) v
def s_drums (x y : Int) : Int := if (0 ≤ x ∧ x ≤ 40) ∧ 0 ≤ y ∧ y ≤ 40 then 1 else -4
def u_drums (V : zV) (x y : Int) : zV := z_upf (z_upf V 4 x) 5 y
def s_dot (V : zV) (k d w : Int) : Int := if ((0 ≤ k ∧ k < V 1) ∧ 0 ≤ d ∧ d < V (18 + (2 * k + 1))) ∧ 0 ≤ w ∧ w ≤ 2 then V (28 + (3 * (7 * k + d) + w)) else -1
end
section
def zShow (σ : zSt) (b : Nat) (V : zV) : Prop := (σ b 2 = V 0 ∧ σ b 4 = V 1 ∧ σ b 5 = V 2 ∧ σ b 6 = V 3 ∧ σ b 7 = V 4 ∧ σ b 8 = V 5) ∧ (∀ m : Int, 0 ≤ m → m < 6 → σ (b + 1) m = V (6 + 2 * m) ∧ σ (b + 2) m = V (6 + (2 * m + 1))) ∧ (∀ k : Nat, k < 5 → σ (b + 4 + 4 * k) 3 = V (18 + (2 * (k : Int) + 1)) ∧ ((k : Int) < V 1 → σ (b + 4 + 4 * k) 4 = V (18 + 2 * (k : Int))) ∧ ∀ d : Int, 0 ≤ d → d < 7 → σ (b + 4 + 4 * k + 1) d = V (28 + 3 * (7 * (k : Int) + d)) ∧ σ (b + 4 + 4 * k + 2) d = V (28 + (3 * (7 * (k : Int) + d) + 1)) ∧ σ (b + 4 + 4 * k + 3) d = V (28 + (3 * (7 * (k : Int) + d) + 2)))
theorem zS_f2 {σ : zSt} {b : Nat} {V : zV} (hb : b = 1 ∨ b = 25) (h : zShow σ b V) (v : Int)  : zShow (z_up σ b 2 v) b (z_upf V 0 v) := by
  obtain ⟨⟨f0, f1, f2, f3, f4, f5⟩, hm, hk⟩ := h
  refine ⟨⟨?_, ?_, ?_, ?_, ?_, ?_⟩, fun m m0 m1 => ?_, fun k k1 => ?_⟩
  · rw [z_up_a]; unfold z_upf; split <;> split <;> omega
  · rw [z_up_a]; unfold z_upf; split <;> split <;> omega
  · rw [z_up_a]; unfold z_upf; split <;> split <;> omega
  · rw [z_up_a]; unfold z_upf; split <;> split <;> omega
  · rw [z_up_a]; unfold z_upf; split <;> split <;> omega
  · rw [z_up_a]; unfold z_upf; split <;> split <;> omega
  · have a1 := hm m m0 m1
    constructor
    · rw [z_up_a]; unfold z_upf; split <;> split <;> omega
    · rw [z_up_a]; unfold z_upf; split <;> split <;> omega
  · obtain ⟨a3, a4, a5⟩ := hk k k1
    refine ⟨?_, fun kl => ?_, fun d d0 d1 => ?_⟩
    · rw [z_up_a]; unfold z_upf; split <;> split <;> omega
    · have kl2 : (k : Int) < V 1 := by unfold z_upf at kl; split at kl <;> omega
      have a6 := a4 kl2
      rw [z_up_a]; unfold z_upf; split <;> split <;> omega
    · have a6 := a5 d d0 d1
      refine ⟨?_, ?_, ?_⟩
      · rw [z_up_a]; unfold z_upf; split <;> split <;> omega
      · rw [z_up_a]; unfold z_upf; split <;> split <;> omega
      · rw [z_up_a]; unfold z_upf; split <;> split <;> omega
theorem zS_f5 {σ : zSt} {b : Nat} {V : zV} (hb : b = 1 ∨ b = 25) (h : zShow σ b V) (v : Int)  : zShow (z_up σ b 5 v) b (z_upf V 2 v) := by
  obtain ⟨⟨f0, f1, f2, f3, f4, f5⟩, hm, hk⟩ := h
  refine ⟨⟨?_, ?_, ?_, ?_, ?_, ?_⟩, fun m m0 m1 => ?_, fun k k1 => ?_⟩
  · rw [z_up_a]; unfold z_upf; split <;> split <;> omega
  · rw [z_up_a]; unfold z_upf; split <;> split <;> omega
  · rw [z_up_a]; unfold z_upf; split <;> split <;> omega
  · rw [z_up_a]; unfold z_upf; split <;> split <;> omega
  · rw [z_up_a]; unfold z_upf; split <;> split <;> omega
  · rw [z_up_a]; unfold z_upf; split <;> split <;> omega
  · have a1 := hm m m0 m1
    constructor
    · rw [z_up_a]; unfold z_upf; split <;> split <;> omega
    · rw [z_up_a]; unfold z_upf; split <;> split <;> omega
  · obtain ⟨a3, a4, a5⟩ := hk k k1
    refine ⟨?_, fun kl => ?_, fun d d0 d1 => ?_⟩
    · rw [z_up_a]; unfold z_upf; split <;> split <;> omega
    · have kl2 : (k : Int) < V 1 := by unfold z_upf at kl; split at kl <;> omega
      have a6 := a4 kl2
      rw [z_up_a]; unfold z_upf; split <;> split <;> omega
    · have a6 := a5 d d0 d1
      refine ⟨?_, ?_, ?_⟩
      · rw [z_up_a]; unfold z_upf; split <;> split <;> omega
      · rw [z_up_a]; unfold z_upf; split <;> split <;> omega
      · rw [z_up_a]; unfold z_upf; split <;> split <;> omega
theorem zS_f6 {σ : zSt} {b : Nat} {V : zV} (hb : b = 1 ∨ b = 25) (h : zShow σ b V) (v : Int)  : zShow (z_up σ b 6 v) b (z_upf V 3 v) := by
  obtain ⟨⟨f0, f1, f2, f3, f4, f5⟩, hm, hk⟩ := h
  refine ⟨⟨?_, ?_, ?_, ?_, ?_, ?_⟩, fun m m0 m1 => ?_, fun k k1 => ?_⟩
  · rw [z_up_a]; unfold z_upf; split <;> split <;> omega
  · rw [z_up_a]; unfold z_upf; split <;> split <;> omega
  · rw [z_up_a]; unfold z_upf; split <;> split <;> omega
  · rw [z_up_a]; unfold z_upf; split <;> split <;> omega
  · rw [z_up_a]; unfold z_upf; split <;> split <;> omega
  · rw [z_up_a]; unfold z_upf; split <;> split <;> omega
  · have a1 := hm m m0 m1
    constructor
    · rw [z_up_a]; unfold z_upf; split <;> split <;> omega
    · rw [z_up_a]; unfold z_upf; split <;> split <;> omega
  · obtain ⟨a3, a4, a5⟩ := hk k k1
    refine ⟨?_, fun kl => ?_, fun d d0 d1 => ?_⟩
    · rw [z_up_a]; unfold z_upf; split <;> split <;> omega
    · have kl2 : (k : Int) < V 1 := by unfold z_upf at kl; split at kl <;> omega
      have a6 := a4 kl2
      rw [z_up_a]; unfold z_upf; split <;> split <;> omega
    · have a6 := a5 d d0 d1
      refine ⟨?_, ?_, ?_⟩
      · rw [z_up_a]; unfold z_upf; split <;> split <;> omega
      · rw [z_up_a]; unfold z_upf; split <;> split <;> omega
      · rw [z_up_a]; unfold z_upf; split <;> split <;> omega
theorem zS_f7 {σ : zSt} {b : Nat} {V : zV} (hb : b = 1 ∨ b = 25) (h : zShow σ b V) (v : Int)  : zShow (z_up σ b 7 v) b (z_upf V 4 v) := by
  obtain ⟨⟨f0, f1, f2, f3, f4, f5⟩, hm, hk⟩ := h
  refine ⟨⟨?_, ?_, ?_, ?_, ?_, ?_⟩, fun m m0 m1 => ?_, fun k k1 => ?_⟩
  · rw [z_up_a]; unfold z_upf; split <;> split <;> omega
  · rw [z_up_a]; unfold z_upf; split <;> split <;> omega
  · rw [z_up_a]; unfold z_upf; split <;> split <;> omega
  · rw [z_up_a]; unfold z_upf; split <;> split <;> omega
  · rw [z_up_a]; unfold z_upf; split <;> split <;> omega
  · rw [z_up_a]; unfold z_upf; split <;> split <;> omega
  · have a1 := hm m m0 m1
    constructor
    · rw [z_up_a]; unfold z_upf; split <;> split <;> omega
    · rw [z_up_a]; unfold z_upf; split <;> split <;> omega
  · obtain ⟨a3, a4, a5⟩ := hk k k1
    refine ⟨?_, fun kl => ?_, fun d d0 d1 => ?_⟩
    · rw [z_up_a]; unfold z_upf; split <;> split <;> omega
    · have kl2 : (k : Int) < V 1 := by unfold z_upf at kl; split at kl <;> omega
      have a6 := a4 kl2
      rw [z_up_a]; unfold z_upf; split <;> split <;> omega
    · have a6 := a5 d d0 d1
      refine ⟨?_, ?_, ?_⟩
      · rw [z_up_a]; unfold z_upf; split <;> split <;> omega
      · rw [z_up_a]; unfold z_upf; split <;> split <;> omega
      · rw [z_up_a]; unfold z_upf; split <;> split <;> omega
theorem zS_f8 {σ : zSt} {b : Nat} {V : zV} (hb : b = 1 ∨ b = 25) (h : zShow σ b V) (v : Int)  : zShow (z_up σ b 8 v) b (z_upf V 5 v) := by
  obtain ⟨⟨f0, f1, f2, f3, f4, f5⟩, hm, hk⟩ := h
  refine ⟨⟨?_, ?_, ?_, ?_, ?_, ?_⟩, fun m m0 m1 => ?_, fun k k1 => ?_⟩
  · rw [z_up_a]; unfold z_upf; split <;> split <;> omega
  · rw [z_up_a]; unfold z_upf; split <;> split <;> omega
  · rw [z_up_a]; unfold z_upf; split <;> split <;> omega
  · rw [z_up_a]; unfold z_upf; split <;> split <;> omega
  · rw [z_up_a]; unfold z_upf; split <;> split <;> omega
  · rw [z_up_a]; unfold z_upf; split <;> split <;> omega
  · have a1 := hm m m0 m1
    constructor
    · rw [z_up_a]; unfold z_upf; split <;> split <;> omega
    · rw [z_up_a]; unfold z_upf; split <;> split <;> omega
  · obtain ⟨a3, a4, a5⟩ := hk k k1
    refine ⟨?_, fun kl => ?_, fun d d0 d1 => ?_⟩
    · rw [z_up_a]; unfold z_upf; split <;> split <;> omega
    · have kl2 : (k : Int) < V 1 := by unfold z_upf at kl; split at kl <;> omega
      have a6 := a4 kl2
      rw [z_up_a]; unfold z_upf; split <;> split <;> omega
    · have a6 := a5 d d0 d1
      refine ⟨?_, ?_, ?_⟩
      · rw [z_up_a]; unfold z_upf; split <;> split <;> omega
      · rw [z_up_a]; unfold z_upf; split <;> split <;> omega
      · rw [z_up_a]; unfold z_upf; split <;> split <;> omega
theorem zS_f4 {σ : zSt} {b : Nat} {V : zV} (hb : b = 1 ∨ b = 25) (h : zShow σ b V) (v : Int) (hc : ∀ k : Nat, k < 5 → (k : Int) < v → σ (b + 4 + 4 * k) 4 = V (18 + 2 * (k : Int))) : zShow (z_up σ b 4 v) b (z_upf V 1 v) := by
  obtain ⟨⟨f0, f1, f2, f3, f4, f5⟩, hm, hk⟩ := h
  refine ⟨⟨?_, ?_, ?_, ?_, ?_, ?_⟩, fun m m0 m1 => ?_, fun k k1 => ?_⟩
  · rw [z_up_a]; unfold z_upf; split <;> split <;> omega
  · rw [z_up_a]; unfold z_upf; split <;> split <;> omega
  · rw [z_up_a]; unfold z_upf; split <;> split <;> omega
  · rw [z_up_a]; unfold z_upf; split <;> split <;> omega
  · rw [z_up_a]; unfold z_upf; split <;> split <;> omega
  · rw [z_up_a]; unfold z_upf; split <;> split <;> omega
  · have a1 := hm m m0 m1
    constructor
    · rw [z_up_a]; unfold z_upf; split <;> split <;> omega
    · rw [z_up_a]; unfold z_upf; split <;> split <;> omega
  · obtain ⟨a3, a4, a5⟩ := hk k k1
    refine ⟨?_, fun kl => ?_, fun d d0 d1 => ?_⟩
    · rw [z_up_a]; unfold z_upf; split <;> split <;> omega
    · have a6 := hc k k1 (by unfold z_upf at kl; split at kl <;> omega)
      skip
      rw [z_up_a]; unfold z_upf; split <;> split <;> omega
    · have a6 := a5 d d0 d1
      refine ⟨?_, ?_, ?_⟩
      · rw [z_up_a]; unfold z_upf; split <;> split <;> omega
      · rw [z_up_a]; unfold z_upf; split <;> split <;> omega
      · rw [z_up_a]; unfold z_upf; split <;> split <;> omega
theorem zS_bd {σ : zSt} {b : Nat} {V : zV} (hb : b = 1 ∨ b = 25) (h : zShow σ b V) {n : Int} (v : Int) (n0 : 0 ≤ n) (n1 : n < 6) : zShow (z_up σ (b + 1) n v) b (z_upf V (6 + 2 * n) v) := by
  obtain ⟨⟨f0, f1, f2, f3, f4, f5⟩, hm, hk⟩ := h
  refine ⟨⟨?_, ?_, ?_, ?_, ?_, ?_⟩, fun m m0 m1 => ?_, fun k k1 => ?_⟩
  · rw [z_up_a]; unfold z_upf; split <;> split <;> omega
  · rw [z_up_a]; unfold z_upf; split <;> split <;> omega
  · rw [z_up_a]; unfold z_upf; split <;> split <;> omega
  · rw [z_up_a]; unfold z_upf; split <;> split <;> omega
  · rw [z_up_a]; unfold z_upf; split <;> split <;> omega
  · rw [z_up_a]; unfold z_upf; split <;> split <;> omega
  · have a1 := hm m m0 m1
    constructor
    · rw [z_up_a]; unfold z_upf; split <;> split <;> omega
    · rw [z_up_a]; unfold z_upf; split <;> split <;> omega
  · obtain ⟨a3, a4, a5⟩ := hk k k1
    refine ⟨?_, fun kl => ?_, fun d d0 d1 => ?_⟩
    · rw [z_up_a]; unfold z_upf; split <;> split <;> omega
    · have kl2 : (k : Int) < V 1 := by unfold z_upf at kl; split at kl <;> omega
      have a6 := a4 kl2
      rw [z_up_a]; unfold z_upf; split <;> split <;> omega
    · have a6 := a5 d d0 d1
      refine ⟨?_, ?_, ?_⟩
      · rw [z_up_a]; unfold z_upf; split <;> split <;> omega
      · rw [z_up_a]; unfold z_upf; split <;> split <;> omega
      · rw [z_up_a]; unfold z_upf; split <;> split <;> omega
theorem zS_il {σ : zSt} {b : Nat} {V : zV} (hb : b = 1 ∨ b = 25) (h : zShow σ b V) {n : Int} (v : Int) (n0 : 0 ≤ n) (n1 : n < 6) : zShow (z_up σ (b + 2) n v) b (z_upf V (6 + (2 * n + 1)) v) := by
  obtain ⟨⟨f0, f1, f2, f3, f4, f5⟩, hm, hk⟩ := h
  refine ⟨⟨?_, ?_, ?_, ?_, ?_, ?_⟩, fun m m0 m1 => ?_, fun k k1 => ?_⟩
  · rw [z_up_a]; unfold z_upf; split <;> split <;> omega
  · rw [z_up_a]; unfold z_upf; split <;> split <;> omega
  · rw [z_up_a]; unfold z_upf; split <;> split <;> omega
  · rw [z_up_a]; unfold z_upf; split <;> split <;> omega
  · rw [z_up_a]; unfold z_upf; split <;> split <;> omega
  · rw [z_up_a]; unfold z_upf; split <;> split <;> omega
  · have a1 := hm m m0 m1
    constructor
    · rw [z_up_a]; unfold z_upf; split <;> split <;> omega
    · rw [z_up_a]; unfold z_upf; split <;> split <;> omega
  · obtain ⟨a3, a4, a5⟩ := hk k k1
    refine ⟨?_, fun kl => ?_, fun d d0 d1 => ?_⟩
    · rw [z_up_a]; unfold z_upf; split <;> split <;> omega
    · have kl2 : (k : Int) < V 1 := by unfold z_upf at kl; split at kl <;> omega
      have a6 := a4 kl2
      rw [z_up_a]; unfold z_upf; split <;> split <;> omega
    · have a6 := a5 d d0 d1
      refine ⟨?_, ?_, ?_⟩
      · rw [z_up_a]; unfold z_upf; split <;> split <;> omega
      · rw [z_up_a]; unfold z_upf; split <;> split <;> omega
      · rw [z_up_a]; unfold z_upf; split <;> split <;> omega
theorem zS_pd {σ : zSt} {b : Nat} {V : zV} (hb : b = 1 ∨ b = 25) (h : zShow σ b V) {K : Nat} (v : Int) (K1 : K < 5) : zShow (z_up σ (b + 4 + 4 * K) 3 v) b (z_upf V (18 + (2 * (K : Int) + 1)) v) := by
  obtain ⟨⟨f0, f1, f2, f3, f4, f5⟩, hm, hk⟩ := h
  refine ⟨⟨?_, ?_, ?_, ?_, ?_, ?_⟩, fun m m0 m1 => ?_, fun k k1 => ?_⟩
  · rw [z_up_a]; unfold z_upf; split <;> split <;> omega
  · rw [z_up_a]; unfold z_upf; split <;> split <;> omega
  · rw [z_up_a]; unfold z_upf; split <;> split <;> omega
  · rw [z_up_a]; unfold z_upf; split <;> split <;> omega
  · rw [z_up_a]; unfold z_upf; split <;> split <;> omega
  · rw [z_up_a]; unfold z_upf; split <;> split <;> omega
  · have a1 := hm m m0 m1
    constructor
    · rw [z_up_a]; unfold z_upf; split <;> split <;> omega
    · rw [z_up_a]; unfold z_upf; split <;> split <;> omega
  · obtain ⟨a3, a4, a5⟩ := hk k k1
    refine ⟨?_, fun kl => ?_, fun d d0 d1 => ?_⟩
    · rw [z_up_a]; unfold z_upf; split <;> split <;> omega
    · have kl2 : (k : Int) < V 1 := by unfold z_upf at kl; split at kl <;> omega
      have a6 := a4 kl2
      rw [z_up_a]; unfold z_upf; split <;> split <;> omega
    · have a6 := a5 d d0 d1
      refine ⟨?_, ?_, ?_⟩
      · rw [z_up_a]; unfold z_upf; split <;> split <;> omega
      · rw [z_up_a]; unfold z_upf; split <;> split <;> omega
      · rw [z_up_a]; unfold z_upf; split <;> split <;> omega
theorem zS_pc {σ : zSt} {b : Nat} {V : zV} (hb : b = 1 ∨ b = 25) (h : zShow σ b V) {K : Nat} (v : Int) (K1 : K < 5) : zShow (z_up σ (b + 4 + 4 * K) 4 v) b (z_upf V (18 + 2 * (K : Int)) v) := by
  obtain ⟨⟨f0, f1, f2, f3, f4, f5⟩, hm, hk⟩ := h
  refine ⟨⟨?_, ?_, ?_, ?_, ?_, ?_⟩, fun m m0 m1 => ?_, fun k k1 => ?_⟩
  · rw [z_up_a]; unfold z_upf; split <;> split <;> omega
  · rw [z_up_a]; unfold z_upf; split <;> split <;> omega
  · rw [z_up_a]; unfold z_upf; split <;> split <;> omega
  · rw [z_up_a]; unfold z_upf; split <;> split <;> omega
  · rw [z_up_a]; unfold z_upf; split <;> split <;> omega
  · rw [z_up_a]; unfold z_upf; split <;> split <;> omega
  · have a1 := hm m m0 m1
    constructor
    · rw [z_up_a]; unfold z_upf; split <;> split <;> omega
    · rw [z_up_a]; unfold z_upf; split <;> split <;> omega
  · obtain ⟨a3, a4, a5⟩ := hk k k1
    refine ⟨?_, fun kl => ?_, fun d d0 d1 => ?_⟩
    · rw [z_up_a]; unfold z_upf; split <;> split <;> omega
    · have kl2 : K ≠ k → (k : Int) < V 1 := fun _ => by unfold z_upf at kl; split at kl <;> omega
      have a6 : K ≠ k → σ (b + 4 + 4 * k) 4 = V (18 + 2 * (k : Int)) := fun q => a4 (kl2 q)
      by_cases q : K = k
      · rw [z_up_a, if_pos (by omega)]; unfold z_upf; rw [if_pos (by omega)]
      have a7 := a6 q
      skip
      rw [z_up_a]; unfold z_upf; split <;> split <;> omega
    · have a6 := a5 d d0 d1
      refine ⟨?_, ?_, ?_⟩
      · rw [z_up_a]; unfold z_upf; split <;> split <;> omega
      · rw [z_up_a]; unfold z_upf; split <;> split <;> omega
      · rw [z_up_a]; unfold z_upf; split <;> split <;> omega
theorem zS_x {σ : zSt} {b : Nat} {V : zV} (hb : b = 1 ∨ b = 25) (h : zShow σ b V) {K : Nat} {n : Int} (v : Int) (K1 : K < 5) (n0 : 0 ≤ n) (n1 : n < 7) : zShow (z_up σ (b + 4 + 4 * K + 1) n v) b (z_upf V (28 + 3 * (7 * (K : Int) + n)) v) := by
  obtain ⟨⟨f0, f1, f2, f3, f4, f5⟩, hm, hk⟩ := h
  refine ⟨⟨?_, ?_, ?_, ?_, ?_, ?_⟩, fun m m0 m1 => ?_, fun k k1 => ?_⟩
  · rw [z_up_a]; unfold z_upf; split <;> split <;> omega
  · rw [z_up_a]; unfold z_upf; split <;> split <;> omega
  · rw [z_up_a]; unfold z_upf; split <;> split <;> omega
  · rw [z_up_a]; unfold z_upf; split <;> split <;> omega
  · rw [z_up_a]; unfold z_upf; split <;> split <;> omega
  · rw [z_up_a]; unfold z_upf; split <;> split <;> omega
  · have a1 := hm m m0 m1
    constructor
    · rw [z_up_a]; unfold z_upf; split <;> split <;> omega
    · rw [z_up_a]; unfold z_upf; split <;> split <;> omega
  · obtain ⟨a3, a4, a5⟩ := hk k k1
    refine ⟨?_, fun kl => ?_, fun d d0 d1 => ?_⟩
    · rw [z_up_a]; unfold z_upf; split <;> split <;> omega
    · have kl2 : (k : Int) < V 1 := by unfold z_upf at kl; split at kl <;> omega
      have a6 := a4 kl2
      rw [z_up_a]; unfold z_upf; split <;> split <;> omega
    · have a6 := a5 d d0 d1
      refine ⟨?_, ?_, ?_⟩
      · rw [z_up_a]; unfold z_upf; split <;> split <;> omega
      · rw [z_up_a]; unfold z_upf; split <;> split <;> omega
      · rw [z_up_a]; unfold z_upf; split <;> split <;> omega
theorem zS_y {σ : zSt} {b : Nat} {V : zV} (hb : b = 1 ∨ b = 25) (h : zShow σ b V) {K : Nat} {n : Int} (v : Int) (K1 : K < 5) (n0 : 0 ≤ n) (n1 : n < 7) : zShow (z_up σ (b + 4 + 4 * K + 2) n v) b (z_upf V (28 + (3 * (7 * (K : Int) + n) + 1)) v) := by
  obtain ⟨⟨f0, f1, f2, f3, f4, f5⟩, hm, hk⟩ := h
  refine ⟨⟨?_, ?_, ?_, ?_, ?_, ?_⟩, fun m m0 m1 => ?_, fun k k1 => ?_⟩
  · rw [z_up_a]; unfold z_upf; split <;> split <;> omega
  · rw [z_up_a]; unfold z_upf; split <;> split <;> omega
  · rw [z_up_a]; unfold z_upf; split <;> split <;> omega
  · rw [z_up_a]; unfold z_upf; split <;> split <;> omega
  · rw [z_up_a]; unfold z_upf; split <;> split <;> omega
  · rw [z_up_a]; unfold z_upf; split <;> split <;> omega
  · have a1 := hm m m0 m1
    constructor
    · rw [z_up_a]; unfold z_upf; split <;> split <;> omega
    · rw [z_up_a]; unfold z_upf; split <;> split <;> omega
  · obtain ⟨a3, a4, a5⟩ := hk k k1
    refine ⟨?_, fun kl => ?_, fun d d0 d1 => ?_⟩
    · rw [z_up_a]; unfold z_upf; split <;> split <;> omega
    · have kl2 : (k : Int) < V 1 := by unfold z_upf at kl; split at kl <;> omega
      have a6 := a4 kl2
      rw [z_up_a]; unfold z_upf; split <;> split <;> omega
    · have a6 := a5 d d0 d1
      refine ⟨?_, ?_, ?_⟩
      · rw [z_up_a]; unfold z_upf; split <;> split <;> omega
      · rw [z_up_a]; unfold z_upf; split <;> split <;> omega
      · rw [z_up_a]; unfold z_upf; split <;> split <;> omega
theorem zS_s {σ : zSt} {b : Nat} {V : zV} (hb : b = 1 ∨ b = 25) (h : zShow σ b V) {K : Nat} {n : Int} (v : Int) (K1 : K < 5) (n0 : 0 ≤ n) (n1 : n < 7) : zShow (z_up σ (b + 4 + 4 * K + 3) n v) b (z_upf V (28 + (3 * (7 * (K : Int) + n) + 2)) v) := by
  obtain ⟨⟨f0, f1, f2, f3, f4, f5⟩, hm, hk⟩ := h
  refine ⟨⟨?_, ?_, ?_, ?_, ?_, ?_⟩, fun m m0 m1 => ?_, fun k k1 => ?_⟩
  · rw [z_up_a]; unfold z_upf; split <;> split <;> omega
  · rw [z_up_a]; unfold z_upf; split <;> split <;> omega
  · rw [z_up_a]; unfold z_upf; split <;> split <;> omega
  · rw [z_up_a]; unfold z_upf; split <;> split <;> omega
  · rw [z_up_a]; unfold z_upf; split <;> split <;> omega
  · rw [z_up_a]; unfold z_upf; split <;> split <;> omega
  · have a1 := hm m m0 m1
    constructor
    · rw [z_up_a]; unfold z_upf; split <;> split <;> omega
    · rw [z_up_a]; unfold z_upf; split <;> split <;> omega
  · obtain ⟨a3, a4, a5⟩ := hk k k1
    refine ⟨?_, fun kl => ?_, fun d d0 d1 => ?_⟩
    · rw [z_up_a]; unfold z_upf; split <;> split <;> omega
    · have kl2 : (k : Int) < V 1 := by unfold z_upf at kl; split at kl <;> omega
      have a6 := a4 kl2
      rw [z_up_a]; unfold z_upf; split <;> split <;> omega
    · have a6 := a5 d d0 d1
      refine ⟨?_, ?_, ?_⟩
      · rw [z_up_a]; unfold z_upf; split <;> split <;> omega
      · rw [z_up_a]; unfold z_upf; split <;> split <;> omega
      · rw [z_up_a]; unfold z_upf; split <;> split <;> omega
theorem zShow.of {σ σ1 : zSt} {b : Nat} {V : zV} (h : zShow σ b V) (e : ∀ c : Nat, b ≤ c → c < b + 24 → σ1 c = σ c) : zShow σ1 b V := by
  obtain ⟨⟨f0, f1, f2, f3, f4, f5⟩, hm, hk⟩ := h
  refine ⟨?_, fun m m0 m1 => ?_, fun k k1 => ?_⟩
  · rw [e b (by omega) (by omega)]; exact ⟨f0, f1, f2, f3, f4, f5⟩
  · rw [e (b + 1) (by omega) (by omega), e (b + 2) (by omega) (by omega)]; exact hm m m0 m1
  · rw [e (b + 4 + 4 * k) (by omega) (by omega), e (b + 4 + 4 * k + 1) (by omega) (by omega), e (b + 4 + 4 * k + 2) (by omega) (by omega), e (b + 4 + 4 * k + 3) (by omega) (by omega)]; exact hk k k1
/-- the cells that a change of the show leaves -/
def zFr (c : Nat) : Prop := c = 0 ∨ (25 ≤ c ∧ c < 49) ∨ (53 ≤ c ∧ c < 62) ∨ 80 ≤ c
def zC0 (σ σ' : zSt) (V : zV) : Prop := zShow σ' 1 V ∧ ∀ c : Nat, zFr c → σ' c = σ c
theorem zC0.refl {σ : zSt} {V : zV} (h : zShow σ 1 V) : zC0 σ σ V := ⟨h, fun _ _ => rfl⟩
theorem zC0.eq {σ σ1 : zSt} {V V' : zV} (h : zC0 σ σ1 V) (e : V = V') : zC0 σ σ1 V' := e ▸ h
theorem zC0.fr {σ σ1 : zSt} {V : zV} (h : zC0 σ σ1 V) {c : Nat} (j v : Int) (hc : ¬ zFr c) : ∀ d : Nat, zFr d → z_up σ1 c j v d = σ d := fun d hd => by
  have hne : d ≠ c := fun q => hc (by rw [← q]; exact hd)
  rw [z_up_c hne]
  exact h.2 d hd
theorem zC0.f2 {σ σ1 : zSt} {V : zV} (h : zC0 σ σ1 V) (v : Int)  : zC0 σ (z_up σ1 (1) 2 v) (z_upf V 0 v) := ⟨zS_f2 (Or.inl rfl) h.1 v, h.fr _ _ (by unfold zFr; omega)⟩
theorem zC0.f5 {σ σ1 : zSt} {V : zV} (h : zC0 σ σ1 V) (v : Int)  : zC0 σ (z_up σ1 (1) 5 v) (z_upf V 2 v) := ⟨zS_f5 (Or.inl rfl) h.1 v, h.fr _ _ (by unfold zFr; omega)⟩
theorem zC0.f6 {σ σ1 : zSt} {V : zV} (h : zC0 σ σ1 V) (v : Int)  : zC0 σ (z_up σ1 (1) 6 v) (z_upf V 3 v) := ⟨zS_f6 (Or.inl rfl) h.1 v, h.fr _ _ (by unfold zFr; omega)⟩
theorem zC0.f7 {σ σ1 : zSt} {V : zV} (h : zC0 σ σ1 V) (v : Int)  : zC0 σ (z_up σ1 (1) 7 v) (z_upf V 4 v) := ⟨zS_f7 (Or.inl rfl) h.1 v, h.fr _ _ (by unfold zFr; omega)⟩
theorem zC0.f8 {σ σ1 : zSt} {V : zV} (h : zC0 σ σ1 V) (v : Int)  : zC0 σ (z_up σ1 (1) 8 v) (z_upf V 5 v) := ⟨zS_f8 (Or.inl rfl) h.1 v, h.fr _ _ (by unfold zFr; omega)⟩
theorem zC0.f4 {σ σ1 : zSt} {V : zV} (h : zC0 σ σ1 V) (v : Int) (hc : ∀ k : Nat, k < 5 → (k : Int) < v → σ1 (1 + 4 + 4 * k) 4 = V (18 + 2 * (k : Int))) : zC0 σ (z_up σ1 (1) 4 v) (z_upf V 1 v) := ⟨zS_f4 (Or.inl rfl) h.1 v hc, h.fr _ _ (by unfold zFr; omega)⟩
theorem zC0.bd {σ σ1 : zSt} {V : zV} (h : zC0 σ σ1 V) {n : Int} (v : Int) (n0 : 0 ≤ n) (n1 : n < 6) : zC0 σ (z_up σ1 (1 + 1) n v) (z_upf V (6 + 2 * n) v) := ⟨zS_bd (Or.inl rfl) h.1 v n0 n1, h.fr _ _ (by unfold zFr; omega)⟩
theorem zC0.il {σ σ1 : zSt} {V : zV} (h : zC0 σ σ1 V) {n : Int} (v : Int) (n0 : 0 ≤ n) (n1 : n < 6) : zC0 σ (z_up σ1 (1 + 2) n v) (z_upf V (6 + (2 * n + 1)) v) := ⟨zS_il (Or.inl rfl) h.1 v n0 n1, h.fr _ _ (by unfold zFr; omega)⟩
theorem zC0.pd {σ σ1 : zSt} {V : zV} (h : zC0 σ σ1 V) {K : Nat} (v : Int) (K1 : K < 5) : zC0 σ (z_up σ1 (1 + 4 + 4 * K) 3 v) (z_upf V (18 + (2 * (K : Int) + 1)) v) := ⟨zS_pd (Or.inl rfl) h.1 v K1, h.fr _ _ (by unfold zFr; omega)⟩
theorem zC0.pc {σ σ1 : zSt} {V : zV} (h : zC0 σ σ1 V) {K : Nat} (v : Int) (K1 : K < 5) : zC0 σ (z_up σ1 (1 + 4 + 4 * K) 4 v) (z_upf V (18 + 2 * (K : Int)) v) := ⟨zS_pc (Or.inl rfl) h.1 v K1, h.fr _ _ (by unfold zFr; omega)⟩
theorem zC0.x {σ σ1 : zSt} {V : zV} (h : zC0 σ σ1 V) {K : Nat} {n : Int} (v : Int) (K1 : K < 5) (n0 : 0 ≤ n) (n1 : n < 7) : zC0 σ (z_up σ1 (1 + 4 + 4 * K + 1) n v) (z_upf V (28 + 3 * (7 * (K : Int) + n)) v) := ⟨zS_x (Or.inl rfl) h.1 v K1 n0 n1, h.fr _ _ (by unfold zFr; omega)⟩
theorem zC0.y {σ σ1 : zSt} {V : zV} (h : zC0 σ σ1 V) {K : Nat} {n : Int} (v : Int) (K1 : K < 5) (n0 : 0 ≤ n) (n1 : n < 7) : zC0 σ (z_up σ1 (1 + 4 + 4 * K + 2) n v) (z_upf V (28 + (3 * (7 * (K : Int) + n) + 1)) v) := ⟨zS_y (Or.inl rfl) h.1 v K1 n0 n1, h.fr _ _ (by unfold zFr; omega)⟩
theorem zC0.s {σ σ1 : zSt} {V : zV} (h : zC0 σ σ1 V) {K : Nat} {n : Int} (v : Int) (K1 : K < 5) (n0 : 0 ≤ n) (n1 : n < 7) : zC0 σ (z_up σ1 (1 + 4 + 4 * K + 3) n v) (z_upf V (28 + (3 * (7 * (K : Int) + n) + 2)) v) := ⟨zS_s (Or.inl rfl) h.1 v K1 n0 n1, h.fr _ _ (by unfold zFr; omega)⟩
theorem zC0.us {σ σ1 : zSt} {V : zV} (h : zC0 σ σ1 V) {c : Nat} (j v : Int) (hc : ¬ zFr c) (h24 : 25 ≤ c) : zC0 σ (z_up σ1 c j v) V := ⟨h.1.of (fun d d0 d1 => z_up_c (by omega)), h.fr _ _ hc⟩
/-- what becomes of the settings that are known: no more are, and none from f on, or nothing has changed -/
def zKn (σ σ' : zSt) (V V' : zV) (f : Int) : Prop := (0 ≤ σ' 52 5 ∧ σ' 52 5 ≤ σ 52 5) ∧ (σ' 52 5 ≤ f ∨ V' = V)
def zCup (σ σ' : zSt) (V V' : zV) (f : Int) : Prop := zC0 σ σ' V' ∧ zKn σ σ' V V' f
theorem zKn_min {σ σn : zSt} {V V' : zV} {f : Int} (e : σn 52 = σ 52) (hk : 0 ≤ σ 52 5) (hf : 0 ≤ f) : zKn σ (z_up σn 52 5 (min (σn 52 5) f)) V V' f := by
  unfold zKn
  rw [z_up_s, e]
  omega
theorem zCup.refl {σ : zSt} {V : zV} (h : zShow σ 1 V) (hk : 0 ≤ σ 52 5) (f : Int) : zCup σ σ V V f := ⟨zC0.refl h, ⟨hk, Int.le_refl _⟩, Or.inr rfl⟩
end
section
noncomputable def cIf {α : Type} (P : Prop) (x y : α) : α := @ite α P (Classical.propDecidable P) x y
theorem cIf_t {α : Type} {P : Prop} {x y : α} (h : P) : cIf P x y = x := by unfold cIf; rw [if_pos h]
theorem cIf_f {α : Type} {P : Prop} {x y : α} (h : ¬ P) : cIf P x y = y := by unfold cIf; rw [if_neg h]
abbrev zAcc : Type := Int × Int × Int × (Nat → Int)
def sp_lp {α : Type} (f : Nat → α → α) : Nat → α → α
  | 0, x => x
  | n + 1, x => f n (sp_lp f n x)
theorem sp_lp_id {α : Type} {f : Nat → α → α} {x : α} : ∀ (n : Nat), (∀ i, i < n → f i x = x) → sp_lp f n x = x
  | 0, _ => rfl
  | n + 1, h => by
    have ih := sp_lp_id n (fun i hi => h i (by omega))
    show f n (sp_lp f n x) = x
    rw [ih]
    exact h n (by omega)
theorem sp_lp_c {α : Type} {f g : Nat → α → α} {x : α} : ∀ (n : Nat), (∀ i y, i < n → f i y = g i y) → sp_lp f n x = sp_lp g n x
  | 0, _ => rfl
  | n + 1, h => by
    have ih := sp_lp_c (x := x) n (fun i y hi => h i y (by omega))
    show f n (sp_lp f n x) = g n (sp_lp g n x)
    rw [ih]
    exact h n _ (by omega)
/-- behind a place at which x stays, it stays to the end -/
theorem sp_lp_stay {α : Type} {f : Nat → α → α} {x a : α} {d : Nat} (hx : sp_lp f d a = x) : ∀ (n : Nat), (∀ i, d ≤ i → f i x = x) → sp_lp f (d + n) a = x
  | 0, _ => hx
  | n + 1, h => by
    have ih := sp_lp_stay hx n h
    show f (d + n) (sp_lp f (d + n) a) = x
    rw [ih]
    exact h (d + n) (by omega)
def better (g s : Int) (c : zAcc) : Prop := c.1 = 0 ∨ g < c.2.1 ∨ (g = c.2.1 ∧ s < c.2.2.1)
def tkU (tk : Nat → Int) (t : Nat) (d : Int) : Nat → Int := fun i => if i = t then d else tk i
theorem tkU_s (tk : Nat → Int) (t : Nat) (d : Int) : tkU tk t d t = d := if_pos rfl
theorem tkU_n {tk : Nat → Int} {t i : Nat} {d : Int} (h : i ≠ t) : tkU tk t d i = tk i := if_neg h
/-- all ways to give the turns from t on a dot, in order, the best kept -/
noncomputable def dfs (ok : Nat → (Nat → Int) → Nat → Prop) (st : Nat → Nat → Int) (fin : (Nat → Int) → Prop) (nd : Nat) : Nat → Nat → (Nat → Int) → Int → Int → zAcc → zAcc
  | 0, _, tk, g, s, c => cIf (fin tk ∧ better g s c) (1, g, s, tk) c
  | r + 1, t, tk, g, s, c => sp_lp (fun d c => cIf (ok t tk d) (dfs ok st fin nd r (t + 1) (tkU tk t (d : Int)) (max g (st t d)) (s + st t d) c) c) nd c
theorem dfs_s (ok : Nat → (Nat → Int) → Nat → Prop) (st : Nat → Nat → Int) (fin : (Nat → Int) → Prop) (nd r t : Nat) (tk : Nat → Int) (g s : Int) (c : zAcc) : dfs ok st fin nd (r + 1) t tk g s c = sp_lp (fun d c => cIf (ok t tk d) (dfs ok st fin nd r (t + 1) (tkU tk t (d : Int)) (max g (st t d)) (s + st t d) c) c) nd c := rfl
theorem dfs_0 (ok : Nat → (Nat → Int) → Nat → Prop) (st : Nat → Nat → Int) (fin : (Nat → Int) → Prop) (nd t : Nat) (tk : Nat → Int) (g s : Int) (c : zAcc) : dfs ok st fin nd 0 t tk g s c = cIf (fin tk ∧ better g s c) (1, g, s, tk) c := rfl
/-- what is no better never becomes it -/
theorem dfs_nb {ok : Nat → (Nat → Int) → Nat → Prop} {st : Nat → Nat → Int} {fin : (Nat → Int) → Prop} {nd : Nat} (hst : ∀ t d, d < nd → 0 ≤ st t d) : ∀ (r t : Nat) (tk : Nat → Int) (g s : Int) (c : zAcc), ¬ better g s c → dfs ok st fin nd r t tk g s c = c
  | 0, t, tk, g, s, c, h => by rw [dfs_0]; exact cIf_f (fun q => h q.2)
  | r + 1, t, tk, g, s, c, h => by
    rw [dfs_s]
    refine sp_lp_id nd (fun d hd => ?_)
    by_cases e : ok t tk d
    · rw [cIf_t e]
      have h0 := hst t d hd
      exact dfs_nb hst r (t + 1) _ _ _ c (fun q => h (by unfold better at q ⊢; omega))
    · exact cIf_f e
/-- how many solos among the first dots no turn ahead of t has -/
noncomputable def unf (so : Nat → Prop) (tk : Nat → Int) (t : Nat) : Nat → Nat
  | 0 => 0
  | d + 1 => unf so tk t d + cIf (so d ∧ ∀ i, i < t → tk i ≠ (d : Int)) 1 0
theorem unf_step (so : Nat → Prop) (tk : Nat → Int) (t : Nat) (x : Nat) : ∀ nd : Nat, unf so (tkU tk t (x : Int)) (t + 1) nd + cIf (x < nd ∧ so x ∧ ∀ i, i < t → tk i ≠ (x : Int)) 1 0 = unf so tk t nd
  | 0 => by rw [cIf_f (by omega)]; rfl
  | d + 1 => by
    have ih := unf_step so tk t x d
    unfold unf
    have key : (∀ i, i < t + 1 → tkU tk t (x : Int) i ≠ (d : Int)) ↔ (∀ i, i < t → tk i ≠ (d : Int)) ∧ x ≠ d := by
      constructor
      · intro h
        refine ⟨fun i hi => ?_, fun e => h t (by omega) (by rw [tkU_s, e])⟩
        have := h i (by omega)
        rwa [tkU_n (by omega)] at this
      · intro h i hi
        by_cases e : i = t
        · rw [e, tkU_s]; exact fun q => h.2 (by omega)
        · rw [tkU_n e]; exact h.1 i (by omega)
    by_cases e : x = d
    · subst e
      rw [cIf_f (P := so x ∧ ∀ i, i < t + 1 → tkU tk t (x : Int) i ≠ (x : Int)) (fun q => (key.mp q.2).2 rfl)]
      rw [cIf_f (P := x < x ∧ _) (by omega)] at ih
      by_cases e2 : so x ∧ ∀ i, i < t → tk i ≠ (x : Int)
      · rw [cIf_t (P := x < x + 1 ∧ _) ⟨by omega, e2⟩, cIf_t e2]; omega
      · rw [cIf_f (P := x < x + 1 ∧ _) (fun q => e2 q.2), cIf_f e2]; omega
    · have k1 : cIf (so d ∧ ∀ i, i < t + 1 → tkU tk t (x : Int) i ≠ (d : Int)) 1 0 = cIf (so d ∧ ∀ i, i < t → tk i ≠ (d : Int)) (1 : Nat) 0 := by
        by_cases e2 : so d ∧ ∀ i, i < t → tk i ≠ (d : Int)
        · rw [cIf_t e2, cIf_t ⟨e2.1, key.mpr ⟨e2.2, e⟩⟩]
        · rw [cIf_f e2, cIf_f (fun q => e2 ⟨q.1, (key.mp q.2).1⟩)]
      have k2 : cIf (x < d + 1 ∧ so x ∧ ∀ i, i < t → tk i ≠ (x : Int)) (1 : Nat) 0 = cIf (x < d ∧ so x ∧ ∀ i, i < t → tk i ≠ (x : Int)) 1 0 := by
        by_cases e2 : x < d ∧ so x ∧ ∀ i, i < t → tk i ≠ (x : Int)
        · rw [cIf_t e2, cIf_t ⟨by omega, e2.2⟩]
        · rw [cIf_f e2, cIf_f (fun q => e2 ⟨by omega, q.2⟩)]
      rw [k1, k2]
      omega
theorem unf_0 {so : Nat → Prop} {tk : Nat → Int} {t : Nat} : ∀ nd : Nat, unf so tk t nd = 0 ↔ ∀ d, d < nd → so d → ∃ i, i < t ∧ tk i = (d : Int)
  | 0 => ⟨fun _ d hd => by omega, fun _ => rfl⟩
  | n + 1 => by
    have ih := unf_0 (so := so) (tk := tk) (t := t) n
    unfold unf
    constructor
    · intro h d hd hs
      by_cases e : d = n
      · subst e
        have h2 : ¬ (so d ∧ ∀ i, i < t → tk i ≠ (d : Int)) := fun q => by rw [cIf_t q] at h; omega
        refine Classical.byContradiction (fun q => h2 ⟨hs, fun i hi e => q ⟨i, hi, e⟩⟩)
      · exact ih.mp (by omega) d (by omega) hs
    · intro h
      rw [cIf_f (fun q => by obtain ⟨i, hi, e⟩ := h n (by omega) q.1; exact q.2 i hi e), ih.mpr (fun d hd => h d (by omega))]
/-- too many solos are left: nothing is found -/
theorem dfs_sl {ok : Nat → (Nat → Int) → Nat → Prop} {st : Nat → Nat → Int} {fin : (Nat → Int) → Prop} {nd : Nat} {so : Nat → Prop} {N : Nat} (hf : ∀ tk, fin tk ↔ ∀ d, d < nd → so d → ∃ i, i < N ∧ tk i = (d : Int)) : ∀ (r t : Nat) (tk : Nat → Int) (g s : Int) (c : zAcc), t + r = N → r < unf so tk t nd → dfs ok st fin nd r t tk g s c = c
  | 0, t, tk, g, s, c, hN, h => by
    rw [dfs_0]
    refine cIf_f (fun q => ?_)
    have h1 := (unf_0 nd).mpr ((hf tk).mp q.1)
    rw [show N = t by omega] at h1
    omega
  | r + 1, t, tk, g, s, c, hN, h => by
    rw [dfs_s]
    refine sp_lp_id nd (fun d hd => ?_)
    by_cases e : ok t tk d
    · rw [cIf_t e]
      refine dfs_sl hf r (t + 1) _ _ _ c (by omega) ?_
      have h1 := unf_step so tk t d nd
      by_cases e2 : d < nd ∧ so d ∧ ∀ i, i < t → tk i ≠ (d : Int)
      · rw [cIf_t e2] at h1; omega
      · rw [cIf_f e2] at h1; omega
    · exact cIf_f e
/-- the same with branches left that can't win -/
noncomputable def cdfs (ok : Nat → (Nat → Int) → Nat → Prop) (st : Nat → Nat → Int) (so : Nat → Prop) (nd : Nat) : Nat → Nat → (Nat → Int) → Int → Int → zAcc → zAcc
  | 0, t, tk, g, s, c => cIf (0 < unf so tk t nd) c (1, g, s, tk)
  | r + 1, t, tk, g, s, c => cIf (r + 1 < unf so tk t nd) c (sp_lp (fun d c => cIf (ok t tk d ∧ better (max g (st t d)) (s + st t d) c) (cdfs ok st so nd r (t + 1) (tkU tk t (d : Int)) (max g (st t d)) (s + st t d) c) c) nd c)
theorem cdfs_eq {ok : Nat → (Nat → Int) → Nat → Prop} {st : Nat → Nat → Int} {fin : (Nat → Int) → Prop} {nd : Nat} {so : Nat → Prop} {N : Nat} (hst : ∀ t d, d < nd → 0 ≤ st t d) (hf : ∀ tk, fin tk ↔ ∀ d, d < nd → so d → ∃ i, i < N ∧ tk i = (d : Int)) : ∀ (r t : Nat) (tk : Nat → Int) (g s : Int) (c : zAcc), t + r = N → better g s c → cdfs ok st so nd r t tk g s c = dfs ok st fin nd r t tk g s c
  | 0, t, tk, g, s, c, hN, hb => by
    rw [dfs_0]
    unfold cdfs
    by_cases h : 0 < unf so tk t nd
    · rw [cIf_t h, cIf_f (fun q => by have h1 := (unf_0 nd).mpr ((hf tk).mp q.1); rw [show N = t by omega] at h1; omega)]
    · rw [cIf_f h, cIf_t ⟨(hf tk).mpr (by rw [show N = t by omega]; exact (unf_0 nd).mp (by omega)), hb⟩]
  | r + 1, t, tk, g, s, c, hN, hb => by
    unfold cdfs
    by_cases h : r + 1 < unf so tk t nd
    · rw [cIf_t h, dfs_sl hf (r + 1) t tk g s c hN h]
    · rw [cIf_f h, dfs_s]
      refine sp_lp_c nd (fun d y hd => ?_)
      by_cases e : ok t tk d
      · rw [cIf_t e]
        by_cases e2 : better (max g (st t d)) (s + st t d) y
        · rw [cIf_t ⟨e, e2⟩]
          exact cdfs_eq hst hf r (t + 1) _ _ _ y (by omega) e2
        · rw [cIf_f (fun q => e2 q.2), dfs_nb hst r (t + 1) _ _ _ y e2]
      · rw [cIf_f e, cIf_f (fun q => e q.1)]
end
section
set_option maxRecDepth 100000 in
set_option maxHeartbeats 4000000 in
theorem c_X6_in (l : Launch) {D : va_G} {κ : Nat → ClassId} {a : Nat → Nat} {A : Nat → Prop} (hA : z_aD a A) (σ : zSt) (v b t : Int) (hv : z_inL v) (hb : z_inL b) (ht : z_inL t) : z_Ti l D κ a A yX6_in cX6_in 6 (some .boolean) 0 [.long (zL v), .long (zL b), .long (zL t)] σ (zB (b ≤ v ∧ v ≤ t)) (σ) := by
  refine z_Ti_of (cc := cX6_in) (maxL := 6) (ret := (some .boolean)) (own := RX6) (lv0 := [some (.long (zL v)), none, some (.long (zL b)), none, some (.long (zL t)), none]) hA (by decide) rfl (Nat.le_of_ble_eq_true rfl) rfl ?_
  intro p e s mm below meth c X M
  refine r_lload0 X dX6_in_0 ?_
  refine r_lload2 X dX6_in_1 ?_
  refine r_lcmp X dX6_in_2 ⟨by omega, by omega⟩ ⟨by omega, by omega⟩ ?_
  refine r_if_ltC (tgt := 17) X dX6_in_3 (fun h3 => ?_) (fun h3 => ?_)
  · refine r_iconst X dX6_in_17 ?_
    exact r_zret X M dX6_in_18 (by omega) (by unfold zB; split <;> omega) rfl
  · refine r_lload0 X dX6_in_6 ?_
    refine r_lload4 X dX6_in_7 ?_
    refine r_lcmp X dX6_in_9 ⟨by omega, by omega⟩ ⟨by omega, by omega⟩ ?_
    refine r_if_gtC (tgt := 17) X dX6_in_10 (fun h10 => ?_) (fun h10 => ?_)
    · refine r_iconst X dX6_in_17 ?_
      exact r_zret X M dX6_in_18 (by omega) (by unfold zB; split <;> omega) rfl
    · refine r_iconst X dX6_in_13 ?_
      refine r_goto (tgt := 18) X dX6_in_14 (by decide) ?_
      exact r_zret X M dX6_in_18 (by omega) (by unfold zB; split <;> omega) rfl

set_option maxRecDepth 100000 in
set_option maxHeartbeats 4000000 in
theorem c_X6_isMarcher (l : Launch) {D : va_G} {κ : Nat → ClassId} {a : Nat → Nat} {A : Nat → Prop} (hA : z_aD a A) (σ : zSt) (m : Int) (hm : z_in m) (hN : 0 ≤ σ 81 0 ∧ σ 81 0 ≤ 6) : z_Ti l D κ a A yX6_isMarcher cX6_isMarcher 2 (some .boolean) 1 [.ref (a 80), .int (zI m)] σ (zB (0 ≤ m ∧ m < σ 81 0)) (σ) := by
  refine z_Ti_of (cc := cX6_isMarcher) (maxL := 2) (ret := (some .boolean)) (own := RX6) (lv0 := [some (.ref (a 80)), some (.int (zI m))]) hA (by decide) rfl (Nat.le_of_ble_eq_true rfl) rfl ?_
  intro p e s mm below meth c X M
  refine r_iload1 X dX6_isMarcher_0 ?_
  refine r_i2l X dX6_isMarcher_1 ⟨by omega, by omega⟩ ?_
  refine r_lconst X dX6_isMarcher_2 0 (by decide +kernel) ?_
  refine r_aload0 X dX6_isMarcher_3 ?_
  refine r_get X 0 dX6_isMarcher_4 z_c80 in_X6 tw_554 (by decide) rfl rfl (by decide) ?_
  refine r_iconst X dX6_isMarcher_7 ?_
  refine r_iald X dX6_isMarcher_8 z_c81 (by decide) ⟨by omega, by omega⟩ ?_
  refine r_iconst X dX6_isMarcher_9 ?_
  refine r_isub X dX6_isMarcher_10 ?_
  refine r_i2l X dX6_isMarcher_11 ⟨by omega, by omega⟩ ?_
  refine r_callSi (n := 3) X (c_X6_in l X.2.2.1 _ _ _ _ ⟨by omega, by omega⟩ ⟨by omega, by omega⟩ ⟨by omega, by omega⟩) dX6_isMarcher_12 tw_615 tw_616 tw_46 tw_617 rfl (Nat.le_of_ble_eq_true rfl) ⟨by decide, by decide⟩ (by decide +kernel) rfl ?_
  exact r_zret X M dX6_isMarcher_15 (zB_01 _) (zB_c (by omega)) rfl

set_option maxRecDepth 100000 in
set_option maxHeartbeats 4000000 in
theorem c_X6_isPicture (l : Launch) {D : va_G} {κ : Nat → ClassId} {a : Nat → Nat} {A : Nat → Prop} (hA : z_aD a A) (σ : zSt) (m : Int) (hm : z_in m) (hN : 0 ≤ σ 81 1 ∧ σ 81 1 ≤ 5) : z_Ti l D κ a A yX6_isPicture cX6_isPicture 2 (some .boolean) 1 [.ref (a 80), .int (zI m)] σ (zB (0 ≤ m ∧ m < σ 81 1)) (σ) := by
  refine z_Ti_of (cc := cX6_isPicture) (maxL := 2) (ret := (some .boolean)) (own := RX6) (lv0 := [some (.ref (a 80)), some (.int (zI m))]) hA (by decide) rfl (Nat.le_of_ble_eq_true rfl) rfl ?_
  intro p e s mm below meth c X M
  refine r_iload1 X dX6_isPicture_0 ?_
  refine r_i2l X dX6_isPicture_1 ⟨by omega, by omega⟩ ?_
  refine r_lconst X dX6_isPicture_2 0 (by decide +kernel) ?_
  refine r_aload0 X dX6_isPicture_3 ?_
  refine r_get X 0 dX6_isPicture_4 z_c80 in_X6 tw_554 (by decide) rfl rfl (by decide) ?_
  refine r_iconst X dX6_isPicture_7 ?_
  refine r_iald X dX6_isPicture_8 z_c81 (by decide) ⟨by omega, by omega⟩ ?_
  refine r_iconst X dX6_isPicture_9 ?_
  refine r_isub X dX6_isPicture_10 ?_
  refine r_i2l X dX6_isPicture_11 ⟨by omega, by omega⟩ ?_
  refine r_callSi (n := 3) X (c_X6_in l X.2.2.1 _ _ _ _ ⟨by omega, by omega⟩ ⟨by omega, by omega⟩ ⟨by omega, by omega⟩) dX6_isPicture_12 tw_615 tw_616 tw_46 tw_617 rfl (Nat.le_of_ble_eq_true rfl) ⟨by decide, by decide⟩ (by decide +kernel) rfl ?_
  exact r_zret X M dX6_isPicture_15 (zB_01 _) (zB_c (by omega)) rfl

set_option maxRecDepth 100000 in
set_option maxHeartbeats 4000000 in
theorem c_X6_dotMany (l : Launch) {D : va_G} {κ : Nat → ClassId} {a : Nat → Nat} {A : Nat → Prop} (hA : z_aD a A) (σ : zSt) (m : Int) (hm : 0 ≤ m ∧ m < 5) : z_Ti l D κ a A yX6_dotMany cX6_dotMany 2 (some .int) 0 [.ref (a 80), .int (zI m)] σ (σ 83 (2 * m + 1)) (σ) := by
  refine z_Ti_of (cc := cX6_dotMany) (maxL := 2) (ret := (some .int)) (own := RX6) (lv0 := [some (.ref (a 80)), some (.int (zI m))]) hA (by decide) rfl (Nat.le_of_ble_eq_true rfl) rfl ?_
  intro p e s mm below meth c X M
  refine r_aload0 X dX6_dotMany_0 ?_
  refine r_get X 2 dX6_dotMany_1 z_c80 in_X6 tw_556 (by decide) rfl rfl (by decide) ?_
  refine r_iconst X dX6_dotMany_4 ?_
  refine r_iload1 X dX6_dotMany_5 ?_
  refine r_imul X dX6_dotMany_6 ?_
  refine r_iconst X dX6_dotMany_7 ?_
  refine r_iadd X dX6_dotMany_8 ?_
  refine r_iald X dX6_dotMany_9 z_c83 (by decide) ⟨by omega, by omega⟩ ?_
  exact r_iret X M dX6_dotMany_10 rfl rfl

set_option maxRecDepth 100000 in
set_option maxHeartbeats 4000000 in
theorem c_X6_isIll (l : Launch) {D : va_G} {κ : Nat → ClassId} {a : Nat → Nat} {A : Nat → Prop} (hA : z_aD a A) (σ : zSt) (m : Int) (hm : 0 ≤ m ∧ m < 6) (h1 : z_in (σ 82 (2 * m + 1))) : z_Ti l D κ a A yX6_isIll cX6_isIll 2 (some .boolean) 0 [.ref (a 80), .int (zI m)] σ (zB (σ 82 (2 * m + 1) = 1)) (σ) := by
  refine z_Ti_of (cc := cX6_isIll) (maxL := 2) (ret := (some .boolean)) (own := RX6) (lv0 := [some (.ref (a 80)), some (.int (zI m))]) hA (by decide) rfl (Nat.le_of_ble_eq_true rfl) rfl ?_
  intro p e s mm below meth c X M
  refine r_aload0 X dX6_isIll_0 ?_
  refine r_get X 1 dX6_isIll_1 z_c80 in_X6 tw_555 (by decide) rfl rfl (by decide) ?_
  refine r_iconst X dX6_isIll_4 ?_
  refine r_iload1 X dX6_isIll_5 ?_
  refine r_imul X dX6_isIll_6 ?_
  refine r_iconst X dX6_isIll_7 ?_
  refine r_iadd X dX6_isIll_8 ?_
  refine r_iald X dX6_isIll_9 z_c82 (by decide) ⟨by omega, by omega⟩ ?_
  refine r_iconst X dX6_isIll_10 ?_
  refine r_icmp_ne (tgt := 18) X dX6_isIll_11 ⟨⟨by omega, by omega⟩, by omega, by omega⟩ (fun h11 => ?_) (fun h11 => ?_)
  · refine r_iconst X dX6_isIll_18 ?_
    exact r_zret X M dX6_isIll_19 (by omega) (by unfold zB; split <;> omega) rfl
  · refine r_iconst X dX6_isIll_14 ?_
    refine r_goto (tgt := 19) X dX6_isIll_15 (by decide) ?_
    exact r_zret X M dX6_isIll_19 (by omega) (by unfold zB; split <;> omega) rfl

set_option maxRecDepth 100000 in
set_option maxHeartbeats 4000000 in
theorem c_X6_isDot (l : Launch) {D : va_G} {κ : Nat → ClassId} {a : Nat → Nat} {A : Nat → Prop} (hA : z_aD a A) (σ : zSt) (q d : Int) (hq : z_in q) (hd : z_in d) (hN : 0 ≤ σ 81 1 ∧ σ 81 1 ≤ 5) (hM : ∀ k : Int, 0 ≤ k → k < 5 → 0 ≤ σ 83 (2 * k + 1) ∧ σ 83 (2 * k + 1) ≤ 7) : z_Ti l D κ a A yX6_isDot cX6_isDot 3 (some .boolean) 2 [.ref (a 80), .int (zI q), .int (zI d)] σ (zB ((0 ≤ q ∧ q < σ 81 1) ∧ 0 ≤ d ∧ d < σ 83 (2 * q + 1))) (σ) := by
  refine z_Ti_of (cc := cX6_isDot) (maxL := 3) (ret := (some .boolean)) (own := RX6) (lv0 := [some (.ref (a 80)), some (.int (zI q)), some (.int (zI d))]) hA (by decide) rfl (Nat.le_of_ble_eq_true rfl) rfl ?_
  intro p e s mm below meth c X M
  refine r_aload0 X dX6_isDot_0 ?_
  refine r_iload1 X dX6_isDot_1 ?_
  refine r_callVi (n := 1) X (c_X6_isPicture l X.2.2.1 _ _ ⟨by omega, by omega⟩ ⟨by omega, by omega⟩) dX6_isDot_2 tw_639 tw_641 tw_17 tw_46 tw_642 z_c80 (by decide) rfl rfl (Nat.le_of_ble_eq_true rfl) ⟨by decide, by decide⟩ (by decide +kernel) rfl ?_
  refine r_if_eqB (tgt := 29) X dX6_isDot_5 (fun h5 => ?_) (fun h5 => ?_)
  · refine r_iconst X dX6_isDot_29 ?_
    exact r_zret X M dX6_isDot_30 (by omega) (by unfold zB; split <;> omega) rfl
  · refine r_iload2 X dX6_isDot_8 ?_
    refine r_i2l X dX6_isDot_9 ⟨by omega, by omega⟩ ?_
    refine r_lconst X dX6_isDot_10 0 (by decide +kernel) ?_
    refine r_aload0 X dX6_isDot_11 ?_
    refine r_iload1 X dX6_isDot_12 ?_
    refine r_callVi (n := 1) X (c_X6_dotMany l X.2.2.1 _ _ ⟨by omega, by omega⟩) dX6_isDot_13 tw_658 tw_660 tw_20 tw_46 tw_661 z_c80 (by decide) rfl rfl (Nat.le_of_ble_eq_true rfl) ⟨by decide, by decide⟩ (by decide +kernel) rfl ?_
    refine r_iconst X dX6_isDot_16 ?_
    have hMq := hM q (by omega) (by omega)
    refine r_isub X dX6_isDot_17 ?_
    refine r_i2l X dX6_isDot_18 ⟨by omega, by omega⟩ ?_
    refine r_callSi (n := 3) X (c_X6_in l X.2.2.1 _ _ _ _ ⟨by omega, by omega⟩ ⟨by omega, by omega⟩ ⟨by omega, by omega⟩) dX6_isDot_19 tw_615 tw_616 tw_46 tw_617 rfl (Nat.le_of_ble_eq_true rfl) ⟨by decide, by decide⟩ (by decide +kernel) rfl ?_
    refine r_if_eqB (tgt := 29) X dX6_isDot_22 (fun h22 => ?_) (fun h22 => ?_)
    · refine r_iconst X dX6_isDot_29 ?_
      exact r_zret X M dX6_isDot_30 (by omega) (by unfold zB; split <;> omega) rfl
    · refine r_iconst X dX6_isDot_25 ?_
      refine r_goto (tgt := 30) X dX6_isDot_26 (by decide) ?_
      exact r_zret X M dX6_isDot_30 (by omega) (by unfold zB; split <;> omega) rfl
end
section
set_option maxRecDepth 100000 in
set_option maxHeartbeats 4000000 in
theorem c_X6_marcher (l : Launch) {D : va_G} {κ : Nat → ClassId} {a : Nat → Nat} {A : Nat → Prop} (hA : z_aD a A) (σ : zSt) (b : Int) (hb : z_in b) (V : zV) (hV : v_ok V) (hM : zModel σ V) : z_Tp l D κ a A yX6_marcher cX6_marcher 2 (some .int) 1 [.ref (a 80), .int (zI b)] σ (fun z σ' => z = s_marcher V b ∧ zMup σ σ' (z_if z V (u_marcher V b))) := by
  refine z_Tp_of (cc := cX6_marcher) (maxL := 2) (ret := (some .int)) (own := RX6) (lv0 := [some (.ref (a 80)), some (.int (zI b))]) hA (by decide) rfl (Nat.le_of_ble_eq_true rfl) rfl ?_
  intro p e s mm below meth c X M
  obtain ⟨⟨hv0, hv1, hv2, hv3, hv4, hv5⟩, hvm, hvb, hvk, hvc, hvd⟩ := hV
  have e0 := hM.1 0 (by omega) (by omega)
  have e1 := hM.1 1 (by omega) (by omega)
  refine r_iload1 X dX6_marcher_0 ?_
  refine r_i2l X dX6_marcher_1 ⟨by omega, by omega⟩ ?_
  refine r_lconst X dX6_marcher_2 1 (by decide +kernel) ?_
  refine r_ldc2 X dX6_marcher_3 4 (by decide +kernel) tw_614 ?_
  refine r_callSi (n := 3) X (c_X6_in l X.2.2.1 _ _ _ _ ⟨by omega, by omega⟩ ⟨by omega, by omega⟩ ⟨by omega, by omega⟩) dX6_marcher_6 tw_615 tw_616 tw_46 tw_617 rfl (Nat.le_of_ble_eq_true rfl) ⟨by decide, by decide⟩ (by decide +kernel) rfl ?_
  refine r_if_neB (tgt := 14) X dX6_marcher_9 (fun h9 => ?_) (fun h9 => ?_)
  · refine r_aload0 X dX6_marcher_14 ?_
    refine r_get X 0 dX6_marcher_15 z_c80 in_X6 tw_554 (by decide) rfl rfl (by decide) ?_
    refine r_iconst X dX6_marcher_18 ?_
    refine r_iald X dX6_marcher_19 z_c81 (by decide) ⟨by omega, by omega⟩ ?_
    refine r_eqi (y := V 0) (by (repeat rw [z_up_c (by decide)]); first | exact e0 | exact e1) ?_
    refine r_bipush X dX6_marcher_20 (by decide +kernel) ?_
    refine r_icmp_ne (tgt := 28) X dX6_marcher_22 ⟨⟨by omega, by omega⟩, by omega, by omega⟩ (fun h22 => ?_) (fun h22 => ?_)
    · refine r_aload0 X dX6_marcher_28 ?_
      refine r_get X 1 dX6_marcher_29 z_c80 in_X6 tw_555 (by decide) rfl rfl (by decide) ?_
      refine r_iconst X dX6_marcher_32 ?_
      refine r_aload0 X dX6_marcher_33 ?_
      refine r_get X 0 dX6_marcher_34 z_c80 in_X6 tw_554 (by decide) rfl rfl (by decide) ?_
      refine r_iconst X dX6_marcher_37 ?_
      refine r_iald X dX6_marcher_38 z_c81 (by decide) ⟨by omega, by omega⟩ ?_
      refine r_eqi (y := V 0) (by (repeat rw [z_up_c (by decide)]); first | exact e0 | exact e1) ?_
      refine r_imul X dX6_marcher_39 ?_
      refine r_iload1 X dX6_marcher_40 ?_
      refine r_iast X dX6_marcher_41 z_c82 (by decide) ⟨by omega, by omega⟩ ?_
      refine r_aload0 X dX6_marcher_42 ?_
      refine r_get X 1 dX6_marcher_43 z_c80 in_X6 tw_555 (by decide) rfl rfl (by decide) ?_
      refine r_iconst X dX6_marcher_46 ?_
      refine r_aload0 X dX6_marcher_47 ?_
      refine r_get X 0 dX6_marcher_48 z_c80 in_X6 tw_554 (by decide) rfl rfl (by decide) ?_
      refine r_iconst X dX6_marcher_51 ?_
      refine r_iald X dX6_marcher_52 z_c81 (by decide) ⟨by omega, by omega⟩ ?_
      refine r_eqi (y := V 0) (by (repeat rw [z_up_c (by decide)]); first | exact e0 | exact e1) ?_
      refine r_imul X dX6_marcher_53 ?_
      refine r_iconst X dX6_marcher_54 ?_
      refine r_iadd X dX6_marcher_55 ?_
      refine r_iconst X dX6_marcher_56 ?_
      refine r_iast X dX6_marcher_57 z_c82 (by decide) ⟨by omega, by omega⟩ ?_
      refine r_aload0 X dX6_marcher_58 ?_
      refine r_get X 0 dX6_marcher_59 z_c80 in_X6 tw_554 (by decide) rfl rfl (by decide) ?_
      refine r_iconst X dX6_marcher_62 ?_
      refine r_dup2 X dX6_marcher_63 rfl rfl ?_
      refine r_iald X dX6_marcher_64 z_c81 (by decide) ⟨by omega, by omega⟩ ?_
      refine r_eqi (y := V 0) (by (repeat rw [z_up_c (by decide)]); first | exact e0 | exact e1) ?_
      refine r_iconst X dX6_marcher_65 ?_
      refine r_iadd X dX6_marcher_66 ?_
      refine r_iast X dX6_marcher_67 z_c81 (by decide) ⟨by omega, by omega⟩ ?_
      refine r_aload0 X dX6_marcher_68 ?_
      refine r_get X 0 dX6_marcher_69 z_c80 in_X6 tw_554 (by decide) rfl rfl (by decide) ?_
      refine r_iconst X dX6_marcher_72 ?_
      refine r_iald X dX6_marcher_73 z_c81 (by decide) ⟨by omega, by omega⟩ ?_
      refine r_eqi (y := V 0 + 1) z_up_s ?_
      refine r_iconst X dX6_marcher_74 ?_
      refine r_isub X dX6_marcher_75 ?_
      exact r_iretp X M dX6_marcher_76 ⟨by unfold s_marcher; (repeat' split) <;> omega, by rw [zIf_p (by omega)]; exact ((((zMup.refl hM).u82 b (by omega) (by omega)).u82 0 (by omega) (by omega)).u81 (V 0 + 1) (by omega) (by omega))⟩
    · refine r_bipush X dX6_marcher_25 (by decide +kernel) ?_
      exact r_iretp X M dX6_marcher_27 ⟨by unfold s_marcher; (repeat' split) <;> omega, by rw [zIf_n (by omega)]; exact zMup.refl hM⟩
  · refine r_iconst X dX6_marcher_12 ?_
    exact r_iretp X M dX6_marcher_13 ⟨by unfold s_marcher; (repeat' split) <;> omega, by rw [zIf_n (by omega)]; exact zMup.refl hM⟩

set_option maxRecDepth 100000 in
set_option maxHeartbeats 4000000 in
theorem c_X6_picture (l : Launch) {D : va_G} {κ : Nat → ClassId} {a : Nat → Nat} {A : Nat → Prop} (hA : z_aD a A) (σ : zSt) (b : Int) (hb : z_in b) (V : zV) (hV : v_ok V) (hM : zModel σ V) : z_Tp l D κ a A yX6_picture cX6_picture 2 (some .int) 1 [.ref (a 80), .int (zI b)] σ (fun z σ' => z = s_picture V b ∧ zMup σ σ' (z_if z V (u_picture V b))) := by
  refine z_Tp_of (cc := cX6_picture) (maxL := 2) (ret := (some .int)) (own := RX6) (lv0 := [some (.ref (a 80)), some (.int (zI b))]) hA (by decide) rfl (Nat.le_of_ble_eq_true rfl) rfl ?_
  intro p e s mm below meth c X M
  obtain ⟨⟨hv0, hv1, hv2, hv3, hv4, hv5⟩, hvm, hvb, hvk, hvc, hvd⟩ := hV
  have e0 := hM.1 0 (by omega) (by omega)
  have e1 := hM.1 1 (by omega) (by omega)
  refine r_iload1 X dX6_picture_0 ?_
  refine r_i2l X dX6_picture_1 ⟨by omega, by omega⟩ ?_
  refine r_lconst X dX6_picture_2 1 (by decide +kernel) ?_
  refine r_ldc2 X dX6_picture_3 16 (by decide +kernel) tw_634 ?_
  refine r_callSi (n := 3) X (c_X6_in l X.2.2.1 _ _ _ _ ⟨by omega, by omega⟩ ⟨by omega, by omega⟩ ⟨by omega, by omega⟩) dX6_picture_6 tw_615 tw_616 tw_46 tw_617 rfl (Nat.le_of_ble_eq_true rfl) ⟨by decide, by decide⟩ (by decide +kernel) rfl ?_
  refine r_if_neB (tgt := 14) X dX6_picture_9 (fun h9 => ?_) (fun h9 => ?_)
  · refine r_aload0 X dX6_picture_14 ?_
    refine r_get X 0 dX6_picture_15 z_c80 in_X6 tw_554 (by decide) rfl rfl (by decide) ?_
    refine r_iconst X dX6_picture_18 ?_
    refine r_iald X dX6_picture_19 z_c81 (by decide) ⟨by omega, by omega⟩ ?_
    refine r_eqi (y := V 1) (by (repeat rw [z_up_c (by decide)]); first | exact e0 | exact e1) ?_
    refine r_iconst X dX6_picture_20 ?_
    refine r_icmp_ne (tgt := 27) X dX6_picture_21 ⟨⟨by omega, by omega⟩, by omega, by omega⟩ (fun h21 => ?_) (fun h21 => ?_)
    · refine r_aload0 X dX6_picture_27 ?_
      refine r_get X 2 dX6_picture_28 z_c80 in_X6 tw_556 (by decide) rfl rfl (by decide) ?_
      refine r_iconst X dX6_picture_31 ?_
      refine r_aload0 X dX6_picture_32 ?_
      refine r_get X 0 dX6_picture_33 z_c80 in_X6 tw_554 (by decide) rfl rfl (by decide) ?_
      refine r_iconst X dX6_picture_36 ?_
      refine r_iald X dX6_picture_37 z_c81 (by decide) ⟨by omega, by omega⟩ ?_
      refine r_eqi (y := V 1) (by (repeat rw [z_up_c (by decide)]); first | exact e0 | exact e1) ?_
      refine r_imul X dX6_picture_38 ?_
      refine r_iload1 X dX6_picture_39 ?_
      refine r_iast X dX6_picture_40 z_c83 (by decide) ⟨by omega, by omega⟩ ?_
      refine r_aload0 X dX6_picture_41 ?_
      refine r_get X 2 dX6_picture_42 z_c80 in_X6 tw_556 (by decide) rfl rfl (by decide) ?_
      refine r_iconst X dX6_picture_45 ?_
      refine r_aload0 X dX6_picture_46 ?_
      refine r_get X 0 dX6_picture_47 z_c80 in_X6 tw_554 (by decide) rfl rfl (by decide) ?_
      refine r_iconst X dX6_picture_50 ?_
      refine r_iald X dX6_picture_51 z_c81 (by decide) ⟨by omega, by omega⟩ ?_
      refine r_eqi (y := V 1) (by (repeat rw [z_up_c (by decide)]); first | exact e0 | exact e1) ?_
      refine r_imul X dX6_picture_52 ?_
      refine r_iconst X dX6_picture_53 ?_
      refine r_iadd X dX6_picture_54 ?_
      refine r_iconst X dX6_picture_55 ?_
      refine r_iast X dX6_picture_56 z_c83 (by decide) ⟨by omega, by omega⟩ ?_
      refine r_aload0 X dX6_picture_57 ?_
      refine r_get X 0 dX6_picture_58 z_c80 in_X6 tw_554 (by decide) rfl rfl (by decide) ?_
      refine r_iconst X dX6_picture_61 ?_
      refine r_dup2 X dX6_picture_62 rfl rfl ?_
      refine r_iald X dX6_picture_63 z_c81 (by decide) ⟨by omega, by omega⟩ ?_
      refine r_eqi (y := V 1) (by (repeat rw [z_up_c (by decide)]); first | exact e0 | exact e1) ?_
      refine r_iconst X dX6_picture_64 ?_
      refine r_iadd X dX6_picture_65 ?_
      refine r_iast X dX6_picture_66 z_c81 (by decide) ⟨by omega, by omega⟩ ?_
      refine r_aload0 X dX6_picture_67 ?_
      refine r_get X 0 dX6_picture_68 z_c80 in_X6 tw_554 (by decide) rfl rfl (by decide) ?_
      refine r_iconst X dX6_picture_71 ?_
      refine r_iald X dX6_picture_72 z_c81 (by decide) ⟨by omega, by omega⟩ ?_
      refine r_eqi (y := V 1 + 1) z_up_s ?_
      refine r_iconst X dX6_picture_73 ?_
      refine r_isub X dX6_picture_74 ?_
      exact r_iretp X M dX6_picture_75 ⟨by unfold s_picture; (repeat' split) <;> omega, by rw [zIf_p (by omega)]; exact ((((zMup.refl hM).u83 b (by omega) (by omega)).u83 0 (by omega) (by omega)).u81 (V 1 + 1) (by omega) (by omega))⟩
    · refine r_bipush X dX6_picture_24 (by decide +kernel) ?_
      exact r_iretp X M dX6_picture_26 ⟨by unfold s_picture; (repeat' split) <;> omega, by rw [zIf_n (by omega)]; exact zMup.refl hM⟩
  · refine r_iconst X dX6_picture_12 ?_
    exact r_iretp X M dX6_picture_13 ⟨by unfold s_picture; (repeat' split) <;> omega, by rw [zIf_n (by omega)]; exact zMup.refl hM⟩

set_option maxRecDepth 100000 in
set_option maxHeartbeats 4000000 in
theorem c_X6_ill (l : Launch) {D : va_G} {κ : Nat → ClassId} {a : Nat → Nat} {A : Nat → Prop} (hA : z_aD a A) (σ : zSt) (m i : Int) (hm : z_in m) (hi : i = 0 ∨ i = 1) (V : zV) (hV : v_ok V) (hM : zModel σ V) : z_Tp l D κ a A yX6_ill cX6_ill 5 (some .int) 2 [.ref (a 80), .int (zI m), .int (zI i)] σ (fun z σ' => z = s_ill V m i ∧ zMup σ σ' (z_if z V (u_ill V m i))) := by
  refine z_Tp_of (cc := cX6_ill) (maxL := 5) (ret := (some .int)) (own := RX6) (lv0 := [some (.ref (a 80)), some (.int (zI m)), some (.int (zI i)), none, none]) hA (by decide) rfl (Nat.le_of_ble_eq_true rfl) rfl ?_
  intro p e s mm below meth c X M
  obtain ⟨⟨hv0, hv1, hv2, hv3, hv4, hv5⟩, hvm, hvb, hvk, hvc, hvd⟩ := hV
  have e0 := hM.1 0 (by omega) (by omega)
  have e1 := hM.1 1 (by omega) (by omega)
  refine r_aload0 X dX6_ill_0 ?_
  refine r_iload1 X dX6_ill_1 ?_
  refine r_callVi (n := 1) X (c_X6_isMarcher l X.2.2.1 _ _ ⟨by omega, by omega⟩ ⟨by omega, by omega⟩) dX6_ill_2 tw_622 tw_624 tw_16 tw_46 tw_625 z_c80 (by decide) rfl rfl (Nat.le_of_ble_eq_true rfl) ⟨by decide, by decide⟩ (by decide +kernel) rfl ?_
  refine r_if_neB (tgt := 10) X dX6_ill_5 (fun h5 => ?_) (fun h5 => ?_)
  · have q1 := hvm m (by omega) (by omega)
    rw [show 7 + 2 * m = 6 + (2 * m + 1) by omega] at q1
    refine r_iload2 X dX6_ill_10 ?_
    refine r_if_eq (tgt := 18) X dX6_ill_11 ⟨by omega, by omega⟩ (fun h11 => ?_) (fun h11 => ?_)
    · refine r_iconst X dX6_ill_18 ?_
      refine r_istore3 X dX6_ill_19 ?_
      refine r_aload0 X dX6_ill_20 ?_
      refine r_get X 1 dX6_ill_21 z_c80 in_X6 tw_555 (by decide) rfl rfl (by decide) ?_
      refine r_iconst X dX6_ill_24 ?_
      refine r_iload1 X dX6_ill_25 ?_
      refine r_imul X dX6_ill_26 ?_
      refine r_iconst X dX6_ill_27 ?_
      refine r_iadd X dX6_ill_28 ?_
      refine r_iald X dX6_ill_29 z_c82 (by decide) ⟨by omega, by omega⟩ ?_
      refine r_eqi (hM.2.1 _ (by omega) (by omega)) ?_
      refine r_iload3 X dX6_ill_30 ?_
      refine r_icmp_ne (tgt := 38) X dX6_ill_31 ⟨⟨by omega, by omega⟩, by omega, by omega⟩ (fun h31 => ?_) (fun h31 => ?_)
      · refine r_iconst X dX6_ill_38 ?_
        refine r_istore4 X dX6_ill_39 ?_
        refine r_aload0 X dX6_ill_41 ?_
        refine r_get X 1 dX6_ill_42 z_c80 in_X6 tw_555 (by decide) rfl rfl (by decide) ?_
        refine r_iconst X dX6_ill_45 ?_
        refine r_iload1 X dX6_ill_46 ?_
        refine r_imul X dX6_ill_47 ?_
        refine r_iconst X dX6_ill_48 ?_
        refine r_iadd X dX6_ill_49 ?_
        refine r_iload3 X dX6_ill_50 ?_
        refine r_iast X dX6_ill_51 z_c82 (by decide) ⟨by omega, by omega⟩ ?_
        refine r_iload4 X dX6_ill_52 ?_
        exact r_iretp X M dX6_ill_54 ⟨by unfold s_ill; (repeat' split) <;> omega, by rw [zIf_p (by omega)]; exact ((zMup.refl hM).u82 _ (by omega) (by omega)).eq (by unfold u_ill; congr 1; omega)⟩
      · refine r_iconst X dX6_ill_34 ?_
        refine r_goto (tgt := 39) X dX6_ill_35 (by decide) ?_
        refine r_istore4 X dX6_ill_39 ?_
        refine r_aload0 X dX6_ill_41 ?_
        refine r_get X 1 dX6_ill_42 z_c80 in_X6 tw_555 (by decide) rfl rfl (by decide) ?_
        refine r_iconst X dX6_ill_45 ?_
        refine r_iload1 X dX6_ill_46 ?_
        refine r_imul X dX6_ill_47 ?_
        refine r_iconst X dX6_ill_48 ?_
        refine r_iadd X dX6_ill_49 ?_
        refine r_iload3 X dX6_ill_50 ?_
        refine r_iast X dX6_ill_51 z_c82 (by decide) ⟨by omega, by omega⟩ ?_
        refine r_iload4 X dX6_ill_52 ?_
        exact r_iretp X M dX6_ill_54 ⟨by unfold s_ill; (repeat' split) <;> omega, by rw [zIf_p (by omega)]; exact ((zMup.refl hM).u82 _ (by omega) (by omega)).eq (by unfold u_ill; congr 1; omega)⟩
    · refine r_iconst X dX6_ill_14 ?_
      refine r_goto (tgt := 19) X dX6_ill_15 (by decide) ?_
      refine r_istore3 X dX6_ill_19 ?_
      refine r_aload0 X dX6_ill_20 ?_
      refine r_get X 1 dX6_ill_21 z_c80 in_X6 tw_555 (by decide) rfl rfl (by decide) ?_
      refine r_iconst X dX6_ill_24 ?_
      refine r_iload1 X dX6_ill_25 ?_
      refine r_imul X dX6_ill_26 ?_
      refine r_iconst X dX6_ill_27 ?_
      refine r_iadd X dX6_ill_28 ?_
      refine r_iald X dX6_ill_29 z_c82 (by decide) ⟨by omega, by omega⟩ ?_
      refine r_eqi (hM.2.1 _ (by omega) (by omega)) ?_
      refine r_iload3 X dX6_ill_30 ?_
      refine r_icmp_ne (tgt := 38) X dX6_ill_31 ⟨⟨by omega, by omega⟩, by omega, by omega⟩ (fun h31 => ?_) (fun h31 => ?_)
      · refine r_iconst X dX6_ill_38 ?_
        refine r_istore4 X dX6_ill_39 ?_
        refine r_aload0 X dX6_ill_41 ?_
        refine r_get X 1 dX6_ill_42 z_c80 in_X6 tw_555 (by decide) rfl rfl (by decide) ?_
        refine r_iconst X dX6_ill_45 ?_
        refine r_iload1 X dX6_ill_46 ?_
        refine r_imul X dX6_ill_47 ?_
        refine r_iconst X dX6_ill_48 ?_
        refine r_iadd X dX6_ill_49 ?_
        refine r_iload3 X dX6_ill_50 ?_
        refine r_iast X dX6_ill_51 z_c82 (by decide) ⟨by omega, by omega⟩ ?_
        refine r_iload4 X dX6_ill_52 ?_
        exact r_iretp X M dX6_ill_54 ⟨by unfold s_ill; (repeat' split) <;> omega, by rw [zIf_p (by omega)]; exact ((zMup.refl hM).u82 _ (by omega) (by omega)).eq (by unfold u_ill; congr 1; omega)⟩
      · refine r_iconst X dX6_ill_34 ?_
        refine r_goto (tgt := 39) X dX6_ill_35 (by decide) ?_
        refine r_istore4 X dX6_ill_39 ?_
        refine r_aload0 X dX6_ill_41 ?_
        refine r_get X 1 dX6_ill_42 z_c80 in_X6 tw_555 (by decide) rfl rfl (by decide) ?_
        refine r_iconst X dX6_ill_45 ?_
        refine r_iload1 X dX6_ill_46 ?_
        refine r_imul X dX6_ill_47 ?_
        refine r_iconst X dX6_ill_48 ?_
        refine r_iadd X dX6_ill_49 ?_
        refine r_iload3 X dX6_ill_50 ?_
        refine r_iast X dX6_ill_51 z_c82 (by decide) ⟨by omega, by omega⟩ ?_
        refine r_iload4 X dX6_ill_52 ?_
        exact r_iretp X M dX6_ill_54 ⟨by unfold s_ill; (repeat' split) <;> omega, by rw [zIf_p (by omega)]; exact ((zMup.refl hM).u82 _ (by omega) (by omega)).eq (by unfold u_ill; congr 1; omega)⟩
  · refine r_iconst X dX6_ill_8 ?_
    exact r_iretp X M dX6_ill_9 ⟨by unfold s_ill; (repeat' split) <;> omega, by rw [zIf_n (by omega)]; exact zMup.refl hM⟩

set_option maxRecDepth 100000 in
set_option maxHeartbeats 4000000 in
theorem c_X6_bound (l : Launch) {D : va_G} {κ : Nat → ClassId} {a : Nat → Nat} {A : Nat → Prop} (hA : z_aD a A) (σ : zSt) (m v : Int) (hm : z_in m) (hv : z_in v) (V : zV) (hV : v_ok V) (hM : zModel σ V) : z_Tp l D κ a A yX6_bound cX6_bound 4 (some .int) 2 [.ref (a 80), .int (zI m), .int (zI v)] σ (fun z σ' => z = s_bound V m v ∧ zMup σ σ' (z_if z V (u_bound V m v))) := by
  refine z_Tp_of (cc := cX6_bound) (maxL := 4) (ret := (some .int)) (own := RX6) (lv0 := [some (.ref (a 80)), some (.int (zI m)), some (.int (zI v)), none]) hA (by decide) rfl (Nat.le_of_ble_eq_true rfl) rfl ?_
  intro p e s mm below meth c X M
  obtain ⟨⟨hv0, hv1, hv2, hv3, hv4, hv5⟩, hvm, hvb, hvk, hvc, hvd⟩ := hV
  have e0 := hM.1 0 (by omega) (by omega)
  have e1 := hM.1 1 (by omega) (by omega)
  refine r_aload0 X dX6_bound_0 ?_
  refine r_iload1 X dX6_bound_1 ?_
  refine r_callVi (n := 1) X (c_X6_isMarcher l X.2.2.1 _ _ ⟨by omega, by omega⟩ ⟨by omega, by omega⟩) dX6_bound_2 tw_622 tw_624 tw_16 tw_46 tw_625 z_c80 (by decide) rfl rfl (Nat.le_of_ble_eq_true rfl) ⟨by decide, by decide⟩ (by decide +kernel) rfl ?_
  refine r_if_eqB (tgt := 20) X dX6_bound_5 (fun h5 => ?_) (fun h5 => ?_)
  · refine r_iconst X dX6_bound_20 ?_
    exact r_iretp X M dX6_bound_21 ⟨by unfold s_bound; (repeat' split) <;> omega, by rw [zIf_n (by omega)]; exact zMup.refl hM⟩
  · refine r_iload2 X dX6_bound_8 ?_
    refine r_i2l X dX6_bound_9 ⟨by omega, by omega⟩ ?_
    refine r_lconst X dX6_bound_10 1 (by decide +kernel) ?_
    refine r_ldc2 X dX6_bound_11 4 (by decide +kernel) tw_614 ?_
    refine r_callSi (n := 3) X (c_X6_in l X.2.2.1 _ _ _ _ ⟨by omega, by omega⟩ ⟨by omega, by omega⟩ ⟨by omega, by omega⟩) dX6_bound_14 tw_615 tw_616 tw_46 tw_617 rfl (Nat.le_of_ble_eq_true rfl) ⟨by decide, by decide⟩ (by decide +kernel) rfl ?_
    refine r_if_neB (tgt := 22) X dX6_bound_17 (fun h17 => ?_) (fun h17 => ?_)
    · have q1 := hvm m (by omega) (by omega)
      rw [show 7 + 2 * m = 6 + (2 * m + 1) by omega] at q1
      refine r_aload0 X dX6_bound_22 ?_
      refine r_get X 1 dX6_bound_23 z_c80 in_X6 tw_555 (by decide) rfl rfl (by decide) ?_
      refine r_iconst X dX6_bound_26 ?_
      refine r_iload1 X dX6_bound_27 ?_
      refine r_imul X dX6_bound_28 ?_
      refine r_iald X dX6_bound_29 z_c82 (by decide) ⟨by omega, by omega⟩ ?_
      refine r_eqi (hM.2.1 _ (by omega) (by omega)) ?_
      refine r_istore3 X dX6_bound_30 ?_
      refine r_aload0 X dX6_bound_31 ?_
      refine r_get X 1 dX6_bound_32 z_c80 in_X6 tw_555 (by decide) rfl rfl (by decide) ?_
      refine r_iconst X dX6_bound_35 ?_
      refine r_iload1 X dX6_bound_36 ?_
      refine r_imul X dX6_bound_37 ?_
      refine r_iload2 X dX6_bound_38 ?_
      refine r_iast X dX6_bound_39 z_c82 (by decide) ⟨by omega, by omega⟩ ?_
      refine r_iload3 X dX6_bound_40 ?_
      exact r_iretp X M dX6_bound_41 ⟨by unfold s_bound; (repeat' split) <;> omega, by rw [zIf_p (by omega)]; exact ((zMup.refl hM).u82 v (by omega) (by omega))⟩
    · refine r_iconst X dX6_bound_20 ?_
      exact r_iretp X M dX6_bound_21 ⟨by unfold s_bound; (repeat' split) <;> omega, by rw [zIf_n (by omega)]; exact zMup.refl hM⟩

set_option maxRecDepth 100000 in
set_option maxHeartbeats 4000000 in
theorem c_X6_counts (l : Launch) {D : va_G} {κ : Nat → ClassId} {a : Nat → Nat} {A : Nat → Prop} (hA : z_aD a A) (σ : zSt) (k v : Int) (hk : z_in k) (hv : z_in v) (V : zV) (hV : v_ok V) (hM : zModel σ V) : z_Tp l D κ a A yX6_counts cX6_counts 4 (some .int) 2 [.ref (a 80), .int (zI k), .int (zI v)] σ (fun z σ' => z = s_counts V k v ∧ zMup σ σ' (z_if z V (u_counts V k v))) := by
  refine z_Tp_of (cc := cX6_counts) (maxL := 4) (ret := (some .int)) (own := RX6) (lv0 := [some (.ref (a 80)), some (.int (zI k)), some (.int (zI v)), none]) hA (by decide) rfl (Nat.le_of_ble_eq_true rfl) rfl ?_
  intro p e s mm below meth c X M
  obtain ⟨⟨hv0, hv1, hv2, hv3, hv4, hv5⟩, hvm, hvb, hvk, hvc, hvd⟩ := hV
  have e0 := hM.1 0 (by omega) (by omega)
  have e1 := hM.1 1 (by omega) (by omega)
  refine r_aload0 X dX6_counts_0 ?_
  refine r_iload1 X dX6_counts_1 ?_
  refine r_callVi (n := 1) X (c_X6_isPicture l X.2.2.1 _ _ ⟨by omega, by omega⟩ ⟨by omega, by omega⟩) dX6_counts_2 tw_639 tw_641 tw_17 tw_46 tw_642 z_c80 (by decide) rfl rfl (Nat.le_of_ble_eq_true rfl) ⟨by decide, by decide⟩ (by decide +kernel) rfl ?_
  refine r_if_eqB (tgt := 20) X dX6_counts_5 (fun h5 => ?_) (fun h5 => ?_)
  · refine r_iconst X dX6_counts_20 ?_
    exact r_iretp X M dX6_counts_21 ⟨by unfold s_counts; (repeat' split) <;> omega, by rw [zIf_n (by omega)]; exact zMup.refl hM⟩
  · refine r_iload2 X dX6_counts_8 ?_
    refine r_i2l X dX6_counts_9 ⟨by omega, by omega⟩ ?_
    refine r_lconst X dX6_counts_10 1 (by decide +kernel) ?_
    refine r_ldc2 X dX6_counts_11 16 (by decide +kernel) tw_634 ?_
    refine r_callSi (n := 3) X (c_X6_in l X.2.2.1 _ _ _ _ ⟨by omega, by omega⟩ ⟨by omega, by omega⟩ ⟨by omega, by omega⟩) dX6_counts_14 tw_615 tw_616 tw_46 tw_617 rfl (Nat.le_of_ble_eq_true rfl) ⟨by decide, by decide⟩ (by decide +kernel) rfl ?_
    refine r_if_neB (tgt := 22) X dX6_counts_17 (fun h17 => ?_) (fun h17 => ?_)
    · have q1 := hvk k (by omega) (by omega)
      rw [show 19 + 2 * k = 18 + (2 * k + 1) by omega] at q1
      refine r_aload0 X dX6_counts_22 ?_
      refine r_get X 2 dX6_counts_23 z_c80 in_X6 tw_556 (by decide) rfl rfl (by decide) ?_
      refine r_iconst X dX6_counts_26 ?_
      refine r_iload1 X dX6_counts_27 ?_
      refine r_imul X dX6_counts_28 ?_
      refine r_iald X dX6_counts_29 z_c83 (by decide) ⟨by omega, by omega⟩ ?_
      refine r_eqi (hM.2.2.1 _ (by omega) (by omega)) ?_
      refine r_istore3 X dX6_counts_30 ?_
      refine r_aload0 X dX6_counts_31 ?_
      refine r_get X 2 dX6_counts_32 z_c80 in_X6 tw_556 (by decide) rfl rfl (by decide) ?_
      refine r_iconst X dX6_counts_35 ?_
      refine r_iload1 X dX6_counts_36 ?_
      refine r_imul X dX6_counts_37 ?_
      refine r_iload2 X dX6_counts_38 ?_
      refine r_iast X dX6_counts_39 z_c83 (by decide) ⟨by omega, by omega⟩ ?_
      refine r_iload3 X dX6_counts_40 ?_
      exact r_iretp X M dX6_counts_41 ⟨by unfold s_counts; (repeat' split) <;> omega, by rw [zIf_p (by omega)]; exact ((zMup.refl hM).u83 v (by omega) (by omega))⟩
    · refine r_iconst X dX6_counts_20 ?_
      exact r_iretp X M dX6_counts_21 ⟨by unfold s_counts; (repeat' split) <;> omega, by rw [zIf_n (by omega)]; exact zMup.refl hM⟩

set_option maxRecDepth 100000 in
set_option maxHeartbeats 4000000 in
theorem c_X6_scrub (l : Launch) {D : va_G} {κ : Nat → ClassId} {a : Nat → Nat} {A : Nat → Prop} (hA : z_aD a A) (σ : zSt) (k : Int) (hk : z_in k) (V : zV) (hV : v_ok V) (hM : zModel σ V) : z_Tp l D κ a A yX6_scrub cX6_scrub 2 (some .int) 2 [.ref (a 80), .int (zI k)] σ (fun z σ' => z = s_scrub V k ∧ zMup σ σ' (z_if z V (u_scrub V k))) := by
  refine z_Tp_of (cc := cX6_scrub) (maxL := 2) (ret := (some .int)) (own := RX6) (lv0 := [some (.ref (a 80)), some (.int (zI k))]) hA (by decide) rfl (Nat.le_of_ble_eq_true rfl) rfl ?_
  intro p e s mm below meth c X M
  obtain ⟨⟨hv0, hv1, hv2, hv3, hv4, hv5⟩, hvm, hvb, hvk, hvc, hvd⟩ := hV
  have e0 := hM.1 0 (by omega) (by omega)
  have e1 := hM.1 1 (by omega) (by omega)
  refine r_aload0 X dX6_scrub_0 ?_
  refine r_iload1 X dX6_scrub_1 ?_
  refine r_callVi (n := 1) X (c_X6_isPicture l X.2.2.1 _ _ ⟨by omega, by omega⟩ ⟨by omega, by omega⟩) dX6_scrub_2 tw_639 tw_641 tw_17 tw_46 tw_642 z_c80 (by decide) rfl rfl (Nat.le_of_ble_eq_true rfl) ⟨by decide, by decide⟩ (by decide +kernel) rfl ?_
  refine r_if_neB (tgt := 10) X dX6_scrub_5 (fun h5 => ?_) (fun h5 => ?_)
  · have q1 := hvk k (by omega) (by omega)
    rw [show 19 + 2 * k = 18 + (2 * k + 1) by omega] at q1
    refine r_aload0 X dX6_scrub_10 ?_
    refine r_iload1 X dX6_scrub_11 ?_
    refine r_callVi (n := 1) X (c_X6_dotMany l X.2.2.1 _ _ ⟨by omega, by omega⟩) dX6_scrub_12 tw_658 tw_660 tw_20 tw_46 tw_661 z_c80 (by decide) rfl rfl (Nat.le_of_ble_eq_true rfl) ⟨by decide, by decide⟩ (by decide +kernel) rfl ?_
    refine r_eqi (hM.2.2.1 _ (by omega) (by omega)) ?_
    refine r_if_ne (tgt := 21) X dX6_scrub_15 ⟨by omega, by omega⟩ (fun h15 => ?_) (fun h15 => ?_)
    · refine r_aload0 X dX6_scrub_21 ?_
      refine r_get X 2 dX6_scrub_22 z_c80 in_X6 tw_556 (by decide) rfl rfl (by decide) ?_
      refine r_iconst X dX6_scrub_25 ?_
      refine r_iload1 X dX6_scrub_26 ?_
      refine r_imul X dX6_scrub_27 ?_
      refine r_iconst X dX6_scrub_28 ?_
      refine r_iadd X dX6_scrub_29 ?_
      refine r_dup2 X dX6_scrub_30 rfl rfl ?_
      refine r_iald X dX6_scrub_31 z_c83 (by decide) ⟨by omega, by omega⟩ ?_
      refine r_eqi (hM.2.2.1 _ (by omega) (by omega)) ?_
      refine r_iconst X dX6_scrub_32 ?_
      refine r_isub X dX6_scrub_33 ?_
      refine r_iast X dX6_scrub_34 z_c83 (by decide) ⟨by omega, by omega⟩ ?_
      refine r_aload0 X dX6_scrub_35 ?_
      refine r_iload1 X dX6_scrub_36 ?_
      refine r_callVi (n := 1) X (c_X6_dotMany l X.2.2.1 _ _ ⟨by omega, by omega⟩) dX6_scrub_37 tw_658 tw_660 tw_20 tw_46 tw_661 z_c80 (by decide) rfl rfl (Nat.le_of_ble_eq_true rfl) ⟨by decide, by decide⟩ (by decide +kernel) rfl ?_
      refine r_eqi z_up_s ?_
      exact r_iretp X M dX6_scrub_40 ⟨by unfold s_scrub; (repeat' split) <;> omega, by rw [zIf_p (by omega)]; exact ((zMup.refl hM).u83 _ (by omega) (by omega))⟩
    · refine r_bipush X dX6_scrub_18 (by decide +kernel) ?_
      exact r_iretp X M dX6_scrub_20 ⟨by unfold s_scrub; (repeat' split) <;> omega, by rw [zIf_n (by omega)]; exact zMup.refl hM⟩
  · refine r_iconst X dX6_scrub_8 ?_
    exact r_iretp X M dX6_scrub_9 ⟨by unfold s_scrub; (repeat' split) <;> omega, by rw [zIf_n (by omega)]; exact zMup.refl hM⟩

set_option maxRecDepth 100000 in
set_option maxHeartbeats 4000000 in
theorem c_X6_rule (l : Launch) {D : va_G} {κ : Nat → ClassId} {a : Nat → Nat} {A : Nat → Prop} (hA : z_aD a A) (σ : zSt) (w v : Int) (hw : z_in w) (hv : z_in v) (V : zV) (hV : v_ok V) (hM : zModel σ V) : z_Tp l D κ a A yX6_rule cX6_rule 4 (some .int) 1 [.ref (a 80), .int (zI w), .int (zI v)] σ (fun z σ' => z = s_rule V w v ∧ zMup σ σ' (z_if z V (u_rule V w v))) := by
  refine z_Tp_of (cc := cX6_rule) (maxL := 4) (ret := (some .int)) (own := RX6) (lv0 := [some (.ref (a 80)), some (.int (zI w)), some (.int (zI v)), none]) hA (by decide) rfl (Nat.le_of_ble_eq_true rfl) rfl ?_
  intro p e s mm below meth c X M
  obtain ⟨⟨hv0, hv1, hv2, hv3, hv4, hv5⟩, hvm, hvb, hvk, hvc, hvd⟩ := hV
  have e0 := hM.1 0 (by omega) (by omega)
  have e1 := hM.1 1 (by omega) (by omega)
  refine r_iload1 X dX6_rule_0 ?_
  refine r_i2l X dX6_rule_1 ⟨by omega, by omega⟩ ?_
  refine r_lconst X dX6_rule_2 0 (by decide +kernel) ?_
  refine r_lconst X dX6_rule_3 1 (by decide +kernel) ?_
  refine r_callSi (n := 3) X (c_X6_in l X.2.2.1 _ _ _ _ ⟨by omega, by omega⟩ ⟨by omega, by omega⟩ ⟨by omega, by omega⟩) dX6_rule_4 tw_615 tw_616 tw_46 tw_617 rfl (Nat.le_of_ble_eq_true rfl) ⟨by decide, by decide⟩ (by decide +kernel) rfl ?_
  refine r_if_eqB (tgt := 33) X dX6_rule_7 (fun h7 => ?_) (fun h7 => ?_)
  · refine r_iconst X dX6_rule_33 ?_
    exact r_iretp X M dX6_rule_34 ⟨by unfold s_rule; (repeat' split) <;> omega, by rw [zIf_n (by omega)]; exact zMup.refl hM⟩
  · refine r_iload2 X dX6_rule_10 ?_
    refine r_i2l X dX6_rule_11 ⟨by omega, by omega⟩ ?_
    refine r_iload1 X dX6_rule_12 ?_
    refine r_i2l X dX6_rule_13 ⟨by omega, by omega⟩ ?_
    refine r_iload1 X dX6_rule_14 ?_
    refine r_if_ne (tgt := 24) X dX6_rule_15 ⟨by omega, by omega⟩ (fun h15 => ?_) (fun h15 => ?_)
    · refine r_ldc2 X dX6_rule_24 20 (by decide +kernel) tw_693 ?_
      refine r_callSi (n := 3) X (c_X6_in l X.2.2.1 _ _ _ _ ⟨by omega, by omega⟩ ⟨by omega, by omega⟩ ⟨by omega, by omega⟩) dX6_rule_27 tw_615 tw_616 tw_46 tw_617 rfl (Nat.le_of_ble_eq_true rfl) ⟨by decide, by decide⟩ (by decide +kernel) rfl ?_
      refine r_if_neB (tgt := 35) X dX6_rule_30 (fun h30 => ?_) (fun h30 => ?_)
      · have q0 : w = 0 ∨ w = 1 := by omega
        have q2 : V (2 + w) = V 2 ∨ V (2 + w) = V 3 := q0.elim (fun q => Or.inl (by rw [q]; rfl)) (fun q => Or.inr (by rw [q]; rfl))
        refine r_aload0 X dX6_rule_35 ?_
        refine r_get X 0 dX6_rule_36 z_c80 in_X6 tw_554 (by decide) rfl rfl (by decide) ?_
        refine r_iconst X dX6_rule_39 ?_
        refine r_iload1 X dX6_rule_40 ?_
        refine r_iadd X dX6_rule_41 ?_
        refine r_iald X dX6_rule_42 z_c81 (by decide) ⟨by omega, by omega⟩ ?_
        refine r_eqi (hM.1 _ (by omega) (by omega)) ?_
        refine r_istore3 X dX6_rule_43 ?_
        refine r_aload0 X dX6_rule_44 ?_
        refine r_get X 0 dX6_rule_45 z_c80 in_X6 tw_554 (by decide) rfl rfl (by decide) ?_
        refine r_iconst X dX6_rule_48 ?_
        refine r_iload1 X dX6_rule_49 ?_
        refine r_iadd X dX6_rule_50 ?_
        refine r_iload2 X dX6_rule_51 ?_
        refine r_iast X dX6_rule_52 z_c81 (by decide) ⟨by omega, by omega⟩ ?_
        refine r_iload3 X dX6_rule_53 ?_
        exact r_iretp X M dX6_rule_54 ⟨by unfold s_rule; (repeat' split) <;> omega, by rw [zIf_p (by omega)]; exact ((zMup.refl hM).u81 v (by omega) (by omega))⟩
      · refine r_iconst X dX6_rule_33 ?_
        exact r_iretp X M dX6_rule_34 ⟨by unfold s_rule; (repeat' split) <;> omega, by rw [zIf_n (by omega)]; exact zMup.refl hM⟩
    · refine r_ldc2 X dX6_rule_18 3 (by decide +kernel) tw_692 ?_
      refine r_goto (tgt := 27) X dX6_rule_21 (by decide) ?_
      refine r_callSi (n := 3) X (c_X6_in l X.2.2.1 _ _ _ _ ⟨by omega, by omega⟩ ⟨by omega, by omega⟩ ⟨by omega, by omega⟩) dX6_rule_27 tw_615 tw_616 tw_46 tw_617 rfl (Nat.le_of_ble_eq_true rfl) ⟨by decide, by decide⟩ (by decide +kernel) rfl ?_
      refine r_if_neB (tgt := 35) X dX6_rule_30 (fun h30 => ?_) (fun h30 => ?_)
      · have q0 : w = 0 ∨ w = 1 := by omega
        have q2 : V (2 + w) = V 2 ∨ V (2 + w) = V 3 := q0.elim (fun q => Or.inl (by rw [q]; rfl)) (fun q => Or.inr (by rw [q]; rfl))
        refine r_aload0 X dX6_rule_35 ?_
        refine r_get X 0 dX6_rule_36 z_c80 in_X6 tw_554 (by decide) rfl rfl (by decide) ?_
        refine r_iconst X dX6_rule_39 ?_
        refine r_iload1 X dX6_rule_40 ?_
        refine r_iadd X dX6_rule_41 ?_
        refine r_iald X dX6_rule_42 z_c81 (by decide) ⟨by omega, by omega⟩ ?_
        refine r_eqi (hM.1 _ (by omega) (by omega)) ?_
        refine r_istore3 X dX6_rule_43 ?_
        refine r_aload0 X dX6_rule_44 ?_
        refine r_get X 0 dX6_rule_45 z_c80 in_X6 tw_554 (by decide) rfl rfl (by decide) ?_
        refine r_iconst X dX6_rule_48 ?_
        refine r_iload1 X dX6_rule_49 ?_
        refine r_iadd X dX6_rule_50 ?_
        refine r_iload2 X dX6_rule_51 ?_
        refine r_iast X dX6_rule_52 z_c81 (by decide) ⟨by omega, by omega⟩ ?_
        refine r_iload3 X dX6_rule_53 ?_
        exact r_iretp X M dX6_rule_54 ⟨by unfold s_rule; (repeat' split) <;> omega, by rw [zIf_p (by omega)]; exact ((zMup.refl hM).u81 v (by omega) (by omega))⟩
      · refine r_iconst X dX6_rule_33 ?_
        exact r_iretp X M dX6_rule_34 ⟨by unfold s_rule; (repeat' split) <;> omega, by rw [zIf_n (by omega)]; exact zMup.refl hM⟩

set_option maxRecDepth 100000 in
set_option maxHeartbeats 4000000 in
theorem c_X6_drums (l : Launch) {D : va_G} {κ : Nat → ClassId} {a : Nat → Nat} {A : Nat → Prop} (hA : z_aD a A) (σ : zSt) (x y : Int) (hx : z_in x) (hy : z_in y) (V : zV) (hV : v_ok V) (hM : zModel σ V) : z_Tp l D κ a A yX6_drums cX6_drums 3 (some .int) 1 [.ref (a 80), .int (zI x), .int (zI y)] σ (fun z σ' => z = s_drums x y ∧ zMup σ σ' (z_if z V (u_drums V x y))) := by
  refine z_Tp_of (cc := cX6_drums) (maxL := 3) (ret := (some .int)) (own := RX6) (lv0 := [some (.ref (a 80)), some (.int (zI x)), some (.int (zI y))]) hA (by decide) rfl (Nat.le_of_ble_eq_true rfl) rfl ?_
  intro p e s mm below meth c X M
  obtain ⟨⟨hv0, hv1, hv2, hv3, hv4, hv5⟩, hvm, hvb, hvk, hvc, hvd⟩ := hV
  have e0 := hM.1 0 (by omega) (by omega)
  have e1 := hM.1 1 (by omega) (by omega)
  refine r_iload1 X dX6_drums_0 ?_
  refine r_i2l X dX6_drums_1 ⟨by omega, by omega⟩ ?_
  refine r_lconst X dX6_drums_2 0 (by decide +kernel) ?_
  refine r_ldc2 X dX6_drums_3 40 (by decide +kernel) tw_666 ?_
  refine r_callSi (n := 3) X (c_X6_in l X.2.2.1 _ _ _ _ ⟨by omega, by omega⟩ ⟨by omega, by omega⟩ ⟨by omega, by omega⟩) dX6_drums_6 tw_615 tw_616 tw_46 tw_617 rfl (Nat.le_of_ble_eq_true rfl) ⟨by decide, by decide⟩ (by decide +kernel) rfl ?_
  refine r_if_eqB (tgt := 24) X dX6_drums_9 (fun h9 => ?_) (fun h9 => ?_)
  · refine r_bipush X dX6_drums_24 (by decide +kernel) ?_
    exact r_iretp X M dX6_drums_26 ⟨by unfold s_drums; (repeat' split) <;> omega, by rw [zIf_n (by omega)]; exact zMup.refl hM⟩
  · refine r_iload2 X dX6_drums_12 ?_
    refine r_i2l X dX6_drums_13 ⟨by omega, by omega⟩ ?_
    refine r_lconst X dX6_drums_14 0 (by decide +kernel) ?_
    refine r_ldc2 X dX6_drums_15 40 (by decide +kernel) tw_666 ?_
    refine r_callSi (n := 3) X (c_X6_in l X.2.2.1 _ _ _ _ ⟨by omega, by omega⟩ ⟨by omega, by omega⟩ ⟨by omega, by omega⟩) dX6_drums_18 tw_615 tw_616 tw_46 tw_617 rfl (Nat.le_of_ble_eq_true rfl) ⟨by decide, by decide⟩ (by decide +kernel) rfl ?_
    refine r_if_neB (tgt := 27) X dX6_drums_21 (fun h21 => ?_) (fun h21 => ?_)
    · refine r_aload0 X dX6_drums_27 ?_
      refine r_get X 0 dX6_drums_28 z_c80 in_X6 tw_554 (by decide) rfl rfl (by decide) ?_
      refine r_iconst X dX6_drums_31 ?_
      refine r_iload1 X dX6_drums_32 ?_
      refine r_iast X dX6_drums_33 z_c81 (by decide) ⟨by omega, by omega⟩ ?_
      refine r_aload0 X dX6_drums_34 ?_
      refine r_get X 0 dX6_drums_35 z_c80 in_X6 tw_554 (by decide) rfl rfl (by decide) ?_
      refine r_iconst X dX6_drums_38 ?_
      refine r_iload2 X dX6_drums_39 ?_
      refine r_iast X dX6_drums_40 z_c81 (by decide) ⟨by omega, by omega⟩ ?_
      refine r_iconst X dX6_drums_41 ?_
      exact r_iretp X M dX6_drums_42 ⟨by unfold s_drums; (repeat' split) <;> omega, by rw [zIf_p (by omega)]; exact (((zMup.refl hM).u81 x (by omega) (by omega)).u81 y (by omega) (by omega))⟩
    · refine r_bipush X dX6_drums_24 (by decide +kernel) ?_
      exact r_iretp X M dX6_drums_26 ⟨by unfold s_drums; (repeat' split) <;> omega, by rw [zIf_n (by omega)]; exact zMup.refl hM⟩

set_option maxRecDepth 100000 in
set_option maxHeartbeats 4000000 in
theorem c_X6_solo (l : Launch) {D : va_G} {κ : Nat → ClassId} {a : Nat → Nat} {A : Nat → Prop} (hA : z_aD a A) (σ : zSt) (k d i : Int) (hk : z_in k) (hd : z_in d) (hi : i = 0 ∨ i = 1) (V : zV) (hV : v_ok V) (hM : zModel σ V) : z_Tp l D κ a A yX6_solo cX6_solo 7 (some .int) 3 [.ref (a 80), .int (zI k), .int (zI d), .int (zI i)] σ (fun z σ' => z = s_solo V k d i ∧ zMup σ σ' (z_if z V (u_solo V k d i))) := by
  refine z_Tp_of (cc := cX6_solo) (maxL := 7) (ret := (some .int)) (own := RX6) (lv0 := [some (.ref (a 80)), some (.int (zI k)), some (.int (zI d)), some (.int (zI i)), none, none, none]) hA (by decide) rfl (Nat.le_of_ble_eq_true rfl) rfl ?_
  intro p e s mm below meth c X M
  obtain ⟨⟨hv0, hv1, hv2, hv3, hv4, hv5⟩, hvm, hvb, hvk, hvc, hvd⟩ := hV
  have e0 := hM.1 0 (by omega) (by omega)
  have e1 := hM.1 1 (by omega) (by omega)
  have q8 : σ 83 (2 * k + 1) = V (18 + (2 * k + 1)) ∨ ¬ (0 ≤ k ∧ k < V 1) := by
    by_cases q : 0 ≤ k ∧ k < V 1
    · exact Or.inl (hM.2.2.1 (2 * k + 1) (by omega) (by omega))
    · exact Or.inr q
  refine r_aload0 X dX6_solo_0 ?_
  refine r_iload1 X dX6_solo_1 ?_
  refine r_iload2 X dX6_solo_2 ?_
  refine r_callVi (n := 2) X (c_X6_isDot l X.2.2.1 _ _ _ ⟨by omega, by omega⟩ ⟨by omega, by omega⟩ ⟨by omega, by omega⟩ (fun k h0 h1 => by have q1 := hvk k h0 h1; have q2 := hM.2.2.1 (2 * k + 1) (by omega) (by omega); rw [show 18 + (2 * k + 1) = 19 + 2 * k by omega] at q2; omega)) dX6_solo_3 tw_680 tw_682 tw_22 tw_46 tw_683 z_c80 (by decide) rfl rfl (Nat.le_of_ble_eq_true rfl) ⟨by decide, by decide⟩ (by decide +kernel) rfl ?_
  refine r_if_neB (tgt := 11) X dX6_solo_6 (fun h6 => ?_) (fun h6 => ?_)
  · have q0 := hvk k (by omega) (by omega)
    have q9 := hM.2.2.1 (2 * k + 1) (by omega) (by omega)
    have q3 := hvd (7 * k + d) (by omega) (by rw [show 19 + 2 * k = 18 + (2 * k + 1) by omega] at q0; omega)
    rw [show 19 + 2 * k = 18 + (2 * k + 1) by omega] at q0
    rw [show 29 + 3 * (7 * k + d) = 28 + (3 * (7 * k + d) + 1) by omega, show 30 + 3 * (7 * k + d) = 28 + (3 * (7 * k + d) + 2) by omega] at q3
    refine r_iconst X dX6_solo_11 ?_
    refine r_bipush X dX6_solo_12 (by decide +kernel) ?_
    refine r_iload1 X dX6_solo_14 ?_
    refine r_imul X dX6_solo_15 ?_
    refine r_iload2 X dX6_solo_16 ?_
    refine r_iadd X dX6_solo_17 ?_
    refine r_imul X dX6_solo_18 ?_
    refine r_iconst X dX6_solo_19 ?_
    refine r_iadd X dX6_solo_20 ?_
    refine r_istore4 X dX6_solo_21 ?_
    refine r_iload3 X dX6_solo_23 ?_
    refine r_if_eq (tgt := 31) X dX6_solo_24 ⟨by omega, by omega⟩ (fun h24 => ?_) (fun h24 => ?_)
    · refine r_iconst X dX6_solo_31 ?_
      refine r_istore5 X dX6_solo_32 ?_
      refine r_aload0 X dX6_solo_34 ?_
      refine r_get X 3 dX6_solo_35 z_c80 in_X6 tw_557 (by decide) rfl rfl (by decide) ?_
      refine r_iload4 X dX6_solo_38 ?_
      refine r_iald X dX6_solo_40 z_c84 (by decide) ⟨by omega, by omega⟩ ?_
      refine r_eqi (hM.2.2.2 _ (by omega) (by omega)) ?_
      refine r_iload5 X dX6_solo_41 ?_
      refine r_icmp_ne (tgt := 50) X dX6_solo_43 ⟨⟨by omega, by omega⟩, by omega, by omega⟩ (fun h43 => ?_) (fun h43 => ?_)
      · refine r_iconst X dX6_solo_50 ?_
        refine r_istore6 X dX6_solo_51 ?_
        refine r_aload0 X dX6_solo_53 ?_
        refine r_get X 3 dX6_solo_54 z_c80 in_X6 tw_557 (by decide) rfl rfl (by decide) ?_
        refine r_iload4 X dX6_solo_57 ?_
        refine r_iload5 X dX6_solo_59 ?_
        refine r_iast X dX6_solo_61 z_c84 (by decide) ⟨by omega, by omega⟩ ?_
        refine r_iload6 X dX6_solo_62 ?_
        exact r_iretp X M dX6_solo_64 ⟨by unfold s_solo; (repeat' split) <;> omega, by rw [zIf_p (by omega)]; exact ((zMup.refl hM).u84 _ (by omega) (by omega)).eq (by unfold u_solo; congr 1; omega)⟩
      · refine r_iconst X dX6_solo_46 ?_
        refine r_goto (tgt := 51) X dX6_solo_47 (by decide) ?_
        refine r_istore6 X dX6_solo_51 ?_
        refine r_aload0 X dX6_solo_53 ?_
        refine r_get X 3 dX6_solo_54 z_c80 in_X6 tw_557 (by decide) rfl rfl (by decide) ?_
        refine r_iload4 X dX6_solo_57 ?_
        refine r_iload5 X dX6_solo_59 ?_
        refine r_iast X dX6_solo_61 z_c84 (by decide) ⟨by omega, by omega⟩ ?_
        refine r_iload6 X dX6_solo_62 ?_
        exact r_iretp X M dX6_solo_64 ⟨by unfold s_solo; (repeat' split) <;> omega, by rw [zIf_p (by omega)]; exact ((zMup.refl hM).u84 _ (by omega) (by omega)).eq (by unfold u_solo; congr 1; omega)⟩
    · refine r_iconst X dX6_solo_27 ?_
      refine r_goto (tgt := 32) X dX6_solo_28 (by decide) ?_
      refine r_istore5 X dX6_solo_32 ?_
      refine r_aload0 X dX6_solo_34 ?_
      refine r_get X 3 dX6_solo_35 z_c80 in_X6 tw_557 (by decide) rfl rfl (by decide) ?_
      refine r_iload4 X dX6_solo_38 ?_
      refine r_iald X dX6_solo_40 z_c84 (by decide) ⟨by omega, by omega⟩ ?_
      refine r_eqi (hM.2.2.2 _ (by omega) (by omega)) ?_
      refine r_iload5 X dX6_solo_41 ?_
      refine r_icmp_ne (tgt := 50) X dX6_solo_43 ⟨⟨by omega, by omega⟩, by omega, by omega⟩ (fun h43 => ?_) (fun h43 => ?_)
      · refine r_iconst X dX6_solo_50 ?_
        refine r_istore6 X dX6_solo_51 ?_
        refine r_aload0 X dX6_solo_53 ?_
        refine r_get X 3 dX6_solo_54 z_c80 in_X6 tw_557 (by decide) rfl rfl (by decide) ?_
        refine r_iload4 X dX6_solo_57 ?_
        refine r_iload5 X dX6_solo_59 ?_
        refine r_iast X dX6_solo_61 z_c84 (by decide) ⟨by omega, by omega⟩ ?_
        refine r_iload6 X dX6_solo_62 ?_
        exact r_iretp X M dX6_solo_64 ⟨by unfold s_solo; (repeat' split) <;> omega, by rw [zIf_p (by omega)]; exact ((zMup.refl hM).u84 _ (by omega) (by omega)).eq (by unfold u_solo; congr 1; omega)⟩
      · refine r_iconst X dX6_solo_46 ?_
        refine r_goto (tgt := 51) X dX6_solo_47 (by decide) ?_
        refine r_istore6 X dX6_solo_51 ?_
        refine r_aload0 X dX6_solo_53 ?_
        refine r_get X 3 dX6_solo_54 z_c80 in_X6 tw_557 (by decide) rfl rfl (by decide) ?_
        refine r_iload4 X dX6_solo_57 ?_
        refine r_iload5 X dX6_solo_59 ?_
        refine r_iast X dX6_solo_61 z_c84 (by decide) ⟨by omega, by omega⟩ ?_
        refine r_iload6 X dX6_solo_62 ?_
        exact r_iretp X M dX6_solo_64 ⟨by unfold s_solo; (repeat' split) <;> omega, by rw [zIf_p (by omega)]; exact ((zMup.refl hM).u84 _ (by omega) (by omega)).eq (by unfold u_solo; congr 1; omega)⟩
  · refine r_iconst X dX6_solo_9 ?_
    exact r_iretp X M dX6_solo_10 ⟨by unfold s_solo; (repeat' split) <;> omega, by rw [zIf_n (by omega)]; exact zMup.refl hM⟩

set_option maxRecDepth 100000 in
set_option maxHeartbeats 4000000 in
theorem c_X6_dot (l : Launch) {D : va_G} {κ : Nat → ClassId} {a : Nat → Nat} {A : Nat → Prop} (hA : z_aD a A) (σ : zSt) (k d w : Int) (hk : z_in k) (hd : z_in d) (hw : z_in w) (V : zV) (hV : v_ok V) (hM : zModel σ V) : z_Tp l D κ a A yX6_dot cX6_dot 4 (some .int) 3 [.ref (a 80), .int (zI k), .int (zI d), .int (zI w)] σ (fun z σ' => z = s_dot V k d w ∧ zMup σ σ' (z_if z V (V))) := by
  refine z_Tp_of (cc := cX6_dot) (maxL := 4) (ret := (some .int)) (own := RX6) (lv0 := [some (.ref (a 80)), some (.int (zI k)), some (.int (zI d)), some (.int (zI w))]) hA (by decide) rfl (Nat.le_of_ble_eq_true rfl) rfl ?_
  intro p e s mm below meth c X M
  obtain ⟨⟨hv0, hv1, hv2, hv3, hv4, hv5⟩, hvm, hvb, hvk, hvc, hvd⟩ := hV
  have e0 := hM.1 0 (by omega) (by omega)
  have e1 := hM.1 1 (by omega) (by omega)
  have q8 : σ 83 (2 * k + 1) = V (18 + (2 * k + 1)) ∨ ¬ (0 ≤ k ∧ k < V 1) := by
    by_cases q : 0 ≤ k ∧ k < V 1
    · exact Or.inl (hM.2.2.1 (2 * k + 1) (by omega) (by omega))
    · exact Or.inr q
  refine r_aload0 X dX6_dot_0 ?_
  refine r_iload1 X dX6_dot_1 ?_
  refine r_iload2 X dX6_dot_2 ?_
  refine r_callVi (n := 2) X (c_X6_isDot l X.2.2.1 _ _ _ ⟨by omega, by omega⟩ ⟨by omega, by omega⟩ ⟨by omega, by omega⟩ (fun k h0 h1 => by have q1 := hvk k h0 h1; have q2 := hM.2.2.1 (2 * k + 1) (by omega) (by omega); rw [show 18 + (2 * k + 1) = 19 + 2 * k by omega] at q2; omega)) dX6_dot_3 tw_680 tw_682 tw_22 tw_46 tw_683 z_c80 (by decide) rfl rfl (Nat.le_of_ble_eq_true rfl) ⟨by decide, by decide⟩ (by decide +kernel) rfl ?_
  refine r_if_eqB (tgt := 39) X dX6_dot_6 (fun h6 => ?_) (fun h6 => ?_)
  · refine r_iconst X dX6_dot_39 ?_
    exact r_iretp X M dX6_dot_40 ⟨by unfold s_dot; (repeat' split) <;> omega, by unfold z_if; split <;> exact zMup.refl hM⟩
  · refine r_iload3 X dX6_dot_9 ?_
    refine r_i2l X dX6_dot_10 ⟨by omega, by omega⟩ ?_
    refine r_lconst X dX6_dot_11 0 (by decide +kernel) ?_
    refine r_ldc2 X dX6_dot_12 2 (by decide +kernel) tw_702 ?_
    refine r_callSi (n := 3) X (c_X6_in l X.2.2.1 _ _ _ _ ⟨by omega, by omega⟩ ⟨by omega, by omega⟩ ⟨by omega, by omega⟩) dX6_dot_15 tw_615 tw_616 tw_46 tw_617 rfl (Nat.le_of_ble_eq_true rfl) ⟨by decide, by decide⟩ (by decide +kernel) rfl ?_
    refine r_if_eqB (tgt := 39) X dX6_dot_18 (fun h18 => ?_) (fun h18 => ?_)
    · refine r_iconst X dX6_dot_39 ?_
      exact r_iretp X M dX6_dot_40 ⟨by unfold s_dot; (repeat' split) <;> omega, by unfold z_if; split <;> exact zMup.refl hM⟩
    · have q0 := hvk k (by omega) (by omega)
      have q9 := hM.2.2.1 (2 * k + 1) (by omega) (by omega)
      have q3 := hvd (7 * k + d) (by omega) (by rw [show 19 + 2 * k = 18 + (2 * k + 1) by omega] at q0; omega)
      rw [show 19 + 2 * k = 18 + (2 * k + 1) by omega] at q0
      rw [show 29 + 3 * (7 * k + d) = 28 + (3 * (7 * k + d) + 1) by omega, show 30 + 3 * (7 * k + d) = 28 + (3 * (7 * k + d) + 2) by omega] at q3
      refine r_aload0 X dX6_dot_21 ?_
      refine r_get X 3 dX6_dot_22 z_c80 in_X6 tw_557 (by decide) rfl rfl (by decide) ?_
      refine r_iconst X dX6_dot_25 ?_
      refine r_bipush X dX6_dot_26 (by decide +kernel) ?_
      refine r_iload1 X dX6_dot_28 ?_
      refine r_imul X dX6_dot_29 ?_
      refine r_iload2 X dX6_dot_30 ?_
      refine r_iadd X dX6_dot_31 ?_
      refine r_imul X dX6_dot_32 ?_
      refine r_iload3 X dX6_dot_33 ?_
      refine r_iadd X dX6_dot_34 ?_
      refine r_iald X dX6_dot_35 z_c84 (by decide) ⟨by omega, by omega⟩ ?_
      refine r_eqi (hM.2.2.2 _ (by omega) (by omega)) ?_
      refine r_goto (tgt := 40) X dX6_dot_36 (by decide) ?_
      exact r_iretp X M dX6_dot_40 ⟨by unfold s_dot; (repeat' split) <;> omega, by unfold z_if; split <;> exact zMup.refl hM⟩
end
section
theorem z_all_s {P : Int → Prop} {i : Int} (h0 : 0 ≤ i) : (∀ j : Int, 0 ≤ j → j < i + 1 → P j) ↔ (∀ j : Int, 0 ≤ j → j < i → P j) ∧ P i := by
  constructor
  · intro h
    exact ⟨fun j a b => h j a (by omega), h i h0 (by omega)⟩
  · intro h j a b
    by_cases e : j = i
    · rw [e]; exact h.2
    · exact h.1 j a (by omega)
def p_free (fX fY sx sy : Int → Int) (nd k : Int) : Prop := (((0 ≤ sx k ∧ sx k ≤ 40) ∧ 0 ≤ sy k ∧ sy k ≤ 40) ∧ ∀ i : Int, 0 ≤ i → i < k → ¬ (sx i = sx k ∧ sy i = sy k)) ∧ ∀ d : Int, 0 ≤ d → d < nd → ¬ (fX d = sx k ∧ fY d = sy k)
def p_ok (fX fY sx sy : Int → Int) (nd n : Int) : Prop := ∀ k : Int, 0 ≤ k → k < n → p_free fX fY sx sy nd k

set_option maxRecDepth 100000 in
set_option maxHeartbeats 4000000 in
theorem c_X6_lay (l : Launch) {D : va_G} {κ : Nat → ClassId} {a : Nat → Nat} {A : Nat → Prop} (hA : z_aD a A) (σ : zSt) (x y : Int) (h : 0 ≤ σ 80 8 ∧ σ 80 8 < 16) : z_Tv l D κ a A yX6_lay cX6_lay 5 none 0 [.ref (a 80), .long (zL x), .long (zL y)] σ (z_up (z_up (z_up σ 86 (σ 80 8) x) 87 (σ 80 8) y) 80 8 (σ 80 8 + 1)) := by
  refine z_Tv_of (cc := cX6_lay) (maxL := 5) (ret := none) (own := RX6) (lv0 := [some (.ref (a 80)), some (.long (zL x)), none, some (.long (zL y)), none]) hA (by decide) rfl (Nat.le_of_ble_eq_true rfl) rfl ?_
  intro p e s mm below meth c X M
  refine r_aload0 X dX6_lay_0 ?_
  refine r_get X 6 dX6_lay_1 z_c80 in_X6 tw_560 (by decide) rfl rfl (by decide) ?_
  refine r_aload0 X dX6_lay_4 ?_
  refine r_get X 8 dX6_lay_5 z_c80 in_X6 tw_562 (by decide) rfl rfl (by decide) ?_
  refine r_lload1 X dX6_lay_8 ?_
  refine r_last X dX6_lay_9 z_c86 (by decide) ⟨by omega, by omega⟩ ?_
  refine r_aload0 X dX6_lay_10 ?_
  refine r_get X 7 dX6_lay_11 z_c80 in_X6 tw_561 (by decide) rfl rfl (by decide) ?_
  refine r_aload0 X dX6_lay_14 ?_
  refine r_get X 8 dX6_lay_15 z_c80 in_X6 tw_562 (by decide) rfl rfl (by decide) ?_
  refine r_eqi (y := σ 80 8) (by repeat rw [z_up_c (by decide)]) ?_
  refine r_lload3 X dX6_lay_18 ?_
  refine r_last X dX6_lay_19 z_c87 (by decide) ⟨by omega, by omega⟩ ?_
  refine r_aload0 X dX6_lay_20 ?_
  refine r_dup X dX6_lay_21 rfl ?_
  refine r_get X 8 dX6_lay_22 z_c80 in_X6 tw_562 (by decide) rfl rfl (by decide) ?_
  refine r_eqi (y := σ 80 8) (by repeat rw [z_up_c (by decide)]) ?_
  refine r_iconst X dX6_lay_25 ?_
  refine r_iadd X dX6_lay_26 ?_
  refine r_put (ty := .int) X 8 8 dX6_lay_27 z_c80 in_X6 tw_562 tyX6 tyX6_ok nmX6 (by decide) rfl (by decide) rfl (by decide +kernel) rfl rfl (fun _ _ => rfl) (Nat.le_of_ble_eq_true rfl) ?_
  exact r_vret X M dX6_lay_30 rfl

set_option maxRecDepth 100000 in
set_option maxHeartbeats 4000000 in
theorem c_X6_isFree (l : Launch) {D : va_G} {κ : Nat → ClassId} {a : Nat → Nat} {A : Nat → Prop} (hA : z_aD a A) (σ : zSt) (q k : Int) (hq : 0 ≤ q ∧ q < 5) (hk : 0 ≤ k ∧ k < 16) (hnd : 0 ≤ σ 83 (2 * q + 1) ∧ σ 83 (2 * q + 1) ≤ 7) (hx : ∀ j : Int, 0 ≤ j → j ≤ k → (-9000000000 ≤ σ 86 j ∧ σ 86 j ≤ 9000000000) ∧ -9000000000 ≤ σ 87 j ∧ σ 87 j ≤ 9000000000) (hd : ∀ j : Int, 0 ≤ j → j < 105 → 0 ≤ σ 84 j ∧ σ 84 j ≤ 40) : z_Tp l D κ a A yX6_isFree cX6_isFree 6 (some .boolean) 1 [.ref (a 80), .int (zI q), .int (zI k)] σ (fun z σ' => σ' = σ ∧ (z = 0 ∨ z = 1) ∧ (z = 1 ↔ p_free (fun d => σ 84 (3 * (7 * q + d))) (fun d => σ 84 (3 * (7 * q + d) + 1)) (σ 86) (σ 87) (σ 83 (2 * q + 1)) k)) := by
  refine z_Tp_of (cc := cX6_isFree) (maxL := 6) (ret := (some .boolean)) (own := RX6) (lv0 := [some (.ref (a 80)), some (.int (zI q)), some (.int (zI k)), none, none, none]) hA (by decide) rfl (Nat.le_of_ble_eq_true rfl) rfl ?_
  intro p e s mm below meth c X M
  have xk := hx k (by omega) (by omega)
  refine r_aload0 X dX6_isFree_0 ?_
  refine r_get X 6 dX6_isFree_1 z_c80 in_X6 tw_560 (by decide) rfl rfl (by decide) ?_
  refine r_iload2 X dX6_isFree_4 ?_
  refine r_lald X dX6_isFree_5 z_c86 (by decide) ⟨by omega, by omega⟩ ?_
  refine r_lconst X dX6_isFree_6 0 (by decide +kernel) ?_
  refine r_ldc2 X dX6_isFree_7 40 (by decide +kernel) tw_666 ?_
  refine r_callSi (n := 3) X (c_X6_in l X.2.2.1 _ _ _ _ ⟨by omega, by omega⟩ ⟨by omega, by omega⟩ ⟨by omega, by omega⟩) dX6_isFree_10 tw_615 tw_616 tw_46 tw_617 rfl (Nat.le_of_ble_eq_true rfl) ⟨by decide, by decide⟩ (by decide +kernel) rfl ?_
  refine r_if_eqB (tgt := 36) X dX6_isFree_13 (fun h13 => ?_) (fun h13 => ?_)
  · refine r_iconst X dX6_isFree_36 ?_
    refine r_istore3 X dX6_isFree_37 ?_
    refine r_iconst X dX6_isFree_38 ?_
    refine r_istore4 X dX6_isFree_39 ?_
    have L : ∀ (fu : Nat) (i f : Int), (k - i) < (fu : Int) → 0 ≤ i → i ≤ k → (f = 0 ∨ f = 1) → (f = 1 ↔ ((0 ≤ σ 86 k ∧ σ 86 k ≤ 40) ∧ 0 ≤ σ 87 k ∧ σ 87 k ≤ 40) ∧ (∀ j : Int, 0 ≤ j → j < i → ¬ (σ 86 j = σ 86 k ∧ σ 87 j = σ 87 k))) → z_G p l e (z_rm 1) s mm ([.ref (a 80), .int (zI q), .int (zI k)] : List Value).toArray below meth c 6 D κ a A 0 0 (MQ below (z_Qp D κ a A (fun z σ' => σ' = σ ∧ (z = 0 ∨ z = 1) ∧ (z = 1 ↔ p_free (fun d => σ 84 (3 * (7 * q + d))) (fun d => σ 84 (3 * (7 * q + d) + 1)) (σ 86) (σ 87) (σ 83 (2 * q + 1)) k))) ([.ref (a 80), .int (zI q), .int (zI k)] : List Value).toArray s 0 0 A) σ [some (.ref (a 80)), some (.int (zI q)), some (.int (zI k)), some (.int (zI f)), some (.int (zI i)), none] 41 [] := by
      intro fu
      induction fu with
      | zero =>
        intro i f hn h0 h1 f01 hf
        omega
      | succ fu ih =>
        intro i f hn h0 h1 f01 hf
        have xi := hx i (by omega) (by omega)
        have xk := hx k (by omega) (by omega)
        refine r_iload4 X dX6_isFree_41 ?_
        refine r_iload2 X dX6_isFree_43 ?_
        refine r_icmp_ge (tgt := 97) X dX6_isFree_44 ⟨⟨by omega, by omega⟩, by omega, by omega⟩ (fun h44 => ?_) (fun h44 => ?_)
        · refine r_iconst X dX6_isFree_97 ?_
          refine r_istore4 X dX6_isFree_98 ?_
          have L2 : ∀ (fu : Nat) (i f : Int) (o5 : Option Value), (σ 83 (2 * q + 1) - i) < (fu : Int) → 0 ≤ i → i ≤ σ 83 (2 * q + 1) → (f = 0 ∨ f = 1) → (f = 1 ↔ (((0 ≤ σ 86 k ∧ σ 86 k ≤ 40) ∧ 0 ≤ σ 87 k ∧ σ 87 k ≤ 40) ∧ (∀ j : Int, 0 ≤ j → j < k → ¬ (σ 86 j = σ 86 k ∧ σ 87 j = σ 87 k))) ∧ (∀ j : Int, 0 ≤ j → j < i → ¬ (σ 84 (3 * (7 * q + j)) = σ 86 k ∧ σ 84 (3 * (7 * q + j) + 1) = σ 87 k))) → z_G p l e (z_rm 1) s mm ([.ref (a 80), .int (zI q), .int (zI k)] : List Value).toArray below meth c 6 D κ a A 0 0 (MQ below (z_Qp D κ a A (fun z σ' => σ' = σ ∧ (z = 0 ∨ z = 1) ∧ (z = 1 ↔ p_free (fun d => σ 84 (3 * (7 * q + d))) (fun d => σ 84 (3 * (7 * q + d) + 1)) (σ 86) (σ 87) (σ 83 (2 * q + 1)) k))) ([.ref (a 80), .int (zI q), .int (zI k)] : List Value).toArray s 0 0 A) σ [some (.ref (a 80)), some (.int (zI q)), some (.int (zI k)), some (.int (zI f)), some (.int (zI i)), o5] 100 [] := by
            intro fu
            induction fu with
            | zero =>
              intro i f o5 hn h0 h1 f01 hf
              omega
            | succ fu ih =>
              intro i f o5 hn h0 h1 f01 hf
              have xk := hx k (by omega) (by omega)
              refine r_iload4 X dX6_isFree_100 ?_
              refine r_aload0 X dX6_isFree_102 ?_
              refine r_iload1 X dX6_isFree_103 ?_
              refine r_callVi (n := 1) X (c_X6_dotMany l X.2.2.1 _ _ ⟨by omega, by omega⟩) dX6_isFree_104 tw_658 tw_660 tw_20 tw_46 tw_661 z_c80 (by decide) rfl rfl (Nat.le_of_ble_eq_true rfl) ⟨by decide, by decide⟩ (by decide +kernel) rfl ?_
              refine r_icmp_ge (tgt := 175) X dX6_isFree_107 ⟨⟨by omega, by omega⟩, by omega, by omega⟩ (fun h107 => ?_) (fun h107 => ?_)
              · refine r_iload3 X dX6_isFree_175 ?_
                exact r_zretp X M dX6_isFree_176 f01 ⟨rfl, f01, hf.trans ⟨fun q => ⟨q.1, fun d d0 d1 => q.2 d d0 (by omega)⟩, fun q => ⟨q.1, fun d d0 d1 => q.2 d d0 (by omega)⟩⟩⟩
              · have xi := hd (3 * (7 * q + i)) (by omega) (by omega)
                have xj := hd (3 * (7 * q + i) + 1) (by omega) (by omega)
                refine r_iconst X dX6_isFree_110 ?_
                refine r_bipush X dX6_isFree_111 (by decide +kernel) ?_
                refine r_iload1 X dX6_isFree_113 ?_
                refine r_imul X dX6_isFree_114 ?_
                refine r_iload4 X dX6_isFree_115 ?_
                refine r_iadd X dX6_isFree_117 ?_
                refine r_imul X dX6_isFree_118 ?_
                refine r_istore5 X dX6_isFree_119 ?_
                refine r_iload3 X dX6_isFree_121 ?_
                refine r_if_eq (tgt := 167) X dX6_isFree_122 ⟨by omega, by omega⟩ (fun h122 => ?_) (fun h122 => ?_)
                · refine r_iconst X dX6_isFree_167 ?_
                  refine r_istore3 X dX6_isFree_168 ?_
                  refine r_iinc4 X dX6_isFree_169 ?_
                  refine r_goto (tgt := 100) X dX6_isFree_172 (by decide) ?_
                  exact ih (i + 1) _ _ (by omega) (by omega) (by omega) (by omega) (by rw [z_all_s h0]; first | omega | grind)
                · refine r_aload0 X dX6_isFree_125 ?_
                  refine r_get X 3 dX6_isFree_126 z_c80 in_X6 tw_557 (by decide) rfl rfl (by decide) ?_
                  refine r_iload5 X dX6_isFree_129 ?_
                  refine r_iald X dX6_isFree_131 z_c84 (by decide) ⟨by omega, by omega⟩ ?_
                  refine r_i2l X dX6_isFree_132 ⟨by omega, by omega⟩ ?_
                  refine r_aload0 X dX6_isFree_133 ?_
                  refine r_get X 6 dX6_isFree_134 z_c80 in_X6 tw_560 (by decide) rfl rfl (by decide) ?_
                  refine r_iload2 X dX6_isFree_137 ?_
                  refine r_lald X dX6_isFree_138 z_c86 (by decide) ⟨by omega, by omega⟩ ?_
                  refine r_lcmp X dX6_isFree_139 ⟨by omega, by omega⟩ ⟨by omega, by omega⟩ ?_
                  refine r_if_neC (tgt := 163) X dX6_isFree_140 (fun h140 => ?_) (fun h140 => ?_)
                  · refine r_iconst X dX6_isFree_163 ?_
                    refine r_goto (tgt := 168) X dX6_isFree_164 (by decide) ?_
                    refine r_istore3 X dX6_isFree_168 ?_
                    refine r_iinc4 X dX6_isFree_169 ?_
                    refine r_goto (tgt := 100) X dX6_isFree_172 (by decide) ?_
                    exact ih (i + 1) _ _ (by omega) (by omega) (by omega) (by omega) (by rw [z_all_s h0]; first | omega | grind)
                  · refine r_aload0 X dX6_isFree_143 ?_
                    refine r_get X 3 dX6_isFree_144 z_c80 in_X6 tw_557 (by decide) rfl rfl (by decide) ?_
                    refine r_iload5 X dX6_isFree_147 ?_
                    refine r_iconst X dX6_isFree_149 ?_
                    refine r_iadd X dX6_isFree_150 ?_
                    refine r_iald X dX6_isFree_151 z_c84 (by decide) ⟨by omega, by omega⟩ ?_
                    refine r_i2l X dX6_isFree_152 ⟨by omega, by omega⟩ ?_
                    refine r_aload0 X dX6_isFree_153 ?_
                    refine r_get X 7 dX6_isFree_154 z_c80 in_X6 tw_561 (by decide) rfl rfl (by decide) ?_
                    refine r_iload2 X dX6_isFree_157 ?_
                    refine r_lald X dX6_isFree_158 z_c87 (by decide) ⟨by omega, by omega⟩ ?_
                    refine r_lcmp X dX6_isFree_159 ⟨by omega, by omega⟩ ⟨by omega, by omega⟩ ?_
                    refine r_if_eqC (tgt := 167) X dX6_isFree_160 (fun h160 => ?_) (fun h160 => ?_)
                    · refine r_iconst X dX6_isFree_167 ?_
                      refine r_istore3 X dX6_isFree_168 ?_
                      refine r_iinc4 X dX6_isFree_169 ?_
                      refine r_goto (tgt := 100) X dX6_isFree_172 (by decide) ?_
                      exact ih (i + 1) _ _ (by omega) (by omega) (by omega) (by omega) (by rw [z_all_s h0]; first | omega | grind)
                    · refine r_iconst X dX6_isFree_163 ?_
                      refine r_goto (tgt := 168) X dX6_isFree_164 (by decide) ?_
                      refine r_istore3 X dX6_isFree_168 ?_
                      refine r_iinc4 X dX6_isFree_169 ?_
                      refine r_goto (tgt := 100) X dX6_isFree_172 (by decide) ?_
                      exact ih (i + 1) _ _ (by omega) (by omega) (by omega) (by omega) (by rw [z_all_s h0]; first | omega | grind)
          exact L2 8 0 _ none (by omega) (by omega) (by omega) f01 (by rw [hf, show i = k by omega]; exact ⟨fun h => ⟨h, fun j _ _ => by omega⟩, fun h => h.1⟩)
        · refine r_iload3 X dX6_isFree_47 ?_
          refine r_if_eq (tgt := 89) X dX6_isFree_48 ⟨by omega, by omega⟩ (fun h48 => ?_) (fun h48 => ?_)
          · refine r_iconst X dX6_isFree_89 ?_
            refine r_istore3 X dX6_isFree_90 ?_
            refine r_iinc4 X dX6_isFree_91 ?_
            refine r_goto (tgt := 41) X dX6_isFree_94 (by decide) ?_
            exact ih (i + 1) _ (by omega) (by omega) (by omega) (by omega) (by rw [z_all_s h0]; first | omega | grind)
          · refine r_aload0 X dX6_isFree_51 ?_
            refine r_get X 6 dX6_isFree_52 z_c80 in_X6 tw_560 (by decide) rfl rfl (by decide) ?_
            refine r_iload4 X dX6_isFree_55 ?_
            refine r_lald X dX6_isFree_57 z_c86 (by decide) ⟨by omega, by omega⟩ ?_
            refine r_aload0 X dX6_isFree_58 ?_
            refine r_get X 6 dX6_isFree_59 z_c80 in_X6 tw_560 (by decide) rfl rfl (by decide) ?_
            refine r_iload2 X dX6_isFree_62 ?_
            refine r_lald X dX6_isFree_63 z_c86 (by decide) ⟨by omega, by omega⟩ ?_
            refine r_lcmp X dX6_isFree_64 ⟨by omega, by omega⟩ ⟨by omega, by omega⟩ ?_
            refine r_if_neC (tgt := 85) X dX6_isFree_65 (fun h65 => ?_) (fun h65 => ?_)
            · refine r_iconst X dX6_isFree_85 ?_
              refine r_goto (tgt := 90) X dX6_isFree_86 (by decide) ?_
              refine r_istore3 X dX6_isFree_90 ?_
              refine r_iinc4 X dX6_isFree_91 ?_
              refine r_goto (tgt := 41) X dX6_isFree_94 (by decide) ?_
              exact ih (i + 1) _ (by omega) (by omega) (by omega) (by omega) (by rw [z_all_s h0]; first | omega | grind)
            · refine r_aload0 X dX6_isFree_68 ?_
              refine r_get X 7 dX6_isFree_69 z_c80 in_X6 tw_561 (by decide) rfl rfl (by decide) ?_
              refine r_iload4 X dX6_isFree_72 ?_
              refine r_lald X dX6_isFree_74 z_c87 (by decide) ⟨by omega, by omega⟩ ?_
              refine r_aload0 X dX6_isFree_75 ?_
              refine r_get X 7 dX6_isFree_76 z_c80 in_X6 tw_561 (by decide) rfl rfl (by decide) ?_
              refine r_iload2 X dX6_isFree_79 ?_
              refine r_lald X dX6_isFree_80 z_c87 (by decide) ⟨by omega, by omega⟩ ?_
              refine r_lcmp X dX6_isFree_81 ⟨by omega, by omega⟩ ⟨by omega, by omega⟩ ?_
              refine r_if_eqC (tgt := 89) X dX6_isFree_82 (fun h82 => ?_) (fun h82 => ?_)
              · refine r_iconst X dX6_isFree_89 ?_
                refine r_istore3 X dX6_isFree_90 ?_
                refine r_iinc4 X dX6_isFree_91 ?_
                refine r_goto (tgt := 41) X dX6_isFree_94 (by decide) ?_
                exact ih (i + 1) _ (by omega) (by omega) (by omega) (by omega) (by rw [z_all_s h0]; first | omega | grind)
              · refine r_iconst X dX6_isFree_85 ?_
                refine r_goto (tgt := 90) X dX6_isFree_86 (by decide) ?_
                refine r_istore3 X dX6_isFree_90 ?_
                refine r_iinc4 X dX6_isFree_91 ?_
                refine r_goto (tgt := 41) X dX6_isFree_94 (by decide) ?_
                exact ih (i + 1) _ (by omega) (by omega) (by omega) (by omega) (by rw [z_all_s h0]; first | omega | grind)
    exact L 17 0 _ (by omega) (by omega) (by omega) (by omega) (by constructor <;> intro hh <;> first | exact ⟨by omega, fun j _ _ => by omega⟩ | (exfalso; omega) | omega)
  · refine r_aload0 X dX6_isFree_16 ?_
    refine r_get X 7 dX6_isFree_17 z_c80 in_X6 tw_561 (by decide) rfl rfl (by decide) ?_
    refine r_iload2 X dX6_isFree_20 ?_
    refine r_lald X dX6_isFree_21 z_c87 (by decide) ⟨by omega, by omega⟩ ?_
    refine r_lconst X dX6_isFree_22 0 (by decide +kernel) ?_
    refine r_ldc2 X dX6_isFree_23 40 (by decide +kernel) tw_666 ?_
    refine r_callSi (n := 3) X (c_X6_in l X.2.2.1 _ _ _ _ ⟨by omega, by omega⟩ ⟨by omega, by omega⟩ ⟨by omega, by omega⟩) dX6_isFree_26 tw_615 tw_616 tw_46 tw_617 rfl (Nat.le_of_ble_eq_true rfl) ⟨by decide, by decide⟩ (by decide +kernel) rfl ?_
    refine r_if_eqB (tgt := 36) X dX6_isFree_29 (fun h29 => ?_) (fun h29 => ?_)
    · refine r_iconst X dX6_isFree_36 ?_
      refine r_istore3 X dX6_isFree_37 ?_
      refine r_iconst X dX6_isFree_38 ?_
      refine r_istore4 X dX6_isFree_39 ?_
      have L : ∀ (fu : Nat) (i f : Int), (k - i) < (fu : Int) → 0 ≤ i → i ≤ k → (f = 0 ∨ f = 1) → (f = 1 ↔ ((0 ≤ σ 86 k ∧ σ 86 k ≤ 40) ∧ 0 ≤ σ 87 k ∧ σ 87 k ≤ 40) ∧ (∀ j : Int, 0 ≤ j → j < i → ¬ (σ 86 j = σ 86 k ∧ σ 87 j = σ 87 k))) → z_G p l e (z_rm 1) s mm ([.ref (a 80), .int (zI q), .int (zI k)] : List Value).toArray below meth c 6 D κ a A 0 0 (MQ below (z_Qp D κ a A (fun z σ' => σ' = σ ∧ (z = 0 ∨ z = 1) ∧ (z = 1 ↔ p_free (fun d => σ 84 (3 * (7 * q + d))) (fun d => σ 84 (3 * (7 * q + d) + 1)) (σ 86) (σ 87) (σ 83 (2 * q + 1)) k))) ([.ref (a 80), .int (zI q), .int (zI k)] : List Value).toArray s 0 0 A) σ [some (.ref (a 80)), some (.int (zI q)), some (.int (zI k)), some (.int (zI f)), some (.int (zI i)), none] 41 [] := by
        intro fu
        induction fu with
        | zero =>
          intro i f hn h0 h1 f01 hf
          omega
        | succ fu ih =>
          intro i f hn h0 h1 f01 hf
          have xi := hx i (by omega) (by omega)
          have xk := hx k (by omega) (by omega)
          refine r_iload4 X dX6_isFree_41 ?_
          refine r_iload2 X dX6_isFree_43 ?_
          refine r_icmp_ge (tgt := 97) X dX6_isFree_44 ⟨⟨by omega, by omega⟩, by omega, by omega⟩ (fun h44 => ?_) (fun h44 => ?_)
          · refine r_iconst X dX6_isFree_97 ?_
            refine r_istore4 X dX6_isFree_98 ?_
            have L2 : ∀ (fu : Nat) (i f : Int) (o5 : Option Value), (σ 83 (2 * q + 1) - i) < (fu : Int) → 0 ≤ i → i ≤ σ 83 (2 * q + 1) → (f = 0 ∨ f = 1) → (f = 1 ↔ (((0 ≤ σ 86 k ∧ σ 86 k ≤ 40) ∧ 0 ≤ σ 87 k ∧ σ 87 k ≤ 40) ∧ (∀ j : Int, 0 ≤ j → j < k → ¬ (σ 86 j = σ 86 k ∧ σ 87 j = σ 87 k))) ∧ (∀ j : Int, 0 ≤ j → j < i → ¬ (σ 84 (3 * (7 * q + j)) = σ 86 k ∧ σ 84 (3 * (7 * q + j) + 1) = σ 87 k))) → z_G p l e (z_rm 1) s mm ([.ref (a 80), .int (zI q), .int (zI k)] : List Value).toArray below meth c 6 D κ a A 0 0 (MQ below (z_Qp D κ a A (fun z σ' => σ' = σ ∧ (z = 0 ∨ z = 1) ∧ (z = 1 ↔ p_free (fun d => σ 84 (3 * (7 * q + d))) (fun d => σ 84 (3 * (7 * q + d) + 1)) (σ 86) (σ 87) (σ 83 (2 * q + 1)) k))) ([.ref (a 80), .int (zI q), .int (zI k)] : List Value).toArray s 0 0 A) σ [some (.ref (a 80)), some (.int (zI q)), some (.int (zI k)), some (.int (zI f)), some (.int (zI i)), o5] 100 [] := by
              intro fu
              induction fu with
              | zero =>
                intro i f o5 hn h0 h1 f01 hf
                omega
              | succ fu ih =>
                intro i f o5 hn h0 h1 f01 hf
                have xk := hx k (by omega) (by omega)
                refine r_iload4 X dX6_isFree_100 ?_
                refine r_aload0 X dX6_isFree_102 ?_
                refine r_iload1 X dX6_isFree_103 ?_
                refine r_callVi (n := 1) X (c_X6_dotMany l X.2.2.1 _ _ ⟨by omega, by omega⟩) dX6_isFree_104 tw_658 tw_660 tw_20 tw_46 tw_661 z_c80 (by decide) rfl rfl (Nat.le_of_ble_eq_true rfl) ⟨by decide, by decide⟩ (by decide +kernel) rfl ?_
                refine r_icmp_ge (tgt := 175) X dX6_isFree_107 ⟨⟨by omega, by omega⟩, by omega, by omega⟩ (fun h107 => ?_) (fun h107 => ?_)
                · refine r_iload3 X dX6_isFree_175 ?_
                  exact r_zretp X M dX6_isFree_176 f01 ⟨rfl, f01, hf.trans ⟨fun q => ⟨q.1, fun d d0 d1 => q.2 d d0 (by omega)⟩, fun q => ⟨q.1, fun d d0 d1 => q.2 d d0 (by omega)⟩⟩⟩
                · have xi := hd (3 * (7 * q + i)) (by omega) (by omega)
                  have xj := hd (3 * (7 * q + i) + 1) (by omega) (by omega)
                  refine r_iconst X dX6_isFree_110 ?_
                  refine r_bipush X dX6_isFree_111 (by decide +kernel) ?_
                  refine r_iload1 X dX6_isFree_113 ?_
                  refine r_imul X dX6_isFree_114 ?_
                  refine r_iload4 X dX6_isFree_115 ?_
                  refine r_iadd X dX6_isFree_117 ?_
                  refine r_imul X dX6_isFree_118 ?_
                  refine r_istore5 X dX6_isFree_119 ?_
                  refine r_iload3 X dX6_isFree_121 ?_
                  refine r_if_eq (tgt := 167) X dX6_isFree_122 ⟨by omega, by omega⟩ (fun h122 => ?_) (fun h122 => ?_)
                  · refine r_iconst X dX6_isFree_167 ?_
                    refine r_istore3 X dX6_isFree_168 ?_
                    refine r_iinc4 X dX6_isFree_169 ?_
                    refine r_goto (tgt := 100) X dX6_isFree_172 (by decide) ?_
                    exact ih (i + 1) _ _ (by omega) (by omega) (by omega) (by omega) (by rw [z_all_s h0]; first | omega | grind)
                  · refine r_aload0 X dX6_isFree_125 ?_
                    refine r_get X 3 dX6_isFree_126 z_c80 in_X6 tw_557 (by decide) rfl rfl (by decide) ?_
                    refine r_iload5 X dX6_isFree_129 ?_
                    refine r_iald X dX6_isFree_131 z_c84 (by decide) ⟨by omega, by omega⟩ ?_
                    refine r_i2l X dX6_isFree_132 ⟨by omega, by omega⟩ ?_
                    refine r_aload0 X dX6_isFree_133 ?_
                    refine r_get X 6 dX6_isFree_134 z_c80 in_X6 tw_560 (by decide) rfl rfl (by decide) ?_
                    refine r_iload2 X dX6_isFree_137 ?_
                    refine r_lald X dX6_isFree_138 z_c86 (by decide) ⟨by omega, by omega⟩ ?_
                    refine r_lcmp X dX6_isFree_139 ⟨by omega, by omega⟩ ⟨by omega, by omega⟩ ?_
                    refine r_if_neC (tgt := 163) X dX6_isFree_140 (fun h140 => ?_) (fun h140 => ?_)
                    · refine r_iconst X dX6_isFree_163 ?_
                      refine r_goto (tgt := 168) X dX6_isFree_164 (by decide) ?_
                      refine r_istore3 X dX6_isFree_168 ?_
                      refine r_iinc4 X dX6_isFree_169 ?_
                      refine r_goto (tgt := 100) X dX6_isFree_172 (by decide) ?_
                      exact ih (i + 1) _ _ (by omega) (by omega) (by omega) (by omega) (by rw [z_all_s h0]; first | omega | grind)
                    · refine r_aload0 X dX6_isFree_143 ?_
                      refine r_get X 3 dX6_isFree_144 z_c80 in_X6 tw_557 (by decide) rfl rfl (by decide) ?_
                      refine r_iload5 X dX6_isFree_147 ?_
                      refine r_iconst X dX6_isFree_149 ?_
                      refine r_iadd X dX6_isFree_150 ?_
                      refine r_iald X dX6_isFree_151 z_c84 (by decide) ⟨by omega, by omega⟩ ?_
                      refine r_i2l X dX6_isFree_152 ⟨by omega, by omega⟩ ?_
                      refine r_aload0 X dX6_isFree_153 ?_
                      refine r_get X 7 dX6_isFree_154 z_c80 in_X6 tw_561 (by decide) rfl rfl (by decide) ?_
                      refine r_iload2 X dX6_isFree_157 ?_
                      refine r_lald X dX6_isFree_158 z_c87 (by decide) ⟨by omega, by omega⟩ ?_
                      refine r_lcmp X dX6_isFree_159 ⟨by omega, by omega⟩ ⟨by omega, by omega⟩ ?_
                      refine r_if_eqC (tgt := 167) X dX6_isFree_160 (fun h160 => ?_) (fun h160 => ?_)
                      · refine r_iconst X dX6_isFree_167 ?_
                        refine r_istore3 X dX6_isFree_168 ?_
                        refine r_iinc4 X dX6_isFree_169 ?_
                        refine r_goto (tgt := 100) X dX6_isFree_172 (by decide) ?_
                        exact ih (i + 1) _ _ (by omega) (by omega) (by omega) (by omega) (by rw [z_all_s h0]; first | omega | grind)
                      · refine r_iconst X dX6_isFree_163 ?_
                        refine r_goto (tgt := 168) X dX6_isFree_164 (by decide) ?_
                        refine r_istore3 X dX6_isFree_168 ?_
                        refine r_iinc4 X dX6_isFree_169 ?_
                        refine r_goto (tgt := 100) X dX6_isFree_172 (by decide) ?_
                        exact ih (i + 1) _ _ (by omega) (by omega) (by omega) (by omega) (by rw [z_all_s h0]; first | omega | grind)
            exact L2 8 0 _ none (by omega) (by omega) (by omega) f01 (by rw [hf, show i = k by omega]; exact ⟨fun h => ⟨h, fun j _ _ => by omega⟩, fun h => h.1⟩)
          · refine r_iload3 X dX6_isFree_47 ?_
            refine r_if_eq (tgt := 89) X dX6_isFree_48 ⟨by omega, by omega⟩ (fun h48 => ?_) (fun h48 => ?_)
            · refine r_iconst X dX6_isFree_89 ?_
              refine r_istore3 X dX6_isFree_90 ?_
              refine r_iinc4 X dX6_isFree_91 ?_
              refine r_goto (tgt := 41) X dX6_isFree_94 (by decide) ?_
              exact ih (i + 1) _ (by omega) (by omega) (by omega) (by omega) (by rw [z_all_s h0]; first | omega | grind)
            · refine r_aload0 X dX6_isFree_51 ?_
              refine r_get X 6 dX6_isFree_52 z_c80 in_X6 tw_560 (by decide) rfl rfl (by decide) ?_
              refine r_iload4 X dX6_isFree_55 ?_
              refine r_lald X dX6_isFree_57 z_c86 (by decide) ⟨by omega, by omega⟩ ?_
              refine r_aload0 X dX6_isFree_58 ?_
              refine r_get X 6 dX6_isFree_59 z_c80 in_X6 tw_560 (by decide) rfl rfl (by decide) ?_
              refine r_iload2 X dX6_isFree_62 ?_
              refine r_lald X dX6_isFree_63 z_c86 (by decide) ⟨by omega, by omega⟩ ?_
              refine r_lcmp X dX6_isFree_64 ⟨by omega, by omega⟩ ⟨by omega, by omega⟩ ?_
              refine r_if_neC (tgt := 85) X dX6_isFree_65 (fun h65 => ?_) (fun h65 => ?_)
              · refine r_iconst X dX6_isFree_85 ?_
                refine r_goto (tgt := 90) X dX6_isFree_86 (by decide) ?_
                refine r_istore3 X dX6_isFree_90 ?_
                refine r_iinc4 X dX6_isFree_91 ?_
                refine r_goto (tgt := 41) X dX6_isFree_94 (by decide) ?_
                exact ih (i + 1) _ (by omega) (by omega) (by omega) (by omega) (by rw [z_all_s h0]; first | omega | grind)
              · refine r_aload0 X dX6_isFree_68 ?_
                refine r_get X 7 dX6_isFree_69 z_c80 in_X6 tw_561 (by decide) rfl rfl (by decide) ?_
                refine r_iload4 X dX6_isFree_72 ?_
                refine r_lald X dX6_isFree_74 z_c87 (by decide) ⟨by omega, by omega⟩ ?_
                refine r_aload0 X dX6_isFree_75 ?_
                refine r_get X 7 dX6_isFree_76 z_c80 in_X6 tw_561 (by decide) rfl rfl (by decide) ?_
                refine r_iload2 X dX6_isFree_79 ?_
                refine r_lald X dX6_isFree_80 z_c87 (by decide) ⟨by omega, by omega⟩ ?_
                refine r_lcmp X dX6_isFree_81 ⟨by omega, by omega⟩ ⟨by omega, by omega⟩ ?_
                refine r_if_eqC (tgt := 89) X dX6_isFree_82 (fun h82 => ?_) (fun h82 => ?_)
                · refine r_iconst X dX6_isFree_89 ?_
                  refine r_istore3 X dX6_isFree_90 ?_
                  refine r_iinc4 X dX6_isFree_91 ?_
                  refine r_goto (tgt := 41) X dX6_isFree_94 (by decide) ?_
                  exact ih (i + 1) _ (by omega) (by omega) (by omega) (by omega) (by rw [z_all_s h0]; first | omega | grind)
                · refine r_iconst X dX6_isFree_85 ?_
                  refine r_goto (tgt := 90) X dX6_isFree_86 (by decide) ?_
                  refine r_istore3 X dX6_isFree_90 ?_
                  refine r_iinc4 X dX6_isFree_91 ?_
                  refine r_goto (tgt := 41) X dX6_isFree_94 (by decide) ?_
                  exact ih (i + 1) _ (by omega) (by omega) (by omega) (by omega) (by rw [z_all_s h0]; first | omega | grind)
      exact L 17 0 _ (by omega) (by omega) (by omega) (by omega) (by constructor <;> intro hh <;> first | exact ⟨by omega, fun j _ _ => by omega⟩ | (exfalso; omega) | omega)
    · refine r_iconst X dX6_isFree_32 ?_
      refine r_goto (tgt := 37) X dX6_isFree_33 (by decide) ?_
      refine r_istore3 X dX6_isFree_37 ?_
      refine r_iconst X dX6_isFree_38 ?_
      refine r_istore4 X dX6_isFree_39 ?_
      have L : ∀ (fu : Nat) (i f : Int), (k - i) < (fu : Int) → 0 ≤ i → i ≤ k → (f = 0 ∨ f = 1) → (f = 1 ↔ ((0 ≤ σ 86 k ∧ σ 86 k ≤ 40) ∧ 0 ≤ σ 87 k ∧ σ 87 k ≤ 40) ∧ (∀ j : Int, 0 ≤ j → j < i → ¬ (σ 86 j = σ 86 k ∧ σ 87 j = σ 87 k))) → z_G p l e (z_rm 1) s mm ([.ref (a 80), .int (zI q), .int (zI k)] : List Value).toArray below meth c 6 D κ a A 0 0 (MQ below (z_Qp D κ a A (fun z σ' => σ' = σ ∧ (z = 0 ∨ z = 1) ∧ (z = 1 ↔ p_free (fun d => σ 84 (3 * (7 * q + d))) (fun d => σ 84 (3 * (7 * q + d) + 1)) (σ 86) (σ 87) (σ 83 (2 * q + 1)) k))) ([.ref (a 80), .int (zI q), .int (zI k)] : List Value).toArray s 0 0 A) σ [some (.ref (a 80)), some (.int (zI q)), some (.int (zI k)), some (.int (zI f)), some (.int (zI i)), none] 41 [] := by
        intro fu
        induction fu with
        | zero =>
          intro i f hn h0 h1 f01 hf
          omega
        | succ fu ih =>
          intro i f hn h0 h1 f01 hf
          have xi := hx i (by omega) (by omega)
          have xk := hx k (by omega) (by omega)
          refine r_iload4 X dX6_isFree_41 ?_
          refine r_iload2 X dX6_isFree_43 ?_
          refine r_icmp_ge (tgt := 97) X dX6_isFree_44 ⟨⟨by omega, by omega⟩, by omega, by omega⟩ (fun h44 => ?_) (fun h44 => ?_)
          · refine r_iconst X dX6_isFree_97 ?_
            refine r_istore4 X dX6_isFree_98 ?_
            have L2 : ∀ (fu : Nat) (i f : Int) (o5 : Option Value), (σ 83 (2 * q + 1) - i) < (fu : Int) → 0 ≤ i → i ≤ σ 83 (2 * q + 1) → (f = 0 ∨ f = 1) → (f = 1 ↔ (((0 ≤ σ 86 k ∧ σ 86 k ≤ 40) ∧ 0 ≤ σ 87 k ∧ σ 87 k ≤ 40) ∧ (∀ j : Int, 0 ≤ j → j < k → ¬ (σ 86 j = σ 86 k ∧ σ 87 j = σ 87 k))) ∧ (∀ j : Int, 0 ≤ j → j < i → ¬ (σ 84 (3 * (7 * q + j)) = σ 86 k ∧ σ 84 (3 * (7 * q + j) + 1) = σ 87 k))) → z_G p l e (z_rm 1) s mm ([.ref (a 80), .int (zI q), .int (zI k)] : List Value).toArray below meth c 6 D κ a A 0 0 (MQ below (z_Qp D κ a A (fun z σ' => σ' = σ ∧ (z = 0 ∨ z = 1) ∧ (z = 1 ↔ p_free (fun d => σ 84 (3 * (7 * q + d))) (fun d => σ 84 (3 * (7 * q + d) + 1)) (σ 86) (σ 87) (σ 83 (2 * q + 1)) k))) ([.ref (a 80), .int (zI q), .int (zI k)] : List Value).toArray s 0 0 A) σ [some (.ref (a 80)), some (.int (zI q)), some (.int (zI k)), some (.int (zI f)), some (.int (zI i)), o5] 100 [] := by
              intro fu
              induction fu with
              | zero =>
                intro i f o5 hn h0 h1 f01 hf
                omega
              | succ fu ih =>
                intro i f o5 hn h0 h1 f01 hf
                have xk := hx k (by omega) (by omega)
                refine r_iload4 X dX6_isFree_100 ?_
                refine r_aload0 X dX6_isFree_102 ?_
                refine r_iload1 X dX6_isFree_103 ?_
                refine r_callVi (n := 1) X (c_X6_dotMany l X.2.2.1 _ _ ⟨by omega, by omega⟩) dX6_isFree_104 tw_658 tw_660 tw_20 tw_46 tw_661 z_c80 (by decide) rfl rfl (Nat.le_of_ble_eq_true rfl) ⟨by decide, by decide⟩ (by decide +kernel) rfl ?_
                refine r_icmp_ge (tgt := 175) X dX6_isFree_107 ⟨⟨by omega, by omega⟩, by omega, by omega⟩ (fun h107 => ?_) (fun h107 => ?_)
                · refine r_iload3 X dX6_isFree_175 ?_
                  exact r_zretp X M dX6_isFree_176 f01 ⟨rfl, f01, hf.trans ⟨fun q => ⟨q.1, fun d d0 d1 => q.2 d d0 (by omega)⟩, fun q => ⟨q.1, fun d d0 d1 => q.2 d d0 (by omega)⟩⟩⟩
                · have xi := hd (3 * (7 * q + i)) (by omega) (by omega)
                  have xj := hd (3 * (7 * q + i) + 1) (by omega) (by omega)
                  refine r_iconst X dX6_isFree_110 ?_
                  refine r_bipush X dX6_isFree_111 (by decide +kernel) ?_
                  refine r_iload1 X dX6_isFree_113 ?_
                  refine r_imul X dX6_isFree_114 ?_
                  refine r_iload4 X dX6_isFree_115 ?_
                  refine r_iadd X dX6_isFree_117 ?_
                  refine r_imul X dX6_isFree_118 ?_
                  refine r_istore5 X dX6_isFree_119 ?_
                  refine r_iload3 X dX6_isFree_121 ?_
                  refine r_if_eq (tgt := 167) X dX6_isFree_122 ⟨by omega, by omega⟩ (fun h122 => ?_) (fun h122 => ?_)
                  · refine r_iconst X dX6_isFree_167 ?_
                    refine r_istore3 X dX6_isFree_168 ?_
                    refine r_iinc4 X dX6_isFree_169 ?_
                    refine r_goto (tgt := 100) X dX6_isFree_172 (by decide) ?_
                    exact ih (i + 1) _ _ (by omega) (by omega) (by omega) (by omega) (by rw [z_all_s h0]; first | omega | grind)
                  · refine r_aload0 X dX6_isFree_125 ?_
                    refine r_get X 3 dX6_isFree_126 z_c80 in_X6 tw_557 (by decide) rfl rfl (by decide) ?_
                    refine r_iload5 X dX6_isFree_129 ?_
                    refine r_iald X dX6_isFree_131 z_c84 (by decide) ⟨by omega, by omega⟩ ?_
                    refine r_i2l X dX6_isFree_132 ⟨by omega, by omega⟩ ?_
                    refine r_aload0 X dX6_isFree_133 ?_
                    refine r_get X 6 dX6_isFree_134 z_c80 in_X6 tw_560 (by decide) rfl rfl (by decide) ?_
                    refine r_iload2 X dX6_isFree_137 ?_
                    refine r_lald X dX6_isFree_138 z_c86 (by decide) ⟨by omega, by omega⟩ ?_
                    refine r_lcmp X dX6_isFree_139 ⟨by omega, by omega⟩ ⟨by omega, by omega⟩ ?_
                    refine r_if_neC (tgt := 163) X dX6_isFree_140 (fun h140 => ?_) (fun h140 => ?_)
                    · refine r_iconst X dX6_isFree_163 ?_
                      refine r_goto (tgt := 168) X dX6_isFree_164 (by decide) ?_
                      refine r_istore3 X dX6_isFree_168 ?_
                      refine r_iinc4 X dX6_isFree_169 ?_
                      refine r_goto (tgt := 100) X dX6_isFree_172 (by decide) ?_
                      exact ih (i + 1) _ _ (by omega) (by omega) (by omega) (by omega) (by rw [z_all_s h0]; first | omega | grind)
                    · refine r_aload0 X dX6_isFree_143 ?_
                      refine r_get X 3 dX6_isFree_144 z_c80 in_X6 tw_557 (by decide) rfl rfl (by decide) ?_
                      refine r_iload5 X dX6_isFree_147 ?_
                      refine r_iconst X dX6_isFree_149 ?_
                      refine r_iadd X dX6_isFree_150 ?_
                      refine r_iald X dX6_isFree_151 z_c84 (by decide) ⟨by omega, by omega⟩ ?_
                      refine r_i2l X dX6_isFree_152 ⟨by omega, by omega⟩ ?_
                      refine r_aload0 X dX6_isFree_153 ?_
                      refine r_get X 7 dX6_isFree_154 z_c80 in_X6 tw_561 (by decide) rfl rfl (by decide) ?_
                      refine r_iload2 X dX6_isFree_157 ?_
                      refine r_lald X dX6_isFree_158 z_c87 (by decide) ⟨by omega, by omega⟩ ?_
                      refine r_lcmp X dX6_isFree_159 ⟨by omega, by omega⟩ ⟨by omega, by omega⟩ ?_
                      refine r_if_eqC (tgt := 167) X dX6_isFree_160 (fun h160 => ?_) (fun h160 => ?_)
                      · refine r_iconst X dX6_isFree_167 ?_
                        refine r_istore3 X dX6_isFree_168 ?_
                        refine r_iinc4 X dX6_isFree_169 ?_
                        refine r_goto (tgt := 100) X dX6_isFree_172 (by decide) ?_
                        exact ih (i + 1) _ _ (by omega) (by omega) (by omega) (by omega) (by rw [z_all_s h0]; first | omega | grind)
                      · refine r_iconst X dX6_isFree_163 ?_
                        refine r_goto (tgt := 168) X dX6_isFree_164 (by decide) ?_
                        refine r_istore3 X dX6_isFree_168 ?_
                        refine r_iinc4 X dX6_isFree_169 ?_
                        refine r_goto (tgt := 100) X dX6_isFree_172 (by decide) ?_
                        exact ih (i + 1) _ _ (by omega) (by omega) (by omega) (by omega) (by rw [z_all_s h0]; first | omega | grind)
            exact L2 8 0 _ none (by omega) (by omega) (by omega) f01 (by rw [hf, show i = k by omega]; exact ⟨fun h => ⟨h, fun j _ _ => by omega⟩, fun h => h.1⟩)
          · refine r_iload3 X dX6_isFree_47 ?_
            refine r_if_eq (tgt := 89) X dX6_isFree_48 ⟨by omega, by omega⟩ (fun h48 => ?_) (fun h48 => ?_)
            · refine r_iconst X dX6_isFree_89 ?_
              refine r_istore3 X dX6_isFree_90 ?_
              refine r_iinc4 X dX6_isFree_91 ?_
              refine r_goto (tgt := 41) X dX6_isFree_94 (by decide) ?_
              exact ih (i + 1) _ (by omega) (by omega) (by omega) (by omega) (by rw [z_all_s h0]; first | omega | grind)
            · refine r_aload0 X dX6_isFree_51 ?_
              refine r_get X 6 dX6_isFree_52 z_c80 in_X6 tw_560 (by decide) rfl rfl (by decide) ?_
              refine r_iload4 X dX6_isFree_55 ?_
              refine r_lald X dX6_isFree_57 z_c86 (by decide) ⟨by omega, by omega⟩ ?_
              refine r_aload0 X dX6_isFree_58 ?_
              refine r_get X 6 dX6_isFree_59 z_c80 in_X6 tw_560 (by decide) rfl rfl (by decide) ?_
              refine r_iload2 X dX6_isFree_62 ?_
              refine r_lald X dX6_isFree_63 z_c86 (by decide) ⟨by omega, by omega⟩ ?_
              refine r_lcmp X dX6_isFree_64 ⟨by omega, by omega⟩ ⟨by omega, by omega⟩ ?_
              refine r_if_neC (tgt := 85) X dX6_isFree_65 (fun h65 => ?_) (fun h65 => ?_)
              · refine r_iconst X dX6_isFree_85 ?_
                refine r_goto (tgt := 90) X dX6_isFree_86 (by decide) ?_
                refine r_istore3 X dX6_isFree_90 ?_
                refine r_iinc4 X dX6_isFree_91 ?_
                refine r_goto (tgt := 41) X dX6_isFree_94 (by decide) ?_
                exact ih (i + 1) _ (by omega) (by omega) (by omega) (by omega) (by rw [z_all_s h0]; first | omega | grind)
              · refine r_aload0 X dX6_isFree_68 ?_
                refine r_get X 7 dX6_isFree_69 z_c80 in_X6 tw_561 (by decide) rfl rfl (by decide) ?_
                refine r_iload4 X dX6_isFree_72 ?_
                refine r_lald X dX6_isFree_74 z_c87 (by decide) ⟨by omega, by omega⟩ ?_
                refine r_aload0 X dX6_isFree_75 ?_
                refine r_get X 7 dX6_isFree_76 z_c80 in_X6 tw_561 (by decide) rfl rfl (by decide) ?_
                refine r_iload2 X dX6_isFree_79 ?_
                refine r_lald X dX6_isFree_80 z_c87 (by decide) ⟨by omega, by omega⟩ ?_
                refine r_lcmp X dX6_isFree_81 ⟨by omega, by omega⟩ ⟨by omega, by omega⟩ ?_
                refine r_if_eqC (tgt := 89) X dX6_isFree_82 (fun h82 => ?_) (fun h82 => ?_)
                · refine r_iconst X dX6_isFree_89 ?_
                  refine r_istore3 X dX6_isFree_90 ?_
                  refine r_iinc4 X dX6_isFree_91 ?_
                  refine r_goto (tgt := 41) X dX6_isFree_94 (by decide) ?_
                  exact ih (i + 1) _ (by omega) (by omega) (by omega) (by omega) (by rw [z_all_s h0]; first | omega | grind)
                · refine r_iconst X dX6_isFree_85 ?_
                  refine r_goto (tgt := 90) X dX6_isFree_86 (by decide) ?_
                  refine r_istore3 X dX6_isFree_90 ?_
                  refine r_iinc4 X dX6_isFree_91 ?_
                  refine r_goto (tgt := 41) X dX6_isFree_94 (by decide) ?_
                  exact ih (i + 1) _ (by omega) (by omega) (by omega) (by omega) (by rw [z_all_s h0]; first | omega | grind)
      exact L 17 0 _ (by omega) (by omega) (by omega) (by omega) (by constructor <;> intro hh <;> first | exact ⟨by omega, fun j _ _ => by omega⟩ | (exfalso; omega) | omega)

theorem r_eql {p : Program} {l : Launch} {e : Env} {R : Room} {s : State} {m : MethodId} {args : Array Value} {below : List Frame} {meth : Method} {c : Code} {nL : Nat} {D : va_G} {κ : Nat → ClassId} {a : Nat → Nat} {A : Nat → Prop} {kc ks : Nat} {Q : State → Prop} {σ : zSt} {lv : List (Option Value)} {pc : Nat} {st : List Value} {x y : Int} (h : x = y) (k : z_G p l e R s m args below meth c nL D κ a A kc ks Q σ lv pc (.long (zL y) :: st)) : z_G p l e R s m args below meth c nL D κ a A kc ks Q σ lv pc (.long (zL x) :: st) := by rw [h]; exact k
def u_add (V : zV) (q x y : Int) : zV := z_upf (z_upf (z_upf (z_upf V (28 + 3 * (7 * q + V (18 + (2 * q + 1)))) x) (28 + (3 * (7 * q + V (18 + (2 * q + 1))) + 1)) y) (28 + (3 * (7 * q + V (18 + (2 * q + 1))) + 2)) 0) (18 + (2 * q + 1)) (V (18 + (2 * q + 1)) + 1)
def u_put (V : zV) (q : Int) (sx sy : Int → Int) : Nat → zV
  | 0 => V
  | i + 1 => u_add (u_put V q sx sy i) q (sx (i : Int)) (sy (i : Int))
theorem u_put_nd (V : zV) (q : Int) (sx sy : Int → Int) : ∀ i : Nat, u_put V q sx sy i (18 + (2 * q + 1)) = V (18 + (2 * q + 1)) + (i : Int)
  | 0 => by simp [u_put]
  | i + 1 => by
    have ih := u_put_nd V q sx sy i
    unfold u_put u_add
    rw [z_upf_s, ih]
    omega
theorem u_put_s (V : zV) (q : Int) (sx sy : Int → Int) (i : Nat) : u_put V q sx sy (i + 1) = u_add (u_put V q sx sy i) q (sx (i : Int)) (sy (i : Int)) := rfl
def p_at (V : zV) (q : Int) (sx sy : Int → Int) (n : Int) : Prop := p_ok (fun d => V (28 + 3 * (7 * q + d))) (fun d => V (28 + (3 * (7 * q + d) + 1))) sx sy (V (18 + (2 * q + 1))) n
noncomputable def s_put (V : zV) (q n : Int) (sx sy : Int → Int) : Int := if V (18 + (2 * q + 1)) + n > 7 then -2 else @ite Int (p_at V q sx sy n) (Classical.propDecidable _) (V (18 + (2 * q + 1)) + n) (-4)
theorem s_put_f {V : zV} {q n : Int} {sx sy : Int → Int} (h : 7 < V (18 + (2 * q + 1)) + n) : s_put V q n sx sy = -2 := if_pos h
theorem s_put_n {V : zV} {q n : Int} {sx sy : Int → Int} (h : V (18 + (2 * q + 1)) + n ≤ 7) (h2 : ¬ p_at V q sx sy n) : s_put V q n sx sy = -4 := by
  unfold s_put
  rw [if_neg (by omega), if_neg h2]
theorem s_put_p {V : zV} {q n : Int} {sx sy : Int → Int} (h : V (18 + (2 * q + 1)) + n ≤ 7) (h2 : p_at V q sx sy n) : s_put V q n sx sy = V (18 + (2 * q + 1)) + n := by
  unfold s_put
  rw [if_neg (by omega), if_pos h2]
/-- the same numbers at the places that count: the same places are free -/
theorem p_free_c {fX fY gX gY sx sy tx ty : Int → Int} {nd md k : Int} (hk : 0 ≤ k) (hn : nd = md) (h1 : ∀ d : Int, 0 ≤ d → d < nd → fX d = gX d ∧ fY d = gY d) (h2 : ∀ j : Int, 0 ≤ j → j ≤ k → sx j = tx j ∧ sy j = ty j) : p_free fX fY sx sy nd k ↔ p_free gX gY tx ty md k := by
  subst hn
  unfold p_free
  rw [(h2 k hk (Int.le_refl _)).1, (h2 k hk (Int.le_refl _)).2]
  refine and_congr (and_congr Iff.rfl ⟨fun h i a b => ?_, fun h i a b => ?_⟩) ⟨fun h i a b => ?_, fun h i a b => ?_⟩
  · rw [← (h2 i a (by omega)).1, ← (h2 i a (by omega)).2]; exact h i a b
  · rw [(h2 i a (by omega)).1, (h2 i a (by omega)).2]; exact h i a b
  · rw [← (h1 i a b).1, ← (h1 i a b).2]; exact h i a b
  · rw [(h1 i a b).1, (h1 i a b).2]; exact h i a b

set_option maxRecDepth 100000 in
set_option maxHeartbeats 4000000 in
theorem c_X6_comes (l : Launch) {D : va_G} {κ : Nat → ClassId} {a : Nat → Nat} {A : Nat → Prop} (hA : z_aD a A) (σ : zSt) (q n : Int) (V : zV) (sx sy : Int → Int) (hV : v_ok V) (hM : zModel σ V) (hq : 0 ≤ q ∧ q < V 1) (hn0 : σ 80 8 = n) (hn : 1 ≤ n ∧ n ≤ 16) (hsh : ∀ j : Int, 0 ≤ j → j < n → σ 86 j = sx j ∧ σ 87 j = sy j) (hsr : ∀ j : Int, 0 ≤ j → j < n → (-9000000000 ≤ sx j ∧ sx j ≤ 9000000000) ∧ -9000000000 ≤ sy j ∧ sy j ≤ 9000000000) : z_Tp l D κ a A yX6_comes cX6_comes 4 (some .int) 2 [.ref (a 80), .int (zI q)] σ (fun z σ' => z = s_put V q n sx sy ∧ zMup σ σ' (z_if z V (u_put V q sx sy n.toNat))) := by
  refine z_Tp_of (cc := cX6_comes) (maxL := 4) (ret := (some .int)) (own := RX6) (lv0 := [some (.ref (a 80)), some (.int (zI q)), none, none]) hA (by decide) rfl (Nat.le_of_ble_eq_true rfl) rfl ?_
  intro p e s mm below meth c X M
  obtain ⟨⟨hv0, hv1, hv2, hv3, hv4, hv5⟩, hvm, hvb, hvk, hvc, hvd⟩ := id hV
  have q1 := hvk q (by omega) (by omega)
  rw [show 19 + 2 * q = 18 + (2 * q + 1) by omega] at q1
  have e3 := hM.2.2.1 (2 * q + 1) (by omega) (by omega)
  have hd : ∀ j : Int, 0 ≤ j → j < 105 → 0 ≤ σ 84 j ∧ σ 84 j ≤ 40 := fun j j0 j1 => by
    have h := hvd (j / 3) (by omega) (by omega)
    have e := hM.2.2.2 j j0 j1
    rcases (show j = 3 * (j / 3) ∨ j = 3 * (j / 3) + 1 ∨ j = 3 * (j / 3) + 2 by omega) with k | k | k
    · rw [show 28 + j = 28 + 3 * (j / 3) by omega] at e; omega
    · rw [show 28 + j = 29 + 3 * (j / 3) by omega] at e; omega
    · rw [show 28 + j = 30 + 3 * (j / 3) by omega] at e; omega
  have hfree : ∀ k : Int, 0 ≤ k → k < n → V (18 + (2 * q + 1)) + n ≤ 7 → (p_free (fun d => σ 84 (3 * (7 * q + d))) (fun d => σ 84 (3 * (7 * q + d) + 1)) (σ 86) (σ 87) (σ 83 (2 * q + 1)) k ↔ p_free (fun d => V (28 + 3 * (7 * q + d))) (fun d => V (28 + (3 * (7 * q + d) + 1))) sx sy (V (18 + (2 * q + 1))) k) := fun k k0 k1 k2 => p_free_c k0 e3 (fun d d0 d1 => ⟨hM.2.2.2 _ (by omega) (by omega), hM.2.2.2 _ (by omega) (by omega)⟩) (fun j j0 j1 => hsh j j0 (by omega))
  refine r_aload0 X dX6_comes_0 ?_
  refine r_iload1 X dX6_comes_1 ?_
  refine r_callVi (n := 1) X (c_X6_dotMany l X.2.2.1 _ _ ⟨by omega, by omega⟩) dX6_comes_2 tw_658 tw_660 tw_20 tw_46 tw_661 z_c80 (by decide) rfl rfl (Nat.le_of_ble_eq_true rfl) ⟨by decide, by decide⟩ (by decide +kernel) rfl ?_
  refine r_eqi e3 ?_
  refine r_aload0 X dX6_comes_5 ?_
  refine r_get X 8 dX6_comes_6 z_c80 in_X6 tw_562 (by decide) rfl rfl (by decide) ?_
  refine r_eqi hn0 ?_
  refine r_iadd X dX6_comes_9 ?_
  refine r_bipush X dX6_comes_10 (by decide +kernel) ?_
  refine r_icmp_le (tgt := 18) X dX6_comes_12 ⟨⟨by omega, by omega⟩, by omega, by omega⟩ (fun h12 => ?_) (fun h12 => ?_)
  · refine r_iconst X dX6_comes_18 ?_
    refine r_istore2 X dX6_comes_19 ?_
    have L : ∀ (fu : Nat) (i : Int), (n - i) < (fu : Int) → 0 ≤ i → i ≤ n → (∀ k : Int, 0 ≤ k → k < i → p_free (fun d => V (28 + 3 * (7 * q + d))) (fun d => V (28 + (3 * (7 * q + d) + 1))) sx sy (V (18 + (2 * q + 1))) k) → z_G p l e (z_rm 2) s mm ([.ref (a 80), .int (zI q)] : List Value).toArray below meth c 4 D κ a A 0 0 (MQ below (z_Qp D κ a A (fun z σ' => z = s_put V q n sx sy ∧ zMup σ σ' (z_if z V (u_put V q sx sy n.toNat)))) ([.ref (a 80), .int (zI q)] : List Value).toArray s 0 0 A) σ [some (.ref (a 80)), some (.int (zI q)), some (.int (zI i)), none] 20 [] := by
      intro fu
      induction fu with
      | zero =>
        intro i hn h0 h1 hf
        omega
      | succ fu ih =>
        intro i hn h0 h1 hf
        refine r_iload2 X dX6_comes_20 ?_
        refine r_aload0 X dX6_comes_21 ?_
        refine r_get X 8 dX6_comes_22 z_c80 in_X6 tw_562 (by decide) rfl rfl (by decide) ?_
        refine r_eqi hn0 ?_
        refine r_icmp_ge (tgt := 46) X dX6_comes_25 ⟨⟨by omega, by omega⟩, by omega, by omega⟩ (fun h25 => ?_) (fun h25 => ?_)
        · have hpok : p_at V q sx sy n := fun k k0 k1 => hf k k0 (by omega)
          refine r_iconst X dX6_comes_46 ?_
          refine r_istore2 X dX6_comes_47 ?_
          have L2 : ∀ (fu : Nat) (i : Int) (o3 : Option Value) (σ1 : zSt), (n - i) < (fu : Int) → 0 ≤ i → i ≤ n → zMup σ σ1 (u_put V q sx sy i.toNat) → σ1 86 = σ 86 → σ1 87 = σ 87 → σ1 80 8 = n → z_G p l e (z_rm 2) s mm ([.ref (a 80), .int (zI q)] : List Value).toArray below meth c 4 D κ a A 0 0 (MQ below (z_Qp D κ a A (fun z σ' => z = s_put V q n sx sy ∧ zMup σ σ' (z_if z V (u_put V q sx sy n.toNat)))) ([.ref (a 80), .int (zI q)] : List Value).toArray s 0 0 A) σ1 [some (.ref (a 80)), some (.int (zI q)), some (.int (zI i)), o3] 48 [] := by
            intro fu
            induction fu with
            | zero =>
              intro i o3 σ1 hn h0 h1 hU h86 h87 h80
              omega
            | succ fu ih =>
              intro i o3 σ1 hn h0 h1 hU h86 h87 h80
              have hc : σ1 83 (2 * q + 1) = V (18 + (2 * q + 1)) + i := by
                rw [hU.1.2.2.1 (2 * q + 1) (by omega) (by omega), u_put_nd, show ((i.toNat : Nat) : Int) = i by omega]
              refine r_iload2 X dX6_comes_48 ?_
              refine r_aload0 X dX6_comes_49 ?_
              refine r_get X 8 dX6_comes_50 z_c80 in_X6 tw_562 (by decide) rfl rfl (by decide) ?_
              refine r_eqi h80 ?_
              refine r_icmp_ge (tgt := 126) X dX6_comes_53 ⟨⟨by omega, by omega⟩, by omega, by omega⟩ (fun h53 => ?_) (fun h53 => ?_)
              · refine r_aload0 X dX6_comes_126 ?_
                refine r_iload1 X dX6_comes_127 ?_
                refine r_callVi (n := 1) X (c_X6_dotMany l X.2.2.1 _ _ ⟨by omega, by omega⟩) dX6_comes_128 tw_658 tw_660 tw_20 tw_46 tw_661 z_c80 (by decide) rfl rfl (Nat.le_of_ble_eq_true rfl) ⟨by decide, by decide⟩ (by decide +kernel) rfl ?_
                refine r_eqi hc ?_
                exact r_iretp X M dX6_comes_131 ⟨by rw [s_put_p (by omega) hpok]; omega, by rw [zIf_p (by omega), show n.toNat = i.toNat by omega]; exact hU⟩
              · have hsi := hsh i (by omega) (by omega)
                have hri := hsr i (by omega) (by omega)
                refine r_iconst X dX6_comes_56 ?_
                refine r_bipush X dX6_comes_57 (by decide +kernel) ?_
                refine r_iload1 X dX6_comes_59 ?_
                refine r_imul X dX6_comes_60 ?_
                refine r_aload0 X dX6_comes_61 ?_
                refine r_iload1 X dX6_comes_62 ?_
                refine r_callVi (n := 1) X (c_X6_dotMany l X.2.2.1 _ _ ⟨by omega, by omega⟩) dX6_comes_63 tw_658 tw_660 tw_20 tw_46 tw_661 z_c80 (by decide) rfl rfl (Nat.le_of_ble_eq_true rfl) ⟨by decide, by decide⟩ (by decide +kernel) rfl ?_
                refine r_eqi hc ?_
                refine r_iadd X dX6_comes_66 ?_
                refine r_imul X dX6_comes_67 ?_
                refine r_istore3 X dX6_comes_68 ?_
                refine r_aload0 X dX6_comes_69 ?_
                refine r_get X 3 dX6_comes_70 z_c80 in_X6 tw_557 (by decide) rfl rfl (by decide) ?_
                refine r_iload3 X dX6_comes_73 ?_
                refine r_aload0 X dX6_comes_74 ?_
                refine r_get X 6 dX6_comes_75 z_c80 in_X6 tw_560 (by decide) rfl rfl (by decide) ?_
                refine r_iload2 X dX6_comes_78 ?_
                refine r_lald X dX6_comes_79 z_c86 (by decide) ⟨by omega, by omega⟩ ?_
                refine r_eql (y := sx i) (by rw [h86]; exact hsi.1) ?_
                refine r_l2i X dX6_comes_80 ⟨by omega, by omega⟩ ?_
                refine r_iast X dX6_comes_81 z_c84 (by decide) ⟨by omega, by omega⟩ ?_
                refine r_aload0 X dX6_comes_82 ?_
                refine r_get X 3 dX6_comes_83 z_c80 in_X6 tw_557 (by decide) rfl rfl (by decide) ?_
                refine r_iload3 X dX6_comes_86 ?_
                refine r_iconst X dX6_comes_87 ?_
                refine r_iadd X dX6_comes_88 ?_
                refine r_aload0 X dX6_comes_89 ?_
                refine r_get X 7 dX6_comes_90 z_c80 in_X6 tw_561 (by decide) rfl rfl (by decide) ?_
                refine r_iload2 X dX6_comes_93 ?_
                refine r_lald X dX6_comes_94 z_c87 (by decide) ⟨by omega, by omega⟩ ?_
                refine r_eql (y := sy i) (by (repeat rw [z_up_c (by decide)]); rw [h87]; exact hsi.2) ?_
                refine r_l2i X dX6_comes_95 ⟨by omega, by omega⟩ ?_
                refine r_iast X dX6_comes_96 z_c84 (by decide) ⟨by omega, by omega⟩ ?_
                refine r_aload0 X dX6_comes_97 ?_
                refine r_get X 3 dX6_comes_98 z_c80 in_X6 tw_557 (by decide) rfl rfl (by decide) ?_
                refine r_iload3 X dX6_comes_101 ?_
                refine r_iconst X dX6_comes_102 ?_
                refine r_iadd X dX6_comes_103 ?_
                refine r_iconst X dX6_comes_104 ?_
                refine r_iast X dX6_comes_105 z_c84 (by decide) ⟨by omega, by omega⟩ ?_
                refine r_aload0 X dX6_comes_106 ?_
                refine r_get X 2 dX6_comes_107 z_c80 in_X6 tw_556 (by decide) rfl rfl (by decide) ?_
                refine r_iconst X dX6_comes_110 ?_
                refine r_iload1 X dX6_comes_111 ?_
                refine r_imul X dX6_comes_112 ?_
                refine r_iconst X dX6_comes_113 ?_
                refine r_iadd X dX6_comes_114 ?_
                refine r_dup2 X dX6_comes_115 rfl rfl ?_
                refine r_iald X dX6_comes_116 z_c83 (by decide) ⟨by omega, by omega⟩ ?_
                refine r_eqi (y := V (18 + (2 * q + 1)) + i) (by (repeat rw [z_up_c (by decide)]); exact hc) ?_
                refine r_iconst X dX6_comes_117 ?_
                refine r_iadd X dX6_comes_118 ?_
                refine r_iast X dX6_comes_119 z_c83 (by decide) ⟨by omega, by omega⟩ ?_
                refine r_iinc2 X dX6_comes_120 ?_
                refine r_goto (tgt := 48) X dX6_comes_123 (by decide) ?_
                exact ih (i + 1) _ _ (by omega) (by omega) (by omega) (((((hU.u84 (sx i) (by omega) (by omega)).u84 (sy i) (by omega) (by omega)).u84 0 (by omega) (by omega)).u83 (V (18 + (2 * q + 1)) + i + 1) (by omega) (by omega)).eq (by rw [show (i + 1).toNat = i.toNat + 1 by omega, u_put_s]; unfold u_add; rw [u_put_nd, show ((i.toNat : Nat) : Int) = i by omega])) (by (repeat rw [z_up_c (by decide)]); exact h86) (by (repeat rw [z_up_c (by decide)]); exact h87) (by (repeat rw [z_up_c (by decide)]); exact h80)
          exact L2 17 0 none σ (by omega) (by omega) (by omega) (zMup.refl hM) rfl rfl hn0
        · refine r_aload0 X dX6_comes_28 ?_
          refine r_iload1 X dX6_comes_29 ?_
          refine r_iload2 X dX6_comes_30 ?_
          refine r_callVp (n := 2) X (c_X6_isFree l X.2.2.1 _ _ _ ⟨by omega, by omega⟩ ⟨by omega, by omega⟩ ⟨by omega, by omega⟩ (fun j j0 j1 => by have h1 := hsh j j0 (by omega); have h2 := hsr j j0 (by omega); omega) hd) dX6_comes_31 tw_662 tw_664 tw_21 tw_46 tw_665 z_c80 (by decide) rfl rfl (Nat.le_of_ble_eq_true rfl) ⟨by decide, by decide⟩ (by decide +kernel) rfl (fun fz σ1 hfz => ?_)
          refine r_if_ne (tgt := 40) X dX6_comes_34 ⟨by omega, by omega⟩ (fun h34 => ?_) (fun h34 => ?_)
          · have hs1 := hfz.1
            subst hs1
            refine r_iinc2 X dX6_comes_40 ?_
            refine r_goto (tgt := 20) X dX6_comes_43 (by decide) ?_
            exact ih (i + 1) (by omega) (by omega) (by omega) ((z_all_s h0).mpr ⟨hf, (hfree i (by omega) (by omega) (by omega)).mp (hfz.2.2.mp (by omega))⟩)
          · have hs1 := hfz.1
            subst hs1
            refine r_bipush X dX6_comes_37 (by decide +kernel) ?_
            exact r_iretp X M dX6_comes_39 ⟨by rw [s_put_n (by omega) (fun hh => by have h1 := (hfree i (by omega) (by omega) (by omega)).mpr (hh i (by omega) (by omega)); have h2 := hfz.2.2.mpr h1; omega)], by rw [zIf_n (by omega)]; exact zMup.refl hM⟩
    exact L 17 0 (by omega) (by omega) (by omega) (fun k _ _ => by omega)
  · refine r_bipush X dX6_comes_15 (by decide +kernel) ?_
    exact r_iretp X M dX6_comes_17 ⟨by rw [s_put_f (by omega)], by rw [zIf_n (by omega)]; exact zMup.refl hM⟩
end
section
def sx_line (x dx : Int) : Int → Int := fun i => x + i * dx
noncomputable def s_line (V : zV) (q n x y dx dy : Int) : Int := if (0 ≤ q ∧ q < V 1) ∧ (1 ≤ n ∧ n ≤ 7) ∧ (-10 ≤ dx ∧ dx ≤ 10) ∧ -10 ≤ dy ∧ dy ≤ 10 then s_put V q n (sx_line x dx) (sx_line y dy) else -1
def u_line (V : zV) (q n x y dx dy : Int) : zV := u_put V q (sx_line x dx) (sx_line y dy) n.toNat
def sx_block (x w g : Int) : Int → Int := fun i => x + i % w * g
def sy_block (y w g : Int) : Int → Int := fun i => y + i / w * g
noncomputable def s_block (V : zV) (q x y w h g : Int) : Int := if (0 ≤ q ∧ q < V 1) ∧ (1 ≤ w ∧ w ≤ 4) ∧ (1 ≤ h ∧ h ≤ 4) ∧ 1 ≤ g ∧ g ≤ 5 then s_put V q (w * h) (sx_block x w g) (sy_block y w g) else -1
def u_block (V : zV) (q x y w h g : Int) : zV := u_put V q (sx_block x w g) (sy_block y w g) (w * h).toNat
def sx_corner (x n g : Int) : Int → Int := fun i => x + (if i < n then i else n - 1) * g
def sy_corner (y n g : Int) : Int → Int := fun i => y + (if i < n then 0 else i - n + 1) * g
noncomputable def s_corner (V : zV) (q x y n g : Int) : Int := if (0 ≤ q ∧ q < V 1) ∧ (1 ≤ n ∧ n ≤ 4) ∧ 1 ≤ g ∧ g ≤ 5 then s_put V q (2 * n - 1) (sx_corner x n g) (sy_corner y n g) else -1
def u_corner (V : zV) (q x y n g : Int) : zV := u_put V q (sx_corner x n g) (sy_corner y n g) (2 * n - 1).toNat
theorem lay_J {σ1 : zSt} {k x y : Int} {sx sy : Int → Int} (h80 : σ1 80 8 = k) (hJ : ∀ j : Int, 0 ≤ j → j < k → σ1 86 j = sx j ∧ σ1 87 j = sy j) (hst : x = sx k ∧ y = sy k) : ∀ j : Int, 0 ≤ j → j < k + 1 → z_up (z_up (z_up σ1 86 (σ1 80 8) x) 87 (σ1 80 8) y) 80 8 (σ1 80 8 + 1) 86 j = sx j ∧ z_up (z_up (z_up σ1 86 (σ1 80 8) x) 87 (σ1 80 8) y) 80 8 (σ1 80 8 + 1) 87 j = sy j := by
  intro j j0 j1
  rw [h80]
  simp only [z_up_a]
  by_cases e : j = k
  · subst e
    simp
    exact hst
  · simp [e]
    exact hJ j j0 (by omega)
theorem z_mul_b {a b A B : Int} (h1 : -A ≤ a ∧ a ≤ A) (h2 : -B ≤ b ∧ b ≤ B) (hA : 0 ≤ A) (hB : 0 ≤ B) : -(A * B) ≤ a * b ∧ a * b ≤ A * B := by
  have q1 : a * b ≤ A * B := by
    rcases Int.le_total 0 b with hb | hb
    · exact Int.le_trans (Int.mul_le_mul_of_nonneg_right h1.2 hb) (Int.mul_le_mul_of_nonneg_left h2.2 hA)
    · have e1 : a * b ≤ (-A) * b := Int.mul_le_mul_of_nonpos_right h1.1 hb
      have e2 : (-A) * b = A * (-b) := by rw [Int.neg_mul, Int.mul_neg]
      have e3 : A * (-b) ≤ A * B := Int.mul_le_mul_of_nonneg_left (by omega) hA
      omega
  have q2 : -(A * B) ≤ a * b := by
    rcases Int.le_total 0 b with hb | hb
    · have e1 : (-A) * b ≤ a * b := Int.mul_le_mul_of_nonneg_right h1.1 hb
      have e2 : (-A) * b = -(A * b) := Int.neg_mul A b
      have e3 : A * b ≤ A * B := Int.mul_le_mul_of_nonneg_left h2.2 hA
      omega
    · have e1 : A * b ≤ a * b := Int.mul_le_mul_of_nonpos_right h1.2 hb
      have e2 : A * b = -(A * (-b)) := by rw [Int.mul_neg, Int.neg_neg]
      have e3 : A * (-b) ≤ A * B := Int.mul_le_mul_of_nonneg_left (by omega) hA
      omega
  exact ⟨q2, q1⟩

set_option maxRecDepth 100000 in
set_option maxHeartbeats 4000000 in
theorem c_X6_line (l : Launch) {D : va_G} {κ : Nat → ClassId} {a : Nat → Nat} {A : Nat → Prop} (hA : z_aD a A) (σ : zSt) (q n x y dx dy : Int) (hq : z_in q) (hn : z_in n) (hx : z_in x) (hy : z_in y) (hdx : z_in dx) (hdy : z_in dy) (V : zV) (hV : v_ok V) (hM : zModel σ V) : z_Tp l D κ a A yX6_line cX6_line 8 (some .int) 3 [.ref (a 80), .int (zI q), .int (zI n), .int (zI x), .int (zI y), .int (zI dx), .int (zI dy)] σ (fun z σ' => z = s_line V q n x y dx dy ∧ zMup σ σ' (z_if z V (u_line V q n x y dx dy))) := by
  refine z_Tp_of (cc := cX6_line) (maxL := 8) (ret := (some .int)) (own := RX6) (lv0 := [some (.ref (a 80)), some (.int (zI q)), some (.int (zI n)), some (.int (zI x)), some (.int (zI y)), some (.int (zI dx)), some (.int (zI dy)), none]) hA (by decide) rfl (Nat.le_of_ble_eq_true rfl) rfl ?_
  intro p e s mm below meth c X M
  obtain ⟨⟨hv0, hv1, hv2, hv3, hv4, hv5⟩, hvm, hvb, hvk, hvc, hvd⟩ := id hV
  have e0 := hM.1 0 (by omega) (by omega)
  have e1 := hM.1 1 (by omega) (by omega)
  refine r_aload0 X dX6_line_0 ?_
  refine r_iload1 X dX6_line_1 ?_
  refine r_callVi (n := 1) X (c_X6_isPicture l X.2.2.1 _ _ ⟨by omega, by omega⟩ ⟨by omega, by omega⟩) dX6_line_2 tw_639 tw_641 tw_17 tw_46 tw_642 z_c80 (by decide) rfl rfl (Nat.le_of_ble_eq_true rfl) ⟨by decide, by decide⟩ (by decide +kernel) rfl ?_
  refine r_if_eqB (tgt := 50) X dX6_line_5 (fun h5 => ?_) (fun h5 => ?_)
  · refine r_iconst X dX6_line_50 ?_
    exact r_iretp X M dX6_line_51 ⟨by unfold s_line; rw [if_neg (by omega)], by rw [zIf_n (by omega)]; exact zMup.refl hM⟩
  · refine r_iload2 X dX6_line_8 ?_
    refine r_i2l X dX6_line_9 ⟨by omega, by omega⟩ ?_
    refine r_lconst X dX6_line_10 1 (by decide +kernel) ?_
    refine r_ldc2 X dX6_line_11 7 (by decide +kernel) tw_647 ?_
    refine r_callSi (n := 3) X (c_X6_in l X.2.2.1 _ _ _ _ ⟨by omega, by omega⟩ ⟨by omega, by omega⟩ ⟨by omega, by omega⟩) dX6_line_14 tw_615 tw_616 tw_46 tw_617 rfl (Nat.le_of_ble_eq_true rfl) ⟨by decide, by decide⟩ (by decide +kernel) rfl ?_
    refine r_if_eqB (tgt := 50) X dX6_line_17 (fun h17 => ?_) (fun h17 => ?_)
    · refine r_iconst X dX6_line_50 ?_
      exact r_iretp X M dX6_line_51 ⟨by unfold s_line; rw [if_neg (by omega)], by rw [zIf_n (by omega)]; exact zMup.refl hM⟩
    · refine r_iload5 X dX6_line_20 ?_
      refine r_i2l X dX6_line_22 ⟨by omega, by omega⟩ ?_
      refine r_ldc2 X dX6_line_23 (-10) (by decide +kernel) tw_648 ?_
      refine r_ldc2 X dX6_line_26 10 (by decide +kernel) tw_649 ?_
      refine r_callSi (n := 3) X (c_X6_in l X.2.2.1 _ _ _ _ ⟨by omega, by omega⟩ ⟨by omega, by omega⟩ ⟨by omega, by omega⟩) dX6_line_29 tw_615 tw_616 tw_46 tw_617 rfl (Nat.le_of_ble_eq_true rfl) ⟨by decide, by decide⟩ (by decide +kernel) rfl ?_
      refine r_if_eqB (tgt := 50) X dX6_line_32 (fun h32 => ?_) (fun h32 => ?_)
      · refine r_iconst X dX6_line_50 ?_
        exact r_iretp X M dX6_line_51 ⟨by unfold s_line; rw [if_neg (by omega)], by rw [zIf_n (by omega)]; exact zMup.refl hM⟩
      · refine r_iload6 X dX6_line_35 ?_
        refine r_i2l X dX6_line_37 ⟨by omega, by omega⟩ ?_
        refine r_ldc2 X dX6_line_38 (-10) (by decide +kernel) tw_648 ?_
        refine r_ldc2 X dX6_line_41 10 (by decide +kernel) tw_649 ?_
        refine r_callSi (n := 3) X (c_X6_in l X.2.2.1 _ _ _ _ ⟨by omega, by omega⟩ ⟨by omega, by omega⟩ ⟨by omega, by omega⟩) dX6_line_44 tw_615 tw_616 tw_46 tw_617 rfl (Nat.le_of_ble_eq_true rfl) ⟨by decide, by decide⟩ (by decide +kernel) rfl ?_
        refine r_if_neB (tgt := 52) X dX6_line_47 (fun h47 => ?_) (fun h47 => ?_)
        · refine r_aload0 X dX6_line_52 ?_
          refine r_iconst X dX6_line_53 ?_
          refine r_put (ty := .int) X 8 8 dX6_line_54 z_c80 in_X6 tw_562 tyX6 tyX6_ok nmX6 (by decide) rfl (by decide) rfl (by decide +kernel) rfl rfl (fun _ _ => rfl) (Nat.le_of_ble_eq_true rfl) ?_
          refine r_iconst X dX6_line_57 ?_
          refine r_istore7 X dX6_line_58 ?_
          have hcn : 1 ≤ n ∧ n ≤ 16 := by omega
          have hsr : ∀ j : Int, 0 ≤ j → j < n → (-9000000000 ≤ sx_line x dx j ∧ sx_line x dx j ≤ 9000000000) ∧ -9000000000 ≤ sx_line y dy j ∧ sx_line y dy j ≤ 9000000000 := fun j j0 j1 => by
            have m1 := z_mul_b (a := j) (b := dx) (A := 7) (B := 10) (by omega) (by omega) (by omega) (by omega)
            have m2 := z_mul_b (a := j) (b := dy) (A := 7) (B := 10) (by omega) (by omega) (by omega) (by omega)
            unfold sx_line
            omega
          have L : ∀ (fu : Nat) (k : Int) (σ1 : zSt), (n - k) < (fu : Int) → 0 ≤ k → k ≤ n → zMup σ σ1 V → σ1 80 8 = k → (∀ j : Int, 0 ≤ j → j < k → σ1 86 j = (sx_line x dx) j ∧ σ1 87 j = (sx_line y dy) j) → z_G p l e (z_rm 3) s mm ([.ref (a 80), .int (zI q), .int (zI n), .int (zI x), .int (zI y), .int (zI dx), .int (zI dy)] : List Value).toArray below meth c 8 D κ a A 0 0 (MQ below (z_Qp D κ a A (fun z σ' => z = s_line V q n x y dx dy ∧ zMup σ σ' (z_if z V (u_line V q n x y dx dy)))) ([.ref (a 80), .int (zI q), .int (zI n), .int (zI x), .int (zI y), .int (zI dx), .int (zI dy)] : List Value).toArray s 0 0 A) σ1 [some (.ref (a 80)), some (.int (zI q)), some (.int (zI n)), some (.int (zI x)), some (.int (zI y)), some (.int (zI dx)), some (.int (zI dy)), some (.int (zI k))] 60 [] := by
            intro fu
            induction fu with
            | zero =>
              intro k σ1 hn h0 h1 hU h80 hJ
              omega
            | succ fu ih =>
              intro k σ1 hn h0 h1 hU h80 hJ
              refine r_iload7 X dX6_line_60 ?_
              refine r_iload2 X dX6_line_62 ?_
              refine r_icmp_ge (tgt := 95) X dX6_line_63 ⟨⟨by omega, by omega⟩, by omega, by omega⟩ (fun h63 => ?_) (fun h63 => ?_)
              · refine r_aload0 X dX6_line_95 ?_
                refine r_iload1 X dX6_line_96 ?_
                refine r_callVp (n := 1) X (c_X6_comes l X.2.2.1 _ _ (n) V (sx_line x dx) (sx_line y dy) hV hU.1 ⟨by omega, by omega⟩ (by rw [h80]; omega) hcn (fun j j0 j1 => hJ j j0 (by omega)) hsr) dX6_line_97 tw_654 tw_656 tw_19 tw_46 tw_657 z_c80 (by decide) rfl rfl (Nat.le_of_ble_eq_true rfl) ⟨by decide, by decide⟩ (by decide +kernel) rfl (fun z2 σ2 h2 => ?_)
                exact r_iretp X M dX6_line_100 ⟨by unfold s_line; rw [if_pos (by omega)]; exact h2.1, hU.trans h2.2⟩
              · have m1 := z_mul_b (a := k) (b := dx) (A := 7) (B := 10) (by omega) (by omega) (by omega) (by omega)
                have m2 := z_mul_b (a := k) (b := dy) (A := 7) (B := 10) (by omega) (by omega) (by omega) (by omega)
                have hst : x + k * dx = sx_line x dx k ∧ y + k * dy = sx_line y dy k := ⟨rfl, rfl⟩
                refine r_aload0 X dX6_line_66 ?_
                refine r_iload3 X dX6_line_67 ?_
                refine r_i2l X dX6_line_68 ⟨by omega, by omega⟩ ?_
                refine r_iload7 X dX6_line_69 ?_
                refine r_iload5 X dX6_line_71 ?_
                refine r_imul X dX6_line_73 ?_
                refine r_i2l X dX6_line_74 ⟨by omega, by omega⟩ ?_
                refine r_ladd X dX6_line_75 ?_
                refine r_iload4 X dX6_line_76 ?_
                refine r_i2l X dX6_line_78 ⟨by omega, by omega⟩ ?_
                refine r_iload7 X dX6_line_79 ?_
                refine r_iload6 X dX6_line_81 ?_
                refine r_imul X dX6_line_83 ?_
                refine r_i2l X dX6_line_84 ⟨by omega, by omega⟩ ?_
                refine r_ladd X dX6_line_85 ?_
                refine r_callVv (n := 2) X (c_X6_lay l X.2.2.1 _ _ _ ⟨by omega, by omega⟩) dX6_line_86 tw_650 tw_652 tw_18 tw_46 tw_653 z_c80 (by decide) rfl rfl (Nat.le_of_ble_eq_true rfl) ⟨by decide, by decide⟩ (by decide +kernel) rfl ?_
                refine r_iinc7 X dX6_line_89 ?_
                refine r_goto (tgt := 60) X dX6_line_92 (by decide) ?_
                exact ih (k + 1) _ (by omega) (by omega) (by omega) (((hU.us _ _ (by decide)).us _ _ (by decide)).u80 _ (by decide)) (by rw [z_up_s, h80]) (lay_J h80 hJ hst)
          exact L 17 0 _ (by omega) (by omega) (by omega) ((zMup.refl hM).u80 0 (by decide)) z_up_s (fun j _ _ => by omega)
        · refine r_iconst X dX6_line_50 ?_
          exact r_iretp X M dX6_line_51 ⟨by unfold s_line; rw [if_neg (by omega)], by rw [zIf_n (by omega)]; exact zMup.refl hM⟩

set_option maxRecDepth 100000 in
set_option maxHeartbeats 4000000 in
theorem c_X6_block (l : Launch) {D : va_G} {κ : Nat → ClassId} {a : Nat → Nat} {A : Nat → Prop} (hA : z_aD a A) (σ : zSt) (q x y w h g : Int) (hq : z_in q) (hx : z_in x) (hy : z_in y) (hw : z_in w) (hh : z_in h) (hg : z_in g) (V : zV) (hV : v_ok V) (hM : zModel σ V) : z_Tp l D κ a A yX6_block cX6_block 8 (some .int) 3 [.ref (a 80), .int (zI q), .int (zI x), .int (zI y), .int (zI w), .int (zI h), .int (zI g)] σ (fun z σ' => z = s_block V q x y w h g ∧ zMup σ σ' (z_if z V (u_block V q x y w h g))) := by
  refine z_Tp_of (cc := cX6_block) (maxL := 8) (ret := (some .int)) (own := RX6) (lv0 := [some (.ref (a 80)), some (.int (zI q)), some (.int (zI x)), some (.int (zI y)), some (.int (zI w)), some (.int (zI h)), some (.int (zI g)), none]) hA (by decide) rfl (Nat.le_of_ble_eq_true rfl) rfl ?_
  intro p e s mm below meth c X M
  obtain ⟨⟨hv0, hv1, hv2, hv3, hv4, hv5⟩, hvm, hvb, hvk, hvc, hvd⟩ := id hV
  have e0 := hM.1 0 (by omega) (by omega)
  have e1 := hM.1 1 (by omega) (by omega)
  refine r_aload0 X dX6_block_0 ?_
  refine r_iload1 X dX6_block_1 ?_
  refine r_callVi (n := 1) X (c_X6_isPicture l X.2.2.1 _ _ ⟨by omega, by omega⟩ ⟨by omega, by omega⟩) dX6_block_2 tw_639 tw_641 tw_17 tw_46 tw_642 z_c80 (by decide) rfl rfl (Nat.le_of_ble_eq_true rfl) ⟨by decide, by decide⟩ (by decide +kernel) rfl ?_
  refine r_if_eqB (tgt := 47) X dX6_block_5 (fun h5 => ?_) (fun h5 => ?_)
  · refine r_iconst X dX6_block_47 ?_
    exact r_iretp X M dX6_block_48 ⟨by unfold s_block; rw [if_neg (by omega)], by rw [zIf_n (by omega)]; exact zMup.refl hM⟩
  · refine r_iload4 X dX6_block_8 ?_
    refine r_i2l X dX6_block_10 ⟨by omega, by omega⟩ ?_
    refine r_lconst X dX6_block_11 1 (by decide +kernel) ?_
    refine r_ldc2 X dX6_block_12 4 (by decide +kernel) tw_614 ?_
    refine r_callSi (n := 3) X (c_X6_in l X.2.2.1 _ _ _ _ ⟨by omega, by omega⟩ ⟨by omega, by omega⟩ ⟨by omega, by omega⟩) dX6_block_15 tw_615 tw_616 tw_46 tw_617 rfl (Nat.le_of_ble_eq_true rfl) ⟨by decide, by decide⟩ (by decide +kernel) rfl ?_
    refine r_if_eqB (tgt := 47) X dX6_block_18 (fun h18 => ?_) (fun h18 => ?_)
    · refine r_iconst X dX6_block_47 ?_
      exact r_iretp X M dX6_block_48 ⟨by unfold s_block; rw [if_neg (by omega)], by rw [zIf_n (by omega)]; exact zMup.refl hM⟩
    · refine r_iload5 X dX6_block_21 ?_
      refine r_i2l X dX6_block_23 ⟨by omega, by omega⟩ ?_
      refine r_lconst X dX6_block_24 1 (by decide +kernel) ?_
      refine r_ldc2 X dX6_block_25 4 (by decide +kernel) tw_614 ?_
      refine r_callSi (n := 3) X (c_X6_in l X.2.2.1 _ _ _ _ ⟨by omega, by omega⟩ ⟨by omega, by omega⟩ ⟨by omega, by omega⟩) dX6_block_28 tw_615 tw_616 tw_46 tw_617 rfl (Nat.le_of_ble_eq_true rfl) ⟨by decide, by decide⟩ (by decide +kernel) rfl ?_
      refine r_if_eqB (tgt := 47) X dX6_block_31 (fun h31 => ?_) (fun h31 => ?_)
      · refine r_iconst X dX6_block_47 ?_
        exact r_iretp X M dX6_block_48 ⟨by unfold s_block; rw [if_neg (by omega)], by rw [zIf_n (by omega)]; exact zMup.refl hM⟩
      · refine r_iload6 X dX6_block_34 ?_
        refine r_i2l X dX6_block_36 ⟨by omega, by omega⟩ ?_
        refine r_lconst X dX6_block_37 1 (by decide +kernel) ?_
        refine r_ldc2 X dX6_block_38 5 (by decide +kernel) tw_671 ?_
        refine r_callSi (n := 3) X (c_X6_in l X.2.2.1 _ _ _ _ ⟨by omega, by omega⟩ ⟨by omega, by omega⟩ ⟨by omega, by omega⟩) dX6_block_41 tw_615 tw_616 tw_46 tw_617 rfl (Nat.le_of_ble_eq_true rfl) ⟨by decide, by decide⟩ (by decide +kernel) rfl ?_
        refine r_if_neB (tgt := 49) X dX6_block_44 (fun h44 => ?_) (fun h44 => ?_)
        · refine r_aload0 X dX6_block_49 ?_
          refine r_iconst X dX6_block_50 ?_
          refine r_put (ty := .int) X 8 8 dX6_block_51 z_c80 in_X6 tw_562 tyX6 tyX6_ok nmX6 (by decide) rfl (by decide) rfl (by decide +kernel) rfl rfl (fun _ _ => rfl) (Nat.le_of_ble_eq_true rfl) ?_
          refine r_iconst X dX6_block_54 ?_
          refine r_istore7 X dX6_block_55 ?_
          have hwh := z_mul_b (a := w) (b := h) (A := 4) (B := 4) (by omega) (by omega) (by omega) (by omega)
          have hwp : 1 ≤ w * h := by
            have := Int.mul_pos (show 0 < w by omega) (show 0 < h by omega)
            omega
          have hcn : 1 ≤ w * h ∧ w * h ≤ 16 := by omega
          have hdv : ∀ j : Int, 0 ≤ j → j < w * h → (0 ≤ j % w ∧ j % w < w) ∧ 0 ≤ j / w ∧ j / w < h := fun j j0 j1 => ⟨⟨Int.emod_nonneg _ (by omega), Int.emod_lt_of_pos _ (by omega)⟩, Int.ediv_nonneg j0 (by omega), Int.ediv_lt_of_lt_mul (by omega) (by rw [Int.mul_comm]; exact j1)⟩
          have hsr : ∀ j : Int, 0 ≤ j → j < w * h → (-9000000000 ≤ sx_block x w g j ∧ sx_block x w g j ≤ 9000000000) ∧ -9000000000 ≤ sy_block y w g j ∧ sy_block y w g j ≤ 9000000000 := fun j j0 j1 => by
            have d := hdv j j0 j1
            have m1 := z_mul_b (a := j % w) (b := g) (A := 4) (B := 5) (by omega) (by omega) (by omega) (by omega)
            have m2 := z_mul_b (a := j / w) (b := g) (A := 4) (B := 5) (by omega) (by omega) (by omega) (by omega)
            unfold sx_block sy_block
            omega
          have L : ∀ (fu : Nat) (k : Int) (σ1 : zSt), (w * h - k) < (fu : Int) → 0 ≤ k → k ≤ w * h → zMup σ σ1 V → σ1 80 8 = k → (∀ j : Int, 0 ≤ j → j < k → σ1 86 j = (sx_block x w g) j ∧ σ1 87 j = (sy_block y w g) j) → z_G p l e (z_rm 3) s mm ([.ref (a 80), .int (zI q), .int (zI x), .int (zI y), .int (zI w), .int (zI h), .int (zI g)] : List Value).toArray below meth c 8 D κ a A 0 0 (MQ below (z_Qp D κ a A (fun z σ' => z = s_block V q x y w h g ∧ zMup σ σ' (z_if z V (u_block V q x y w h g)))) ([.ref (a 80), .int (zI q), .int (zI x), .int (zI y), .int (zI w), .int (zI h), .int (zI g)] : List Value).toArray s 0 0 A) σ1 [some (.ref (a 80)), some (.int (zI q)), some (.int (zI x)), some (.int (zI y)), some (.int (zI w)), some (.int (zI h)), some (.int (zI g)), some (.int (zI k))] 57 [] := by
            intro fu
            induction fu with
            | zero =>
              intro k σ1 hn h0 h1 hU h80 hJ
              omega
            | succ fu ih =>
              intro k σ1 hn h0 h1 hU h80 hJ
              refine r_iload7 X dX6_block_57 ?_
              refine r_iload4 X dX6_block_59 ?_
              refine r_iload5 X dX6_block_61 ?_
              refine r_imul X dX6_block_63 ?_
              refine r_icmp_ge (tgt := 101) X dX6_block_64 ⟨⟨by omega, by omega⟩, by omega, by omega⟩ (fun h64 => ?_) (fun h64 => ?_)
              · refine r_aload0 X dX6_block_101 ?_
                refine r_iload1 X dX6_block_102 ?_
                refine r_callVp (n := 1) X (c_X6_comes l X.2.2.1 _ _ (w * h) V (sx_block x w g) (sy_block y w g) hV hU.1 ⟨by omega, by omega⟩ (by rw [h80]; omega) hcn (fun j j0 j1 => hJ j j0 (by omega)) hsr) dX6_block_103 tw_654 tw_656 tw_19 tw_46 tw_657 z_c80 (by decide) rfl rfl (Nat.le_of_ble_eq_true rfl) ⟨by decide, by decide⟩ (by decide +kernel) rfl (fun z2 σ2 h2 => ?_)
                exact r_iretp X M dX6_block_106 ⟨by unfold s_block; rw [if_pos (by omega)]; exact h2.1, hU.trans h2.2⟩
              · have d := hdv k (by omega) (by omega)
                have m1 := z_mul_b (a := k % w) (b := g) (A := 4) (B := 5) (by omega) (by omega) (by omega) (by omega)
                have m2 := z_mul_b (a := k / w) (b := g) (A := 4) (B := 5) (by omega) (by omega) (by omega) (by omega)
                have hst : x + k % w * g = sx_block x w g k ∧ y + k / w * g = sy_block y w g k := ⟨rfl, rfl⟩
                refine r_aload0 X dX6_block_67 ?_
                refine r_iload2 X dX6_block_68 ?_
                refine r_i2l X dX6_block_69 ⟨by omega, by omega⟩ ?_
                refine r_iload7 X dX6_block_70 ?_
                refine r_iload4 X dX6_block_72 ?_
                refine r_irem X dX6_block_74 ⟨⟨by omega, by omega⟩, by omega, by omega⟩ ?_
                refine r_iload6 X dX6_block_75 ?_
                refine r_imul X dX6_block_77 ?_
                refine r_i2l X dX6_block_78 ⟨by omega, by omega⟩ ?_
                refine r_ladd X dX6_block_79 ?_
                refine r_iload3 X dX6_block_80 ?_
                refine r_i2l X dX6_block_81 ⟨by omega, by omega⟩ ?_
                refine r_iload7 X dX6_block_82 ?_
                refine r_iload4 X dX6_block_84 ?_
                refine r_idiv X dX6_block_86 ⟨⟨by omega, by omega⟩, by omega, by omega⟩ ?_
                refine r_iload6 X dX6_block_87 ?_
                refine r_imul X dX6_block_89 ?_
                refine r_i2l X dX6_block_90 ⟨by omega, by omega⟩ ?_
                refine r_ladd X dX6_block_91 ?_
                refine r_callVv (n := 2) X (c_X6_lay l X.2.2.1 _ _ _ ⟨by omega, by omega⟩) dX6_block_92 tw_650 tw_652 tw_18 tw_46 tw_653 z_c80 (by decide) rfl rfl (Nat.le_of_ble_eq_true rfl) ⟨by decide, by decide⟩ (by decide +kernel) rfl ?_
                refine r_iinc7 X dX6_block_95 ?_
                refine r_goto (tgt := 57) X dX6_block_98 (by decide) ?_
                exact ih (k + 1) _ (by omega) (by omega) (by omega) (((hU.us _ _ (by decide)).us _ _ (by decide)).u80 _ (by decide)) (by rw [z_up_s, h80]) (lay_J h80 hJ hst)
          exact L 17 0 _ (by omega) (by omega) (by omega) ((zMup.refl hM).u80 0 (by decide)) z_up_s (fun j _ _ => by omega)
        · refine r_iconst X dX6_block_47 ?_
          exact r_iretp X M dX6_block_48 ⟨by unfold s_block; rw [if_neg (by omega)], by rw [zIf_n (by omega)]; exact zMup.refl hM⟩

set_option maxRecDepth 100000 in
set_option maxHeartbeats 4000000 in
theorem c_X6_corner (l : Launch) {D : va_G} {κ : Nat → ClassId} {a : Nat → Nat} {A : Nat → Prop} (hA : z_aD a A) (σ : zSt) (q x y n g : Int) (hq : z_in q) (hx : z_in x) (hy : z_in y) (hn : z_in n) (hg : z_in g) (V : zV) (hV : v_ok V) (hM : zModel σ V) : z_Tp l D κ a A yX6_corner cX6_corner 7 (some .int) 3 [.ref (a 80), .int (zI q), .int (zI x), .int (zI y), .int (zI n), .int (zI g)] σ (fun z σ' => z = s_corner V q x y n g ∧ zMup σ σ' (z_if z V (u_corner V q x y n g))) := by
  refine z_Tp_of (cc := cX6_corner) (maxL := 7) (ret := (some .int)) (own := RX6) (lv0 := [some (.ref (a 80)), some (.int (zI q)), some (.int (zI x)), some (.int (zI y)), some (.int (zI n)), some (.int (zI g)), none]) hA (by decide) rfl (Nat.le_of_ble_eq_true rfl) rfl ?_
  intro p e s mm below meth c X M
  obtain ⟨⟨hv0, hv1, hv2, hv3, hv4, hv5⟩, hvm, hvb, hvk, hvc, hvd⟩ := id hV
  have e0 := hM.1 0 (by omega) (by omega)
  have e1 := hM.1 1 (by omega) (by omega)
  refine r_aload0 X dX6_corner_0 ?_
  refine r_iload1 X dX6_corner_1 ?_
  refine r_callVi (n := 1) X (c_X6_isPicture l X.2.2.1 _ _ ⟨by omega, by omega⟩ ⟨by omega, by omega⟩) dX6_corner_2 tw_639 tw_641 tw_17 tw_46 tw_642 z_c80 (by decide) rfl rfl (Nat.le_of_ble_eq_true rfl) ⟨by decide, by decide⟩ (by decide +kernel) rfl ?_
  refine r_if_eqB (tgt := 34) X dX6_corner_5 (fun h5 => ?_) (fun h5 => ?_)
  · refine r_iconst X dX6_corner_34 ?_
    exact r_iretp X M dX6_corner_35 ⟨by unfold s_corner; rw [if_neg (by omega)], by rw [zIf_n (by omega)]; exact zMup.refl hM⟩
  · refine r_iload4 X dX6_corner_8 ?_
    refine r_i2l X dX6_corner_10 ⟨by omega, by omega⟩ ?_
    refine r_lconst X dX6_corner_11 1 (by decide +kernel) ?_
    refine r_ldc2 X dX6_corner_12 4 (by decide +kernel) tw_614 ?_
    refine r_callSi (n := 3) X (c_X6_in l X.2.2.1 _ _ _ _ ⟨by omega, by omega⟩ ⟨by omega, by omega⟩ ⟨by omega, by omega⟩) dX6_corner_15 tw_615 tw_616 tw_46 tw_617 rfl (Nat.le_of_ble_eq_true rfl) ⟨by decide, by decide⟩ (by decide +kernel) rfl ?_
    refine r_if_eqB (tgt := 34) X dX6_corner_18 (fun h18 => ?_) (fun h18 => ?_)
    · refine r_iconst X dX6_corner_34 ?_
      exact r_iretp X M dX6_corner_35 ⟨by unfold s_corner; rw [if_neg (by omega)], by rw [zIf_n (by omega)]; exact zMup.refl hM⟩
    · refine r_iload5 X dX6_corner_21 ?_
      refine r_i2l X dX6_corner_23 ⟨by omega, by omega⟩ ?_
      refine r_lconst X dX6_corner_24 1 (by decide +kernel) ?_
      refine r_ldc2 X dX6_corner_25 5 (by decide +kernel) tw_671 ?_
      refine r_callSi (n := 3) X (c_X6_in l X.2.2.1 _ _ _ _ ⟨by omega, by omega⟩ ⟨by omega, by omega⟩ ⟨by omega, by omega⟩) dX6_corner_28 tw_615 tw_616 tw_46 tw_617 rfl (Nat.le_of_ble_eq_true rfl) ⟨by decide, by decide⟩ (by decide +kernel) rfl ?_
      refine r_if_neB (tgt := 36) X dX6_corner_31 (fun h31 => ?_) (fun h31 => ?_)
      · refine r_aload0 X dX6_corner_36 ?_
        refine r_iconst X dX6_corner_37 ?_
        refine r_put (ty := .int) X 8 8 dX6_corner_38 z_c80 in_X6 tw_562 tyX6 tyX6_ok nmX6 (by decide) rfl (by decide) rfl (by decide +kernel) rfl rfl (fun _ _ => rfl) (Nat.le_of_ble_eq_true rfl) ?_
        refine r_iconst X dX6_corner_41 ?_
        refine r_istore6 X dX6_corner_42 ?_
        have hcn : 1 ≤ 2 * n - 1 ∧ 2 * n - 1 ≤ 16 := by omega
        have hm1 : ∀ j : Int, 0 ≤ j → j < 2 * n - 1 → (-20 ≤ (if j < n then j else n - 1) * g ∧ (if j < n then j else n - 1) * g ≤ 20) ∧ -20 ≤ (if j < n then 0 else j - n + 1) * g ∧ (if j < n then 0 else j - n + 1) * g ≤ 20 := fun j j0 j1 => by
          have m1 := z_mul_b (a := if j < n then j else n - 1) (b := g) (A := 4) (B := 5) (by split <;> omega) (by omega) (by omega) (by omega)
          have m2 := z_mul_b (a := if j < n then 0 else j - n + 1) (b := g) (A := 4) (B := 5) (by split <;> omega) (by omega) (by omega) (by omega)
          omega
        have hsr : ∀ j : Int, 0 ≤ j → j < 2 * n - 1 → (-9000000000 ≤ sx_corner x n g j ∧ sx_corner x n g j ≤ 9000000000) ∧ -9000000000 ≤ sy_corner y n g j ∧ sy_corner y n g j ≤ 9000000000 := fun j j0 j1 => by
          have d := hm1 j j0 j1
          unfold sx_corner sy_corner
          omega
        have L : ∀ (fu : Nat) (k : Int) (σ1 : zSt), ((2 * n - 1) - k) < (fu : Int) → 0 ≤ k → k ≤ (2 * n - 1) → zMup σ σ1 V → σ1 80 8 = k → (∀ j : Int, 0 ≤ j → j < k → σ1 86 j = (sx_corner x n g) j ∧ σ1 87 j = (sy_corner y n g) j) → z_G p l e (z_rm 3) s mm ([.ref (a 80), .int (zI q), .int (zI x), .int (zI y), .int (zI n), .int (zI g)] : List Value).toArray below meth c 7 D κ a A 0 0 (MQ below (z_Qp D κ a A (fun z σ' => z = s_corner V q x y n g ∧ zMup σ σ' (z_if z V (u_corner V q x y n g)))) ([.ref (a 80), .int (zI q), .int (zI x), .int (zI y), .int (zI n), .int (zI g)] : List Value).toArray s 0 0 A) σ1 [some (.ref (a 80)), some (.int (zI q)), some (.int (zI x)), some (.int (zI y)), some (.int (zI n)), some (.int (zI g)), some (.int (zI k))] 44 [] := by
          intro fu
          induction fu with
          | zero =>
            intro k σ1 hn h0 h1 hU h80 hJ
            omega
          | succ fu ih =>
            intro k σ1 hn h0 h1 hU h80 hJ
            refine r_iload6 X dX6_corner_44 ?_
            refine r_iconst X dX6_corner_46 ?_
            refine r_iload4 X dX6_corner_47 ?_
            refine r_imul X dX6_corner_49 ?_
            refine r_iconst X dX6_corner_50 ?_
            refine r_isub X dX6_corner_51 ?_
            refine r_icmp_ge (tgt := 113) X dX6_corner_52 ⟨⟨by omega, by omega⟩, by omega, by omega⟩ (fun h52 => ?_) (fun h52 => ?_)
            · refine r_aload0 X dX6_corner_113 ?_
              refine r_iload1 X dX6_corner_114 ?_
              refine r_callVp (n := 1) X (c_X6_comes l X.2.2.1 _ _ ((2 * n - 1)) V (sx_corner x n g) (sy_corner y n g) hV hU.1 ⟨by omega, by omega⟩ (by rw [h80]; omega) hcn (fun j j0 j1 => hJ j j0 (by omega)) hsr) dX6_corner_115 tw_654 tw_656 tw_19 tw_46 tw_657 z_c80 (by decide) rfl rfl (Nat.le_of_ble_eq_true rfl) ⟨by decide, by decide⟩ (by decide +kernel) rfl (fun z2 σ2 h2 => ?_)
              exact r_iretp X M dX6_corner_118 ⟨by unfold s_corner; rw [if_pos (by omega)]; exact h2.1, hU.trans h2.2⟩
            · have d := hm1 k (by omega) (by omega)
              refine r_aload0 X dX6_corner_55 ?_
              refine r_iload2 X dX6_corner_56 ?_
              refine r_i2l X dX6_corner_57 ⟨by omega, by omega⟩ ?_
              refine r_iload6 X dX6_corner_58 ?_
              refine r_iload4 X dX6_corner_60 ?_
              refine r_icmp_ge (tgt := 70) X dX6_corner_62 ⟨⟨by omega, by omega⟩, by omega, by omega⟩ (fun h62 => ?_) (fun h62 => ?_)
              · refine r_iload4 X dX6_corner_70 ?_
                refine r_iconst X dX6_corner_72 ?_
                refine r_isub X dX6_corner_73 ?_
                refine r_eqi (y := if k < n then k else n - 1) (by split <;> omega) ?_
                refine r_iload5 X dX6_corner_74 ?_
                refine r_imul X dX6_corner_76 ?_
                refine r_i2l X dX6_corner_77 ⟨by omega, by omega⟩ ?_
                refine r_ladd X dX6_corner_78 ?_
                refine r_iload3 X dX6_corner_79 ?_
                refine r_i2l X dX6_corner_80 ⟨by omega, by omega⟩ ?_
                refine r_iload6 X dX6_corner_81 ?_
                refine r_iload4 X dX6_corner_83 ?_
                refine r_icmp_ge (tgt := 92) X dX6_corner_85 ⟨⟨by omega, by omega⟩, by omega, by omega⟩ (fun h85 => ?_) (fun h85 => ?_)
                · refine r_iload6 X dX6_corner_92 ?_
                  refine r_iload4 X dX6_corner_94 ?_
                  refine r_isub X dX6_corner_96 ?_
                  refine r_iconst X dX6_corner_97 ?_
                  refine r_iadd X dX6_corner_98 ?_
                  refine r_eqi (y := if k < n then 0 else k - n + 1) (by split <;> omega) ?_
                  refine r_iload5 X dX6_corner_99 ?_
                  refine r_imul X dX6_corner_101 ?_
                  refine r_i2l X dX6_corner_102 ⟨by omega, by omega⟩ ?_
                  refine r_ladd X dX6_corner_103 ?_
                  have hst : x + (if k < n then k else n - 1) * g = sx_corner x n g k ∧ y + (if k < n then 0 else k - n + 1) * g = sy_corner y n g k := ⟨rfl, rfl⟩
                  refine r_callVv (n := 2) X (c_X6_lay l X.2.2.1 _ _ _ ⟨by omega, by omega⟩) dX6_corner_104 tw_650 tw_652 tw_18 tw_46 tw_653 z_c80 (by decide) rfl rfl (Nat.le_of_ble_eq_true rfl) ⟨by decide, by decide⟩ (by decide +kernel) rfl ?_
                  refine r_iinc6 X dX6_corner_107 ?_
                  refine r_goto (tgt := 44) X dX6_corner_110 (by decide) ?_
                  exact ih (k + 1) _ (by omega) (by omega) (by omega) (((hU.us _ _ (by decide)).us _ _ (by decide)).u80 _ (by decide)) (by rw [z_up_s, h80]) (lay_J h80 hJ hst)
                · refine r_iconst X dX6_corner_88 ?_
                  refine r_goto (tgt := 99) X dX6_corner_89 (by decide) ?_
                  refine r_eqi (y := if k < n then 0 else k - n + 1) (by split <;> omega) ?_
                  refine r_iload5 X dX6_corner_99 ?_
                  refine r_imul X dX6_corner_101 ?_
                  refine r_i2l X dX6_corner_102 ⟨by omega, by omega⟩ ?_
                  refine r_ladd X dX6_corner_103 ?_
                  have hst : x + (if k < n then k else n - 1) * g = sx_corner x n g k ∧ y + (if k < n then 0 else k - n + 1) * g = sy_corner y n g k := ⟨rfl, rfl⟩
                  refine r_callVv (n := 2) X (c_X6_lay l X.2.2.1 _ _ _ ⟨by omega, by omega⟩) dX6_corner_104 tw_650 tw_652 tw_18 tw_46 tw_653 z_c80 (by decide) rfl rfl (Nat.le_of_ble_eq_true rfl) ⟨by decide, by decide⟩ (by decide +kernel) rfl ?_
                  refine r_iinc6 X dX6_corner_107 ?_
                  refine r_goto (tgt := 44) X dX6_corner_110 (by decide) ?_
                  exact ih (k + 1) _ (by omega) (by omega) (by omega) (((hU.us _ _ (by decide)).us _ _ (by decide)).u80 _ (by decide)) (by rw [z_up_s, h80]) (lay_J h80 hJ hst)
              · refine r_iload6 X dX6_corner_65 ?_
                refine r_goto (tgt := 74) X dX6_corner_67 (by decide) ?_
                refine r_eqi (y := if k < n then k else n - 1) (by split <;> omega) ?_
                refine r_iload5 X dX6_corner_74 ?_
                refine r_imul X dX6_corner_76 ?_
                refine r_i2l X dX6_corner_77 ⟨by omega, by omega⟩ ?_
                refine r_ladd X dX6_corner_78 ?_
                refine r_iload3 X dX6_corner_79 ?_
                refine r_i2l X dX6_corner_80 ⟨by omega, by omega⟩ ?_
                refine r_iload6 X dX6_corner_81 ?_
                refine r_iload4 X dX6_corner_83 ?_
                refine r_icmp_ge (tgt := 92) X dX6_corner_85 ⟨⟨by omega, by omega⟩, by omega, by omega⟩ (fun h85 => ?_) (fun h85 => ?_)
                · refine r_iload6 X dX6_corner_92 ?_
                  refine r_iload4 X dX6_corner_94 ?_
                  refine r_isub X dX6_corner_96 ?_
                  refine r_iconst X dX6_corner_97 ?_
                  refine r_iadd X dX6_corner_98 ?_
                  refine r_eqi (y := if k < n then 0 else k - n + 1) (by split <;> omega) ?_
                  refine r_iload5 X dX6_corner_99 ?_
                  refine r_imul X dX6_corner_101 ?_
                  refine r_i2l X dX6_corner_102 ⟨by omega, by omega⟩ ?_
                  refine r_ladd X dX6_corner_103 ?_
                  have hst : x + (if k < n then k else n - 1) * g = sx_corner x n g k ∧ y + (if k < n then 0 else k - n + 1) * g = sy_corner y n g k := ⟨rfl, rfl⟩
                  refine r_callVv (n := 2) X (c_X6_lay l X.2.2.1 _ _ _ ⟨by omega, by omega⟩) dX6_corner_104 tw_650 tw_652 tw_18 tw_46 tw_653 z_c80 (by decide) rfl rfl (Nat.le_of_ble_eq_true rfl) ⟨by decide, by decide⟩ (by decide +kernel) rfl ?_
                  refine r_iinc6 X dX6_corner_107 ?_
                  refine r_goto (tgt := 44) X dX6_corner_110 (by decide) ?_
                  exact ih (k + 1) _ (by omega) (by omega) (by omega) (((hU.us _ _ (by decide)).us _ _ (by decide)).u80 _ (by decide)) (by rw [z_up_s, h80]) (lay_J h80 hJ hst)
                · refine r_iconst X dX6_corner_88 ?_
                  refine r_goto (tgt := 99) X dX6_corner_89 (by decide) ?_
                  refine r_eqi (y := if k < n then 0 else k - n + 1) (by split <;> omega) ?_
                  refine r_iload5 X dX6_corner_99 ?_
                  refine r_imul X dX6_corner_101 ?_
                  refine r_i2l X dX6_corner_102 ⟨by omega, by omega⟩ ?_
                  refine r_ladd X dX6_corner_103 ?_
                  have hst : x + (if k < n then k else n - 1) * g = sx_corner x n g k ∧ y + (if k < n then 0 else k - n + 1) * g = sy_corner y n g k := ⟨rfl, rfl⟩
                  refine r_callVv (n := 2) X (c_X6_lay l X.2.2.1 _ _ _ ⟨by omega, by omega⟩) dX6_corner_104 tw_650 tw_652 tw_18 tw_46 tw_653 z_c80 (by decide) rfl rfl (Nat.le_of_ble_eq_true rfl) ⟨by decide, by decide⟩ (by decide +kernel) rfl ?_
                  refine r_iinc6 X dX6_corner_107 ?_
                  refine r_goto (tgt := 44) X dX6_corner_110 (by decide) ?_
                  exact ih (k + 1) _ (by omega) (by omega) (by omega) (((hU.us _ _ (by decide)).us _ _ (by decide)).u80 _ (by decide)) (by rw [z_up_s, h80]) (lay_J h80 hJ hst)
        exact L 17 0 _ (by omega) (by omega) (by omega) ((zMup.refl hM).u80 0 (by decide)) z_up_s (fun j _ _ => by omega)
      · refine r_iconst X dX6_corner_34 ?_
        exact r_iretp X M dX6_corner_35 ⟨by unfold s_corner; rw [if_neg (by omega)], by rw [zIf_n (by omega)]; exact zMup.refl hM⟩
end
section
abbrev vx (V : zV) (k d : Int) : Int := V (28 + 3 * (7 * k + d))
abbrev vy (V : zV) (k d : Int) : Int := V (28 + (3 * (7 * k + d) + 1))
abbrev vn (V : zV) (k : Int) : Int := V (18 + (2 * k + 1))
abbrev vc (V : zV) (k : Int) : Int := V (18 + 2 * k)
abbrev vso (V : zV) (p : Int) (d : Nat) : Prop := V (28 + (3 * (7 * p + (d : Int)) + 2)) = 1
/-- the step from dot f of the picture ahead to dot d of p -/
def vstep (V : zV) (p f d : Int) : Int := max (z_abs (vx V p d - vx V (p - 1) f)) (z_abs (vy V p d - vy V (p - 1) f))
def nval (h fx fy tx ty t : Int) : Int := max (z_abs (h * fx + t * (tx - fx))) (z_abs (h * fy + t * (ty - fy)))
def nr (h fx fy tx ty s0 : Int) : Nat → Int
  | 0 => s0
  | t + 1 => min (nr h fx fy tx ty s0 t) (nval h fx fy tx ty ((t : Int) + 1))
def vnear (V : zV) (p f1 d1 f2 d2 : Int) : Int := nr (2 * vc V p) (vx V (p - 1) f1 - vx V (p - 1) f2) (vy V (p - 1) f1 - vy V (p - 1) f2) (vx V p d1 - vx V p d2) (vy V p d1 - vy V p d2) 1000000 (2 * vc V p - 1).toNat
/-- who is there, among the first k -/
def vWl (V : zV) (k : Nat) : List Nat := (List.range k).filter (fun m => decide (V (6 + (2 * (m : Int) + 1)) = 0))
def vN (V : zV) : Nat := (vWl V (V 0).toNat).length
def vw (V : zV) (t : Nat) : Int := ((((vWl V (V 0).toNat)[t]?).getD 0 : Nat) : Int)
theorem vWl_s (V : zV) (k : Nat) : vWl V (k + 1) = vWl V k ++ (if V (6 + (2 * (k : Int) + 1)) = 0 then [k] else []) := by
  unfold vWl
  rw [List.range_succ, List.filter_append]
  congr 1
  by_cases h : V (6 + (2 * (k : Int) + 1)) = 0 <;> simp [h]
theorem vWl_len (V : zV) : ∀ k : Nat, (vWl V k).length ≤ k
  | 0 => by simp [vWl]
  | k + 1 => by
    have := vWl_len V k
    rw [vWl_s, List.length_append]
    split <;> simp <;> omega
theorem vWl_mem {V : zV} {k m : Nat} : m ∈ vWl V k ↔ m < k ∧ V (6 + (2 * (m : Int) + 1)) = 0 := by
  unfold vWl
  rw [List.mem_filter, List.mem_range]
  simp
theorem vWl_pw (V : zV) (k : Nat) : (vWl V k).Pairwise (· < ·) := List.Pairwise.filter _ List.pairwise_lt_range
theorem vw_at {V : zV} {t : Nat} (h : t < vN V) : (vWl V (V 0).toNat)[t]? = some (vw V t).toNat := by
  unfold vw
  unfold vN at h
  rw [List.getElem?_eq_getElem h]
  simp
/-- the turns: who they are, in order -/
theorem vw_in {V : zV} {t : Nat} (h : t < vN V) : (0 ≤ vw V t ∧ vw V t < V 0) ∧ V (6 + (2 * vw V t + 1)) = 0 := by
  have h0 : 0 ≤ vw V t := by unfold vw; omega
  have h1 := vWl_mem.mp (List.mem_of_getElem? (vw_at h))
  rw [show (((vw V t).toNat : Nat) : Int) = vw V t by omega] at h1
  exact ⟨⟨h0, by omega⟩, h1.2⟩
theorem vw_lt {V : zV} {t u : Nat} (h : t < u) (hu : u < vN V) : vw V t < vw V u := by
  have a1 := vw_at (V := V) (show t < vN V by omega)
  have a2 := vw_at hu
  obtain ⟨l1, e1⟩ := List.getElem?_eq_some_iff.mp a1
  obtain ⟨l2, e2⟩ := List.getElem?_eq_some_iff.mp a2
  have h1 := List.pairwise_iff_getElem.mp (vWl_pw V (V 0).toNat) t u l1 l2 h
  rw [e1, e2] at h1
  have b1 := (vw_in (V := V) (show t < vN V by omega)).1.1
  have b2 := (vw_in hu).1.1
  omega
theorem vw_inj {V : zV} {t u : Nat} (ht : t < vN V) (hu : u < vN V) (e : vw V t = vw V u) : t = u := by
  rcases Nat.lt_trichotomy t u with h | h | h
  · have := vw_lt h hu; omega
  · exact h
  · have := vw_lt h ht; omega
theorem vw_ex {V : zV} {m : Int} (h0 : 0 ≤ m) (h1 : m < V 0) (h2 : V (6 + (2 * m + 1)) = 0) : ∃ t, t < vN V ∧ vw V t = m := by
  have h3 : m.toNat ∈ vWl V (V 0).toNat := vWl_mem.mpr ⟨by omega, by rw [show ((m.toNat : Nat) : Int) = m by omega]; exact h2⟩
  obtain ⟨t, ht⟩ := List.getElem?_of_mem h3
  have hl := (List.getElem?_eq_some_iff.mp ht).1
  refine ⟨t, hl, ?_⟩
  unfold vw
  rw [ht]
  show ((m.toNat : Nat) : Int) = m
  omega
theorem vN_le {V : zV} (h : 0 ≤ V 0 ∧ V 0 ≤ 6) : vN V ≤ 6 := by
  have := vWl_len V (V 0).toNat
  unfold vN
  omega
/-- may turn t take dot d, behind the turns that took tk; gt: who has which dot in the picture ahead -/
def vok (V : zV) (p : Int) (gt : Nat → Int) (t : Nat) (tk : Nat → Int) (d : Nat) : Prop := (∀ i, i < t → tk i ≠ (d : Int)) ∧ (p = 0 ∨ (vstep V p (gt t) (d : Int) ≤ V (6 + 2 * vw V t) * vc V p ∧ ∀ i, i < t → ¬ vnear V p (gt i) (tk i) (gt t) (d : Int) < 2 * vc V p * V 2))
noncomputable def vst (V : zV) (p : Int) (gt : Nat → Int) (t : Nat) (d : Nat) : Int := if p = 0 then 0 else vstep V p (gt t) (d : Int)
def vfin (V : zV) (p : Int) (tk : Nat → Int) : Prop := ∀ d, d < (vn V p).toNat → vso V p d → ∃ i, i < vN V ∧ tk i = (d : Int)
abbrev zAcc0 : zAcc := (0, 0, 0, fun _ => 0)
noncomputable def vD (V : zV) (p : Int) (gt : Nat → Int) : zAcc := dfs (vok V p gt) (vst V p gt) (vfin V p) (vn V p).toNat (vN V) 0 (fun _ => 0) 0 0 zAcc0
/-- the setting of a picture: found, greatest, sum, the dots by turns -/
noncomputable def vS (V : zV) : Nat → zAcc
  | 0 => vD V 0 (fun _ => 0)
  | p + 1 => cIf ((vS V p).1 = 1) (vD V ((p : Int) + 1) (vS V p).2.2.2) zAcc0
theorem dfs_ind {ok : Nat → (Nat → Int) → Nat → Prop} {st : Nat → Nat → Int} {fin : (Nat → Int) → Prop} {nd N : Nat} (I : zAcc → Prop) (J : Nat → (Nat → Int) → Int → Int → Prop) (hJ : ∀ t tk g s d, J t tk g s → t < N → d < nd → ok t tk d → J (t + 1) (tkU tk t (d : Int)) (max g (st t d)) (s + st t d)) (hI : ∀ tk g s, J N tk g s → I (1, g, s, tk)) : ∀ (r t : Nat) (tk : Nat → Int) (g s : Int) (c : zAcc), t + r = N → J t tk g s → I c → I (dfs ok st fin nd r t tk g s c)
  | 0, t, tk, g, s, c, hN, hj, hc => by
    rw [dfs_0]
    by_cases e : fin tk ∧ better g s c
    · rw [cIf_t e]; exact hI tk g s (by rw [show N = t by omega]; exact hj)
    · rw [cIf_f e]; exact hc
  | r + 1, t, tk, g, s, c, hN, hj, hc => by
    rw [dfs_s]
    have key : ∀ n, n ≤ nd → I (sp_lp (fun d c => cIf (ok t tk d) (dfs ok st fin nd r (t + 1) (tkU tk t (d : Int)) (max g (st t d)) (s + st t d) c) c) n c) := by
      intro n
      induction n with
      | zero => intro _; exact hc
      | succ n ih =>
        intro hn
        have ih := ih (by omega)
        show I (cIf (ok t tk n) (dfs ok st fin nd r (t + 1) (tkU tk t (n : Int)) (max g (st t n)) (s + st t n) _) _)
        by_cases e : ok t tk n
        · rw [cIf_t e]
          exact dfs_ind I J hJ hI r (t + 1) _ _ _ _ (by omega) (hJ t tk g s n hj (by omega) (by omega) e) ih
        · rw [cIf_f e]; exact ih
    exact key nd (Nat.le_refl _)
/-- what a setting is like -/
def vgood (V : zV) (p : Int) (c : zAcc) : Prop := (c.1 = 0 ∨ c.1 = 1) ∧ (c.1 = 1 → (0 ≤ c.2.1 ∧ c.2.1 ≤ 40) ∧ (0 ≤ c.2.2.1 ∧ c.2.2.1 ≤ 240) ∧ ∀ t, t < vN V → 0 ≤ c.2.2.2 t ∧ c.2.2.2 t < vn V p)
theorem vxy_in {V : zV} (hV : v_ok V) {k d : Int} (hk : 0 ≤ k ∧ k < 5) (hd : 0 ≤ d ∧ d < 7) : (0 ≤ vx V k d ∧ vx V k d ≤ 40) ∧ 0 ≤ vy V k d ∧ vy V k d ≤ 40 := by
  have q3 := hV.2.2.2.2.2 (7 * k + d) (by omega) (by omega)
  rw [show 29 + 3 * (7 * k + d) = 28 + (3 * (7 * k + d) + 1) by omega] at q3
  exact ⟨q3.1, q3.2.1⟩
theorem vn_in {V : zV} (hV : v_ok V) {k : Int} (hk : 0 ≤ k ∧ k < 5) : (0 ≤ vc V k ∧ vc V k ≤ 16) ∧ 0 ≤ vn V k ∧ vn V k ≤ 7 := by
  have q := hV.2.2.2.1 k hk.1 hk.2
  rw [show 19 + 2 * k = 18 + (2 * k + 1) by omega] at q
  exact q
theorem z_abs_in {x b : Int} (h : -b ≤ x ∧ x ≤ b) : 0 ≤ z_abs x ∧ z_abs x ≤ b := by unfold z_abs; split <;> omega
theorem vstep_in {V : zV} (hV : v_ok V) {p f d : Int} (hp : 1 ≤ p ∧ p < 5) (hf : 0 ≤ f ∧ f < 7) (hd : 0 ≤ d ∧ d < 7) : 0 ≤ vstep V p f d ∧ vstep V p f d ≤ 40 := by
  have a := vxy_in hV (k := p) (d := d) (by omega) hd
  have b := vxy_in hV (k := p - 1) (d := f) (by omega) hf
  have e1 := z_abs_in (x := vx V p d - vx V (p - 1) f) (b := 40) (by omega)
  have e2 := z_abs_in (x := vy V p d - vy V (p - 1) f) (b := 40) (by omega)
  unfold vstep
  omega
theorem vst_in {V : zV} (hV : v_ok V) {p : Int} {gt : Nat → Int} {t d : Nat} (hp : 0 ≤ p ∧ p < 5) (hg : p ≠ 0 → 0 ≤ gt t ∧ gt t < 7) (hd : d < 7) : 0 ≤ vst V p gt t d ∧ vst V p gt t d ≤ 40 := by
  unfold vst
  split
  · omega
  · exact vstep_in hV (by omega) (hg (by omega)) (by omega)
theorem vD_good {V : zV} (hV : v_ok V) {p : Int} (hp : 0 ≤ p ∧ p < 5) {gt : Nat → Int} (hg : p ≠ 0 → ∀ t, t < vN V → 0 ≤ gt t ∧ gt t < 7) : vgood V p (vD V p gt) := by
  have hn := vn_in hV hp
  have hN := vN_le hV.1.1
  refine dfs_ind (N := vN V) (vgood V p) (fun t tk g s => (0 ≤ g ∧ g ≤ 40) ∧ (0 ≤ s ∧ s ≤ 40 * (t : Int)) ∧ ∀ i, i < t → 0 ≤ tk i ∧ tk i < vn V p) ?_ ?_ (vN V) 0 _ 0 0 zAcc0 (by omega) ⟨by omega, by omega, fun i hi => by omega⟩ ⟨Or.inl rfl, fun h => by cases h⟩
  · intro t tk g s d h ht hd _
    have hs := vst_in hV hp (gt := gt) (t := t) (d := d) (fun q => hg q t ht) (by omega)
    refine ⟨by omega, by omega, fun i hi => ?_⟩
    by_cases e : i = t
    · rw [e, tkU_s]; omega
    · rw [tkU_n e]; exact h.2.2 i (by omega)
  · intro tk g s h
    exact ⟨Or.inr rfl, fun _ => ⟨h.1, ⟨h.2.1.1, by have := h.2.1.2; show s ≤ 240; omega⟩, h.2.2⟩⟩
theorem vS_good {V : zV} (hV : v_ok V) : ∀ p : Nat, p < 5 → vgood V (p : Int) (vS V p)
  | 0, _ => vD_good hV (by omega) (fun q => absurd rfl q)
  | p + 1, hp => by
    have ih := vS_good hV p (by omega)
    unfold vS
    by_cases e : (vS V p).1 = 1
    · rw [cIf_t e]
      have h7 := (vn_in hV (k := (p : Int)) (by omega)).2
      exact vD_good hV (by omega) (fun _ t ht => by have := (ih.2 e).2.2 t ht; omega)
    · rw [cIf_f e]
      exact ⟨Or.inl rfl, fun h => by cases h⟩
theorem nval_in {h fx fy tx ty t : Int} (hh : 0 ≤ h ∧ h ≤ 32) (ht : 0 ≤ t ∧ t ≤ 32) (h1 : -40 ≤ fx ∧ fx ≤ 40) (h2 : -40 ≤ fy ∧ fy ≤ 40) (h3 : -40 ≤ tx ∧ tx ≤ 40) (h4 : -40 ≤ ty ∧ ty ≤ 40) : ((-4000 ≤ h * fx + t * (tx - fx) ∧ h * fx + t * (tx - fx) ≤ 4000) ∧ -4000 ≤ h * fy + t * (ty - fy) ∧ h * fy + t * (ty - fy) ≤ 4000) ∧ 0 ≤ nval h fx fy tx ty t ∧ nval h fx fy tx ty t ≤ 4000 := by
  have m1 := z_mul_b (a := h) (b := fx) (A := 32) (B := 40) (by omega) (by omega) (by omega) (by omega)
  have m2 := z_mul_b (a := h) (b := fy) (A := 32) (B := 40) (by omega) (by omega) (by omega) (by omega)
  have m3 := z_mul_b (a := t) (b := tx - fx) (A := 32) (B := 80) (by omega) (by omega) (by omega) (by omega)
  have m4 := z_mul_b (a := t) (b := ty - fy) (A := 32) (B := 80) (by omega) (by omega) (by omega) (by omega)
  have e1 := z_abs_in (x := h * fx + t * (tx - fx)) (b := 4000) (by omega)
  have e2 := z_abs_in (x := h * fy + t * (ty - fy)) (b := 4000) (by omega)
  unfold nval
  omega
end
section
set_option maxRecDepth 100000 in
set_option maxHeartbeats 4000000 in
theorem c_X6_size (l : Launch) {D : va_G} {κ : Nat → ClassId} {a : Nat → Nat} {A : Nat → Prop} (hA : z_aD a A) (σ : zSt) (x : Int) (hx : -1000000 ≤ x ∧ x ≤ 1000000) : z_Ti l D κ a A yX6_size cX6_size 1 (some .int) 0 [.int (zI x)] σ (z_abs x) (σ) := by
  refine z_Ti_of (cc := cX6_size) (maxL := 1) (ret := (some .int)) (own := RX6) (lv0 := [some (.int (zI x))]) hA (by decide) rfl (Nat.le_of_ble_eq_true rfl) rfl ?_
  intro p e s mm below meth c X M
  refine r_iload0 X dX6_size_0 ?_
  refine r_if_ge (tgt := 9) X dX6_size_1 ⟨by omega, by omega⟩ (fun h1 => ?_) (fun h1 => ?_)
  · refine r_iload0 X dX6_size_9 ?_
    exact r_iret X M dX6_size_10 (by unfold z_abs; split <;> omega) rfl
  · refine r_iload0 X dX6_size_4 ?_
    refine r_ineg X dX6_size_5 ?_
    refine r_goto (tgt := 10) X dX6_size_6 (by decide) ?_
    exact r_iret X M dX6_size_10 (by unfold z_abs; split <;> omega) rfl

set_option maxRecDepth 100000 in
set_option maxHeartbeats 4000000 in
theorem c_X6_greater (l : Launch) {D : va_G} {κ : Nat → ClassId} {a : Nat → Nat} {A : Nat → Prop} (hA : z_aD a A) (σ : zSt) (x y : Int) (hx : z_in x) (hy : z_in y) : z_Ti l D κ a A yX6_greater cX6_greater 2 (some .int) 0 [.int (zI x), .int (zI y)] σ (max x y) (σ) := by
  refine z_Ti_of (cc := cX6_greater) (maxL := 2) (ret := (some .int)) (own := RX6) (lv0 := [some (.int (zI x)), some (.int (zI y))]) hA (by decide) rfl (Nat.le_of_ble_eq_true rfl) rfl ?_
  intro p e s mm below meth c X M
  refine r_iload0 X dX6_greater_0 ?_
  refine r_iload1 X dX6_greater_1 ?_
  refine r_icmp_le (tgt := 9) X dX6_greater_2 ⟨⟨by omega, by omega⟩, by omega, by omega⟩ (fun h2 => ?_) (fun h2 => ?_)
  · refine r_iload1 X dX6_greater_9 ?_
    exact r_iret X M dX6_greater_10 (by omega) rfl
  · refine r_iload0 X dX6_greater_5 ?_
    refine r_goto (tgt := 10) X dX6_greater_6 (by decide) ?_
    exact r_iret X M dX6_greater_10 (by omega) rfl

set_option maxRecDepth 100000 in
set_option maxHeartbeats 4000000 in
theorem c_X6_x (l : Launch) {D : va_G} {κ : Nat → ClassId} {a : Nat → Nat} {A : Nat → Prop} (hA : z_aD a A) (σ : zSt) (k d : Int) (hk : 0 ≤ k ∧ k < 5) (hd : 0 ≤ d ∧ d < 7) (V : zV) (hM : zModel σ V) : z_Ti l D κ a A yX6_x cX6_x 3 (some .int) 0 [.ref (a 80), .int (zI k), .int (zI d)] σ (vx V k d) (σ) := by
  refine z_Ti_of (cc := cX6_x) (maxL := 3) (ret := (some .int)) (own := RX6) (lv0 := [some (.ref (a 80)), some (.int (zI k)), some (.int (zI d))]) hA (by decide) rfl (Nat.le_of_ble_eq_true rfl) rfl ?_
  intro p e s mm below meth c X M
  refine r_aload0 X dX6_x_0 ?_
  refine r_get X 3 dX6_x_1 z_c80 in_X6 tw_557 (by decide) rfl rfl (by decide) ?_
  refine r_iconst X dX6_x_4 ?_
  refine r_bipush X dX6_x_5 (by decide +kernel) ?_
  refine r_iload1 X dX6_x_7 ?_
  refine r_imul X dX6_x_8 ?_
  refine r_iload2 X dX6_x_9 ?_
  refine r_iadd X dX6_x_10 ?_
  refine r_imul X dX6_x_11 ?_
  refine r_iald X dX6_x_12 z_c84 (by decide) ⟨by omega, by omega⟩ ?_
  refine r_eqi (hM.2.2.2 _ (by omega) (by omega)) ?_
  exact r_iret X M dX6_x_13 rfl rfl

set_option maxRecDepth 100000 in
set_option maxHeartbeats 4000000 in
theorem c_X6_y (l : Launch) {D : va_G} {κ : Nat → ClassId} {a : Nat → Nat} {A : Nat → Prop} (hA : z_aD a A) (σ : zSt) (k d : Int) (hk : 0 ≤ k ∧ k < 5) (hd : 0 ≤ d ∧ d < 7) (V : zV) (hM : zModel σ V) : z_Ti l D κ a A yX6_y cX6_y 3 (some .int) 0 [.ref (a 80), .int (zI k), .int (zI d)] σ (vy V k d) (σ) := by
  refine z_Ti_of (cc := cX6_y) (maxL := 3) (ret := (some .int)) (own := RX6) (lv0 := [some (.ref (a 80)), some (.int (zI k)), some (.int (zI d))]) hA (by decide) rfl (Nat.le_of_ble_eq_true rfl) rfl ?_
  intro p e s mm below meth c X M
  refine r_aload0 X dX6_y_0 ?_
  refine r_get X 3 dX6_y_1 z_c80 in_X6 tw_557 (by decide) rfl rfl (by decide) ?_
  refine r_iconst X dX6_y_4 ?_
  refine r_bipush X dX6_y_5 (by decide +kernel) ?_
  refine r_iload1 X dX6_y_7 ?_
  refine r_imul X dX6_y_8 ?_
  refine r_iload2 X dX6_y_9 ?_
  refine r_iadd X dX6_y_10 ?_
  refine r_imul X dX6_y_11 ?_
  refine r_iconst X dX6_y_12 ?_
  refine r_iadd X dX6_y_13 ?_
  refine r_iald X dX6_y_14 z_c84 (by decide) ⟨by omega, by omega⟩ ?_
  refine r_eqi (hM.2.2.2 _ (by omega) (by omega)) ?_
  exact r_iret X M dX6_y_15 rfl rfl

set_option maxRecDepth 100000 in
set_option maxHeartbeats 4000000 in
theorem c_X6_stepTo (l : Launch) {D : va_G} {κ : Nat → ClassId} {a : Nat → Nat} {A : Nat → Prop} (hA : z_aD a A) (σ : zSt) (p m d f : Int) (hp : 1 ≤ p ∧ p < 5) (hm : 0 ≤ m ∧ m < 6) (hd : 0 ≤ d ∧ d < 7) (hf : 0 ≤ f ∧ f < 7) (hg : σ 88 (6 * (p - 1) + m) = f) (V : zV) (hV : v_ok V) (hM : zModel σ V) : z_Ti l D κ a A yX6_stepTo cX6_stepTo 5 (some .int) 1 [.ref (a 80), .int (zI p), .int (zI m), .int (zI d)] σ (vstep V p f d) (σ) := by
  refine z_Ti_of (cc := cX6_stepTo) (maxL := 5) (ret := (some .int)) (own := RX6) (lv0 := [some (.ref (a 80)), some (.int (zI p)), some (.int (zI m)), some (.int (zI d)), none]) hA (by decide) rfl (Nat.le_of_ble_eq_true rfl) rfl ?_
  intro p_ e s mm below meth c X M
  have b1 := vxy_in hV (k := p) (d := d) (by omega) hd
  have b2 := vxy_in hV (k := p - 1) (d := f) (by omega) hf
  have e1 := z_abs_in (x := vx V p d - vx V (p - 1) f) (b := 40) (by omega)
  have e2 := z_abs_in (x := vy V p d - vy V (p - 1) f) (b := 40) (by omega)
  refine r_aload0 X dX6_stepTo_0 ?_
  refine r_get X 9 dX6_stepTo_1 z_c80 in_X6 tw_563 (by decide) rfl rfl (by decide) ?_
  refine r_bipush X dX6_stepTo_4 (by decide +kernel) ?_
  refine r_iload1 X dX6_stepTo_6 ?_
  refine r_iconst X dX6_stepTo_7 ?_
  refine r_isub X dX6_stepTo_8 ?_
  refine r_imul X dX6_stepTo_9 ?_
  refine r_iload2 X dX6_stepTo_10 ?_
  refine r_iadd X dX6_stepTo_11 ?_
  refine r_iald X dX6_stepTo_12 z_c88 (by decide) ⟨by omega, by omega⟩ ?_
  refine r_eqi hg ?_
  refine r_istore4 X dX6_stepTo_13 ?_
  refine r_aload0 X dX6_stepTo_15 ?_
  refine r_iload1 X dX6_stepTo_16 ?_
  refine r_iload3 X dX6_stepTo_17 ?_
  refine r_callVi (n := 2) X (c_X6_x l X.2.2.1 _ _ _ ⟨by omega, by omega⟩ ⟨by omega, by omega⟩ V hM) dX6_stepTo_18 tw_731 tw_733 tw_29 tw_46 tw_734 z_c80 (by decide) rfl rfl (Nat.le_of_ble_eq_true rfl) ⟨by decide, by decide⟩ (by decide +kernel) rfl ?_
  refine r_aload0 X dX6_stepTo_21 ?_
  refine r_iload1 X dX6_stepTo_22 ?_
  refine r_iconst X dX6_stepTo_23 ?_
  refine r_isub X dX6_stepTo_24 ?_
  refine r_iload4 X dX6_stepTo_25 ?_
  refine r_callVi (n := 2) X (c_X6_x l X.2.2.1 _ _ _ ⟨by omega, by omega⟩ ⟨by omega, by omega⟩ V hM) dX6_stepTo_27 tw_731 tw_733 tw_29 tw_46 tw_734 z_c80 (by decide) rfl rfl (Nat.le_of_ble_eq_true rfl) ⟨by decide, by decide⟩ (by decide +kernel) rfl ?_
  refine r_isub X dX6_stepTo_30 ?_
  refine r_callSi (n := 1) X (c_X6_size l X.2.2.1 _ _ ⟨by omega, by omega⟩) dX6_stepTo_31 tw_735 tw_736 tw_46 tw_737 rfl (Nat.le_of_ble_eq_true rfl) ⟨by decide, by decide⟩ (by decide +kernel) rfl ?_
  refine r_aload0 X dX6_stepTo_34 ?_
  refine r_iload1 X dX6_stepTo_35 ?_
  refine r_iload3 X dX6_stepTo_36 ?_
  refine r_callVi (n := 2) X (c_X6_y l X.2.2.1 _ _ _ ⟨by omega, by omega⟩ ⟨by omega, by omega⟩ V hM) dX6_stepTo_37 tw_738 tw_740 tw_30 tw_46 tw_741 z_c80 (by decide) rfl rfl (Nat.le_of_ble_eq_true rfl) ⟨by decide, by decide⟩ (by decide +kernel) rfl ?_
  refine r_aload0 X dX6_stepTo_40 ?_
  refine r_iload1 X dX6_stepTo_41 ?_
  refine r_iconst X dX6_stepTo_42 ?_
  refine r_isub X dX6_stepTo_43 ?_
  refine r_iload4 X dX6_stepTo_44 ?_
  refine r_callVi (n := 2) X (c_X6_y l X.2.2.1 _ _ _ ⟨by omega, by omega⟩ ⟨by omega, by omega⟩ V hM) dX6_stepTo_46 tw_738 tw_740 tw_30 tw_46 tw_741 z_c80 (by decide) rfl rfl (Nat.le_of_ble_eq_true rfl) ⟨by decide, by decide⟩ (by decide +kernel) rfl ?_
  refine r_isub X dX6_stepTo_49 ?_
  refine r_callSi (n := 1) X (c_X6_size l X.2.2.1 _ _ ⟨by omega, by omega⟩) dX6_stepTo_50 tw_735 tw_736 tw_46 tw_737 rfl (Nat.le_of_ble_eq_true rfl) ⟨by decide, by decide⟩ (by decide +kernel) rfl ?_
  refine r_callSi (n := 2) X (c_X6_greater l X.2.2.1 _ _ _ ⟨by omega, by omega⟩ ⟨by omega, by omega⟩) dX6_stepTo_53 tw_742 tw_743 tw_46 tw_744 rfl (Nat.le_of_ble_eq_true rfl) ⟨by decide, by decide⟩ (by decide +kernel) rfl ?_
  exact r_iret X M dX6_stepTo_56 rfl rfl

set_option maxRecDepth 100000 in
set_option maxHeartbeats 4000000 in
theorem c_X6_nearest (l : Launch) {D : va_G} {κ : Nat → ClassId} {a : Nat → Nat} {A : Nat → Prop} (hA : z_aD a A) (σ : zSt) (k m1 d1 m2 d2 f1 f2 : Int) (hp : 1 ≤ k ∧ k < 5) (hm1 : 0 ≤ m1 ∧ m1 < 6) (hm2 : 0 ≤ m2 ∧ m2 < 6) (hd1 : 0 ≤ d1 ∧ d1 < 7) (hd2 : 0 ≤ d2 ∧ d2 < 7) (hf1 : 0 ≤ f1 ∧ f1 < 7) (hf2 : 0 ≤ f2 ∧ f2 < 7) (hg1 : σ 88 (6 * (k - 1) + m1) = f1) (hg2 : σ 88 (6 * (k - 1) + m2) = f2) (V : zV) (hV : v_ok V) (hM : zModel σ V) (hcn : 1 ≤ vc V k)  : z_Ti l D κ a A yX6_nearest cX6_nearest 16 (some .int) 1 [.ref (a 80), .int (zI k), .int (zI m1), .int (zI d1), .int (zI m2), .int (zI d2)] σ (vnear V k f1 d1 f2 d2) (σ) := by
  refine z_Ti_of (cc := cX6_nearest) (maxL := 16) (ret := (some .int)) (own := RX6) (lv0 := [some (.ref (a 80)), some (.int (zI k)), some (.int (zI m1)), some (.int (zI d1)), some (.int (zI m2)), some (.int (zI d2)), none, none, none, none, none, none, none, none, none, none]) hA (by decide) rfl (Nat.le_of_ble_eq_true rfl) rfl ?_
  intro p e s mm below meth c X M
  have b1 := vxy_in hV (k := k) (d := d1) (by omega) hd1
  have b2 := vxy_in hV (k := k) (d := d2) (by omega) hd2
  have b3 := vxy_in hV (k := k - 1) (d := f1) (by omega) hf1
  have b4 := vxy_in hV (k := k - 1) (d := f2) (by omega) hf2
  have b5 := vn_in hV (k := k) (by omega)
  refine r_iconst X dX6_nearest_0 ?_
  refine r_aload0 X dX6_nearest_1 ?_
  refine r_get X 2 dX6_nearest_2 z_c80 in_X6 tw_556 (by decide) rfl rfl (by decide) ?_
  refine r_iconst X dX6_nearest_5 ?_
  refine r_iload1 X dX6_nearest_6 ?_
  refine r_imul X dX6_nearest_7 ?_
  refine r_iald X dX6_nearest_8 z_c83 (by decide) ⟨by omega, by omega⟩ ?_
  refine r_eqi (hM.2.2.1 _ (by omega) (by omega)) ?_
  refine r_imul X dX6_nearest_9 ?_
  refine r_istore6 X dX6_nearest_10 ?_
  refine r_aload0 X dX6_nearest_12 ?_
  refine r_get X 9 dX6_nearest_13 z_c80 in_X6 tw_563 (by decide) rfl rfl (by decide) ?_
  refine r_bipush X dX6_nearest_16 (by decide +kernel) ?_
  refine r_iload1 X dX6_nearest_18 ?_
  refine r_iconst X dX6_nearest_19 ?_
  refine r_isub X dX6_nearest_20 ?_
  refine r_imul X dX6_nearest_21 ?_
  refine r_iload2 X dX6_nearest_22 ?_
  refine r_iadd X dX6_nearest_23 ?_
  refine r_iald X dX6_nearest_24 z_c88 (by decide) ⟨by omega, by omega⟩ ?_
  refine r_eqi hg1 ?_
  refine r_istore7 X dX6_nearest_25 ?_
  refine r_aload0 X dX6_nearest_27 ?_
  refine r_get X 9 dX6_nearest_28 z_c80 in_X6 tw_563 (by decide) rfl rfl (by decide) ?_
  refine r_bipush X dX6_nearest_31 (by decide +kernel) ?_
  refine r_iload1 X dX6_nearest_33 ?_
  refine r_iconst X dX6_nearest_34 ?_
  refine r_isub X dX6_nearest_35 ?_
  refine r_imul X dX6_nearest_36 ?_
  refine r_iload4 X dX6_nearest_37 ?_
  refine r_iadd X dX6_nearest_39 ?_
  refine r_iald X dX6_nearest_40 z_c88 (by decide) ⟨by omega, by omega⟩ ?_
  refine r_eqi hg2 ?_
  refine r_istore8 X dX6_nearest_41 ?_
  refine r_aload0 X dX6_nearest_43 ?_
  refine r_iload1 X dX6_nearest_44 ?_
  refine r_iconst X dX6_nearest_45 ?_
  refine r_isub X dX6_nearest_46 ?_
  refine r_iload7 X dX6_nearest_47 ?_
  refine r_callVi (n := 2) X (c_X6_x l X.2.2.1 _ _ _ ⟨by omega, by omega⟩ ⟨by omega, by omega⟩ V hM) dX6_nearest_49 tw_731 tw_733 tw_29 tw_46 tw_734 z_c80 (by decide) rfl rfl (Nat.le_of_ble_eq_true rfl) ⟨by decide, by decide⟩ (by decide +kernel) rfl ?_
  refine r_aload0 X dX6_nearest_52 ?_
  refine r_iload1 X dX6_nearest_53 ?_
  refine r_iconst X dX6_nearest_54 ?_
  refine r_isub X dX6_nearest_55 ?_
  refine r_iload8 X dX6_nearest_56 ?_
  refine r_callVi (n := 2) X (c_X6_x l X.2.2.1 _ _ _ ⟨by omega, by omega⟩ ⟨by omega, by omega⟩ V hM) dX6_nearest_58 tw_731 tw_733 tw_29 tw_46 tw_734 z_c80 (by decide) rfl rfl (Nat.le_of_ble_eq_true rfl) ⟨by decide, by decide⟩ (by decide +kernel) rfl ?_
  refine r_isub X dX6_nearest_61 ?_
  refine r_istore9 X dX6_nearest_62 ?_
  refine r_aload0 X dX6_nearest_64 ?_
  refine r_iload1 X dX6_nearest_65 ?_
  refine r_iconst X dX6_nearest_66 ?_
  refine r_isub X dX6_nearest_67 ?_
  refine r_iload7 X dX6_nearest_68 ?_
  refine r_callVi (n := 2) X (c_X6_y l X.2.2.1 _ _ _ ⟨by omega, by omega⟩ ⟨by omega, by omega⟩ V hM) dX6_nearest_70 tw_738 tw_740 tw_30 tw_46 tw_741 z_c80 (by decide) rfl rfl (Nat.le_of_ble_eq_true rfl) ⟨by decide, by decide⟩ (by decide +kernel) rfl ?_
  refine r_aload0 X dX6_nearest_73 ?_
  refine r_iload1 X dX6_nearest_74 ?_
  refine r_iconst X dX6_nearest_75 ?_
  refine r_isub X dX6_nearest_76 ?_
  refine r_iload8 X dX6_nearest_77 ?_
  refine r_callVi (n := 2) X (c_X6_y l X.2.2.1 _ _ _ ⟨by omega, by omega⟩ ⟨by omega, by omega⟩ V hM) dX6_nearest_79 tw_738 tw_740 tw_30 tw_46 tw_741 z_c80 (by decide) rfl rfl (Nat.le_of_ble_eq_true rfl) ⟨by decide, by decide⟩ (by decide +kernel) rfl ?_
  refine r_isub X dX6_nearest_82 ?_
  refine r_istore10 X dX6_nearest_83 ?_
  refine r_aload0 X dX6_nearest_85 ?_
  refine r_iload1 X dX6_nearest_86 ?_
  refine r_iload3 X dX6_nearest_87 ?_
  refine r_callVi (n := 2) X (c_X6_x l X.2.2.1 _ _ _ ⟨by omega, by omega⟩ ⟨by omega, by omega⟩ V hM) dX6_nearest_88 tw_731 tw_733 tw_29 tw_46 tw_734 z_c80 (by decide) rfl rfl (Nat.le_of_ble_eq_true rfl) ⟨by decide, by decide⟩ (by decide +kernel) rfl ?_
  refine r_aload0 X dX6_nearest_91 ?_
  refine r_iload1 X dX6_nearest_92 ?_
  refine r_iload5 X dX6_nearest_93 ?_
  refine r_callVi (n := 2) X (c_X6_x l X.2.2.1 _ _ _ ⟨by omega, by omega⟩ ⟨by omega, by omega⟩ V hM) dX6_nearest_95 tw_731 tw_733 tw_29 tw_46 tw_734 z_c80 (by decide) rfl rfl (Nat.le_of_ble_eq_true rfl) ⟨by decide, by decide⟩ (by decide +kernel) rfl ?_
  refine r_isub X dX6_nearest_98 ?_
  refine r_istore11 X dX6_nearest_99 ?_
  refine r_aload0 X dX6_nearest_101 ?_
  refine r_iload1 X dX6_nearest_102 ?_
  refine r_iload3 X dX6_nearest_103 ?_
  refine r_callVi (n := 2) X (c_X6_y l X.2.2.1 _ _ _ ⟨by omega, by omega⟩ ⟨by omega, by omega⟩ V hM) dX6_nearest_104 tw_738 tw_740 tw_30 tw_46 tw_741 z_c80 (by decide) rfl rfl (Nat.le_of_ble_eq_true rfl) ⟨by decide, by decide⟩ (by decide +kernel) rfl ?_
  refine r_aload0 X dX6_nearest_107 ?_
  refine r_iload1 X dX6_nearest_108 ?_
  refine r_iload5 X dX6_nearest_109 ?_
  refine r_callVi (n := 2) X (c_X6_y l X.2.2.1 _ _ _ ⟨by omega, by omega⟩ ⟨by omega, by omega⟩ V hM) dX6_nearest_111 tw_738 tw_740 tw_30 tw_46 tw_741 z_c80 (by decide) rfl rfl (Nat.le_of_ble_eq_true rfl) ⟨by decide, by decide⟩ (by decide +kernel) rfl ?_
  refine r_isub X dX6_nearest_114 ?_
  refine r_istore12 X dX6_nearest_115 ?_
  refine r_ldc X dX6_nearest_117 1000000 (by decide +kernel) tw_753 ?_
  refine r_istore13 X dX6_nearest_119 ?_
  refine r_iconst X dX6_nearest_121 ?_
  refine r_istore14 X dX6_nearest_122 ?_
  have LP : ∀ (fu : Nat) (t L0 : Int) (o15 : Option Value), ((2 * vc V k) - t) < (fu : Int) → 1 ≤ t → t ≤ (2 * vc V k) → L0 = nr (2 * vc V k) (vx V (k - 1) f1 - vx V (k - 1) f2) (vy V (k - 1) f1 - vy V (k - 1) f2) (vx V k d1 - vx V k d2) (vy V k d1 - vy V k d2) 1000000 (t - 1).toNat → 0 ≤ L0 ∧ L0 ≤ 1000000 → z_G p l e (z_rm 1) s mm ([.ref (a 80), .int (zI k), .int (zI m1), .int (zI d1), .int (zI m2), .int (zI d2)] : List Value).toArray below meth c 16 D κ a A 0 0 (MQ below (z_Qi D κ a A (vnear V k f1 d1 f2 d2) (σ)) ([.ref (a 80), .int (zI k), .int (zI m1), .int (zI d1), .int (zI m2), .int (zI d2)] : List Value).toArray s 0 0 A) σ [some (.ref (a 80)), some (.int (zI k)), some (.int (zI m1)), some (.int (zI d1)), some (.int (zI m2)), some (.int (zI d2)), some (.int (zI (2 * vc V k))), some (.int (zI f1)), some (.int (zI f2)), some (.int (zI (vx V (k - 1) f1 - vx V (k - 1) f2))), some (.int (zI (vy V (k - 1) f1 - vy V (k - 1) f2))), some (.int (zI (vx V k d1 - vx V k d2))), some (.int (zI (vy V k d1 - vy V k d2))), some (.int (zI L0)), some (.int (zI t)), o15] 124 [] := by
    intro fu
    induction fu with
    | zero =>
      intro t L0 o15 hn h0 h1 hL hLr
      omega
    | succ fu ihLP =>
      intro t L0 o15 hn h0 h1 hL hLr
      refine r_iload14 X dX6_nearest_124 ?_
      refine r_iload6 X dX6_nearest_126 ?_
      refine r_icmp_ge (tgt := 192) X dX6_nearest_128 ⟨⟨by omega, by omega⟩, by omega, by omega⟩ (fun h128 => ?_) (fun h128 => ?_)
      · refine r_iload13 X dX6_nearest_192 ?_
        exact r_iret X M dX6_nearest_194 (by rw [hL]; unfold vnear; congr 1; omega) rfl
      · have nb := nval_in (h := (2 * vc V k)) (fx := (vx V (k - 1) f1 - vx V (k - 1) f2)) (fy := (vy V (k - 1) f1 - vy V (k - 1) f2)) (tx := (vx V k d1 - vx V k d2)) (ty := (vy V k d1 - vy V k d2)) (t := t) (by omega) (by omega) (by omega) (by omega) (by omega) (by omega)
        have e1 := z_abs_in (x := (2 * vc V k) * (vx V (k - 1) f1 - vx V (k - 1) f2) + t * ((vx V k d1 - vx V k d2) - (vx V (k - 1) f1 - vx V (k - 1) f2))) (b := 4000) (by omega)
        have e2 := z_abs_in (x := (2 * vc V k) * (vy V (k - 1) f1 - vy V (k - 1) f2) + t * ((vy V k d1 - vy V k d2) - (vy V (k - 1) f1 - vy V (k - 1) f2))) (b := 4000) (by omega)
        refine r_iload6 X dX6_nearest_131 ?_
        refine r_iload9 X dX6_nearest_133 ?_
        refine r_imul X dX6_nearest_135 ?_
        refine r_iload14 X dX6_nearest_136 ?_
        refine r_iload11 X dX6_nearest_138 ?_
        refine r_iload9 X dX6_nearest_140 ?_
        refine r_isub X dX6_nearest_142 ?_
        refine r_imul X dX6_nearest_143 ?_
        refine r_iadd X dX6_nearest_144 ?_
        refine r_callSi (n := 1) X (c_X6_size l X.2.2.1 _ _ ⟨by omega, by omega⟩) dX6_nearest_145 tw_735 tw_736 tw_46 tw_737 rfl (Nat.le_of_ble_eq_true rfl) ⟨by decide, by decide⟩ (by decide +kernel) rfl ?_
        refine r_iload6 X dX6_nearest_148 ?_
        refine r_iload10 X dX6_nearest_150 ?_
        refine r_imul X dX6_nearest_152 ?_
        refine r_iload14 X dX6_nearest_153 ?_
        refine r_iload12 X dX6_nearest_155 ?_
        refine r_iload10 X dX6_nearest_157 ?_
        refine r_isub X dX6_nearest_159 ?_
        refine r_imul X dX6_nearest_160 ?_
        refine r_iadd X dX6_nearest_161 ?_
        refine r_callSi (n := 1) X (c_X6_size l X.2.2.1 _ _ ⟨by omega, by omega⟩) dX6_nearest_162 tw_735 tw_736 tw_46 tw_737 rfl (Nat.le_of_ble_eq_true rfl) ⟨by decide, by decide⟩ (by decide +kernel) rfl ?_
        refine r_callSi (n := 2) X (c_X6_greater l X.2.2.1 _ _ _ ⟨by omega, by omega⟩ ⟨by omega, by omega⟩) dX6_nearest_165 tw_742 tw_743 tw_46 tw_744 rfl (Nat.le_of_ble_eq_true rfl) ⟨by decide, by decide⟩ (by decide +kernel) rfl ?_
        refine r_eqi (y := nval (2 * vc V k) (vx V (k - 1) f1 - vx V (k - 1) f2) (vy V (k - 1) f1 - vy V (k - 1) f2) (vx V k d1 - vx V k d2) (vy V k d1 - vy V k d2) t) rfl ?_
        refine r_istore15 X dX6_nearest_168 ?_
        refine r_iload15 X dX6_nearest_170 ?_
        refine r_iload13 X dX6_nearest_172 ?_
        refine r_icmp_ge (tgt := 182) X dX6_nearest_174 ⟨⟨by omega, by omega⟩, by omega, by omega⟩ (fun h174 => ?_) (fun h174 => ?_)
        · refine r_iload13 X dX6_nearest_182 ?_
          refine r_istore13 X dX6_nearest_184 ?_
          refine r_iinc14 X dX6_nearest_186 ?_
          refine r_goto (tgt := 124) X dX6_nearest_189 (by decide) ?_
          exact ihLP (t + 1) _ _ (by omega) (by omega) (by omega) (by rw [show (t + 1 - 1).toNat = (t - 1).toNat + 1 by omega]; unfold nr; rw [← hL, show (((t - 1).toNat : Nat) : Int) + 1 = t by omega]; omega) (by omega)
        · refine r_iload15 X dX6_nearest_177 ?_
          refine r_goto (tgt := 184) X dX6_nearest_179 (by decide) ?_
          refine r_istore13 X dX6_nearest_184 ?_
          refine r_iinc14 X dX6_nearest_186 ?_
          refine r_goto (tgt := 124) X dX6_nearest_189 (by decide) ?_
          exact ihLP (t + 1) _ _ (by omega) (by omega) (by omega) (by rw [show (t + 1 - 1).toNat = (t - 1).toNat + 1 by omega]; unfold nr; rw [← hL, show (((t - 1).toNat : Nat) : Int) + 1 = t by omega]; omega) (by omega)
  exact LP 40 1 1000000 none (by omega) (by omega) (by omega) rfl (by omega)
end
section
theorem vw_before {V : zV} {t : Nat} {m : Int} (ht : t < vN V) (h0 : 0 ≤ m) (h1 : m < vw V t) (h2 : V (6 + (2 * m + 1)) = 0) : ∃ i, i < t ∧ vw V i = m := by
  obtain ⟨i, hi, e⟩ := vw_ex h0 (by have := (vw_in ht).1; omega) h2
  refine ⟨i, ?_, e⟩
  rcases Nat.lt_trichotomy i t with h | h | h
  · exact h
  · subst h; omega
  · have := vw_lt h hi; omega
/-- what the model's search stands on -/
def mE (σ : zSt) (V : zV) (p : Int) (gt : Nat → Int) : Prop := v_ok V ∧ zModel σ V ∧ (0 ≤ p ∧ p < 5) ∧ (p ≠ 0 → ∀ t, t < vN V → σ 88 (6 * (p - 1) + vw V t) = gt t ∧ 0 ≤ gt t ∧ gt t < 7) ∧ 1 ≤ vc V p
theorem mE.ill {σ : zSt} {V : zV} {p : Int} {gt : Nat → Int} (h : mE σ V p gt) {m : Int} (h0 : 0 ≤ m) (h1 : m < 6) : σ 82 (2 * m + 1) = V (6 + (2 * m + 1)) ∧ 0 ≤ V (6 + (2 * m + 1)) ∧ V (6 + (2 * m + 1)) ≤ 1 := by
  have q1 := h.1.2.1 m h0 h1
  rw [show 7 + 2 * m = 6 + (2 * m + 1) by omega] at q1
  exact ⟨h.2.1.2.1 (2 * m + 1) (by omega) (by omega), q1.2⟩

theorem nr_in {h fx fy tx ty s0 : Int} (hh : 0 ≤ h ∧ h ≤ 32) (h1 : -40 ≤ fx ∧ fx ≤ 40) (h2 : -40 ≤ fy ∧ fy ≤ 40) (h3 : -40 ≤ tx ∧ tx ≤ 40) (h4 : -40 ≤ ty ∧ ty ≤ 40) (hs : 0 ≤ s0) : ∀ t : Nat, t ≤ 31 → 0 ≤ nr h fx fy tx ty s0 t ∧ nr h fx fy tx ty s0 t ≤ s0 ∧ (t ≠ 0 → nr h fx fy tx ty s0 t ≤ 4000)
  | 0, _ => ⟨hs, Int.le_refl _, fun q => absurd rfl q⟩
  | t + 1, ht => by
    have ih := nr_in (s0 := s0) hh h1 h2 h3 h4 hs t (by omega)
    have nb := (nval_in (h := h) (t := (t : Int) + 1) hh (by omega) h1 h2 h3 h4).2
    unfold nr
    omega
theorem vnear_in {V : zV} (hV : v_ok V) {p f1 d1 f2 d2 : Int} (hp : 1 ≤ p ∧ p < 5) (hf1 : 0 ≤ f1 ∧ f1 < 7) (hd1 : 0 ≤ d1 ∧ d1 < 7) (hf2 : 0 ≤ f2 ∧ f2 < 7) (hd2 : 0 ≤ d2 ∧ d2 < 7) (hc : 1 ≤ vc V p) : 0 ≤ vnear V p f1 d1 f2 d2 ∧ vnear V p f1 d1 f2 d2 ≤ 4000 := by
  have b1 := vxy_in hV (k := p) (d := d1) (by omega) hd1
  have b2 := vxy_in hV (k := p) (d := d2) (by omega) hd2
  have b3 := vxy_in hV (k := p - 1) (d := f1) (by omega) hf1
  have b4 := vxy_in hV (k := p - 1) (d := f2) (by omega) hf2
  have b5 := vn_in hV (k := p) (by omega)
  unfold vnear
  have := nr_in (h := 2 * vc V p) (fx := vx V (p - 1) f1 - vx V (p - 1) f2) (fy := vy V (p - 1) f1 - vy V (p - 1) f2) (tx := vx V p d1 - vx V p d2) (ty := vy V p d1 - vy V p d2) (s0 := 1000000) (by omega) (by omega) (by omega) (by omega) (by omega) (by omega) (2 * vc V p - 1).toNat (by omega)
  exact ⟨this.1, this.2.2 (by omega)⟩

set_option maxRecDepth 100000 in
set_option maxHeartbeats 4000000 in
theorem c_X6_mayGo (l : Launch) {D : va_G} {κ : Nat → ClassId} {a : Nat → Nat} {A : Nat → Prop} (hA : z_aD a A) (σ : zSt) (p : Int) (t : Nat) (tk gt : Nat → Int) (d : Nat) (V : zV) (hE : mE σ V p gt) (ht : t < vN V) (htk : ∀ i, i < t → σ 92 (vw V i) = tk i ∧ 0 ≤ tk i ∧ tk i < 7) (hdd : σ 92 (vw V t) = (d : Int)) (hd7 : d < 7) : z_Tp l D κ a A yX6_mayGo cX6_mayGo 6 (some .boolean) 2 [.ref (a 80), .int (zI p), .int (zI (vw V t))] σ (fun z σ' => σ' = σ ∧ (z = 0 ∨ z = 1) ∧ (z = 1 ↔ vok V p gt t tk d)) := by
  refine z_Tp_of (cc := cX6_mayGo) (maxL := 6) (ret := (some .boolean)) (own := RX6) (lv0 := [some (.ref (a 80)), some (.int (zI p)), some (.int (zI (vw V t))), none, none, none]) hA (by decide) rfl (Nat.le_of_ble_eq_true rfl) rfl ?_
  intro pg e s mm below meth c X M
  have hwt := (vw_in ht).1
  have hv0 := hE.1.1.1
  have hp5 := hE.2.2.1
  refine r_aload0 X dX6_mayGo_0 ?_
  refine r_get X 13 dX6_mayGo_1 z_c80 in_X6 tw_567 (by decide) rfl rfl (by decide) ?_
  refine r_iload2 X dX6_mayGo_4 ?_
  refine r_iald X dX6_mayGo_5 z_c92 (by decide) ⟨by omega, by omega⟩ ?_
  refine r_eqi hdd ?_
  refine r_istore3 X dX6_mayGo_6 ?_
  refine r_iconst X dX6_mayGo_7 ?_
  refine r_istore4 X dX6_mayGo_8 ?_
  have L : ∀ (fu : Nat) (m : Int), (vw V t - m) < (fu : Int) → 0 ≤ m → m ≤ vw V t → (∀ i, i < t → vw V i < m → tk i ≠ (d : Int)) → z_G pg l e (z_rm 2) s mm ([.ref (a 80), .int (zI p), .int (zI (vw V t))] : List Value).toArray below meth c 6 D κ a A 0 0 (MQ below (z_Qp D κ a A (fun z σ' => σ' = σ ∧ (z = 0 ∨ z = 1) ∧ (z = 1 ↔ vok V p gt t tk d))) ([.ref (a 80), .int (zI p), .int (zI (vw V t))] : List Value).toArray s 0 0 A) σ [some (.ref (a 80)), some (.int (zI p)), some (.int (zI (vw V t))), some (.int (zI (d : Int))), some (.int (zI m)), none] 10 [] := by
    intro fu
    induction fu with
    | zero =>
      intro m hn h0 h1 hf
      omega
    | succ fu ihL =>
      intro m hn h0 h1 hf
      refine r_iload4 X dX6_mayGo_10 ?_
      refine r_iload2 X dX6_mayGo_12 ?_
      refine r_icmp_ge (tgt := 44) X dX6_mayGo_13 ⟨⟨by omega, by omega⟩, by omega, by omega⟩ (fun h13 => ?_) (fun h13 => ?_)
      · have hall : ∀ i, i < t → tk i ≠ (d : Int) := fun i hi => hf i hi (by have := vw_lt hi ht; omega)
        refine r_iload1 X dX6_mayGo_44 ?_
        refine r_if_ne (tgt := 50) X dX6_mayGo_45 ⟨by omega, by omega⟩ (fun h45 => ?_) (fun h45 => ?_)
        · have hgtt := hE.2.2.2.1 h45 t ht
          have hsr := vstep_in hE.1 (p := p) (f := gt t) (d := (d : Int)) (by omega) hgtt.2 (by omega)
          have hbm := hE.1.2.1 (vw V t) (by omega) (by omega)
          have hcc := vn_in hE.1 (k := p) (by omega)
          have hml := z_mul_b (a := V (6 + 2 * vw V t)) (b := vc V p) (A := 4) (B := 16) (by omega) (by omega) (by omega) (by omega)
          refine r_aload0 X dX6_mayGo_50 ?_
          refine r_iload1 X dX6_mayGo_51 ?_
          refine r_iload2 X dX6_mayGo_52 ?_
          refine r_iload3 X dX6_mayGo_53 ?_
          refine r_callVi (n := 3) X (c_X6_stepTo l X.2.2.1 _ p _ _ (gt t) ⟨by omega, by omega⟩ ⟨by omega, by omega⟩ ⟨by omega, by omega⟩ hgtt.2 hgtt.1 V hE.1 hE.2.1) dX6_mayGo_54 tw_727 tw_729 tw_28 tw_46 tw_730 z_c80 (by decide) rfl rfl (Nat.le_of_ble_eq_true rfl) ⟨by decide, by decide⟩ (by decide +kernel) rfl ?_
          refine r_aload0 X dX6_mayGo_57 ?_
          refine r_get X 1 dX6_mayGo_58 z_c80 in_X6 tw_555 (by decide) rfl rfl (by decide) ?_
          refine r_iconst X dX6_mayGo_61 ?_
          refine r_iload2 X dX6_mayGo_62 ?_
          refine r_imul X dX6_mayGo_63 ?_
          refine r_iald X dX6_mayGo_64 z_c82 (by decide) ⟨by omega, by omega⟩ ?_
          refine r_eqi (hE.2.1.2.1 _ (by omega) (by omega)) ?_
          refine r_aload0 X dX6_mayGo_65 ?_
          refine r_get X 2 dX6_mayGo_66 z_c80 in_X6 tw_556 (by decide) rfl rfl (by decide) ?_
          refine r_iconst X dX6_mayGo_69 ?_
          refine r_iload1 X dX6_mayGo_70 ?_
          refine r_imul X dX6_mayGo_71 ?_
          refine r_iald X dX6_mayGo_72 z_c83 (by decide) ⟨by omega, by omega⟩ ?_
          refine r_eqi (y := vc V p) (hE.2.1.2.2.1 _ (by omega) (by omega)) ?_
          refine r_imul X dX6_mayGo_73 ?_
          refine r_icmp_le (tgt := 79) X dX6_mayGo_74 ⟨⟨by omega, by omega⟩, by omega, by omega⟩ (fun h74 => ?_) (fun h74 => ?_)
          · have hap := hE.1.1.2.2.1
            have hm2 := z_mul_b (a := 2 * vc V p) (b := V 2) (A := 32) (B := 3) (by omega) (by omega) (by omega) (by omega)
            refine r_iconst X dX6_mayGo_79 ?_
            refine r_aload0 X dX6_mayGo_80 ?_
            refine r_get X 2 dX6_mayGo_81 z_c80 in_X6 tw_556 (by decide) rfl rfl (by decide) ?_
            refine r_iconst X dX6_mayGo_84 ?_
            refine r_iload1 X dX6_mayGo_85 ?_
            refine r_imul X dX6_mayGo_86 ?_
            refine r_iald X dX6_mayGo_87 z_c83 (by decide) ⟨by omega, by omega⟩ ?_
            refine r_eqi (y := vc V p) (hE.2.1.2.2.1 _ (by omega) (by omega)) ?_
            refine r_imul X dX6_mayGo_88 ?_
            refine r_aload0 X dX6_mayGo_89 ?_
            refine r_get X 0 dX6_mayGo_90 z_c80 in_X6 tw_554 (by decide) rfl rfl (by decide) ?_
            refine r_iconst X dX6_mayGo_93 ?_
            refine r_iald X dX6_mayGo_94 z_c81 (by decide) ⟨by omega, by omega⟩ ?_
            refine r_eqi (hE.2.1.1 _ (by omega) (by omega)) ?_
            refine r_imul X dX6_mayGo_95 ?_
            refine r_istore4 X dX6_mayGo_96 ?_
            refine r_iconst X dX6_mayGo_98 ?_
            refine r_istore5 X dX6_mayGo_99 ?_
            have L2 : ∀ (fu : Nat) (m : Int), (vw V t - m) < (fu : Int) → 0 ≤ m → m ≤ vw V t → (∀ i, i < t → vw V i < m → ¬ vnear V p (gt i) (tk i) (gt t) (d : Int) < 2 * vc V p * V 2) → z_G pg l e (z_rm 2) s mm ([.ref (a 80), .int (zI p), .int (zI (vw V t))] : List Value).toArray below meth c 6 D κ a A 0 0 (MQ below (z_Qp D κ a A (fun z σ' => σ' = σ ∧ (z = 0 ∨ z = 1) ∧ (z = 1 ↔ vok V p gt t tk d))) ([.ref (a 80), .int (zI p), .int (zI (vw V t))] : List Value).toArray s 0 0 A) σ [some (.ref (a 80)), some (.int (zI p)), some (.int (zI (vw V t))), some (.int (zI (d : Int))), some (.int (zI (2 * vc V p * V 2))), some (.int (zI m))] 101 [] := by
              intro fu
              induction fu with
              | zero =>
                intro m hn h0 h1 hf2
                omega
              | succ fu ihL2 =>
                intro m hn h0 h1 hf2
                refine r_iload5 X dX6_mayGo_101 ?_
                refine r_iload2 X dX6_mayGo_103 ?_
                refine r_icmp_ge (tgt := 145) X dX6_mayGo_104 ⟨⟨by omega, by omega⟩, by omega, by omega⟩ (fun h104 => ?_) (fun h104 => ?_)
                · refine r_iconst X dX6_mayGo_145 ?_
                  exact r_zretp X M dX6_mayGo_146 (by omega) ⟨rfl, by omega, ⟨fun _ => ⟨hall, Or.inr ⟨h74, fun i hi => hf2 i hi (by have := vw_lt hi ht; omega)⟩⟩, fun _ => rfl⟩⟩
                · have hil := hE.ill (m := m) (by omega) (by omega)
                  refine r_aload0 X dX6_mayGo_107 ?_
                  refine r_iload5 X dX6_mayGo_108 ?_
                  refine r_callVi (n := 1) X (c_X6_isIll l X.2.2.1 _ _ ⟨by omega, by omega⟩ ⟨by omega, by omega⟩) dX6_mayGo_110 tw_707 tw_709 tw_23 tw_46 tw_710 z_c80 (by decide) rfl rfl (Nat.le_of_ble_eq_true rfl) ⟨by decide, by decide⟩ (by decide +kernel) rfl ?_
                  refine r_if_neB (tgt := 139) X dX6_mayGo_113 (fun h113 => ?_) (fun h113 => ?_)
                  · refine r_iinc5 X dX6_mayGo_139 ?_
                    refine r_goto (tgt := 101) X dX6_mayGo_142 (by decide) ?_
                    exact ihL2 (m + 1) (by omega) (by omega) (by omega) (fun i2 hi2 h2 => by
                      by_cases e2 : vw V i2 = m
                      · have q := (vw_in (V := V) (show i2 < vN V by omega)).2
                        rw [e2] at q
                        first
                        | (exfalso; omega)
                        | (have e3 : i2 = i := vw_inj (V := V) (by omega) (by omega) (by omega)
                           subst e3
                           rw [← hti]
                           omega)
                      · exact hf2 i2 hi2 (by omega))
                  · obtain ⟨i, hi, hiw⟩ := vw_before ht h0 h104 (by omega)
                    have htki := htk i hi
                    have hgti := hE.2.2.2.1 h45 i (by omega)
                    have hti : σ 92 m = tk i := by rw [← hiw]; exact htki.1
                    have hnr := vnear_in hE.1 (p := p) (f1 := gt i) (d1 := σ 92 m) (f2 := gt t) (d2 := (d : Int)) (by omega) hgti.2 (by omega) hgtt.2 (by omega) hE.2.2.2.2
                    refine r_aload0 X dX6_mayGo_116 ?_
                    refine r_iload1 X dX6_mayGo_117 ?_
                    refine r_iload5 X dX6_mayGo_118 ?_
                    refine r_aload0 X dX6_mayGo_120 ?_
                    refine r_get X 13 dX6_mayGo_121 z_c80 in_X6 tw_567 (by decide) rfl rfl (by decide) ?_
                    refine r_iload5 X dX6_mayGo_124 ?_
                    refine r_iald X dX6_mayGo_126 z_c92 (by decide) ⟨by omega, by omega⟩ ?_
                    refine r_iload2 X dX6_mayGo_127 ?_
                    refine r_iload3 X dX6_mayGo_128 ?_
                    refine r_callVi (n := 5) X (c_X6_nearest l X.2.2.1 _ p _ _ _ _ (gt i) (gt t) ⟨by omega, by omega⟩ ⟨by omega, by omega⟩ ⟨by omega, by omega⟩ ⟨by omega, by omega⟩ ⟨by omega, by omega⟩ hgti.2 hgtt.2 (by rw [← hiw]; exact hgti.1) hgtt.1 V hE.1 hE.2.1 hE.2.2.2.2) dX6_mayGo_129 tw_749 tw_751 tw_32 tw_46 tw_752 z_c80 (by decide) rfl rfl (Nat.le_of_ble_eq_true rfl) ⟨by decide, by decide⟩ (by decide +kernel) rfl ?_
                    refine r_iload4 X dX6_mayGo_132 ?_
                    refine r_icmp_ge (tgt := 139) X dX6_mayGo_134 ⟨⟨by omega, by omega⟩, by omega, by omega⟩ (fun h134 => ?_) (fun h134 => ?_)
                    · refine r_iinc5 X dX6_mayGo_139 ?_
                      refine r_goto (tgt := 101) X dX6_mayGo_142 (by decide) ?_
                      exact ihL2 (m + 1) (by omega) (by omega) (by omega) (fun i2 hi2 h2 => by
                        by_cases e2 : vw V i2 = m
                        · have q := (vw_in (V := V) (show i2 < vN V by omega)).2
                          rw [e2] at q
                          first
                          | (exfalso; omega)
                          | (have e3 : i2 = i := vw_inj (V := V) (by omega) (by omega) (by omega)
                             subst e3
                             rw [← hti]
                             omega)
                        · exact hf2 i2 hi2 (by omega))
                    · refine r_iconst X dX6_mayGo_137 ?_
                      exact r_zretp X M dX6_mayGo_138 (by omega) ⟨rfl, by omega, ⟨fun h => by omega, fun h => by rcases h.2 with q | q; exact absurd q h45; exact absurd (show vnear V p (gt i) (tk i) (gt t) (d : Int) < 2 * vc V p * V 2 by rw [← hti]; exact h134) (q.2 i hi)⟩⟩
            exact L2 8 0 (by omega) (by omega) (by omega) (fun i hi h => by have := (vw_in (V := V) (show i < vN V by omega)).1; omega)
          · refine r_iconst X dX6_mayGo_77 ?_
            exact r_zretp X M dX6_mayGo_78 (by omega) ⟨rfl, by omega, ⟨fun h => by omega, fun h => by rcases h.2 with q | q; exact absurd q h45; have q1 := q.1; omega⟩⟩
        · refine r_iconst X dX6_mayGo_48 ?_
          exact r_zretp X M dX6_mayGo_49 (by omega) ⟨rfl, by omega, ⟨fun _ => ⟨hall, Or.inl h45⟩, fun _ => rfl⟩⟩
      · have hil := hE.ill (m := m) (by omega) (by omega)
        refine r_aload0 X dX6_mayGo_16 ?_
        refine r_iload4 X dX6_mayGo_17 ?_
        refine r_callVi (n := 1) X (c_X6_isIll l X.2.2.1 _ _ ⟨by omega, by omega⟩ ⟨by omega, by omega⟩) dX6_mayGo_19 tw_707 tw_709 tw_23 tw_46 tw_710 z_c80 (by decide) rfl rfl (Nat.le_of_ble_eq_true rfl) ⟨by decide, by decide⟩ (by decide +kernel) rfl ?_
        refine r_if_neB (tgt := 38) X dX6_mayGo_22 (fun h22 => ?_) (fun h22 => ?_)
        · refine r_iinc4 X dX6_mayGo_38 ?_
          refine r_goto (tgt := 10) X dX6_mayGo_41 (by decide) ?_
          exact ihL (m + 1) (by omega) (by omega) (by omega) (fun i2 hi2 h2 => by
            by_cases e2 : vw V i2 = m
            · have q := (vw_in (V := V) (show i2 < vN V by omega)).2
              rw [e2] at q
              first
              | (exfalso; omega)
              | (have e3 : i2 = i := vw_inj (V := V) (by omega) (by omega) (by omega)
                 subst e3
                 exact h33)
            · exact hf i2 hi2 (by omega))
        · obtain ⟨i, hi, hiw⟩ := vw_before ht h0 h13 (by omega)
          have htki := htk i hi
          refine r_aload0 X dX6_mayGo_25 ?_
          refine r_get X 13 dX6_mayGo_26 z_c80 in_X6 tw_567 (by decide) rfl rfl (by decide) ?_
          refine r_iload4 X dX6_mayGo_29 ?_
          refine r_iald X dX6_mayGo_31 z_c92 (by decide) ⟨by omega, by omega⟩ ?_
          refine r_eqi (y := tk i) (by rw [← hiw]; exact (htk i hi).1) ?_
          refine r_iload3 X dX6_mayGo_32 ?_
          refine r_icmp_ne (tgt := 38) X dX6_mayGo_33 ⟨⟨by omega, by omega⟩, by omega, by omega⟩ (fun h33 => ?_) (fun h33 => ?_)
          · refine r_iinc4 X dX6_mayGo_38 ?_
            refine r_goto (tgt := 10) X dX6_mayGo_41 (by decide) ?_
            exact ihL (m + 1) (by omega) (by omega) (by omega) (fun i2 hi2 h2 => by
              by_cases e2 : vw V i2 = m
              · have q := (vw_in (V := V) (show i2 < vN V by omega)).2
                rw [e2] at q
                first
                | (exfalso; omega)
                | (have e3 : i2 = i := vw_inj (V := V) (by omega) (by omega) (by omega)
                   subst e3
                   exact h33)
              · exact hf i2 hi2 (by omega))
          · refine r_iconst X dX6_mayGo_36 ?_
            exact r_zretp X M dX6_mayGo_37 (by omega) ⟨rfl, by omega, ⟨fun h => by omega, fun h => absurd (show tk i = (d : Int) by omega) (h.1 i hi)⟩⟩
  exact L 8 0 (by omega) (by omega) (by omega) (fun i hi h => by have := (vw_in (V := V) (show i < vN V by omega)).1; omega)
end
