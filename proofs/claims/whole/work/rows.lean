section
-- ===== PART A: goes FIRST, ahead of the names: the tables' words, and 'selects' of the private methods out of them =====
/-- a private method of a class that the tables say can be made, by its rows of tables_1 -/
def lw_okq (q : MethodName × Nat) : Prop := (q.1.cls ≠ "java/lang/invoke/MethodHandle" ∧ q.1.cls ≠ "java/lang/invoke/VarHandle") ∧ Cond.instantiable q.1.cls q.2 ∈ tables_1 ∧ Cond.privateMethod q.1 ∈ tables_1 ∧ Cond.instanceMethod q.1 ∈ tables_1
theorem lw_p0 : lw_okq (⟨"AgreedSlots", "settled", "(I)I"⟩, 10) := ⟨⟨by decide +kernel, by decide +kernel⟩, List.mem_of_getElem? (i := 15) (by decide +kernel), List.mem_of_getElem? (i := 223) (by decide +kernel), List.mem_of_getElem? (i := 224) (by decide +kernel)⟩
theorem lw_p1 : lw_okq (⟨"AgreedSlots$State", "anyBallot", "()Z"⟩, 16) := ⟨⟨by decide +kernel, by decide +kernel⟩, List.mem_of_getElem? (i := 23) (by decide +kernel), List.mem_of_getElem? (i := 243) (by decide +kernel), List.mem_of_getElem? (i := 244) (by decide +kernel)⟩
theorem lw_p2 : lw_okq (⟨"AgreedSlots$State", "nextBallot", "(I)I"⟩, 16) := ⟨⟨by decide +kernel, by decide +kernel⟩, List.mem_of_getElem? (i := 23) (by decide +kernel), List.mem_of_getElem? (i := 258) (by decide +kernel), List.mem_of_getElem? (i := 259) (by decide +kernel)⟩
theorem lw_p3 : lw_okq (⟨"AgreedSlots$State", "refuse", "(II)I"⟩, 16) := ⟨⟨by decide +kernel, by decide +kernel⟩, List.mem_of_getElem? (i := 23) (by decide +kernel), List.mem_of_getElem? (i := 276) (by decide +kernel), List.mem_of_getElem? (i := 277) (by decide +kernel)⟩
theorem lw_p4 : lw_okq (⟨"AgreedSlots$State", "tellVotes", "(II)V"⟩, 16) := ⟨⟨by decide +kernel, by decide +kernel⟩, List.mem_of_getElem? (i := 23) (by decide +kernel), List.mem_of_getElem? (i := 280) (by decide +kernel), List.mem_of_getElem? (i := 281) (by decide +kernel)⟩
theorem lw_p5 : lw_okq (⟨"AgreedSlots$State", "mayOffer", "(II)Z"⟩, 16) := ⟨⟨by decide +kernel, by decide +kernel⟩, List.mem_of_getElem? (i := 23) (by decide +kernel), List.mem_of_getElem? (i := 302) (by decide +kernel), List.mem_of_getElem? (i := 303) (by decide +kernel)⟩
theorem lw_p6 : lw_okq (⟨"AgreedSlots$State", "mayAskVote", "(III)Z"⟩, 16) := ⟨⟨by decide +kernel, by decide +kernel⟩, List.mem_of_getElem? (i := 23) (by decide +kernel), List.mem_of_getElem? (i := 342) (by decide +kernel), List.mem_of_getElem? (i := 343) (by decide +kernel)⟩
theorem lw_p7 : lw_okq (⟨"AgreedSlots$State", "votersFor", "(II)I"⟩, 16) := ⟨⟨by decide +kernel, by decide +kernel⟩, List.mem_of_getElem? (i := 23) (by decide +kernel), List.mem_of_getElem? (i := 346) (by decide +kernel), List.mem_of_getElem? (i := 347) (by decide +kernel)⟩
theorem lw_p8 : lw_okq (⟨"AgreedSlots$State", "forgetVotes", "(II)V"⟩, 16) := ⟨⟨by decide +kernel, by decide +kernel⟩, List.mem_of_getElem? (i := 23) (by decide +kernel), List.mem_of_getElem? (i := 358) (by decide +kernel), List.mem_of_getElem? (i := 359) (by decide +kernel)⟩
theorem lw_p9 : lw_okq (⟨"AgreedSlots$Orders", "readOrder", "(LAgreedSlots$Text;)Z"⟩, 6) := ⟨⟨by decide +kernel, by decide +kernel⟩, List.mem_of_getElem? (i := 129) (by decide +kernel), List.mem_of_getElem? (i := 386) (by decide +kernel), List.mem_of_getElem? (i := 387) (by decide +kernel)⟩
theorem lw_p10 : lw_okq (⟨"AgreedSlots$Orders", "readPart", "(LAgreedSlots$Text;I)Z"⟩, 6) := ⟨⟨by decide +kernel, by decide +kernel⟩, List.mem_of_getElem? (i := 129) (by decide +kernel), List.mem_of_getElem? (i := 455) (by decide +kernel), List.mem_of_getElem? (i := 456) (by decide +kernel)⟩
theorem lw_p11 : lw_okq (⟨"AgreedSlots$Orders", "readDigit", "(LAgreedSlots$Text;I)Z"⟩, 6) := ⟨⟨by decide +kernel, by decide +kernel⟩, List.mem_of_getElem? (i := 129) (by decide +kernel), List.mem_of_getElem? (i := 459) (by decide +kernel), List.mem_of_getElem? (i := 460) (by decide +kernel)⟩
theorem lw_p12 : lw_okq (⟨"AgreedSlots$Orders", "tell", "(I)V"⟩, 6) := ⟨⟨by decide +kernel, by decide +kernel⟩, List.mem_of_getElem? (i := 129) (by decide +kernel), List.mem_of_getElem? (i := 463) (by decide +kernel), List.mem_of_getElem? (i := 464) (by decide +kernel)⟩
theorem lw_p13 : lw_okq (⟨"AgreedSlots$Orders", "readNumber", "(LAgreedSlots$Text;)Z"⟩, 6) := ⟨⟨by decide +kernel, by decide +kernel⟩, List.mem_of_getElem? (i := 129) (by decide +kernel), List.mem_of_getElem? (i := 467) (by decide +kernel), List.mem_of_getElem? (i := 468) (by decide +kernel)⟩
theorem lw_p14 : lw_okq (⟨"AgreedSlots$Orders", "readComma", "(LAgreedSlots$Text;)Z"⟩, 6) := ⟨⟨by decide +kernel, by decide +kernel⟩, List.mem_of_getElem? (i := 129) (by decide +kernel), List.mem_of_getElem? (i := 474) (by decide +kernel), List.mem_of_getElem? (i := 475) (by decide +kernel)⟩
theorem lw_p15 : lw_okq (⟨"AgreedSlots", "noteRefusal", "(II)V"⟩, 10) := ⟨⟨by decide +kernel, by decide +kernel⟩, List.mem_of_getElem? (i := 15) (by decide +kernel), List.mem_of_getElem? (i := 490) (by decide +kernel), List.mem_of_getElem? (i := 491) (by decide +kernel)⟩
def lw_privs_1 : List (MethodName × Nat) := [(⟨"AgreedSlots", "settled", "(I)I"⟩, 10), (⟨"AgreedSlots$State", "anyBallot", "()Z"⟩, 16), (⟨"AgreedSlots$State", "nextBallot", "(I)I"⟩, 16), (⟨"AgreedSlots$State", "refuse", "(II)I"⟩, 16), (⟨"AgreedSlots$State", "tellVotes", "(II)V"⟩, 16), (⟨"AgreedSlots$State", "mayOffer", "(II)Z"⟩, 16), (⟨"AgreedSlots$State", "mayAskVote", "(III)Z"⟩, 16), (⟨"AgreedSlots$State", "votersFor", "(II)I"⟩, 16), (⟨"AgreedSlots$State", "forgetVotes", "(II)V"⟩, 16), (⟨"AgreedSlots$Orders", "readOrder", "(LAgreedSlots$Text;)Z"⟩, 6), (⟨"AgreedSlots$Orders", "readPart", "(LAgreedSlots$Text;I)Z"⟩, 6), (⟨"AgreedSlots$Orders", "readDigit", "(LAgreedSlots$Text;I)Z"⟩, 6), (⟨"AgreedSlots$Orders", "tell", "(I)V"⟩, 6), (⟨"AgreedSlots$Orders", "readNumber", "(LAgreedSlots$Text;)Z"⟩, 6), (⟨"AgreedSlots$Orders", "readComma", "(LAgreedSlots$Text;)Z"⟩, 6), (⟨"AgreedSlots", "noteRefusal", "(II)V"⟩, 10)]
theorem lw_r1 : ∀ q ∈ lw_privs_1, lw_okq q := List.forall_mem_cons.mpr ⟨lw_p0, List.forall_mem_cons.mpr ⟨lw_p1, List.forall_mem_cons.mpr ⟨lw_p2, List.forall_mem_cons.mpr ⟨lw_p3, List.forall_mem_cons.mpr ⟨lw_p4, List.forall_mem_cons.mpr ⟨lw_p5, List.forall_mem_cons.mpr ⟨lw_p6, List.forall_mem_cons.mpr ⟨lw_p7, List.forall_mem_cons.mpr ⟨lw_p8, List.forall_mem_cons.mpr ⟨lw_p9, List.forall_mem_cons.mpr ⟨lw_p10, List.forall_mem_cons.mpr ⟨lw_p11, List.forall_mem_cons.mpr ⟨lw_p12, List.forall_mem_cons.mpr ⟨lw_p13, List.forall_mem_cons.mpr ⟨lw_p14, List.forall_mem_cons.mpr ⟨lw_p15, fun _ h => absurd h List.not_mem_nil⟩⟩⟩⟩⟩⟩⟩⟩⟩⟩⟩⟩⟩⟩⟩⟩
theorem lw_p16 : lw_okq (⟨"AgreedSlotsModel", "record", "()V"⟩, 15) := ⟨⟨by decide +kernel, by decide +kernel⟩, List.mem_of_getElem? (i := 590) (by decide +kernel), List.mem_of_getElem? (i := 652) (by decide +kernel), List.mem_of_getElem? (i := 653) (by decide +kernel)⟩
theorem lw_p17 : lw_okq (⟨"AgreedSlotsModel", "ups", "()I"⟩, 15) := ⟨⟨by decide +kernel, by decide +kernel⟩, List.mem_of_getElem? (i := 590) (by decide +kernel), List.mem_of_getElem? (i := 656) (by decide +kernel), List.mem_of_getElem? (i := 657) (by decide +kernel)⟩
theorem lw_p18 : lw_okq (⟨"AgreedSlotsModel", "refuses", "(III)I"⟩, 15) := ⟨⟨by decide +kernel, by decide +kernel⟩, List.mem_of_getElem? (i := 590) (by decide +kernel), List.mem_of_getElem? (i := 687) (by decide +kernel), List.mem_of_getElem? (i := 688) (by decide +kernel)⟩
theorem lw_p19 : lw_okq (⟨"AgreedSlotsModel", "isTrimmed", "(I)Z"⟩, 15) := ⟨⟨by decide +kernel, by decide +kernel⟩, List.mem_of_getElem? (i := 590) (by decide +kernel), List.mem_of_getElem? (i := 701) (by decide +kernel), List.mem_of_getElem? (i := 702) (by decide +kernel)⟩
theorem lw_p20 : lw_okq (⟨"AgreedSlotsModel", "isOpen", "(I)Z"⟩, 15) := ⟨⟨by decide +kernel, by decide +kernel⟩, List.mem_of_getElem? (i := 590) (by decide +kernel), List.mem_of_getElem? (i := 705) (by decide +kernel), List.mem_of_getElem? (i := 706) (by decide +kernel)⟩
theorem lw_p21 : lw_okq (⟨"AgreedSlotsModel", "prefix", "()I"⟩, 15) := ⟨⟨by decide +kernel, by decide +kernel⟩, List.mem_of_getElem? (i := 590) (by decide +kernel), List.mem_of_getElem? (i := 709) (by decide +kernel), List.mem_of_getElem? (i := 710) (by decide +kernel)⟩
theorem lw_p22 : lw_okq (⟨"AgreedSlotsModel", "chosen", "(I)I"⟩, 15) := ⟨⟨by decide +kernel, by decide +kernel⟩, List.mem_of_getElem? (i := 590) (by decide +kernel), List.mem_of_getElem? (i := 713) (by decide +kernel), List.mem_of_getElem? (i := 714) (by decide +kernel)⟩
theorem lw_p23 : lw_okq (⟨"AgreedSlotsModel", "lacking", "(II)I"⟩, 15) := ⟨⟨by decide +kernel, by decide +kernel⟩, List.mem_of_getElem? (i := 590) (by decide +kernel), List.mem_of_getElem? (i := 717) (by decide +kernel), List.mem_of_getElem? (i := 718) (by decide +kernel)⟩
theorem lw_p24 : lw_okq (⟨"AgreedSlotsModel", "firstSize", "(I)I"⟩, 15) := ⟨⟨by decide +kernel, by decide +kernel⟩, List.mem_of_getElem? (i := 590) (by decide +kernel), List.mem_of_getElem? (i := 721) (by decide +kernel), List.mem_of_getElem? (i := 722) (by decide +kernel)⟩
theorem lw_p25 : lw_okq (⟨"AgreedSlotsModel", "voters", "(I)I"⟩, 15) := ⟨⟨by decide +kernel, by decide +kernel⟩, List.mem_of_getElem? (i := 590) (by decide +kernel), List.mem_of_getElem? (i := 725) (by decide +kernel), List.mem_of_getElem? (i := 726) (by decide +kernel)⟩
theorem lw_p26 : lw_okq (⟨"AgreedSlotsModel", "secondSize", "(I)I"⟩, 15) := ⟨⟨by decide +kernel, by decide +kernel⟩, List.mem_of_getElem? (i := 590) (by decide +kernel), List.mem_of_getElem? (i := 729) (by decide +kernel), List.mem_of_getElem? (i := 730) (by decide +kernel)⟩
theorem lw_p27 : lw_okq (⟨"AgreedSlotsModel", "bound", "(II)I"⟩, 15) := ⟨⟨by decide +kernel, by decide +kernel⟩, List.mem_of_getElem? (i := 590) (by decide +kernel), List.mem_of_getElem? (i := 733) (by decide +kernel), List.mem_of_getElem? (i := 734) (by decide +kernel)⟩
theorem lw_p28 : lw_okq (⟨"AgreedSlotsModel", "isRead", "()Z"⟩, 15) := ⟨⟨by decide +kernel, by decide +kernel⟩, List.mem_of_getElem? (i := 590) (by decide +kernel), List.mem_of_getElem? (i := 757) (by decide +kernel), List.mem_of_getElem? (i := 758) (by decide +kernel)⟩
theorem lw_p29 : lw_okq (⟨"AgreedSlotsModel", "takesOrder", "()Z"⟩, 15) := ⟨⟨by decide +kernel, by decide +kernel⟩, List.mem_of_getElem? (i := 590) (by decide +kernel), List.mem_of_getElem? (i := 761) (by decide +kernel), List.mem_of_getElem? (i := 762) (by decide +kernel)⟩
theorem lw_p30 : lw_okq (⟨"AgreedSlotsModel", "takes", "(II)Z"⟩, 15) := ⟨⟨by decide +kernel, by decide +kernel⟩, List.mem_of_getElem? (i := 590) (by decide +kernel), List.mem_of_getElem? (i := 765) (by decide +kernel), List.mem_of_getElem? (i := 766) (by decide +kernel)⟩
theorem lw_p31 : lw_okq (⟨"AgreedSlotsModel", "isBetween", "(II)Z"⟩, 15) := ⟨⟨by decide +kernel, by decide +kernel⟩, List.mem_of_getElem? (i := 590) (by decide +kernel), List.mem_of_getElem? (i := 769) (by decide +kernel), List.mem_of_getElem? (i := 770) (by decide +kernel)⟩
def lw_privs_2 : List (MethodName × Nat) := [(⟨"AgreedSlotsModel", "record", "()V"⟩, 15), (⟨"AgreedSlotsModel", "ups", "()I"⟩, 15), (⟨"AgreedSlotsModel", "refuses", "(III)I"⟩, 15), (⟨"AgreedSlotsModel", "isTrimmed", "(I)Z"⟩, 15), (⟨"AgreedSlotsModel", "isOpen", "(I)Z"⟩, 15), (⟨"AgreedSlotsModel", "prefix", "()I"⟩, 15), (⟨"AgreedSlotsModel", "chosen", "(I)I"⟩, 15), (⟨"AgreedSlotsModel", "lacking", "(II)I"⟩, 15), (⟨"AgreedSlotsModel", "firstSize", "(I)I"⟩, 15), (⟨"AgreedSlotsModel", "voters", "(I)I"⟩, 15), (⟨"AgreedSlotsModel", "secondSize", "(I)I"⟩, 15), (⟨"AgreedSlotsModel", "bound", "(II)I"⟩, 15), (⟨"AgreedSlotsModel", "isRead", "()Z"⟩, 15), (⟨"AgreedSlotsModel", "takesOrder", "()Z"⟩, 15), (⟨"AgreedSlotsModel", "takes", "(II)Z"⟩, 15), (⟨"AgreedSlotsModel", "isBetween", "(II)Z"⟩, 15)]
theorem lw_r2 : ∀ q ∈ lw_privs_2, lw_okq q := List.forall_mem_cons.mpr ⟨lw_p16, List.forall_mem_cons.mpr ⟨lw_p17, List.forall_mem_cons.mpr ⟨lw_p18, List.forall_mem_cons.mpr ⟨lw_p19, List.forall_mem_cons.mpr ⟨lw_p20, List.forall_mem_cons.mpr ⟨lw_p21, List.forall_mem_cons.mpr ⟨lw_p22, List.forall_mem_cons.mpr ⟨lw_p23, List.forall_mem_cons.mpr ⟨lw_p24, List.forall_mem_cons.mpr ⟨lw_p25, List.forall_mem_cons.mpr ⟨lw_p26, List.forall_mem_cons.mpr ⟨lw_p27, List.forall_mem_cons.mpr ⟨lw_p28, List.forall_mem_cons.mpr ⟨lw_p29, List.forall_mem_cons.mpr ⟨lw_p30, List.forall_mem_cons.mpr ⟨lw_p31, fun _ h => absurd h List.not_mem_nil⟩⟩⟩⟩⟩⟩⟩⟩⟩⟩⟩⟩⟩⟩⟩⟩
theorem lw_p32 : lw_okq (⟨"AgreedSlotsModel", "copies", "([I[I)V"⟩, 15) := ⟨⟨by decide +kernel, by decide +kernel⟩, List.mem_of_getElem? (i := 590) (by decide +kernel), List.mem_of_getElem? (i := 773) (by decide +kernel), List.mem_of_getElem? (i := 774) (by decide +kernel)⟩
theorem lw_p33 : lw_okq (⟨"AgreedSlotsModel", "does", "(I)I"⟩, 15) := ⟨⟨by decide +kernel, by decide +kernel⟩, List.mem_of_getElem? (i := 590) (by decide +kernel), List.mem_of_getElem? (i := 777) (by decide +kernel), List.mem_of_getElem? (i := 778) (by decide +kernel)⟩
theorem lw_p34 : lw_okq (⟨"AgreedSlotsModel", "votes", "(I)I"⟩, 15) := ⟨⟨by decide +kernel, by decide +kernel⟩, List.mem_of_getElem? (i := 590) (by decide +kernel), List.mem_of_getElem? (i := 806) (by decide +kernel), List.mem_of_getElem? (i := 807) (by decide +kernel)⟩
theorem lw_p35 : lw_okq (⟨"AgreedSlotsModel", "proposals", "(I)I"⟩, 15) := ⟨⟨by decide +kernel, by decide +kernel⟩, List.mem_of_getElem? (i := 590) (by decide +kernel), List.mem_of_getElem? (i := 818) (by decide +kernel), List.mem_of_getElem? (i := 819) (by decide +kernel)⟩
theorem lw_p36 : lw_okq (⟨"AgreedSlotsModel", "slots", "(I)I"⟩, 15) := ⟨⟨by decide +kernel, by decide +kernel⟩, List.mem_of_getElem? (i := 590) (by decide +kernel), List.mem_of_getElem? (i := 842) (by decide +kernel), List.mem_of_getElem? (i := 843) (by decide +kernel)⟩
def lw_privs_3 : List (MethodName × Nat) := [(⟨"AgreedSlotsModel", "copies", "([I[I)V"⟩, 15), (⟨"AgreedSlotsModel", "does", "(I)I"⟩, 15), (⟨"AgreedSlotsModel", "votes", "(I)I"⟩, 15), (⟨"AgreedSlotsModel", "proposals", "(I)I"⟩, 15), (⟨"AgreedSlotsModel", "slots", "(I)I"⟩, 15)]
theorem lw_r3 : ∀ q ∈ lw_privs_3, lw_okq q := List.forall_mem_cons.mpr ⟨lw_p32, List.forall_mem_cons.mpr ⟨lw_p33, List.forall_mem_cons.mpr ⟨lw_p34, List.forall_mem_cons.mpr ⟨lw_p35, List.forall_mem_cons.mpr ⟨lw_p36, fun _ h => absurd h List.not_mem_nil⟩⟩⟩⟩⟩
def lw_privs : List (MethodName × Nat) := lw_privs_1 ++ (lw_privs_2 ++ (lw_privs_3))
def lw_tbl : List Cond := k2_sels lw_privs ++ tables_1
theorem lw_privs_ok : ∀ q ∈ lw_privs, lw_okq q := by
  show ∀ q ∈ lw_privs_1 ++ (lw_privs_2 ++ (lw_privs_3)), lw_okq q
  exact List.forall_mem_append.mpr ⟨lw_r1, List.forall_mem_append.mpr ⟨lw_r2, lw_r3⟩⟩
-- ===== end of PART A; then your names; then what follows =====
/-! ===== BEGIN words of one list among another's, by their places ===== -/
theorem goodIn_r {big : List Cond} (ws : List Cond) (ps : List Nat) (hp : ws = ps.filterMap (fun i => big[i]?)) (h : ws.all goodWord = true) : GoodIn big ws := by
  intro w hw
  have h1 := List.all_eq_true.mp h w hw
  rw [hp] at hw
  obtain ⟨i, -, hi⟩ := List.mem_filterMap.mp hw
  have hm : w ∈ big := by first | exact List.mem_of_getElem? hi | exact List.getElem?_mem hi
  exact ⟨hm, good_of_word h1⟩
theorem goodIn_app {big a b : List Cond} (ha : GoodIn big a) (hb : GoodIn big b) : GoodIn big (a ++ b) := fun w h => (List.mem_append.mp h).elim (ha w) (hb w)
theorem goodIn_ca {big a b : List Cond} {c : Cond} (ha : GoodIn big (c :: a)) (hb : GoodIn big b) : GoodIn big (c :: (a ++ b)) := fun w h => (List.mem_cons.mp h).elim (fun e => ha w (List.mem_cons.mpr (Or.inl e))) (fun h => (List.mem_append.mp h).elim (fun h => ha w (List.mem_cons.mpr (Or.inr h))) (hb w))
theorem goodIn_sub {big ws : List Cond} (hm : ∀ w ∈ ws, w ∈ big) (h : ws.all goodWord = true) : GoodIn big ws := fun w hw => ⟨hm w hw, good_of_word (List.all_eq_true.mp h w hw)⟩
/-! ===== END ===== -/

/-! ===== BEGIN printed: names, fields, word lists, decode rows ===== -/
def RX0 : String := "AgreedSlots$History"
def TX0 : u_T := fun k => match k with
  | 0 => ("AgreedSlots$History", "rows", "[LAgreedSlots$State;", true)
  | 1 => ("AgreedSlots$History", "next", "I", false)
  | _ => ("AgreedSlots$History", "size", "I", false)
def tyX0 : Nat → FieldType := fun k => match k with
  | 0 => .array (.object "AgreedSlots$State")
  | 1 => .int
  | _ => .int
abbrev wsX00 : List Cond := u_ws RX0 TX0 3
theorem nmX0 : ∀ a, a < 3 → ∀ b, b < 3 → a ≠ b → (TX0 a).2.1 ≠ (TX0 b).2.1 := by decide +kernel
theorem tyX0_ok : ∀ k, k < 3 → parseFieldDescriptor (TX0 k).2.2.1 = some (tyX0 k) := by decide +kernel
abbrev cX0_init : ByteArray := prog_2_method_1_code
def yX0_init : MethodName := ⟨RX0, "<init>", "()V"⟩
abbrev cX0_draft : ByteArray := prog_2_method_2_code
def yX0_draft : MethodName := ⟨RX0, "draft", "(LAgreedSlots$State;)V"⟩
abbrev cX0_bringBackDraft : ByteArray := prog_2_method_3_code
def yX0_bringBackDraft : MethodName := ⟨RX0, "bringBackDraft", "(LAgreedSlots$State;)V"⟩
abbrev cX0_commit : ByteArray := prog_2_method_4_code
def yX0_commit : MethodName := ⟨RX0, "commit", "()V"⟩
abbrev cX0_bringBackLatest : ByteArray := prog_2_method_5_code
def yX0_bringBackLatest : MethodName := ⟨RX0, "bringBackLatest", "(LAgreedSlots$State;)I"⟩
def RX1 : String := "AgreedSlots$Orders"
def TX1 : u_T := fun k => match k with
  | 0 => ("AgreedSlots$Orders", "letters", "[I", true)
  | 1 => ("AgreedSlots$Orders", "places", "[I", true)
  | 2 => ("AgreedSlots$Orders", "numbers", "[I", true)
  | 3 => ("AgreedSlots$Orders", "at", "I", false)
  | 4 => ("AgreedSlots$Orders", "told", "I", false)
  | _ => ("AgreedSlots$Orders", "size", "I", false)
def tyX1 : Nat → FieldType := fun k => match k with
  | 0 => .array .int
  | 1 => .array .int
  | 2 => .array .int
  | 3 => .int
  | 4 => .int
  | _ => .int
abbrev wsX10 : List Cond := u_ws RX1 TX1 6
theorem nmX1 : ∀ a, a < 6 → ∀ b, b < 6 → a ≠ b → (TX1 a).2.1 ≠ (TX1 b).2.1 := by decide +kernel
theorem tyX1_ok : ∀ k, k < 6 → parseFieldDescriptor (TX1 k).2.2.1 = some (tyX1 k) := by decide +kernel
abbrev cX1_init : ByteArray := prog_3_method_1_code
def yX1_init : MethodName := ⟨RX1, "<init>", "()V"⟩
abbrev cX1_read : ByteArray := prog_3_method_2_code
def yX1_read : MethodName := ⟨RX1, "read", "(LAgreedSlots$Text;)I"⟩
abbrev cX1_placeOf : ByteArray := prog_3_method_3_code
def yX1_placeOf : MethodName := ⟨RX1, "placeOf", "(I)I"⟩
abbrev cX1_carryOut : ByteArray := prog_3_method_4_code
def yX1_carryOut : MethodName := ⟨RX1, "carryOut", "(ILAgreedSlots$State;)I"⟩
abbrev cX1_partsOf : ByteArray := prog_3_method_5_code
def yX1_partsOf : MethodName := ⟨RX1, "partsOf", "(I)Ljava/lang/String;"⟩
abbrev cX1_readOrder : ByteArray := prog_3_method_6_code
def yX1_readOrder : MethodName := ⟨RX1, "readOrder", "(LAgreedSlots$Text;)Z"⟩
abbrev cX1_readPart : ByteArray := prog_3_method_7_code
def yX1_readPart : MethodName := ⟨RX1, "readPart", "(LAgreedSlots$Text;I)Z"⟩
abbrev cX1_readComma : ByteArray := prog_3_method_8_code
def yX1_readComma : MethodName := ⟨RX1, "readComma", "(LAgreedSlots$Text;)Z"⟩
abbrev cX1_readDigit : ByteArray := prog_3_method_9_code
def yX1_readDigit : MethodName := ⟨RX1, "readDigit", "(LAgreedSlots$Text;I)Z"⟩
abbrev cX1_readNumber : ByteArray := prog_3_method_10_code
def yX1_readNumber : MethodName := ⟨RX1, "readNumber", "(LAgreedSlots$Text;)Z"⟩
abbrev cX1_isDigit : ByteArray := prog_3_method_11_code
def yX1_isDigit : MethodName := ⟨RX1, "isDigit", "(I)Z"⟩
abbrev cX1_tell : ByteArray := prog_3_method_12_code
def yX1_tell : MethodName := ⟨RX1, "tell", "(I)V"⟩
def RX2 : String := "AgreedSlots$State"
def TX2 : u_T := fun k => match k with
  | 0 => ("AgreedSlots$State", "up", "I", false)
  | 1 => ("AgreedSlots$State", "second", "I", false)
  | 2 => ("AgreedSlots$State", "trimmed", "I", false)
  | 3 => ("AgreedSlots$State", "refusedPromises", "I", false)
  | 4 => ("AgreedSlots$State", "refusedVotes", "I", false)
  | 5 => ("AgreedSlots$State", "promised", "[I", true)
  | 6 => ("AgreedSlots$State", "voteBallot", "[I", true)
  | 7 => ("AgreedSlots$State", "voteValue", "[I", true)
  | 8 => ("AgreedSlots$State", "ballot", "[I", true)
  | 9 => ("AgreedSlots$State", "heard", "[I", true)
  | 10 => ("AgreedSlots$State", "promisers", "[I", true)
  | 11 => ("AgreedSlots$State", "offered", "[I", true)
  | 12 => ("AgreedSlots$State", "toldBallot", "[I", true)
  | 13 => ("AgreedSlots$State", "toldValue", "[I", true)
  | 14 => ("AgreedSlots$State", "chosenValue", "[I", true)
  | _ => ("AgreedSlots$State", "chosenBallot", "[I", true)
def tyX2 : Nat → FieldType := fun k => match k with
  | 0 => .int
  | 1 => .int
  | 2 => .int
  | 3 => .int
  | 4 => .int
  | 5 => .array .int
  | 6 => .array .int
  | 7 => .array .int
  | 8 => .array .int
  | 9 => .array .int
  | 10 => .array .int
  | 11 => .array .int
  | 12 => .array .int
  | 13 => .array .int
  | 14 => .array .int
  | _ => .array .int
abbrev wsX20 : List Cond := u_ws RX2 TX2 16
theorem nmX2 : ∀ a, a < 16 → ∀ b, b < 16 → a ≠ b → (TX2 a).2.1 ≠ (TX2 b).2.1 := by decide +kernel
theorem tyX2_ok : ∀ k, k < 16 → parseFieldDescriptor (TX2 k).2.2.1 = some (tyX2 k) := by decide +kernel
abbrev cX2_init : ByteArray := prog_4_method_1_code
def yX2_init : MethodName := ⟨RX2, "<init>", "()V"⟩
abbrev cX2_copy : ByteArray := prog_4_method_2_code
def yX2_copy : MethodName := ⟨RX2, "copy", "(LAgreedSlots$State;)V"⟩
abbrev cX2_copyAll : ByteArray := prog_4_method_3_code
def yX2_copyAll : MethodName := ⟨RX2, "copyAll", "([I[I)V"⟩
abbrev cX2_turn : ByteArray := prog_4_method_4_code
def yX2_turn : MethodName := ⟨RX2, "turn", "(IZ)I"⟩
abbrev cX2_resizeSecond : ByteArray := prog_4_method_5_code
def yX2_resizeSecond : MethodName := ⟨RX2, "resizeSecond", "(I)I"⟩
abbrev cX2_startBallot : ByteArray := prog_4_method_6_code
def yX2_startBallot : MethodName := ⟨RX2, "startBallot", "(I)I"⟩
abbrev cX2_askPromise : ByteArray := prog_4_method_7_code
def yX2_askPromise : MethodName := ⟨RX2, "askPromise", "(II)I"⟩
abbrev cX2_offerValue : ByteArray := prog_4_method_8_code
def yX2_offerValue : MethodName := ⟨RX2, "offerValue", "(III)I"⟩
abbrev cX2_askVote : ByteArray := prog_4_method_9_code
def yX2_askVote : MethodName := ⟨RX2, "askVote", "(III)I"⟩
abbrev cX2_forgetUpTo : ByteArray := prog_4_method_10_code
def yX2_forgetUpTo : MethodName := ⟨RX2, "forgetUpTo", "(I)I"⟩
abbrev cX2_prefix : ByteArray := prog_4_method_11_code
def yX2_prefix : MethodName := ⟨RX2, "prefix", "()I"⟩
abbrev cX2_chosenAbove : ByteArray := prog_4_method_12_code
def yX2_chosenAbove : MethodName := ⟨RX2, "chosenAbove", "(I)I"⟩
abbrev cX2_isOpen : ByteArray := prog_4_method_13_code
def yX2_isOpen : MethodName := ⟨RX2, "isOpen", "(I)Z"⟩
abbrev cX2_votersOf : ByteArray := prog_4_method_14_code
def yX2_votersOf : MethodName := ⟨RX2, "votersOf", "(I)I"⟩
abbrev cX2_secondSize : ByteArray := prog_4_method_15_code
def yX2_secondSize : MethodName := ⟨RX2, "secondSize", "(I)I"⟩
abbrev cX2_firstSize : ByteArray := prog_4_method_16_code
def yX2_firstSize : MethodName := ⟨RX2, "firstSize", "(I)I"⟩
abbrev cX2_votersFor : ByteArray := prog_4_method_17_code
def yX2_votersFor : MethodName := ⟨RX2, "votersFor", "(II)I"⟩
abbrev cX2_couldChoose : ByteArray := prog_4_method_18_code
def yX2_couldChoose : MethodName := ⟨RX2, "couldChoose", "(II)Z"⟩
abbrev cX2_votesOf : ByteArray := prog_4_method_19_code
def yX2_votesOf : MethodName := ⟨RX2, "votesOf", "(II)I"⟩
abbrev cX2_forgetVotes : ByteArray := prog_4_method_20_code
def yX2_forgetVotes : MethodName := ⟨RX2, "forgetVotes", "(II)V"⟩
abbrev cX2_refuse : ByteArray := prog_4_method_21_code
def yX2_refuse : MethodName := ⟨RX2, "refuse", "(II)I"⟩
abbrev cX2_tellVotes : ByteArray := prog_4_method_22_code
def yX2_tellVotes : MethodName := ⟨RX2, "tellVotes", "(II)V"⟩
abbrev cX2_anyBallot : ByteArray := prog_4_method_23_code
def yX2_anyBallot : MethodName := ⟨RX2, "anyBallot", "()Z"⟩
abbrev cX2_nextBallot : ByteArray := prog_4_method_24_code
def yX2_nextBallot : MethodName := ⟨RX2, "nextBallot", "(I)I"⟩
abbrev cX2_offersOf : ByteArray := prog_4_method_25_code
def yX2_offersOf : MethodName := ⟨RX2, "offersOf", "(I)I"⟩
abbrev cX2_promisesMissing : ByteArray := prog_4_method_26_code
def yX2_promisesMissing : MethodName := ⟨RX2, "promisesMissing", "(II)I"⟩
abbrev cX2_boundValue : ByteArray := prog_4_method_27_code
def yX2_boundValue : MethodName := ⟨RX2, "boundValue", "(II)I"⟩
abbrev cX2_mayOffer : ByteArray := prog_4_method_28_code
def yX2_mayOffer : MethodName := ⟨RX2, "mayOffer", "(II)Z"⟩
abbrev cX2_mayAskVote : ByteArray := prog_4_method_29_code
def yX2_mayAskVote : MethodName := ⟨RX2, "mayAskVote", "(III)Z"⟩
def RX3 : String := "AgreedSlots$Text"
def TX3 : u_T := fun k => match k with
  | 0 => ("AgreedSlots$Text", "signs", "[C", true)
  | _ => ("AgreedSlots$Text", "length", "I", false)
def tyX3 : Nat → FieldType := fun k => match k with
  | 0 => .array .char
  | _ => .int
abbrev wsX30 : List Cond := u_ws RX3 TX3 2
theorem nmX3 : ∀ a, a < 2 → ∀ b, b < 2 → a ≠ b → (TX3 a).2.1 ≠ (TX3 b).2.1 := by decide +kernel
theorem tyX3_ok : ∀ k, k < 2 → parseFieldDescriptor (TX3 k).2.2.1 = some (tyX3 k) := by decide +kernel
abbrev cX3_init : ByteArray := prog_5_method_1_code
def yX3_init : MethodName := ⟨RX3, "<init>", "()V"⟩
abbrev cX3_append : ByteArray := prog_5_method_2_code
def yX3_append : MethodName := ⟨RX3, "append", "(C)I"⟩
abbrev cX3_empty : ByteArray := prog_5_method_3_code
def yX3_empty : MethodName := ⟨RX3, "empty", "()I"⟩
abbrev cX3_signAt : ByteArray := prog_5_method_4_code
def yX3_signAt : MethodName := ⟨RX3, "signAt", "(I)I"⟩
def RX4 : String := "AgreedSlots"
def TX4 : u_T := fun k => match k with
  | 0 => ("AgreedSlots", "now", "LAgreedSlots$State;", true)
  | 1 => ("AgreedSlots", "snapshot", "LAgreedSlots$State;", true)
  | 2 => ("AgreedSlots", "kept", "Z", false)
  | 3 => ("AgreedSlots", "history", "LAgreedSlots$History;", true)
  | 4 => ("AgreedSlots", "text", "LAgreedSlots$Text;", true)
  | 5 => ("AgreedSlots", "orders", "LAgreedSlots$Orders;", true)
  | 6 => ("AgreedSlots", "refusedOnce", "Z", false)
  | 7 => ("AgreedSlots", "refusedOrder", "I", false)
  | 8 => ("AgreedSlots", "refusedError", "I", false)
  | _ => ("AgreedSlots", "refusedPlace", "I", false)
def tyX4 : Nat → FieldType := fun k => match k with
  | 0 => .object "AgreedSlots$State"
  | 1 => .object "AgreedSlots$State"
  | 2 => .boolean
  | 3 => .object "AgreedSlots$History"
  | 4 => .object "AgreedSlots$Text"
  | 5 => .object "AgreedSlots$Orders"
  | 6 => .boolean
  | 7 => .int
  | 8 => .int
  | _ => .int
abbrev wsX40 : List Cond := u_ws RX4 TX4 10
theorem nmX4 : ∀ a, a < 10 → ∀ b, b < 10 → a ≠ b → (TX4 a).2.1 ≠ (TX4 b).2.1 := by decide +kernel
theorem tyX4_ok : ∀ k, k < 10 → parseFieldDescriptor (TX4 k).2.2.1 = some (tyX4 k) := by decide +kernel
abbrev cX4_init : ByteArray := prog_1_method_1_code
def yX4_init : MethodName := ⟨RX4, "<init>", "()V"⟩
abbrev cX4_setUp : ByteArray := prog_1_method_2_code
def yX4_setUp : MethodName := ⟨RX4, "setUp", "(IZ)I"⟩
abbrev cX4_setSecond : ByteArray := prog_1_method_3_code
def yX4_setSecond : MethodName := ⟨RX4, "setSecond", "(I)I"⟩
abbrev cX4_prepare : ByteArray := prog_1_method_4_code
def yX4_prepare : MethodName := ⟨RX4, "prepare", "(I)I"⟩
abbrev cX4_promise : ByteArray := prog_1_method_5_code
def yX4_promise : MethodName := ⟨RX4, "promise", "(II)I"⟩
abbrev cX4_propose : ByteArray := prog_1_method_6_code
def yX4_propose : MethodName := ⟨RX4, "propose", "(III)I"⟩
abbrev cX4_vote : ByteArray := prog_1_method_7_code
def yX4_vote : MethodName := ⟨RX4, "vote", "(III)I"⟩
abbrev cX4_trim : ByteArray := prog_1_method_8_code
def yX4_trim : MethodName := ⟨RX4, "trim", "(I)I"⟩
abbrev cX4_type : ByteArray := prog_1_method_9_code
def yX4_type : MethodName := ⟨RX4, "type", "(C)I"⟩
abbrev cX4_clearText : ByteArray := prog_1_method_10_code
def yX4_clearText : MethodName := ⟨RX4, "clearText", "()I"⟩
abbrev cX4_perform : ByteArray := prog_1_method_11_code
def yX4_perform : MethodName := ⟨RX4, "perform", "()I"⟩
abbrev cX4_refusal : ByteArray := prog_1_method_12_code
def yX4_refusal : MethodName := ⟨RX4, "refusal", "(I)I"⟩
abbrev cX4_undo : ByteArray := prog_1_method_13_code
def yX4_undo : MethodName := ⟨RX4, "undo", "()I"⟩
abbrev cX4_keep : ByteArray := prog_1_method_14_code
def yX4_keep : MethodName := ⟨RX4, "keep", "()I"⟩
abbrev cX4_restore : ByteArray := prog_1_method_15_code
def yX4_restore : MethodName := ⟨RX4, "restore", "()I"⟩
abbrev cX4_acceptor : ByteArray := prog_1_method_16_code
def yX4_acceptor : MethodName := ⟨RX4, "acceptor", "(II)I"⟩
abbrev cX4_voted : ByteArray := prog_1_method_17_code
def yX4_voted : MethodName := ⟨RX4, "voted", "(III)I"⟩
abbrev cX4_proposer : ByteArray := prog_1_method_18_code
def yX4_proposer : MethodName := ⟨RX4, "proposer", "(II)I"⟩
abbrev cX4_proposed : ByteArray := prog_1_method_19_code
def yX4_proposed : MethodName := ⟨RX4, "proposed", "(III)I"⟩
abbrev cX4_slot : ByteArray := prog_1_method_20_code
def yX4_slot : MethodName := ⟨RX4, "slot", "(II)I"⟩
abbrev cX4_could : ByteArray := prog_1_method_21_code
def yX4_could : MethodName := ⟨RX4, "could", "(II)I"⟩
abbrev cX4_witness : ByteArray := prog_1_method_22_code
def yX4_witness : MethodName := ⟨RX4, "witness", "(IIII)I"⟩
abbrev cX4_count : ByteArray := prog_1_method_23_code
def yX4_count : MethodName := ⟨RX4, "count", "(I)I"⟩
abbrev cX4_settled : ByteArray := prog_1_method_24_code
def yX4_settled : MethodName := ⟨RX4, "settled", "(I)I"⟩
abbrev cX4_noteRefusal : ByteArray := prog_1_method_25_code
def yX4_noteRefusal : MethodName := ⟨RX4, "noteRefusal", "(II)V"⟩
abbrev cX4_isError : ByteArray := prog_1_method_26_code
def yX4_isError : MethodName := ⟨RX4, "isError", "(I)Z"⟩
abbrev cX4_isAcceptor : ByteArray := prog_1_method_27_code
def yX4_isAcceptor : MethodName := ⟨RX4, "isAcceptor", "(I)Z"⟩
abbrev cX4_isProposer : ByteArray := prog_1_method_28_code
def yX4_isProposer : MethodName := ⟨RX4, "isProposer", "(I)Z"⟩
abbrev cX4_isSlot : ByteArray := prog_1_method_29_code
def yX4_isSlot : MethodName := ⟨RX4, "isSlot", "(I)Z"⟩
abbrev cX4_isSize : ByteArray := prog_1_method_30_code
def yX4_isSize : MethodName := ⟨RX4, "isSize", "(I)Z"⟩
abbrev cX4_isValue : ByteArray := prog_1_method_31_code
def yX4_isValue : MethodName := ⟨RX4, "isValue", "(I)Z"⟩
abbrev cX4_has : ByteArray := prog_1_method_32_code
def yX4_has : MethodName := ⟨RX4, "has", "(II)Z"⟩
abbrev cX4_orNone : ByteArray := prog_1_method_33_code
def yX4_orNone : MethodName := ⟨RX4, "orNone", "(I)I"⟩
abbrev cX4_cell : ByteArray := prog_1_method_34_code
def yX4_cell : MethodName := ⟨RX4, "cell", "(II)I"⟩
abbrev cX4_lowest : ByteArray := prog_1_method_35_code
def yX4_lowest : MethodName := ⟨RX4, "lowest", "(II)I"⟩
def RX5 : String := "AgreedSlotsModel"
def TX5 : u_T := fun k => match k with
  | 0 => ("AgreedSlotsModel", "now", "[I", true)
  | 1 => ("AgreedSlotsModel", "history", "[I", true)
  | 2 => ("AgreedSlotsModel", "kept", "I", false)
  | 3 => ("AgreedSlotsModel", "slot", "[I", true)
  | 4 => ("AgreedSlotsModel", "isFilled", "Z", false)
  | 5 => ("AgreedSlotsModel", "isQuiet", "Z", false)
  | 6 => ("AgreedSlotsModel", "typed", "I", false)
  | 7 => ("AgreedSlotsModel", "text", "[C", true)
  | 8 => ("AgreedSlotsModel", "at", "I", false)
  | 9 => ("AgreedSlotsModel", "orders", "[I", true)
  | 10 => ("AgreedSlotsModel", "many", "I", false)
  | 11 => ("AgreedSlotsModel", "refused", "I", false)
  | 12 => ("AgreedSlotsModel", "error", "I", false)
  | 13 => ("AgreedSlotsModel", "refusedAt", "I", false)
  | _ => ("AgreedSlotsModel", "before", "[I", true)
def tyX5 : Nat → FieldType := fun k => match k with
  | 0 => .array .int
  | 1 => .array .int
  | 2 => .int
  | 3 => .array .int
  | 4 => .boolean
  | 5 => .boolean
  | 6 => .int
  | 7 => .array .char
  | 8 => .int
  | 9 => .array .int
  | 10 => .int
  | 11 => .int
  | 12 => .int
  | 13 => .int
  | _ => .array .int
abbrev wsX50 : List Cond := u_ws RX5 TX5 15
theorem nmX5 : ∀ a, a < 15 → ∀ b, b < 15 → a ≠ b → (TX5 a).2.1 ≠ (TX5 b).2.1 := by decide +kernel
theorem tyX5_ok : ∀ k, k < 15 → parseFieldDescriptor (TX5 k).2.2.1 = some (tyX5 k) := by decide +kernel
abbrev cX5_init : ByteArray := prog_7_method_1_code
def yX5_init : MethodName := ⟨RX5, "<init>", "()V"⟩
abbrev cX5_in : ByteArray := prog_7_method_2_code
def yX5_in : MethodName := ⟨RX5, "in", "(III)Z"⟩
abbrev cX5_noAcceptor : ByteArray := prog_7_method_3_code
def yX5_noAcceptor : MethodName := ⟨RX5, "noAcceptor", "(I)Z"⟩
abbrev cX5_noProposer : ByteArray := prog_7_method_4_code
def yX5_noProposer : MethodName := ⟨RX5, "noProposer", "(I)Z"⟩
abbrev cX5_noSlot : ByteArray := prog_7_method_5_code
def yX5_noSlot : MethodName := ⟨RX5, "noSlot", "(I)Z"⟩
abbrev cX5_isIn : ByteArray := prog_7_method_6_code
def yX5_isIn : MethodName := ⟨RX5, "isIn", "(II)Z"⟩
abbrev cX5_bits : ByteArray := prog_7_method_7_code
def yX5_bits : MethodName := ⟨RX5, "bits", "(I)I"⟩
abbrev cX5_voteAt : ByteArray := prog_7_method_8_code
def yX5_voteAt : MethodName := ⟨RX5, "voteAt", "(II)I"⟩
abbrev cX5_toldAt : ByteArray := prog_7_method_9_code
def yX5_toldAt : MethodName := ⟨RX5, "toldAt", "(III)I"⟩
abbrev cX5_proposedAt : ByteArray := prog_7_method_10_code
def yX5_proposedAt : MethodName := ⟨RX5, "proposedAt", "(II)I"⟩
abbrev cX5_chosen : ByteArray := prog_7_method_11_code
def yX5_chosen : MethodName := ⟨RX5, "chosen", "(I)I"⟩
abbrev cX5_record : ByteArray := prog_7_method_12_code
def yX5_record : MethodName := ⟨RX5, "record", "()V"⟩
abbrev cX5_prefix : ByteArray := prog_7_method_13_code
def yX5_prefix : MethodName := ⟨RX5, "prefix", "()I"⟩
abbrev cX5_isOpen : ByteArray := prog_7_method_14_code
def yX5_isOpen : MethodName := ⟨RX5, "isOpen", "(I)Z"⟩
abbrev cX5_isTrimmed : ByteArray := prog_7_method_15_code
def yX5_isTrimmed : MethodName := ⟨RX5, "isTrimmed", "(I)Z"⟩
abbrev cX5_voters : ByteArray := prog_7_method_16_code
def yX5_voters : MethodName := ⟨RX5, "voters", "(I)I"⟩
abbrev cX5_secondSize : ByteArray := prog_7_method_17_code
def yX5_secondSize : MethodName := ⟨RX5, "secondSize", "(I)I"⟩
abbrev cX5_firstSize : ByteArray := prog_7_method_18_code
def yX5_firstSize : MethodName := ⟨RX5, "firstSize", "(I)I"⟩
abbrev cX5_ups : ByteArray := prog_7_method_19_code
def yX5_ups : MethodName := ⟨RX5, "ups", "()I"⟩
abbrev cX5_setUp : ByteArray := prog_7_method_20_code
def yX5_setUp : MethodName := ⟨RX5, "setUp", "(IZ)I"⟩
abbrev cX5_setSecond : ByteArray := prog_7_method_21_code
def yX5_setSecond : MethodName := ⟨RX5, "setSecond", "(I)I"⟩
abbrev cX5_prepare : ByteArray := prog_7_method_22_code
def yX5_prepare : MethodName := ⟨RX5, "prepare", "(I)I"⟩
abbrev cX5_refuses : ByteArray := prog_7_method_23_code
def yX5_refuses : MethodName := ⟨RX5, "refuses", "(III)I"⟩
abbrev cX5_promise : ByteArray := prog_7_method_24_code
def yX5_promise : MethodName := ⟨RX5, "promise", "(II)I"⟩
abbrev cX5_bound : ByteArray := prog_7_method_25_code
def yX5_bound : MethodName := ⟨RX5, "bound", "(II)I"⟩
abbrev cX5_lacking : ByteArray := prog_7_method_26_code
def yX5_lacking : MethodName := ⟨RX5, "lacking", "(II)I"⟩
abbrev cX5_propose : ByteArray := prog_7_method_27_code
def yX5_propose : MethodName := ⟨RX5, "propose", "(III)I"⟩
abbrev cX5_vote : ByteArray := prog_7_method_28_code
def yX5_vote : MethodName := ⟨RX5, "vote", "(III)I"⟩
abbrev cX5_trim : ByteArray := prog_7_method_29_code
def yX5_trim : MethodName := ⟨RX5, "trim", "(I)I"⟩
abbrev cX5_type : ByteArray := prog_7_method_30_code
def yX5_type : MethodName := ⟨RX5, "type", "(C)I"⟩
abbrev cX5_clearText : ByteArray := prog_7_method_31_code
def yX5_clearText : MethodName := ⟨RX5, "clearText", "()I"⟩
abbrev cX5_isBetween : ByteArray := prog_7_method_32_code
def yX5_isBetween : MethodName := ⟨RX5, "isBetween", "(II)Z"⟩
abbrev cX5_takes : ByteArray := prog_7_method_33_code
def yX5_takes : MethodName := ⟨RX5, "takes", "(II)Z"⟩
abbrev cX5_takesOrder : ByteArray := prog_7_method_34_code
def yX5_takesOrder : MethodName := ⟨RX5, "takesOrder", "()Z"⟩
abbrev cX5_isRead : ByteArray := prog_7_method_35_code
def yX5_isRead : MethodName := ⟨RX5, "isRead", "()Z"⟩
abbrev cX5_does : ByteArray := prog_7_method_36_code
def yX5_does : MethodName := ⟨RX5, "does", "(I)I"⟩
abbrev cX5_copies : ByteArray := prog_7_method_37_code
def yX5_copies : MethodName := ⟨RX5, "copies", "([I[I)V"⟩
abbrev cX5_perform : ByteArray := prog_7_method_38_code
def yX5_perform : MethodName := ⟨RX5, "perform", "()I"⟩
abbrev cX5_refusal : ByteArray := prog_7_method_39_code
def yX5_refusal : MethodName := ⟨RX5, "refusal", "(I)I"⟩
abbrev cX5_undo : ByteArray := prog_7_method_40_code
def yX5_undo : MethodName := ⟨RX5, "undo", "()I"⟩
abbrev cX5_keep : ByteArray := prog_7_method_41_code
def yX5_keep : MethodName := ⟨RX5, "keep", "()I"⟩
abbrev cX5_restore : ByteArray := prog_7_method_42_code
def yX5_restore : MethodName := ⟨RX5, "restore", "()I"⟩
abbrev cX5_votes : ByteArray := prog_7_method_43_code
def yX5_votes : MethodName := ⟨RX5, "votes", "(I)I"⟩
abbrev cX5_acceptor : ByteArray := prog_7_method_44_code
def yX5_acceptor : MethodName := ⟨RX5, "acceptor", "(II)I"⟩
abbrev cX5_voted : ByteArray := prog_7_method_45_code
def yX5_voted : MethodName := ⟨RX5, "voted", "(III)I"⟩
abbrev cX5_proposals : ByteArray := prog_7_method_46_code
def yX5_proposals : MethodName := ⟨RX5, "proposals", "(I)I"⟩
abbrev cX5_proposer : ByteArray := prog_7_method_47_code
def yX5_proposer : MethodName := ⟨RX5, "proposer", "(II)I"⟩
abbrev cX5_proposed : ByteArray := prog_7_method_48_code
def yX5_proposed : MethodName := ⟨RX5, "proposed", "(III)I"⟩
abbrev cX5_slot : ByteArray := prog_7_method_49_code
def yX5_slot : MethodName := ⟨RX5, "slot", "(II)I"⟩
abbrev cX5_could : ByteArray := prog_7_method_50_code
def yX5_could : MethodName := ⟨RX5, "could", "(II)I"⟩
abbrev cX5_witness : ByteArray := prog_7_method_51_code
def yX5_witness : MethodName := ⟨RX5, "witness", "(IIII)I"⟩
abbrev cX5_slots : ByteArray := prog_7_method_52_code
def yX5_slots : MethodName := ⟨RX5, "slots", "(I)I"⟩
abbrev cX5_count : ByteArray := prog_7_method_53_code
def yX5_count : MethodName := ⟨RX5, "count", "(I)I"⟩
def RJ6 : String := "java/lang/Integer"
def TJ6 : u_T := fun k => match k with
  | _ => ("", "", "", false)
def tyJ6 : Nat → FieldType := fun k => match k with
  | _ => .int
abbrev wsJ60 : List Cond := u_ws RJ6 TJ6 0
theorem nmJ6 : ∀ a, a < 0 → ∀ b, b < 0 → a ≠ b → (TJ6 a).2.1 ≠ (TJ6 b).2.1 := by decide +kernel
theorem tyJ6_ok : ∀ k, k < 0 → parseFieldDescriptor (TJ6 k).2.2.1 = some (tyJ6 k) := by decide +kernel
abbrev cJ6_bitCount_0f7a4 : ByteArray := prog_8_method_49_code
def yJ6_bitCount_0f7a4 : MethodName := ⟨RJ6, "bitCount", "(I)I"⟩
def RJ9 : String := "java/lang/Math"
def TJ9 : u_T := fun k => match k with
  | _ => ("", "", "", false)
def tyJ9 : Nat → FieldType := fun k => match k with
  | _ => .int
abbrev wsJ90 : List Cond := u_ws RJ9 TJ9 0
theorem nmJ9 : ∀ a, a < 0 → ∀ b, b < 0 → a ≠ b → (TJ9 a).2.1 ≠ (TJ9 b).2.1 := by decide +kernel
theorem tyJ9_ok : ∀ k, k < 0 → parseFieldDescriptor (TJ9 k).2.2.1 = some (tyJ9 k) := by decide +kernel
abbrev cJ9_max_7cf53 : ByteArray := prog_9_method_65_code
def yJ9_max_7cf53 : MethodName := ⟨RJ9, "max", "(II)I"⟩
abbrev cJ9_min_7cf53 : ByteArray := prog_9_method_69_code
def yJ9_min_7cf53 : MethodName := ⟨RJ9, "min", "(II)I"⟩
def RJ0 : String := "java/lang/String"
def TJ0 : u_T := fun k => match k with
  | _ => ("", "", "", false)
def tyJ0 : Nat → FieldType := fun k => match k with
  | _ => .int
abbrev wsJ00 : List Cond := u_ws RJ0 TJ0 0
theorem nmJ0 : ∀ a, a < 0 → ∀ b, b < 0 → a ≠ b → (TJ0 a).2.1 ≠ (TJ0 b).2.1 := by decide +kernel
theorem tyJ0_ok : ∀ k, k < 0 → parseFieldDescriptor (TJ0 k).2.2.1 = some (tyJ0 k) := by decide +kernel
abbrev cJ0_length_8abf5 : ByteArray := prog_10_method_54_code
def yJ0_length_8abf5 : MethodName := ⟨RJ0, "length", "()I"⟩
abbrev cJ0_isEmpty_aae02 : ByteArray := prog_10_method_55_code
def yJ0_isEmpty_aae02 : MethodName := ⟨RJ0, "isEmpty", "()Z"⟩
abbrev cJ0_charAt_5068e : ByteArray := prog_10_method_56_code
def yJ0_charAt_5068e : MethodName := ⟨RJ0, "charAt", "(I)C"⟩
abbrev cJ0_coder_7d493 : ByteArray := prog_10_method_152_code
def yJ0_coder_7d493 : MethodName := ⟨RJ0, "coder", "()B"⟩
abbrev cJ0_isLatin1_aae02 : ByteArray := prog_10_method_154_code
def yJ0_isLatin1_aae02 : MethodName := ⟨RJ0, "isLatin1", "()Z"⟩
abbrev cJ0_checkIndex_df160 : ByteArray := prog_10_method_155_code
def yJ0_checkIndex_df160 : MethodName := ⟨RJ0, "checkIndex", "(II)V"⟩
def RJ1 : String := "java/lang/StringLatin1"
def TJ1 : u_T := fun k => match k with
  | _ => ("", "", "", false)
def tyJ1 : Nat → FieldType := fun k => match k with
  | _ => .int
abbrev wsJ10 : List Cond := u_ws RJ1 TJ1 0
theorem nmJ1 : ∀ a, a < 0 → ∀ b, b < 0 → a ≠ b → (TJ1 a).2.1 ≠ (TJ1 b).2.1 := by decide +kernel
theorem tyJ1_ok : ∀ k, k < 0 → parseFieldDescriptor (TJ1 k).2.2.1 = some (tyJ1 k) := by decide +kernel
abbrev cJ1_charAt_3b067 : ByteArray := prog_11_method_2_code
def yJ1_charAt_3b067 : MethodName := ⟨RJ1, "charAt", "([BI)C"⟩
def RJ2 : String := "java/lang/StringUTF16"
def TJ2 : u_T := fun k => match k with
  | _ => ("", "", "", false)
def tyJ2 : Nat → FieldType := fun k => match k with
  | _ => .int
abbrev wsJ20 : List Cond := u_ws RJ2 TJ2 0
theorem nmJ2 : ∀ a, a < 0 → ∀ b, b < 0 → a ≠ b → (TJ2 a).2.1 ≠ (TJ2 b).2.1 := by decide +kernel
theorem tyJ2_ok : ∀ k, k < 0 → parseFieldDescriptor (TJ2 k).2.2.1 = some (tyJ2 k) := by decide +kernel
abbrev cJ2_getChar_3b067 : ByteArray := prog_12_method_5_code
def yJ2_getChar_3b067 : MethodName := ⟨RJ2, "getChar", "([BI)C"⟩
abbrev cJ2_length_9d52b : ByteArray := prog_12_method_6_code
def yJ2_length_9d52b : MethodName := ⟨RJ2, "length", "([B)I"⟩
abbrev cJ2_charAt_3b067 : ByteArray := prog_12_method_83_code
def yJ2_charAt_3b067 : MethodName := ⟨RJ2, "charAt", "([BI)C"⟩
abbrev cJ2_checkIndex_2214a : ByteArray := prog_12_method_91_code
def yJ2_checkIndex_2214a : MethodName := ⟨RJ2, "checkIndex", "(I[B)V"⟩
def RJ10 : String := "java/lang/System"
def TJ10 : u_T := fun k => match k with
  | _ => ("", "", "", false)
def tyJ10 : Nat → FieldType := fun k => match k with
  | _ => .int
abbrev wsJ100 : List Cond := u_ws RJ10 TJ10 0
theorem nmJ10 : ∀ a, a < 0 → ∀ b, b < 0 → a ≠ b → (TJ10 a).2.1 ≠ (TJ10 b).2.1 := by decide +kernel
theorem tyJ10_ok : ∀ k, k < 0 → parseFieldDescriptor (TJ10 k).2.2.1 = some (tyJ10 k) := by decide +kernel
def RJ3 : String := "jdk/internal/util/Preconditions"
def TJ3 : u_T := fun k => match k with
  | _ => ("", "", "", false)
def tyJ3 : Nat → FieldType := fun k => match k with
  | _ => .int
abbrev wsJ30 : List Cond := u_ws RJ3 TJ3 0
theorem nmJ3 : ∀ a, a < 0 → ∀ b, b < 0 → a ≠ b → (TJ3 a).2.1 ≠ (TJ3 b).2.1 := by decide +kernel
theorem tyJ3_ok : ∀ k, k < 0 → parseFieldDescriptor (TJ3 k).2.2.1 = some (tyJ3 k) := by decide +kernel
abbrev cJ3_checkIndex_8e157 : ByteArray := prog_14_method_11_code
def yJ3_checkIndex_8e157 : MethodName := ⟨RJ3, "checkIndex", "(IILjava/util/function/BiFunction;)I"⟩
def RL : String := "AgreedSlotsLaw"
abbrev cL_law : ByteArray := code
def yL_law : MethodName := ⟨RL, "law", "([I)Z"⟩
def wsX2_init : List Cond := .code yX2_init cX2_init 1 none :: ([.methodLink RX2 3 objectInit, .instanceMethod objectInit, .code objectInit ⟨#[0xb1]⟩ 1 none, .fieldLink RX2 9 "AgreedSlots$State" "up" "I", .fieldLink RX2 15 "AgreedSlots$State" "second" "I", .arrayClass .int, .fieldLink RX2 18 "AgreedSlots$State" "promised" "[I", .fieldLink RX2 22 "AgreedSlots$State" "voteBallot" "[I", .fieldLink RX2 25 "AgreedSlots$State" "voteValue" "[I", .fieldLink RX2 28 "AgreedSlots$State" "ballot" "[I", .fieldLink RX2 31 "AgreedSlots$State" "heard" "[I", .fieldLink RX2 34 "AgreedSlots$State" "promisers" "[I", .fieldLink RX2 37 "AgreedSlots$State" "offered" "[I", .fieldLink RX2 40 "AgreedSlots$State" "toldBallot" "[I", .fieldLink RX2 43 "AgreedSlots$State" "toldValue" "[I", .fieldLink RX2 46 "AgreedSlots$State" "chosenValue" "[I", .fieldLink RX2 49 "AgreedSlots$State" "chosenBallot" "[I"] ++ wsX20)
def wsX0_init : List Cond := .code yX0_init cX0_init 2 none :: ([.methodLink RX0 5 objectInit, .instanceMethod objectInit, .code objectInit ⟨#[0xb1]⟩ 1 none, .classLink RX0 11 RX2, .fieldLink RX0 13 "AgreedSlots$History" "rows" "[LAgreedSlots$State;", .instantiable RX2 16, .initialized RX2, .instanceMethod yX2_init, .code yX2_init cX2_init 1 none, .methodLink RX2 3 objectInit, .fieldLink RX2 9 "AgreedSlots$State" "up" "I", .fieldLink RX2 15 "AgreedSlots$State" "second" "I", .arrayClass .int, .fieldLink RX2 18 "AgreedSlots$State" "promised" "[I", .fieldLink RX2 22 "AgreedSlots$State" "voteBallot" "[I", .fieldLink RX2 25 "AgreedSlots$State" "voteValue" "[I", .fieldLink RX2 28 "AgreedSlots$State" "ballot" "[I", .fieldLink RX2 31 "AgreedSlots$State" "heard" "[I", .fieldLink RX2 34 "AgreedSlots$State" "promisers" "[I", .fieldLink RX2 37 "AgreedSlots$State" "offered" "[I", .fieldLink RX2 40 "AgreedSlots$State" "toldBallot" "[I", .fieldLink RX2 43 "AgreedSlots$State" "toldValue" "[I", .fieldLink RX2 46 "AgreedSlots$State" "chosenValue" "[I", .fieldLink RX2 49 "AgreedSlots$State" "chosenBallot" "[I"] ++ wsX00 ++ wsX20)
def wsX2_copyAll : List Cond := .code yX2_copyAll cX2_copyAll 2 none :: ([.methodLink RX2 65 Lib.Math.min.name, .static Lib.Math.min.name, .initialized "java/lang/Math", .code Lib.Math.min.name Lib.Math.min.code 2 (some .int), .methodLink RX2 71 arraycopyName, .native arraycopyName, .static arraycopyName, .initialized "java/lang/System"])
def wsX2_copy_r1 : List Cond := [Cond.fieldLink RX2 9 "AgreedSlots$State" "up" "I", Cond.fieldLink RX2 15 "AgreedSlots$State" "second" "I", Cond.fieldLink RX2 52 "AgreedSlots$State" "trimmed" "I", Cond.fieldLink RX2 55 "AgreedSlots$State" "refusedPromises" "I", Cond.fieldLink RX2 58 "AgreedSlots$State" "refusedVotes" "I", Cond.fieldLink RX2 18 "AgreedSlots$State" "promised" "[I", Cond.fieldLink RX2 22 "AgreedSlots$State" "voteBallot" "[I", Cond.fieldLink RX2 25 "AgreedSlots$State" "voteValue" "[I", Cond.fieldLink RX2 28 "AgreedSlots$State" "ballot" "[I", Cond.fieldLink RX2 31 "AgreedSlots$State" "heard" "[I", Cond.fieldLink RX2 34 "AgreedSlots$State" "promisers" "[I", Cond.fieldLink RX2 37 "AgreedSlots$State" "offered" "[I", Cond.fieldLink RX2 40 "AgreedSlots$State" "toldBallot" "[I", Cond.fieldLink RX2 43 "AgreedSlots$State" "toldValue" "[I", Cond.fieldLink RX2 46 "AgreedSlots$State" "chosenValue" "[I", Cond.fieldLink RX2 49 "AgreedSlots$State" "chosenBallot" "[I", Cond.methodLink RX2 61 yX2_copyAll, Cond.static yX2_copyAll, Cond.initialized RX2, Cond.code yX2_copyAll cX2_copyAll 2 none, Cond.methodLink RX2 65 Lib.Math.min.name, Cond.static Lib.Math.min.name, Cond.initialized "java/lang/Math", Cond.code Lib.Math.min.name Lib.Math.min.code 2 (some .int)]
def wsX2_copy_r2 : List Cond := [Cond.methodLink RX2 71 arraycopyName, Cond.native arraycopyName, Cond.static arraycopyName, Cond.initialized "java/lang/System"]
def wsX2_copy : List Cond := .code yX2_copy cX2_copy 2 none :: ((wsX2_copy_r1 ++ wsX2_copy_r2) ++ wsX20)
def wsX0_draft_r1 : List Cond := [Cond.fieldLink RX0 13 "AgreedSlots$History" "rows" "[LAgreedSlots$State;", Cond.fieldLink RX0 18 "AgreedSlots$History" "next" "I", Cond.methodLink RX0 22 yX2_copy, Cond.instanceMethod yX2_copy, Cond.selects RX2 yX2_copy yX2_copy, Cond.initialized RX2, Cond.code yX2_copy cX2_copy 2 none, Cond.fieldLink RX2 9 "AgreedSlots$State" "up" "I", Cond.fieldLink RX2 15 "AgreedSlots$State" "second" "I", Cond.fieldLink RX2 52 "AgreedSlots$State" "trimmed" "I", Cond.fieldLink RX2 55 "AgreedSlots$State" "refusedPromises" "I", Cond.fieldLink RX2 58 "AgreedSlots$State" "refusedVotes" "I", Cond.fieldLink RX2 18 "AgreedSlots$State" "promised" "[I", Cond.fieldLink RX2 22 "AgreedSlots$State" "voteBallot" "[I", Cond.fieldLink RX2 25 "AgreedSlots$State" "voteValue" "[I", Cond.fieldLink RX2 28 "AgreedSlots$State" "ballot" "[I", Cond.fieldLink RX2 31 "AgreedSlots$State" "heard" "[I", Cond.fieldLink RX2 34 "AgreedSlots$State" "promisers" "[I", Cond.fieldLink RX2 37 "AgreedSlots$State" "offered" "[I", Cond.fieldLink RX2 40 "AgreedSlots$State" "toldBallot" "[I", Cond.fieldLink RX2 43 "AgreedSlots$State" "toldValue" "[I", Cond.fieldLink RX2 46 "AgreedSlots$State" "chosenValue" "[I", Cond.fieldLink RX2 49 "AgreedSlots$State" "chosenBallot" "[I", Cond.methodLink RX2 61 yX2_copyAll]
def wsX0_draft_r2 : List Cond := [Cond.static yX2_copyAll, Cond.code yX2_copyAll cX2_copyAll 2 none, Cond.methodLink RX2 65 Lib.Math.min.name, Cond.static Lib.Math.min.name, Cond.initialized "java/lang/Math", Cond.code Lib.Math.min.name Lib.Math.min.code 2 (some .int), Cond.methodLink RX2 71 arraycopyName, Cond.native arraycopyName, Cond.static arraycopyName, Cond.initialized "java/lang/System"]
def wsX0_draft : List Cond := .code yX0_draft cX0_draft 2 none :: ((wsX0_draft_r1 ++ wsX0_draft_r2) ++ wsX00 ++ wsX20)
def wsX0_bringBackDraft_r1 : List Cond := [Cond.fieldLink RX0 13 "AgreedSlots$History" "rows" "[LAgreedSlots$State;", Cond.fieldLink RX0 18 "AgreedSlots$History" "next" "I", Cond.methodLink RX0 22 yX2_copy, Cond.instanceMethod yX2_copy, Cond.selects RX2 yX2_copy yX2_copy, Cond.initialized RX2, Cond.code yX2_copy cX2_copy 2 none, Cond.fieldLink RX2 9 "AgreedSlots$State" "up" "I", Cond.fieldLink RX2 15 "AgreedSlots$State" "second" "I", Cond.fieldLink RX2 52 "AgreedSlots$State" "trimmed" "I", Cond.fieldLink RX2 55 "AgreedSlots$State" "refusedPromises" "I", Cond.fieldLink RX2 58 "AgreedSlots$State" "refusedVotes" "I", Cond.fieldLink RX2 18 "AgreedSlots$State" "promised" "[I", Cond.fieldLink RX2 22 "AgreedSlots$State" "voteBallot" "[I", Cond.fieldLink RX2 25 "AgreedSlots$State" "voteValue" "[I", Cond.fieldLink RX2 28 "AgreedSlots$State" "ballot" "[I", Cond.fieldLink RX2 31 "AgreedSlots$State" "heard" "[I", Cond.fieldLink RX2 34 "AgreedSlots$State" "promisers" "[I", Cond.fieldLink RX2 37 "AgreedSlots$State" "offered" "[I", Cond.fieldLink RX2 40 "AgreedSlots$State" "toldBallot" "[I", Cond.fieldLink RX2 43 "AgreedSlots$State" "toldValue" "[I", Cond.fieldLink RX2 46 "AgreedSlots$State" "chosenValue" "[I", Cond.fieldLink RX2 49 "AgreedSlots$State" "chosenBallot" "[I", Cond.methodLink RX2 61 yX2_copyAll]
def wsX0_bringBackDraft_r2 : List Cond := [Cond.static yX2_copyAll, Cond.code yX2_copyAll cX2_copyAll 2 none, Cond.methodLink RX2 65 Lib.Math.min.name, Cond.static Lib.Math.min.name, Cond.initialized "java/lang/Math", Cond.code Lib.Math.min.name Lib.Math.min.code 2 (some .int), Cond.methodLink RX2 71 arraycopyName, Cond.native arraycopyName, Cond.static arraycopyName, Cond.initialized "java/lang/System"]
def wsX0_bringBackDraft : List Cond := .code yX0_bringBackDraft cX0_bringBackDraft 2 none :: ((wsX0_bringBackDraft_r1 ++ wsX0_bringBackDraft_r2) ++ wsX00 ++ wsX20)
def wsX0_commit : List Cond := .code yX0_commit cX0_commit 1 none :: ([.fieldLink RX0 18 "AgreedSlots$History" "next" "I", .fieldLink RX0 26 "AgreedSlots$History" "size" "I", .methodLink RX0 29 Lib.Math.min.name, .static Lib.Math.min.name, .initialized "java/lang/Math", .code Lib.Math.min.name Lib.Math.min.code 2 (some .int)] ++ wsX00)
def wsX0_bringBackLatest_r1 : List Cond := [Cond.fieldLink RX0 26 "AgreedSlots$History" "size" "I", Cond.fieldLink RX0 18 "AgreedSlots$History" "next" "I", Cond.fieldLink RX0 13 "AgreedSlots$History" "rows" "[LAgreedSlots$State;", Cond.methodLink RX0 22 yX2_copy, Cond.instanceMethod yX2_copy, Cond.selects RX2 yX2_copy yX2_copy, Cond.initialized RX2, Cond.code yX2_copy cX2_copy 2 none, Cond.fieldLink RX2 9 "AgreedSlots$State" "up" "I", Cond.fieldLink RX2 15 "AgreedSlots$State" "second" "I", Cond.fieldLink RX2 52 "AgreedSlots$State" "trimmed" "I", Cond.fieldLink RX2 55 "AgreedSlots$State" "refusedPromises" "I", Cond.fieldLink RX2 58 "AgreedSlots$State" "refusedVotes" "I", Cond.fieldLink RX2 18 "AgreedSlots$State" "promised" "[I", Cond.fieldLink RX2 22 "AgreedSlots$State" "voteBallot" "[I", Cond.fieldLink RX2 25 "AgreedSlots$State" "voteValue" "[I", Cond.fieldLink RX2 28 "AgreedSlots$State" "ballot" "[I", Cond.fieldLink RX2 31 "AgreedSlots$State" "heard" "[I", Cond.fieldLink RX2 34 "AgreedSlots$State" "promisers" "[I", Cond.fieldLink RX2 37 "AgreedSlots$State" "offered" "[I", Cond.fieldLink RX2 40 "AgreedSlots$State" "toldBallot" "[I", Cond.fieldLink RX2 43 "AgreedSlots$State" "toldValue" "[I", Cond.fieldLink RX2 46 "AgreedSlots$State" "chosenValue" "[I", Cond.fieldLink RX2 49 "AgreedSlots$State" "chosenBallot" "[I"]
def wsX0_bringBackLatest_r2 : List Cond := [Cond.methodLink RX2 61 yX2_copyAll, Cond.static yX2_copyAll, Cond.code yX2_copyAll cX2_copyAll 2 none, Cond.methodLink RX2 65 Lib.Math.min.name, Cond.static Lib.Math.min.name, Cond.initialized "java/lang/Math", Cond.code Lib.Math.min.name Lib.Math.min.code 2 (some .int), Cond.methodLink RX2 71 arraycopyName, Cond.native arraycopyName, Cond.static arraycopyName, Cond.initialized "java/lang/System"]
def wsX0_bringBackLatest : List Cond := .code yX0_bringBackLatest cX0_bringBackLatest 2 (some .int) :: ((wsX0_bringBackLatest_r1 ++ wsX0_bringBackLatest_r2) ++ wsX00 ++ wsX20)
def wsX1_init : List Cond := .code yX1_init cX1_init 1 none :: ([.methodLink RX1 3 objectInit, .instanceMethod objectInit, .code objectInit ⟨#[0xb1]⟩ 1 none, .arrayClass .int, .fieldLink RX1 11 "AgreedSlots$Orders" "letters" "[I", .fieldLink RX1 15 "AgreedSlots$Orders" "places" "[I", .fieldLink RX1 18 "AgreedSlots$Orders" "numbers" "[I"] ++ wsX10)
def wsX3_signAt : List Cond := .code yX3_signAt cX3_signAt 2 (some .int) :: ([.fieldLink RX3 15 "AgreedSlots$Text" "length" "I", .fieldLink RX3 11 "AgreedSlots$Text" "signs" "[C"] ++ wsX30)
def wsX1_partsOf : List Cond := .code yX1_partsOf cX1_partsOf 1 (some (.object "java/lang/String")) :: ([])
def wsJ0_isEmpty_aae02 : List Cond := .code yJ0_isEmpty_aae02 cJ0_isEmpty_aae02 1 (some .boolean) :: ([.fieldLink RJ0 9 "java/lang/String" "value" "[B"])
def wsJ0_coder_7d493 : List Cond := .code yJ0_coder_7d493 cJ0_coder_7d493 1 (some .byte) :: ([.fieldLink RJ0 38 "java/lang/String" "COMPACT_STRINGS" "Z", .fieldLink RJ0 15 "java/lang/String" "coder" "B"])
def wsJ0_length_8abf5 : List Cond := .code yJ0_length_8abf5 cJ0_length_8abf5 1 (some .int) :: ([.fieldLink RJ0 9 "java/lang/String" "value" "[B", .methodLink RJ0 335 yJ0_coder_7d493, .instanceMethod yJ0_coder_7d493, .selects RJ0 yJ0_coder_7d493 yJ0_coder_7d493, .initialized RJ0, .code yJ0_coder_7d493 cJ0_coder_7d493 1 (some .byte), .fieldLink RJ0 38 "java/lang/String" "COMPACT_STRINGS" "Z", .fieldLink RJ0 15 "java/lang/String" "coder" "B"])
def wsJ0_isLatin1_aae02 : List Cond := .code yJ0_isLatin1_aae02 cJ0_isLatin1_aae02 1 (some .boolean) :: ([.fieldLink RJ0 38 "java/lang/String" "COMPACT_STRINGS" "Z", .fieldLink RJ0 15 "java/lang/String" "coder" "B"])
def wsJ3_checkIndex_8e157 : List Cond := .code yJ3_checkIndex_8e157 cJ3_checkIndex_8e157 3 (some .int) :: ([])
def wsJ0_checkIndex_df160 : List Cond := .code yJ0_checkIndex_df160 cJ0_checkIndex_df160 2 none :: ([.fieldLink RJ0 1053 "jdk/internal/util/Preconditions" "SIOOBE_FORMATTER" "Ljava/util/function/BiFunction;", .methodLink RJ0 1059 yJ3_checkIndex_8e157, .static yJ3_checkIndex_8e157, .initialized RJ3, .code yJ3_checkIndex_8e157 cJ3_checkIndex_8e157 3 (some .int)])
def wsJ1_charAt_3b067 : List Cond := .code yJ1_charAt_3b067 cJ1_charAt_3b067 2 (some .char) :: ([.methodLink RJ1 9 yJ0_checkIndex_df160, .static yJ0_checkIndex_df160, .initialized RJ0, .code yJ0_checkIndex_df160 cJ0_checkIndex_df160 2 none, .fieldLink RJ0 1053 "jdk/internal/util/Preconditions" "SIOOBE_FORMATTER" "Ljava/util/function/BiFunction;", .methodLink RJ0 1059 yJ3_checkIndex_8e157, .static yJ3_checkIndex_8e157, .initialized RJ3, .code yJ3_checkIndex_8e157 cJ3_checkIndex_8e157 3 (some .int)])
def wsJ2_length_9d52b : List Cond := .code yJ2_length_9d52b cJ2_length_9d52b 1 (some .int) :: ([])
def wsJ2_checkIndex_2214a : List Cond := .code yJ2_checkIndex_2214a cJ2_checkIndex_2214a 2 none :: ([.methodLink RJ2 48 yJ2_length_9d52b, .static yJ2_length_9d52b, .initialized RJ2, .code yJ2_length_9d52b cJ2_length_9d52b 1 (some .int), .methodLink RJ2 414 yJ0_checkIndex_df160, .static yJ0_checkIndex_df160, .initialized RJ0, .code yJ0_checkIndex_df160 cJ0_checkIndex_df160 2 none, .fieldLink RJ0 1053 "jdk/internal/util/Preconditions" "SIOOBE_FORMATTER" "Ljava/util/function/BiFunction;", .methodLink RJ0 1059 yJ3_checkIndex_8e157, .static yJ3_checkIndex_8e157, .initialized RJ3, .code yJ3_checkIndex_8e157 cJ3_checkIndex_8e157 3 (some .int)])
def wsJ2_getChar_3b067 : List Cond := .code yJ2_getChar_3b067 cJ2_getChar_3b067 2 (some .char) :: ([.fieldLink RJ2 44 "java/lang/StringUTF16" "$assertionsDisabled" "Z", .fieldLink RJ2 59 "java/lang/StringUTF16" "HI_BYTE_SHIFT" "I", .fieldLink RJ2 63 "java/lang/StringUTF16" "LO_BYTE_SHIFT" "I", .methodLink RJ2 48 yJ2_length_9d52b, .static yJ2_length_9d52b, .initialized RJ2, .code yJ2_length_9d52b cJ2_length_9d52b 1 (some .int)])
def wsJ2_charAt_3b067 : List Cond := .code yJ2_charAt_3b067 cJ2_charAt_3b067 2 (some .char) :: ([.methodLink RJ2 67 yJ2_checkIndex_2214a, .static yJ2_checkIndex_2214a, .initialized RJ2, .code yJ2_checkIndex_2214a cJ2_checkIndex_2214a 2 none, .methodLink RJ2 48 yJ2_length_9d52b, .static yJ2_length_9d52b, .code yJ2_length_9d52b cJ2_length_9d52b 1 (some .int), .methodLink RJ2 414 yJ0_checkIndex_df160, .static yJ0_checkIndex_df160, .initialized RJ0, .code yJ0_checkIndex_df160 cJ0_checkIndex_df160 2 none, .fieldLink RJ0 1053 "jdk/internal/util/Preconditions" "SIOOBE_FORMATTER" "Ljava/util/function/BiFunction;", .methodLink RJ0 1059 yJ3_checkIndex_8e157, .static yJ3_checkIndex_8e157, .initialized RJ3, .code yJ3_checkIndex_8e157 cJ3_checkIndex_8e157 3 (some .int), .methodLink RJ2 71 yJ2_getChar_3b067, .static yJ2_getChar_3b067, .code yJ2_getChar_3b067 cJ2_getChar_3b067 2 (some .char), .fieldLink RJ2 44 "java/lang/StringUTF16" "$assertionsDisabled" "Z", .fieldLink RJ2 59 "java/lang/StringUTF16" "HI_BYTE_SHIFT" "I", .fieldLink RJ2 63 "java/lang/StringUTF16" "LO_BYTE_SHIFT" "I"])
def wsJ0_charAt_5068e_r1 : List Cond := [Cond.fieldLink RJ0 9 "java/lang/String" "value" "[B", Cond.methodLink RJ0 492 yJ0_isLatin1_aae02, Cond.instanceMethod yJ0_isLatin1_aae02, Cond.selects RJ0 yJ0_isLatin1_aae02 yJ0_isLatin1_aae02, Cond.initialized RJ0, Cond.code yJ0_isLatin1_aae02 cJ0_isLatin1_aae02 1 (some .boolean), Cond.fieldLink RJ0 38 "java/lang/String" "COMPACT_STRINGS" "Z", Cond.fieldLink RJ0 15 "java/lang/String" "coder" "B", Cond.methodLink RJ0 495 yJ1_charAt_3b067, Cond.static yJ1_charAt_3b067, Cond.initialized RJ1, Cond.code yJ1_charAt_3b067 cJ1_charAt_3b067 2 (some .char), Cond.methodLink RJ1 9 yJ0_checkIndex_df160, Cond.static yJ0_checkIndex_df160, Cond.code yJ0_checkIndex_df160 cJ0_checkIndex_df160 2 none, Cond.fieldLink RJ0 1053 "jdk/internal/util/Preconditions" "SIOOBE_FORMATTER" "Ljava/util/function/BiFunction;", Cond.methodLink RJ0 1059 yJ3_checkIndex_8e157, Cond.static yJ3_checkIndex_8e157, Cond.initialized RJ3, Cond.code yJ3_checkIndex_8e157 cJ3_checkIndex_8e157 3 (some .int), Cond.methodLink RJ0 498 yJ2_charAt_3b067, Cond.static yJ2_charAt_3b067, Cond.initialized RJ2, Cond.code yJ2_charAt_3b067 cJ2_charAt_3b067 2 (some .char)]
def wsJ0_charAt_5068e_r2 : List Cond := [Cond.methodLink RJ2 67 yJ2_checkIndex_2214a, Cond.static yJ2_checkIndex_2214a, Cond.code yJ2_checkIndex_2214a cJ2_checkIndex_2214a 2 none, Cond.methodLink RJ2 48 yJ2_length_9d52b, Cond.static yJ2_length_9d52b, Cond.code yJ2_length_9d52b cJ2_length_9d52b 1 (some .int), Cond.methodLink RJ2 414 yJ0_checkIndex_df160, Cond.methodLink RJ2 71 yJ2_getChar_3b067, Cond.static yJ2_getChar_3b067, Cond.code yJ2_getChar_3b067 cJ2_getChar_3b067 2 (some .char), Cond.fieldLink RJ2 44 "java/lang/StringUTF16" "$assertionsDisabled" "Z", Cond.fieldLink RJ2 59 "java/lang/StringUTF16" "HI_BYTE_SHIFT" "I", Cond.fieldLink RJ2 63 "java/lang/StringUTF16" "LO_BYTE_SHIFT" "I"]
def wsJ0_charAt_5068e : List Cond := .code yJ0_charAt_5068e cJ0_charAt_5068e 2 (some .char) :: ((wsJ0_charAt_5068e_r1 ++ wsJ0_charAt_5068e_r2))
def wsX1_tell : List Cond := .code yX1_tell cX1_tell 2 none :: ([.fieldLink RX1 83 "AgreedSlots$Orders" "told" "I", .fieldLink RX1 25 "AgreedSlots$Orders" "size" "I", .fieldLink RX1 18 "AgreedSlots$Orders" "numbers" "[I"] ++ wsX10)
def wsX1_readDigit : List Cond := .code yX1_readDigit cX1_readDigit 4 (some .boolean) :: ([.fieldLink RX1 21 "AgreedSlots$Orders" "at" "I", .methodLink RX1 37 yX3_signAt, .instanceMethod yX3_signAt, .selects RX3 yX3_signAt yX3_signAt, .initialized RX3, .code yX3_signAt cX3_signAt 2 (some .int), .fieldLink RX3 15 "AgreedSlots$Text" "length" "I", .fieldLink RX3 11 "AgreedSlots$Text" "signs" "[C", .methodLink RX1 106 yX1_tell, .instanceMethod yX1_tell, .selects RX1 yX1_tell yX1_tell, .initialized RX1, .code yX1_tell cX1_tell 2 none, .fieldLink RX1 83 "AgreedSlots$Orders" "told" "I", .fieldLink RX1 25 "AgreedSlots$Orders" "size" "I", .fieldLink RX1 18 "AgreedSlots$Orders" "numbers" "[I"] ++ wsX10 ++ wsX30)
def wsX1_isDigit : List Cond := .code yX1_isDigit cX1_isDigit 1 (some .boolean) :: ([])
def wsX1_readNumber : List Cond := .code yX1_readNumber cX1_readNumber 4 (some .boolean) :: ([.fieldLink RX1 21 "AgreedSlots$Orders" "at" "I", .methodLink RX1 37 yX3_signAt, .instanceMethod yX3_signAt, .selects RX3 yX3_signAt yX3_signAt, .initialized RX3, .code yX3_signAt cX3_signAt 2 (some .int), .fieldLink RX3 15 "AgreedSlots$Text" "length" "I", .fieldLink RX3 11 "AgreedSlots$Text" "signs" "[C", .methodLink RX1 110 yX1_isDigit, .static yX1_isDigit, .initialized RX1, .code yX1_isDigit cX1_isDigit 1 (some .boolean), .methodLink RX1 106 yX1_tell, .instanceMethod yX1_tell, .selects RX1 yX1_tell yX1_tell, .code yX1_tell cX1_tell 2 none, .fieldLink RX1 83 "AgreedSlots$Orders" "told" "I", .fieldLink RX1 25 "AgreedSlots$Orders" "size" "I", .fieldLink RX1 18 "AgreedSlots$Orders" "numbers" "[I"] ++ wsX10 ++ wsX30)
def wsX1_readComma : List Cond := .code yX1_readComma cX1_readComma 2 (some .boolean) :: ([.fieldLink RX1 21 "AgreedSlots$Orders" "at" "I", .methodLink RX1 37 yX3_signAt, .instanceMethod yX3_signAt, .selects RX3 yX3_signAt yX3_signAt, .initialized RX3, .code yX3_signAt cX3_signAt 2 (some .int), .fieldLink RX3 15 "AgreedSlots$Text" "length" "I", .fieldLink RX3 11 "AgreedSlots$Text" "signs" "[C"] ++ wsX10 ++ wsX30)
def wsX1_readPart_r1 : List Cond := [Cond.methodLink RX1 97 yX1_readDigit, Cond.instanceMethod yX1_readDigit, Cond.selects RX1 yX1_readDigit yX1_readDigit, Cond.initialized RX1, Cond.code yX1_readDigit cX1_readDigit 4 (some .boolean), Cond.fieldLink RX1 21 "AgreedSlots$Orders" "at" "I", Cond.methodLink RX1 37 yX3_signAt, Cond.instanceMethod yX3_signAt, Cond.selects RX3 yX3_signAt yX3_signAt, Cond.initialized RX3, Cond.code yX3_signAt cX3_signAt 2 (some .int), Cond.fieldLink RX3 15 "AgreedSlots$Text" "length" "I", Cond.fieldLink RX3 11 "AgreedSlots$Text" "signs" "[C", Cond.methodLink RX1 106 yX1_tell, Cond.instanceMethod yX1_tell, Cond.selects RX1 yX1_tell yX1_tell, Cond.code yX1_tell cX1_tell 2 none, Cond.fieldLink RX1 83 "AgreedSlots$Orders" "told" "I", Cond.fieldLink RX1 25 "AgreedSlots$Orders" "size" "I", Cond.fieldLink RX1 18 "AgreedSlots$Orders" "numbers" "[I", Cond.methodLink RX1 100 yX1_readNumber, Cond.instanceMethod yX1_readNumber, Cond.selects RX1 yX1_readNumber yX1_readNumber, Cond.code yX1_readNumber cX1_readNumber 4 (some .boolean)]
def wsX1_readPart_r2 : List Cond := [Cond.methodLink RX1 110 yX1_isDigit, Cond.static yX1_isDigit, Cond.code yX1_isDigit cX1_isDigit 1 (some .boolean), Cond.methodLink RX1 103 yX1_readComma, Cond.instanceMethod yX1_readComma, Cond.selects RX1 yX1_readComma yX1_readComma, Cond.code yX1_readComma cX1_readComma 2 (some .boolean)]
def wsX1_readPart : List Cond := .code yX1_readPart cX1_readPart 3 (some .boolean) :: ((wsX1_readPart_r1 ++ wsX1_readPart_r2) ++ wsX10 ++ wsX30)
def wsX1_readOrder_r1 : List Cond := [Cond.fieldLink RX1 21 "AgreedSlots$Orders" "at" "I", Cond.fieldLink RX1 25 "AgreedSlots$Orders" "size" "I", Cond.fieldLink RX1 11 "AgreedSlots$Orders" "letters" "[I", Cond.fieldLink RX1 15 "AgreedSlots$Orders" "places" "[I", Cond.fieldLink RX1 83 "AgreedSlots$Orders" "told" "I", Cond.methodLink RX1 37 yX3_signAt, Cond.instanceMethod yX3_signAt, Cond.selects RX3 yX3_signAt yX3_signAt, Cond.initialized RX3, Cond.code yX3_signAt cX3_signAt 2 (some .int), Cond.fieldLink RX3 15 "AgreedSlots$Text" "length" "I", Cond.fieldLink RX3 11 "AgreedSlots$Text" "signs" "[C", Cond.methodLink RX1 73 yX1_partsOf, Cond.static yX1_partsOf, Cond.initialized RX1, Cond.code yX1_partsOf cX1_partsOf 1 (some (.object "java/lang/String")), Cond.methodLink RX1 77 yJ0_isEmpty_aae02, Cond.instanceMethod yJ0_isEmpty_aae02, Cond.selects RJ0 yJ0_isEmpty_aae02 yJ0_isEmpty_aae02, Cond.initialized RJ0, Cond.code yJ0_isEmpty_aae02 cJ0_isEmpty_aae02 1 (some .boolean), Cond.fieldLink RJ0 9 "java/lang/String" "value" "[B", Cond.methodLink RX1 86 yJ0_length_8abf5, Cond.instanceMethod yJ0_length_8abf5]
def wsX1_readOrder_r2 : List Cond := [Cond.selects RJ0 yJ0_length_8abf5 yJ0_length_8abf5, Cond.code yJ0_length_8abf5 cJ0_length_8abf5 1 (some .int), Cond.methodLink RJ0 335 yJ0_coder_7d493, Cond.instanceMethod yJ0_coder_7d493, Cond.selects RJ0 yJ0_coder_7d493 yJ0_coder_7d493, Cond.code yJ0_coder_7d493 cJ0_coder_7d493 1 (some .byte), Cond.fieldLink RJ0 38 "java/lang/String" "COMPACT_STRINGS" "Z", Cond.fieldLink RJ0 15 "java/lang/String" "coder" "B", Cond.methodLink RX1 89 yJ0_charAt_5068e, Cond.instanceMethod yJ0_charAt_5068e, Cond.selects RJ0 yJ0_charAt_5068e yJ0_charAt_5068e, Cond.code yJ0_charAt_5068e cJ0_charAt_5068e 2 (some .char), Cond.methodLink RJ0 492 yJ0_isLatin1_aae02, Cond.instanceMethod yJ0_isLatin1_aae02, Cond.selects RJ0 yJ0_isLatin1_aae02 yJ0_isLatin1_aae02, Cond.code yJ0_isLatin1_aae02 cJ0_isLatin1_aae02 1 (some .boolean), Cond.methodLink RJ0 495 yJ1_charAt_3b067, Cond.static yJ1_charAt_3b067, Cond.initialized RJ1, Cond.code yJ1_charAt_3b067 cJ1_charAt_3b067 2 (some .char), Cond.methodLink RJ1 9 yJ0_checkIndex_df160, Cond.static yJ0_checkIndex_df160, Cond.code yJ0_checkIndex_df160 cJ0_checkIndex_df160 2 none, Cond.fieldLink RJ0 1053 "jdk/internal/util/Preconditions" "SIOOBE_FORMATTER" "Ljava/util/function/BiFunction;"]
def wsX1_readOrder_r3 : List Cond := [Cond.methodLink RJ0 1059 yJ3_checkIndex_8e157, Cond.static yJ3_checkIndex_8e157, Cond.initialized RJ3, Cond.code yJ3_checkIndex_8e157 cJ3_checkIndex_8e157 3 (some .int), Cond.methodLink RJ0 498 yJ2_charAt_3b067, Cond.static yJ2_charAt_3b067, Cond.initialized RJ2, Cond.code yJ2_charAt_3b067 cJ2_charAt_3b067 2 (some .char), Cond.methodLink RJ2 67 yJ2_checkIndex_2214a, Cond.static yJ2_checkIndex_2214a, Cond.code yJ2_checkIndex_2214a cJ2_checkIndex_2214a 2 none, Cond.methodLink RJ2 48 yJ2_length_9d52b, Cond.static yJ2_length_9d52b, Cond.code yJ2_length_9d52b cJ2_length_9d52b 1 (some .int), Cond.methodLink RJ2 414 yJ0_checkIndex_df160, Cond.methodLink RJ2 71 yJ2_getChar_3b067, Cond.static yJ2_getChar_3b067, Cond.code yJ2_getChar_3b067 cJ2_getChar_3b067 2 (some .char), Cond.fieldLink RJ2 44 "java/lang/StringUTF16" "$assertionsDisabled" "Z", Cond.fieldLink RJ2 59 "java/lang/StringUTF16" "HI_BYTE_SHIFT" "I", Cond.fieldLink RJ2 63 "java/lang/StringUTF16" "LO_BYTE_SHIFT" "I", Cond.methodLink RX1 93 yX1_readPart, Cond.instanceMethod yX1_readPart, Cond.selects RX1 yX1_readPart yX1_readPart]
def wsX1_readOrder_r4 : List Cond := [Cond.code yX1_readPart cX1_readPart 3 (some .boolean), Cond.methodLink RX1 97 yX1_readDigit, Cond.instanceMethod yX1_readDigit, Cond.selects RX1 yX1_readDigit yX1_readDigit, Cond.code yX1_readDigit cX1_readDigit 4 (some .boolean), Cond.methodLink RX1 106 yX1_tell, Cond.instanceMethod yX1_tell, Cond.selects RX1 yX1_tell yX1_tell, Cond.code yX1_tell cX1_tell 2 none, Cond.fieldLink RX1 18 "AgreedSlots$Orders" "numbers" "[I", Cond.methodLink RX1 100 yX1_readNumber, Cond.instanceMethod yX1_readNumber, Cond.selects RX1 yX1_readNumber yX1_readNumber, Cond.code yX1_readNumber cX1_readNumber 4 (some .boolean), Cond.methodLink RX1 110 yX1_isDigit, Cond.static yX1_isDigit, Cond.code yX1_isDigit cX1_isDigit 1 (some .boolean), Cond.methodLink RX1 103 yX1_readComma, Cond.instanceMethod yX1_readComma, Cond.selects RX1 yX1_readComma yX1_readComma, Cond.code yX1_readComma cX1_readComma 2 (some .boolean)]
def wsX1_readOrder : List Cond := .code yX1_readOrder cX1_readOrder 5 (some .boolean) :: ((wsX1_readOrder_r1 ++ (wsX1_readOrder_r2 ++ (wsX1_readOrder_r3 ++ wsX1_readOrder_r4))) ++ wsX10 ++ wsX30)
def wsX1_read_r1 : List Cond := [Cond.fieldLink RX1 21 "AgreedSlots$Orders" "at" "I", Cond.fieldLink RX1 25 "AgreedSlots$Orders" "size" "I", Cond.fieldLink RX1 32 "AgreedSlots$Text" "length" "I", Cond.methodLink RX1 28 yX1_readOrder, Cond.instanceMethod yX1_readOrder, Cond.selects RX1 yX1_readOrder yX1_readOrder, Cond.initialized RX1, Cond.code yX1_readOrder cX1_readOrder 5 (some .boolean), Cond.fieldLink RX1 11 "AgreedSlots$Orders" "letters" "[I", Cond.fieldLink RX1 15 "AgreedSlots$Orders" "places" "[I", Cond.fieldLink RX1 83 "AgreedSlots$Orders" "told" "I", Cond.methodLink RX1 37 yX3_signAt, Cond.instanceMethod yX3_signAt, Cond.selects RX3 yX3_signAt yX3_signAt, Cond.initialized RX3, Cond.code yX3_signAt cX3_signAt 2 (some .int), Cond.fieldLink RX3 15 "AgreedSlots$Text" "length" "I", Cond.fieldLink RX3 11 "AgreedSlots$Text" "signs" "[C", Cond.methodLink RX1 73 yX1_partsOf, Cond.static yX1_partsOf, Cond.code yX1_partsOf cX1_partsOf 1 (some (.object "java/lang/String")), Cond.methodLink RX1 77 yJ0_isEmpty_aae02, Cond.instanceMethod yJ0_isEmpty_aae02, Cond.selects RJ0 yJ0_isEmpty_aae02 yJ0_isEmpty_aae02]
def wsX1_read_r2 : List Cond := [Cond.initialized RJ0, Cond.code yJ0_isEmpty_aae02 cJ0_isEmpty_aae02 1 (some .boolean), Cond.fieldLink RJ0 9 "java/lang/String" "value" "[B", Cond.methodLink RX1 86 yJ0_length_8abf5, Cond.instanceMethod yJ0_length_8abf5, Cond.selects RJ0 yJ0_length_8abf5 yJ0_length_8abf5, Cond.code yJ0_length_8abf5 cJ0_length_8abf5 1 (some .int), Cond.methodLink RJ0 335 yJ0_coder_7d493, Cond.instanceMethod yJ0_coder_7d493, Cond.selects RJ0 yJ0_coder_7d493 yJ0_coder_7d493, Cond.code yJ0_coder_7d493 cJ0_coder_7d493 1 (some .byte), Cond.fieldLink RJ0 38 "java/lang/String" "COMPACT_STRINGS" "Z", Cond.fieldLink RJ0 15 "java/lang/String" "coder" "B", Cond.methodLink RX1 89 yJ0_charAt_5068e, Cond.instanceMethod yJ0_charAt_5068e, Cond.selects RJ0 yJ0_charAt_5068e yJ0_charAt_5068e, Cond.code yJ0_charAt_5068e cJ0_charAt_5068e 2 (some .char), Cond.methodLink RJ0 492 yJ0_isLatin1_aae02, Cond.instanceMethod yJ0_isLatin1_aae02, Cond.selects RJ0 yJ0_isLatin1_aae02 yJ0_isLatin1_aae02, Cond.code yJ0_isLatin1_aae02 cJ0_isLatin1_aae02 1 (some .boolean), Cond.methodLink RJ0 495 yJ1_charAt_3b067, Cond.static yJ1_charAt_3b067, Cond.initialized RJ1]
def wsX1_read_r3 : List Cond := [Cond.code yJ1_charAt_3b067 cJ1_charAt_3b067 2 (some .char), Cond.methodLink RJ1 9 yJ0_checkIndex_df160, Cond.static yJ0_checkIndex_df160, Cond.code yJ0_checkIndex_df160 cJ0_checkIndex_df160 2 none, Cond.fieldLink RJ0 1053 "jdk/internal/util/Preconditions" "SIOOBE_FORMATTER" "Ljava/util/function/BiFunction;", Cond.methodLink RJ0 1059 yJ3_checkIndex_8e157, Cond.static yJ3_checkIndex_8e157, Cond.initialized RJ3, Cond.code yJ3_checkIndex_8e157 cJ3_checkIndex_8e157 3 (some .int), Cond.methodLink RJ0 498 yJ2_charAt_3b067, Cond.static yJ2_charAt_3b067, Cond.initialized RJ2, Cond.code yJ2_charAt_3b067 cJ2_charAt_3b067 2 (some .char), Cond.methodLink RJ2 67 yJ2_checkIndex_2214a, Cond.static yJ2_checkIndex_2214a, Cond.code yJ2_checkIndex_2214a cJ2_checkIndex_2214a 2 none, Cond.methodLink RJ2 48 yJ2_length_9d52b, Cond.static yJ2_length_9d52b, Cond.code yJ2_length_9d52b cJ2_length_9d52b 1 (some .int), Cond.methodLink RJ2 414 yJ0_checkIndex_df160, Cond.methodLink RJ2 71 yJ2_getChar_3b067, Cond.static yJ2_getChar_3b067, Cond.code yJ2_getChar_3b067 cJ2_getChar_3b067 2 (some .char), Cond.fieldLink RJ2 44 "java/lang/StringUTF16" "$assertionsDisabled" "Z"]
def wsX1_read_r4 : List Cond := [Cond.fieldLink RJ2 59 "java/lang/StringUTF16" "HI_BYTE_SHIFT" "I", Cond.fieldLink RJ2 63 "java/lang/StringUTF16" "LO_BYTE_SHIFT" "I", Cond.methodLink RX1 93 yX1_readPart, Cond.instanceMethod yX1_readPart, Cond.selects RX1 yX1_readPart yX1_readPart, Cond.code yX1_readPart cX1_readPart 3 (some .boolean), Cond.methodLink RX1 97 yX1_readDigit, Cond.instanceMethod yX1_readDigit, Cond.selects RX1 yX1_readDigit yX1_readDigit, Cond.code yX1_readDigit cX1_readDigit 4 (some .boolean), Cond.methodLink RX1 106 yX1_tell, Cond.instanceMethod yX1_tell, Cond.selects RX1 yX1_tell yX1_tell, Cond.code yX1_tell cX1_tell 2 none, Cond.fieldLink RX1 18 "AgreedSlots$Orders" "numbers" "[I", Cond.methodLink RX1 100 yX1_readNumber, Cond.instanceMethod yX1_readNumber, Cond.selects RX1 yX1_readNumber yX1_readNumber, Cond.code yX1_readNumber cX1_readNumber 4 (some .boolean), Cond.methodLink RX1 110 yX1_isDigit, Cond.static yX1_isDigit, Cond.code yX1_isDigit cX1_isDigit 1 (some .boolean), Cond.methodLink RX1 103 yX1_readComma, Cond.instanceMethod yX1_readComma]
def wsX1_read_r5 : List Cond := [Cond.selects RX1 yX1_readComma yX1_readComma, Cond.code yX1_readComma cX1_readComma 2 (some .boolean)]
def wsX1_read : List Cond := .code yX1_read cX1_read 2 (some .int) :: ((wsX1_read_r1 ++ (wsX1_read_r2 ++ (wsX1_read_r3 ++ (wsX1_read_r4 ++ wsX1_read_r5)))) ++ wsX10 ++ wsX30)
def wsX1_placeOf : List Cond := .code yX1_placeOf cX1_placeOf 2 (some .int) :: ([.fieldLink RX1 25 "AgreedSlots$Orders" "size" "I", .fieldLink RX1 15 "AgreedSlots$Orders" "places" "[I"] ++ wsX10)
def wsX4_isProposer : List Cond := .code yX4_isProposer cX4_isProposer 1 (some .boolean) :: ([])
def wsX2_nextBallot : List Cond := .code yX2_nextBallot cX2_nextBallot 4 (some .int) :: ([.fieldLink RX2 28 "AgreedSlots$State" "ballot" "[I", .fieldLink RX2 31 "AgreedSlots$State" "heard" "[I", .methodLink RX2 149 Lib.Math.max.name, .static Lib.Math.max.name, .initialized "java/lang/Math", .code Lib.Math.max.name Lib.Math.max.code 2 (some .int)] ++ wsX20)
def wsX4_cell : List Cond := .code yX4_cell cX4_cell 2 (some .int) :: ([])
def wsX2_startBallot : List Cond := .code yX2_startBallot cX2_startBallot 4 (some .int) :: ([.fieldLink RX2 28 "AgreedSlots$State" "ballot" "[I", .fieldLink RX2 34 "AgreedSlots$State" "promisers" "[I", .fieldLink RX2 37 "AgreedSlots$State" "offered" "[I", .static yX4_isProposer, .initialized RX4, .code yX4_isProposer cX4_isProposer 1 (some .boolean), .methodLink RX2 101 yX2_nextBallot, .instanceMethod yX2_nextBallot, .selects RX2 yX2_nextBallot yX2_nextBallot, .initialized RX2, .code yX2_nextBallot cX2_nextBallot 4 (some .int), .fieldLink RX2 31 "AgreedSlots$State" "heard" "[I", .methodLink RX2 149 Lib.Math.max.name, .static Lib.Math.max.name, .initialized "java/lang/Math", .code Lib.Math.max.name Lib.Math.max.code 2 (some .int), .static yX4_cell, .code yX4_cell cX4_cell 2 (some .int)] ++ wsX20)
def wsX4_isAcceptor : List Cond := .code yX4_isAcceptor cX4_isAcceptor 1 (some .boolean) :: ([])
def wsX4_has : List Cond := .code yX4_has cX4_has 2 (some .boolean) :: ([])
def wsX2_refuse : List Cond := .code yX2_refuse cX2_refuse 3 (some .int) :: ([.fieldLink RX2 31 "AgreedSlots$State" "heard" "[I", .fieldLink RX2 18 "AgreedSlots$State" "promised" "[I", .methodLink RX2 149 Lib.Math.max.name, .static Lib.Math.max.name, .initialized "java/lang/Math", .code Lib.Math.max.name Lib.Math.max.code 2 (some .int)] ++ wsX20)
def wsX2_tellVotes : List Cond := .code yX2_tellVotes cX2_tellVotes 5 none :: ([.fieldLink RX2 40 "AgreedSlots$State" "toldBallot" "[I", .fieldLink RX2 22 "AgreedSlots$State" "voteBallot" "[I", .fieldLink RX2 43 "AgreedSlots$State" "toldValue" "[I", .fieldLink RX2 25 "AgreedSlots$State" "voteValue" "[I", .static yX4_cell, .initialized RX4, .code yX4_cell cX4_cell 2 (some .int)] ++ wsX20)
def wsX2_votesOf : List Cond := .code yX2_votesOf cX2_votesOf 5 (some .int) :: ([.fieldLink RX2 22 "AgreedSlots$State" "voteBallot" "[I", .static yX4_cell, .initialized RX4, .code yX4_cell cX4_cell 2 (some .int)] ++ wsX20)
def wsX2_askPromise_r1 : List Cond := [Cond.fieldLink RX2 28 "AgreedSlots$State" "ballot" "[I", Cond.fieldLink RX2 9 "AgreedSlots$State" "up" "I", Cond.fieldLink RX2 34 "AgreedSlots$State" "promisers" "[I", Cond.fieldLink RX2 18 "AgreedSlots$State" "promised" "[I", Cond.fieldLink RX2 55 "AgreedSlots$State" "refusedPromises" "I", Cond.static yX4_isProposer, Cond.initialized RX4, Cond.code yX4_isProposer cX4_isProposer 1 (some .boolean), Cond.static yX4_isAcceptor, Cond.code yX4_isAcceptor cX4_isAcceptor 1 (some .boolean), Cond.static yX4_has, Cond.code yX4_has cX4_has 2 (some .boolean), Cond.methodLink RX2 107 yX2_refuse, Cond.instanceMethod yX2_refuse, Cond.selects RX2 yX2_refuse yX2_refuse, Cond.initialized RX2, Cond.code yX2_refuse cX2_refuse 3 (some .int), Cond.fieldLink RX2 31 "AgreedSlots$State" "heard" "[I", Cond.methodLink RX2 149 Lib.Math.max.name, Cond.static Lib.Math.max.name, Cond.initialized "java/lang/Math", Cond.code Lib.Math.max.name Lib.Math.max.code 2 (some .int), Cond.methodLink RX2 110 yX2_tellVotes, Cond.instanceMethod yX2_tellVotes]
def wsX2_askPromise_r2 : List Cond := [Cond.selects RX2 yX2_tellVotes yX2_tellVotes, Cond.code yX2_tellVotes cX2_tellVotes 5 none, Cond.fieldLink RX2 40 "AgreedSlots$State" "toldBallot" "[I", Cond.fieldLink RX2 22 "AgreedSlots$State" "voteBallot" "[I", Cond.fieldLink RX2 43 "AgreedSlots$State" "toldValue" "[I", Cond.fieldLink RX2 25 "AgreedSlots$State" "voteValue" "[I", Cond.static yX4_cell, Cond.code yX4_cell cX4_cell 2 (some .int), Cond.methodLink RX2 114 yX2_votesOf, Cond.instanceMethod yX2_votesOf, Cond.selects RX2 yX2_votesOf yX2_votesOf, Cond.code yX2_votesOf cX2_votesOf 5 (some .int)]
def wsX2_askPromise : List Cond := .code yX2_askPromise cX2_askPromise 3 (some .int) :: ((wsX2_askPromise_r1 ++ wsX2_askPromise_r2) ++ wsX20)
def wsX4_isSlot : List Cond := .code yX4_isSlot cX4_isSlot 1 (some .boolean) :: ([])
def wsX4_isValue : List Cond := .code yX4_isValue cX4_isValue 3 (some .boolean) :: ([])
def wsX2_prefix : List Cond := .code yX2_prefix cX2_prefix 2 (some .int) :: ([.fieldLink RX2 46 "AgreedSlots$State" "chosenValue" "[I"] ++ wsX20)
def wsX2_isOpen : List Cond := .code yX2_isOpen cX2_isOpen 2 (some .boolean) :: ([.methodLink RX2 142 yX2_prefix, .instanceMethod yX2_prefix, .selects RX2 yX2_prefix yX2_prefix, .initialized RX2, .code yX2_prefix cX2_prefix 2 (some .int), .fieldLink RX2 46 "AgreedSlots$State" "chosenValue" "[I"] ++ wsX20)
def wsX2_votersOf : List Cond := .code yX2_votersOf cX2_votersOf 4 (some .int) :: ([.fieldLink RX2 46 "AgreedSlots$State" "chosenValue" "[I"] ++ wsX20)
def wsJ6_bitCount_0f7a4 : List Cond := .code yJ6_bitCount_0f7a4 cJ6_bitCount_0f7a4 1 (some .int) :: ([.constant RJ6 265 (1431655765), .constant RJ6 266 (858993459), .constant RJ6 267 (252645135)])
def wsX2_secondSize : List Cond := .code yX2_secondSize cX2_secondSize 2 (some .int) :: ([.fieldLink RX2 15 "AgreedSlots$State" "second" "I", .methodLink RX2 65 Lib.Math.min.name, .static Lib.Math.min.name, .initialized "java/lang/Math", .code Lib.Math.min.name Lib.Math.min.code 2 (some .int), .methodLink RX2 85 yJ6_bitCount_0f7a4, .static yJ6_bitCount_0f7a4, .initialized RJ6, .code yJ6_bitCount_0f7a4 cJ6_bitCount_0f7a4 1 (some .int), .constant RJ6 265 (1431655765), .constant RJ6 266 (858993459), .constant RJ6 267 (252645135)] ++ wsX20)
def wsX2_firstSize : List Cond := .code yX2_firstSize cX2_firstSize 2 (some .int) :: ([.methodLink RX2 85 yJ6_bitCount_0f7a4, .static yJ6_bitCount_0f7a4, .initialized RJ6, .code yJ6_bitCount_0f7a4 cJ6_bitCount_0f7a4 1 (some .int), .constant RJ6 265 (1431655765), .constant RJ6 266 (858993459), .constant RJ6 267 (252645135), .methodLink RX2 139 yX2_secondSize, .instanceMethod yX2_secondSize, .selects RX2 yX2_secondSize yX2_secondSize, .initialized RX2, .code yX2_secondSize cX2_secondSize 2 (some .int), .fieldLink RX2 15 "AgreedSlots$State" "second" "I", .methodLink RX2 65 Lib.Math.min.name, .static Lib.Math.min.name, .initialized "java/lang/Math", .code Lib.Math.min.name Lib.Math.min.code 2 (some .int)] ++ wsX20)
def wsX2_promisesMissing_r1 : List Cond := [Cond.fieldLink RX2 34 "AgreedSlots$State" "promisers" "[I", Cond.methodLink RX2 149 Lib.Math.max.name, Cond.static Lib.Math.max.name, Cond.initialized "java/lang/Math", Cond.code Lib.Math.max.name Lib.Math.max.code 2 (some .int), Cond.methodLink RX2 136 yX2_votersOf, Cond.instanceMethod yX2_votersOf, Cond.selects RX2 yX2_votersOf yX2_votersOf, Cond.initialized RX2, Cond.code yX2_votersOf cX2_votersOf 4 (some .int), Cond.fieldLink RX2 46 "AgreedSlots$State" "chosenValue" "[I", Cond.methodLink RX2 152 yX2_firstSize, Cond.instanceMethod yX2_firstSize, Cond.selects RX2 yX2_firstSize yX2_firstSize, Cond.code yX2_firstSize cX2_firstSize 2 (some .int), Cond.methodLink RX2 85 yJ6_bitCount_0f7a4, Cond.static yJ6_bitCount_0f7a4, Cond.initialized RJ6, Cond.code yJ6_bitCount_0f7a4 cJ6_bitCount_0f7a4 1 (some .int), Cond.constant RJ6 265 (1431655765), Cond.constant RJ6 266 (858993459), Cond.constant RJ6 267 (252645135), Cond.methodLink RX2 139 yX2_secondSize, Cond.instanceMethod yX2_secondSize]
def wsX2_promisesMissing_r2 : List Cond := [Cond.selects RX2 yX2_secondSize yX2_secondSize, Cond.code yX2_secondSize cX2_secondSize 2 (some .int), Cond.fieldLink RX2 15 "AgreedSlots$State" "second" "I", Cond.methodLink RX2 65 Lib.Math.min.name, Cond.static Lib.Math.min.name, Cond.code Lib.Math.min.name Lib.Math.min.code 2 (some .int)]
def wsX2_promisesMissing : List Cond := .code yX2_promisesMissing cX2_promisesMissing 4 (some .int) :: ((wsX2_promisesMissing_r1 ++ wsX2_promisesMissing_r2) ++ wsX20)
def wsX2_mayOffer_r1 : List Cond := [Cond.fieldLink RX2 28 "AgreedSlots$State" "ballot" "[I", Cond.fieldLink RX2 52 "AgreedSlots$State" "trimmed" "I", Cond.fieldLink RX2 37 "AgreedSlots$State" "offered" "[I", Cond.methodLink RX2 155 yX2_isOpen, Cond.instanceMethod yX2_isOpen, Cond.selects RX2 yX2_isOpen yX2_isOpen, Cond.initialized RX2, Cond.code yX2_isOpen cX2_isOpen 2 (some .boolean), Cond.methodLink RX2 142 yX2_prefix, Cond.instanceMethod yX2_prefix, Cond.selects RX2 yX2_prefix yX2_prefix, Cond.code yX2_prefix cX2_prefix 2 (some .int), Cond.fieldLink RX2 46 "AgreedSlots$State" "chosenValue" "[I", Cond.methodLink RX2 158 yX2_promisesMissing, Cond.instanceMethod yX2_promisesMissing, Cond.selects RX2 yX2_promisesMissing yX2_promisesMissing, Cond.code yX2_promisesMissing cX2_promisesMissing 4 (some .int), Cond.fieldLink RX2 34 "AgreedSlots$State" "promisers" "[I", Cond.methodLink RX2 149 Lib.Math.max.name, Cond.static Lib.Math.max.name, Cond.initialized "java/lang/Math", Cond.code Lib.Math.max.name Lib.Math.max.code 2 (some .int), Cond.methodLink RX2 136 yX2_votersOf, Cond.instanceMethod yX2_votersOf]
def wsX2_mayOffer_r2 : List Cond := [Cond.selects RX2 yX2_votersOf yX2_votersOf, Cond.code yX2_votersOf cX2_votersOf 4 (some .int), Cond.methodLink RX2 152 yX2_firstSize, Cond.instanceMethod yX2_firstSize, Cond.selects RX2 yX2_firstSize yX2_firstSize, Cond.code yX2_firstSize cX2_firstSize 2 (some .int), Cond.methodLink RX2 85 yJ6_bitCount_0f7a4, Cond.static yJ6_bitCount_0f7a4, Cond.initialized RJ6, Cond.code yJ6_bitCount_0f7a4 cJ6_bitCount_0f7a4 1 (some .int), Cond.constant RJ6 265 (1431655765), Cond.constant RJ6 266 (858993459), Cond.constant RJ6 267 (252645135), Cond.methodLink RX2 139 yX2_secondSize, Cond.instanceMethod yX2_secondSize, Cond.selects RX2 yX2_secondSize yX2_secondSize, Cond.code yX2_secondSize cX2_secondSize 2 (some .int), Cond.fieldLink RX2 15 "AgreedSlots$State" "second" "I", Cond.methodLink RX2 65 Lib.Math.min.name, Cond.static Lib.Math.min.name, Cond.code Lib.Math.min.name Lib.Math.min.code 2 (some .int), Cond.static yX4_cell, Cond.initialized RX4, Cond.code yX4_cell cX4_cell 2 (some .int)]
def wsX2_mayOffer : List Cond := .code yX2_mayOffer cX2_mayOffer 3 (some .boolean) :: ((wsX2_mayOffer_r1 ++ wsX2_mayOffer_r2) ++ wsX20)
def wsX2_boundValue : List Cond := .code yX2_boundValue cX2_boundValue 8 (some .int) :: ([.fieldLink RX2 34 "AgreedSlots$State" "promisers" "[I", .fieldLink RX2 40 "AgreedSlots$State" "toldBallot" "[I", .fieldLink RX2 43 "AgreedSlots$State" "toldValue" "[I", .methodLink RX2 136 yX2_votersOf, .instanceMethod yX2_votersOf, .selects RX2 yX2_votersOf yX2_votersOf, .initialized RX2, .code yX2_votersOf cX2_votersOf 4 (some .int), .fieldLink RX2 46 "AgreedSlots$State" "chosenValue" "[I", .static yX4_cell, .initialized RX4, .code yX4_cell cX4_cell 2 (some .int), .static yX4_has, .code yX4_has cX4_has 2 (some .boolean)] ++ wsX20)
def wsX2_offerValue_r1 : List Cond := [Cond.fieldLink RX2 37 "AgreedSlots$State" "offered" "[I", Cond.static yX4_isProposer, Cond.initialized RX4, Cond.code yX4_isProposer cX4_isProposer 1 (some .boolean), Cond.static yX4_isSlot, Cond.code yX4_isSlot cX4_isSlot 1 (some .boolean), Cond.static yX4_isValue, Cond.code yX4_isValue cX4_isValue 3 (some .boolean), Cond.methodLink RX2 123 yX2_mayOffer, Cond.instanceMethod yX2_mayOffer, Cond.selects RX2 yX2_mayOffer yX2_mayOffer, Cond.initialized RX2, Cond.code yX2_mayOffer cX2_mayOffer 3 (some .boolean), Cond.fieldLink RX2 28 "AgreedSlots$State" "ballot" "[I", Cond.fieldLink RX2 52 "AgreedSlots$State" "trimmed" "I", Cond.methodLink RX2 155 yX2_isOpen, Cond.instanceMethod yX2_isOpen, Cond.selects RX2 yX2_isOpen yX2_isOpen, Cond.code yX2_isOpen cX2_isOpen 2 (some .boolean), Cond.methodLink RX2 142 yX2_prefix, Cond.instanceMethod yX2_prefix, Cond.selects RX2 yX2_prefix yX2_prefix, Cond.code yX2_prefix cX2_prefix 2 (some .int), Cond.fieldLink RX2 46 "AgreedSlots$State" "chosenValue" "[I"]
def wsX2_offerValue_r2 : List Cond := [Cond.methodLink RX2 158 yX2_promisesMissing, Cond.instanceMethod yX2_promisesMissing, Cond.selects RX2 yX2_promisesMissing yX2_promisesMissing, Cond.code yX2_promisesMissing cX2_promisesMissing 4 (some .int), Cond.fieldLink RX2 34 "AgreedSlots$State" "promisers" "[I", Cond.methodLink RX2 149 Lib.Math.max.name, Cond.static Lib.Math.max.name, Cond.initialized "java/lang/Math", Cond.code Lib.Math.max.name Lib.Math.max.code 2 (some .int), Cond.methodLink RX2 136 yX2_votersOf, Cond.instanceMethod yX2_votersOf, Cond.selects RX2 yX2_votersOf yX2_votersOf, Cond.code yX2_votersOf cX2_votersOf 4 (some .int), Cond.methodLink RX2 152 yX2_firstSize, Cond.instanceMethod yX2_firstSize, Cond.selects RX2 yX2_firstSize yX2_firstSize, Cond.code yX2_firstSize cX2_firstSize 2 (some .int), Cond.methodLink RX2 85 yJ6_bitCount_0f7a4, Cond.static yJ6_bitCount_0f7a4, Cond.initialized RJ6, Cond.code yJ6_bitCount_0f7a4 cJ6_bitCount_0f7a4 1 (some .int), Cond.constant RJ6 265 (1431655765), Cond.constant RJ6 266 (858993459), Cond.constant RJ6 267 (252645135)]
def wsX2_offerValue_r3 : List Cond := [Cond.methodLink RX2 139 yX2_secondSize, Cond.instanceMethod yX2_secondSize, Cond.selects RX2 yX2_secondSize yX2_secondSize, Cond.code yX2_secondSize cX2_secondSize 2 (some .int), Cond.fieldLink RX2 15 "AgreedSlots$State" "second" "I", Cond.methodLink RX2 65 Lib.Math.min.name, Cond.static Lib.Math.min.name, Cond.code Lib.Math.min.name Lib.Math.min.code 2 (some .int), Cond.static yX4_cell, Cond.code yX4_cell cX4_cell 2 (some .int), Cond.methodLink RX2 126 yX2_boundValue, Cond.instanceMethod yX2_boundValue, Cond.selects RX2 yX2_boundValue yX2_boundValue, Cond.code yX2_boundValue cX2_boundValue 8 (some .int), Cond.fieldLink RX2 40 "AgreedSlots$State" "toldBallot" "[I", Cond.fieldLink RX2 43 "AgreedSlots$State" "toldValue" "[I", Cond.static yX4_has, Cond.code yX4_has cX4_has 2 (some .boolean)]
def wsX2_offerValue : List Cond := .code yX2_offerValue cX2_offerValue 6 (some .int) :: ((wsX2_offerValue_r1 ++ (wsX2_offerValue_r2 ++ wsX2_offerValue_r3)) ++ wsX20)
def wsX2_mayAskVote : List Cond := .code yX2_mayAskVote cX2_mayAskVote 4 (some .boolean) :: ([.fieldLink RX2 37 "AgreedSlots$State" "offered" "[I", .fieldLink RX2 52 "AgreedSlots$State" "trimmed" "I", .fieldLink RX2 9 "AgreedSlots$State" "up" "I", .static yX4_cell, .initialized RX4, .code yX4_cell cX4_cell 2 (some .int), .static yX4_has, .code yX4_has cX4_has 2 (some .boolean), .methodLink RX2 136 yX2_votersOf, .instanceMethod yX2_votersOf, .selects RX2 yX2_votersOf yX2_votersOf, .initialized RX2, .code yX2_votersOf cX2_votersOf 4 (some .int), .fieldLink RX2 46 "AgreedSlots$State" "chosenValue" "[I"] ++ wsX20)
def wsX2_votersFor : List Cond := .code yX2_votersFor cX2_votersFor 6 (some .int) :: ([.fieldLink RX2 22 "AgreedSlots$State" "voteBallot" "[I", .methodLink RX2 136 yX2_votersOf, .instanceMethod yX2_votersOf, .selects RX2 yX2_votersOf yX2_votersOf, .initialized RX2, .code yX2_votersOf cX2_votersOf 4 (some .int), .fieldLink RX2 46 "AgreedSlots$State" "chosenValue" "[I", .static yX4_has, .initialized RX4, .code yX4_has cX4_has 2 (some .boolean), .static yX4_cell, .code yX4_cell cX4_cell 2 (some .int)] ++ wsX20)
def wsX2_askVote_r1 : List Cond := [Cond.fieldLink RX2 22 "AgreedSlots$State" "voteBallot" "[I", Cond.fieldLink RX2 28 "AgreedSlots$State" "ballot" "[I", Cond.fieldLink RX2 18 "AgreedSlots$State" "promised" "[I", Cond.fieldLink RX2 58 "AgreedSlots$State" "refusedVotes" "I", Cond.fieldLink RX2 25 "AgreedSlots$State" "voteValue" "[I", Cond.fieldLink RX2 37 "AgreedSlots$State" "offered" "[I", Cond.fieldLink RX2 46 "AgreedSlots$State" "chosenValue" "[I", Cond.fieldLink RX2 49 "AgreedSlots$State" "chosenBallot" "[I", Cond.static yX4_isProposer, Cond.initialized RX4, Cond.code yX4_isProposer cX4_isProposer 1 (some .boolean), Cond.static yX4_isSlot, Cond.code yX4_isSlot cX4_isSlot 1 (some .boolean), Cond.static yX4_isAcceptor, Cond.code yX4_isAcceptor cX4_isAcceptor 1 (some .boolean), Cond.methodLink RX2 129 yX2_mayAskVote, Cond.instanceMethod yX2_mayAskVote, Cond.selects RX2 yX2_mayAskVote yX2_mayAskVote, Cond.initialized RX2, Cond.code yX2_mayAskVote cX2_mayAskVote 4 (some .boolean), Cond.fieldLink RX2 52 "AgreedSlots$State" "trimmed" "I", Cond.fieldLink RX2 9 "AgreedSlots$State" "up" "I", Cond.static yX4_cell, Cond.code yX4_cell cX4_cell 2 (some .int)]
def wsX2_askVote_r2 : List Cond := [Cond.static yX4_has, Cond.code yX4_has cX4_has 2 (some .boolean), Cond.methodLink RX2 136 yX2_votersOf, Cond.instanceMethod yX2_votersOf, Cond.selects RX2 yX2_votersOf yX2_votersOf, Cond.code yX2_votersOf cX2_votersOf 4 (some .int), Cond.methodLink RX2 107 yX2_refuse, Cond.instanceMethod yX2_refuse, Cond.selects RX2 yX2_refuse yX2_refuse, Cond.code yX2_refuse cX2_refuse 3 (some .int), Cond.fieldLink RX2 31 "AgreedSlots$State" "heard" "[I", Cond.methodLink RX2 149 Lib.Math.max.name, Cond.static Lib.Math.max.name, Cond.initialized "java/lang/Math", Cond.code Lib.Math.max.name Lib.Math.max.code 2 (some .int), Cond.methodLink RX2 133 yX2_votersFor, Cond.instanceMethod yX2_votersFor, Cond.selects RX2 yX2_votersFor yX2_votersFor, Cond.code yX2_votersFor cX2_votersFor 6 (some .int), Cond.methodLink RX2 85 yJ6_bitCount_0f7a4, Cond.static yJ6_bitCount_0f7a4, Cond.initialized RJ6, Cond.code yJ6_bitCount_0f7a4 cJ6_bitCount_0f7a4 1 (some .int), Cond.constant RJ6 265 (1431655765)]
def wsX2_askVote_r3 : List Cond := [Cond.constant RJ6 266 (858993459), Cond.constant RJ6 267 (252645135), Cond.methodLink RX2 139 yX2_secondSize, Cond.instanceMethod yX2_secondSize, Cond.selects RX2 yX2_secondSize yX2_secondSize, Cond.code yX2_secondSize cX2_secondSize 2 (some .int), Cond.fieldLink RX2 15 "AgreedSlots$State" "second" "I", Cond.methodLink RX2 65 Lib.Math.min.name, Cond.static Lib.Math.min.name, Cond.code Lib.Math.min.name Lib.Math.min.code 2 (some .int)]
def wsX2_askVote : List Cond := .code yX2_askVote cX2_askVote 6 (some .int) :: ((wsX2_askVote_r1 ++ (wsX2_askVote_r2 ++ wsX2_askVote_r3)) ++ wsX20)
def wsX2_turn : List Cond := .code yX2_turn cX2_turn 3 (some .int) :: ([.fieldLink RX2 9 "AgreedSlots$State" "up" "I", .static yX4_isAcceptor, .initialized RX4, .code yX4_isAcceptor cX4_isAcceptor 1 (some .boolean), .static yX4_has, .code yX4_has cX4_has 2 (some .boolean), .methodLink RX2 85 yJ6_bitCount_0f7a4, .static yJ6_bitCount_0f7a4, .initialized RJ6, .code yJ6_bitCount_0f7a4 cJ6_bitCount_0f7a4 1 (some .int), .constant RJ6 265 (1431655765), .constant RJ6 266 (858993459), .constant RJ6 267 (252645135)] ++ wsX20)
def wsX1_carryOut_r1 : List Cond := [Cond.fieldLink RX1 25 "AgreedSlots$Orders" "size" "I", Cond.fieldLink RX1 18 "AgreedSlots$Orders" "numbers" "[I", Cond.fieldLink RX1 11 "AgreedSlots$Orders" "letters" "[I", Cond.methodLink RX1 41 yX2_startBallot, Cond.instanceMethod yX2_startBallot, Cond.selects RX2 yX2_startBallot yX2_startBallot, Cond.initialized RX2, Cond.code yX2_startBallot cX2_startBallot 4 (some .int), Cond.fieldLink RX2 28 "AgreedSlots$State" "ballot" "[I", Cond.fieldLink RX2 34 "AgreedSlots$State" "promisers" "[I", Cond.fieldLink RX2 37 "AgreedSlots$State" "offered" "[I", Cond.static yX4_isProposer, Cond.initialized RX4, Cond.code yX4_isProposer cX4_isProposer 1 (some .boolean), Cond.methodLink RX2 101 yX2_nextBallot, Cond.instanceMethod yX2_nextBallot, Cond.selects RX2 yX2_nextBallot yX2_nextBallot, Cond.code yX2_nextBallot cX2_nextBallot 4 (some .int), Cond.fieldLink RX2 31 "AgreedSlots$State" "heard" "[I", Cond.methodLink RX2 149 Lib.Math.max.name, Cond.static Lib.Math.max.name, Cond.initialized "java/lang/Math", Cond.code Lib.Math.max.name Lib.Math.max.code 2 (some .int), Cond.static yX4_cell]
def wsX1_carryOut_r2 : List Cond := [Cond.code yX4_cell cX4_cell 2 (some .int), Cond.methodLink RX1 46 yX2_askPromise, Cond.instanceMethod yX2_askPromise, Cond.selects RX2 yX2_askPromise yX2_askPromise, Cond.code yX2_askPromise cX2_askPromise 3 (some .int), Cond.fieldLink RX2 9 "AgreedSlots$State" "up" "I", Cond.fieldLink RX2 18 "AgreedSlots$State" "promised" "[I", Cond.fieldLink RX2 55 "AgreedSlots$State" "refusedPromises" "I", Cond.static yX4_isAcceptor, Cond.code yX4_isAcceptor cX4_isAcceptor 1 (some .boolean), Cond.static yX4_has, Cond.code yX4_has cX4_has 2 (some .boolean), Cond.methodLink RX2 107 yX2_refuse, Cond.instanceMethod yX2_refuse, Cond.selects RX2 yX2_refuse yX2_refuse, Cond.code yX2_refuse cX2_refuse 3 (some .int), Cond.methodLink RX2 110 yX2_tellVotes, Cond.instanceMethod yX2_tellVotes, Cond.selects RX2 yX2_tellVotes yX2_tellVotes, Cond.code yX2_tellVotes cX2_tellVotes 5 none, Cond.fieldLink RX2 40 "AgreedSlots$State" "toldBallot" "[I", Cond.fieldLink RX2 22 "AgreedSlots$State" "voteBallot" "[I", Cond.fieldLink RX2 43 "AgreedSlots$State" "toldValue" "[I", Cond.fieldLink RX2 25 "AgreedSlots$State" "voteValue" "[I"]
def wsX1_carryOut_r3 : List Cond := [Cond.methodLink RX2 114 yX2_votesOf, Cond.instanceMethod yX2_votesOf, Cond.selects RX2 yX2_votesOf yX2_votesOf, Cond.code yX2_votesOf cX2_votesOf 5 (some .int), Cond.methodLink RX1 50 yX2_offerValue, Cond.instanceMethod yX2_offerValue, Cond.selects RX2 yX2_offerValue yX2_offerValue, Cond.code yX2_offerValue cX2_offerValue 6 (some .int), Cond.static yX4_isSlot, Cond.code yX4_isSlot cX4_isSlot 1 (some .boolean), Cond.static yX4_isValue, Cond.code yX4_isValue cX4_isValue 3 (some .boolean), Cond.methodLink RX2 123 yX2_mayOffer, Cond.instanceMethod yX2_mayOffer, Cond.selects RX2 yX2_mayOffer yX2_mayOffer, Cond.code yX2_mayOffer cX2_mayOffer 3 (some .boolean), Cond.fieldLink RX2 52 "AgreedSlots$State" "trimmed" "I", Cond.methodLink RX2 155 yX2_isOpen, Cond.instanceMethod yX2_isOpen, Cond.selects RX2 yX2_isOpen yX2_isOpen, Cond.code yX2_isOpen cX2_isOpen 2 (some .boolean), Cond.methodLink RX2 142 yX2_prefix, Cond.instanceMethod yX2_prefix, Cond.selects RX2 yX2_prefix yX2_prefix]
def wsX1_carryOut_r4 : List Cond := [Cond.code yX2_prefix cX2_prefix 2 (some .int), Cond.fieldLink RX2 46 "AgreedSlots$State" "chosenValue" "[I", Cond.methodLink RX2 158 yX2_promisesMissing, Cond.instanceMethod yX2_promisesMissing, Cond.selects RX2 yX2_promisesMissing yX2_promisesMissing, Cond.code yX2_promisesMissing cX2_promisesMissing 4 (some .int), Cond.methodLink RX2 136 yX2_votersOf, Cond.instanceMethod yX2_votersOf, Cond.selects RX2 yX2_votersOf yX2_votersOf, Cond.code yX2_votersOf cX2_votersOf 4 (some .int), Cond.methodLink RX2 152 yX2_firstSize, Cond.instanceMethod yX2_firstSize, Cond.selects RX2 yX2_firstSize yX2_firstSize, Cond.code yX2_firstSize cX2_firstSize 2 (some .int), Cond.methodLink RX2 85 yJ6_bitCount_0f7a4, Cond.static yJ6_bitCount_0f7a4, Cond.initialized RJ6, Cond.code yJ6_bitCount_0f7a4 cJ6_bitCount_0f7a4 1 (some .int), Cond.constant RJ6 265 (1431655765), Cond.constant RJ6 266 (858993459), Cond.constant RJ6 267 (252645135), Cond.methodLink RX2 139 yX2_secondSize, Cond.instanceMethod yX2_secondSize, Cond.selects RX2 yX2_secondSize yX2_secondSize]
def wsX1_carryOut_r5 : List Cond := [Cond.code yX2_secondSize cX2_secondSize 2 (some .int), Cond.fieldLink RX2 15 "AgreedSlots$State" "second" "I", Cond.methodLink RX2 65 Lib.Math.min.name, Cond.static Lib.Math.min.name, Cond.code Lib.Math.min.name Lib.Math.min.code 2 (some .int), Cond.methodLink RX2 126 yX2_boundValue, Cond.instanceMethod yX2_boundValue, Cond.selects RX2 yX2_boundValue yX2_boundValue, Cond.code yX2_boundValue cX2_boundValue 8 (some .int), Cond.methodLink RX1 54 yX2_askVote, Cond.instanceMethod yX2_askVote, Cond.selects RX2 yX2_askVote yX2_askVote, Cond.code yX2_askVote cX2_askVote 6 (some .int), Cond.fieldLink RX2 58 "AgreedSlots$State" "refusedVotes" "I", Cond.fieldLink RX2 49 "AgreedSlots$State" "chosenBallot" "[I", Cond.methodLink RX2 129 yX2_mayAskVote, Cond.instanceMethod yX2_mayAskVote, Cond.selects RX2 yX2_mayAskVote yX2_mayAskVote, Cond.code yX2_mayAskVote cX2_mayAskVote 4 (some .boolean), Cond.methodLink RX2 133 yX2_votersFor, Cond.instanceMethod yX2_votersFor, Cond.selects RX2 yX2_votersFor yX2_votersFor, Cond.code yX2_votersFor cX2_votersFor 6 (some .int), Cond.methodLink RX1 57 yX2_turn]
def wsX1_carryOut_r6 : List Cond := [Cond.instanceMethod yX2_turn, Cond.selects RX2 yX2_turn yX2_turn, Cond.code yX2_turn cX2_turn 3 (some .int)]
def wsX1_carryOut : List Cond := .code yX1_carryOut cX1_carryOut 6 (some .int) :: ((wsX1_carryOut_r1 ++ (wsX1_carryOut_r2 ++ (wsX1_carryOut_r3 ++ (wsX1_carryOut_r4 ++ (wsX1_carryOut_r5 ++ wsX1_carryOut_r6))))) ++ wsX10 ++ wsX20)
def wsX4_isSize : List Cond := .code yX4_isSize cX4_isSize 1 (some .boolean) :: ([])
def wsX2_anyBallot : List Cond := .code yX2_anyBallot cX2_anyBallot 2 (some .boolean) :: ([.fieldLink RX2 28 "AgreedSlots$State" "ballot" "[I"] ++ wsX20)
def wsX2_resizeSecond : List Cond := .code yX2_resizeSecond cX2_resizeSecond 3 (some .int) :: ([.fieldLink RX2 15 "AgreedSlots$State" "second" "I", .static yX4_isSize, .initialized RX4, .code yX4_isSize cX4_isSize 1 (some .boolean), .methodLink RX2 94 yX2_anyBallot, .instanceMethod yX2_anyBallot, .selects RX2 yX2_anyBallot yX2_anyBallot, .initialized RX2, .code yX2_anyBallot cX2_anyBallot 2 (some .boolean), .fieldLink RX2 28 "AgreedSlots$State" "ballot" "[I"] ++ wsX20)
def wsX2_forgetVotes : List Cond := .code yX2_forgetVotes cX2_forgetVotes 4 none :: ([.fieldLink RX2 22 "AgreedSlots$State" "voteBallot" "[I", .fieldLink RX2 25 "AgreedSlots$State" "voteValue" "[I", .static yX4_cell, .initialized RX4, .code yX4_cell cX4_cell 2 (some .int)] ++ wsX20)
def wsX2_forgetUpTo : List Cond := .code yX2_forgetUpTo cX2_forgetUpTo 4 (some .int) :: ([.fieldLink RX2 52 "AgreedSlots$State" "trimmed" "I", .static yX4_isSlot, .initialized RX4, .code yX4_isSlot cX4_isSlot 1 (some .boolean), .methodLink RX2 142 yX2_prefix, .instanceMethod yX2_prefix, .selects RX2 yX2_prefix yX2_prefix, .initialized RX2, .code yX2_prefix cX2_prefix 2 (some .int), .fieldLink RX2 46 "AgreedSlots$State" "chosenValue" "[I", .methodLink RX2 114 yX2_votesOf, .instanceMethod yX2_votesOf, .selects RX2 yX2_votesOf yX2_votesOf, .code yX2_votesOf cX2_votesOf 5 (some .int), .fieldLink RX2 22 "AgreedSlots$State" "voteBallot" "[I", .static yX4_cell, .code yX4_cell cX4_cell 2 (some .int), .methodLink RX2 146 yX2_forgetVotes, .instanceMethod yX2_forgetVotes, .selects RX2 yX2_forgetVotes yX2_forgetVotes, .code yX2_forgetVotes cX2_forgetVotes 4 none, .fieldLink RX2 25 "AgreedSlots$State" "voteValue" "[I"] ++ wsX20)
def wsX2_chosenAbove : List Cond := .code yX2_chosenAbove cX2_chosenAbove 4 (some .int) :: ([.fieldLink RX2 46 "AgreedSlots$State" "chosenValue" "[I"] ++ wsX20)
def wsX2_couldChoose_r1 : List Cond := [Cond.fieldLink RX2 18 "AgreedSlots$State" "promised" "[I", Cond.methodLink RX2 136 yX2_votersOf, Cond.instanceMethod yX2_votersOf, Cond.selects RX2 yX2_votersOf yX2_votersOf, Cond.initialized RX2, Cond.code yX2_votersOf cX2_votersOf 4 (some .int), Cond.fieldLink RX2 46 "AgreedSlots$State" "chosenValue" "[I", Cond.methodLink RX2 133 yX2_votersFor, Cond.instanceMethod yX2_votersFor, Cond.selects RX2 yX2_votersFor yX2_votersFor, Cond.code yX2_votersFor cX2_votersFor 6 (some .int), Cond.fieldLink RX2 22 "AgreedSlots$State" "voteBallot" "[I", Cond.static yX4_has, Cond.initialized RX4, Cond.code yX4_has cX4_has 2 (some .boolean), Cond.static yX4_cell, Cond.code yX4_cell cX4_cell 2 (some .int), Cond.methodLink RX2 85 yJ6_bitCount_0f7a4, Cond.static yJ6_bitCount_0f7a4, Cond.initialized RJ6, Cond.code yJ6_bitCount_0f7a4 cJ6_bitCount_0f7a4 1 (some .int), Cond.constant RJ6 265 (1431655765), Cond.constant RJ6 266 (858993459), Cond.constant RJ6 267 (252645135)]
def wsX2_couldChoose_r2 : List Cond := [Cond.methodLink RX2 139 yX2_secondSize, Cond.instanceMethod yX2_secondSize, Cond.selects RX2 yX2_secondSize yX2_secondSize, Cond.code yX2_secondSize cX2_secondSize 2 (some .int), Cond.fieldLink RX2 15 "AgreedSlots$State" "second" "I", Cond.methodLink RX2 65 Lib.Math.min.name, Cond.static Lib.Math.min.name, Cond.initialized "java/lang/Math", Cond.code Lib.Math.min.name Lib.Math.min.code 2 (some .int)]
def wsX2_couldChoose : List Cond := .code yX2_couldChoose cX2_couldChoose 6 (some .boolean) :: ((wsX2_couldChoose_r1 ++ wsX2_couldChoose_r2) ++ wsX20)
def wsX2_offersOf : List Cond := .code yX2_offersOf cX2_offersOf 4 (some .int) :: ([.fieldLink RX2 37 "AgreedSlots$State" "offered" "[I", .static yX4_cell, .initialized RX4, .code yX4_cell cX4_cell 2 (some .int)] ++ wsX20)
def wsX3_init : List Cond := .code yX3_init cX3_init 1 none :: ([.methodLink RX3 3 objectInit, .instanceMethod objectInit, .code objectInit ⟨#[0xb1]⟩ 1 none, .arrayClass .char, .fieldLink RX3 11 "AgreedSlots$Text" "signs" "[C"] ++ wsX30)
def wsX3_append : List Cond := .code yX3_append cX3_append 2 (some .int) :: ([.fieldLink RX3 15 "AgreedSlots$Text" "length" "I", .fieldLink RX3 11 "AgreedSlots$Text" "signs" "[C"] ++ wsX30)
def wsX3_empty : List Cond := .code yX3_empty cX3_empty 2 (some .int) :: ([.fieldLink RX3 15 "AgreedSlots$Text" "length" "I"] ++ wsX30)
def wsX4_init_r1 : List Cond := [Cond.methodLink RX4 1 objectInit, Cond.instanceMethod objectInit, Cond.code objectInit ⟨#[0xb1]⟩ 1 none, Cond.classLink RX4 7 RX2, Cond.instantiable RX2 16, Cond.initialized RX2, Cond.fieldLink RX4 10 "AgreedSlots" "now" "LAgreedSlots$State;", Cond.fieldLink RX4 16 "AgreedSlots" "snapshot" "LAgreedSlots$State;", Cond.classLink RX4 19 RX0, Cond.instantiable RX0 3, Cond.initialized RX0, Cond.fieldLink RX4 22 "AgreedSlots" "history" "LAgreedSlots$History;", Cond.classLink RX4 26 RX3, Cond.instantiable RX3 2, Cond.initialized RX3, Cond.fieldLink RX4 29 "AgreedSlots" "text" "LAgreedSlots$Text;", Cond.classLink RX4 33 RX1, Cond.instantiable RX1 6, Cond.initialized RX1, Cond.fieldLink RX4 36 "AgreedSlots" "orders" "LAgreedSlots$Orders;", Cond.instanceMethod yX2_init, Cond.code yX2_init cX2_init 1 none, Cond.methodLink RX2 3 objectInit, Cond.fieldLink RX2 9 "AgreedSlots$State" "up" "I"]
def wsX4_init_r2 : List Cond := [Cond.fieldLink RX2 15 "AgreedSlots$State" "second" "I", Cond.arrayClass .int, Cond.fieldLink RX2 18 "AgreedSlots$State" "promised" "[I", Cond.fieldLink RX2 22 "AgreedSlots$State" "voteBallot" "[I", Cond.fieldLink RX2 25 "AgreedSlots$State" "voteValue" "[I", Cond.fieldLink RX2 28 "AgreedSlots$State" "ballot" "[I", Cond.fieldLink RX2 31 "AgreedSlots$State" "heard" "[I", Cond.fieldLink RX2 34 "AgreedSlots$State" "promisers" "[I", Cond.fieldLink RX2 37 "AgreedSlots$State" "offered" "[I", Cond.fieldLink RX2 40 "AgreedSlots$State" "toldBallot" "[I", Cond.fieldLink RX2 43 "AgreedSlots$State" "toldValue" "[I", Cond.fieldLink RX2 46 "AgreedSlots$State" "chosenValue" "[I", Cond.fieldLink RX2 49 "AgreedSlots$State" "chosenBallot" "[I", Cond.methodLink RX4 21 yX0_init, Cond.instanceMethod yX0_init, Cond.code yX0_init cX0_init 2 none, Cond.methodLink RX0 5 objectInit, Cond.classLink RX0 11 RX2, Cond.fieldLink RX0 13 "AgreedSlots$History" "rows" "[LAgreedSlots$State;", Cond.instanceMethod yX3_init, Cond.code yX3_init cX3_init 1 none, Cond.methodLink RX3 3 objectInit, Cond.arrayClass .char, Cond.fieldLink RX3 11 "AgreedSlots$Text" "signs" "[C"]
def wsX4_init_r3 : List Cond := [Cond.instanceMethod yX1_init, Cond.code yX1_init cX1_init 1 none, Cond.methodLink RX1 3 objectInit, Cond.fieldLink RX1 11 "AgreedSlots$Orders" "letters" "[I", Cond.fieldLink RX1 15 "AgreedSlots$Orders" "places" "[I", Cond.fieldLink RX1 18 "AgreedSlots$Orders" "numbers" "[I"]
def wsX4_init : List Cond := .code yX4_init cX4_init 1 none :: ((wsX4_init_r1 ++ (wsX4_init_r2 ++ wsX4_init_r3)) ++ wsX20 ++ wsX40 ++ wsX00 ++ wsX30 ++ wsX10)
def wsX4_settled : List Cond := .code yX4_settled cX4_settled 2 (some .int) :: ([.fieldLink RX4 22 "AgreedSlots" "history" "LAgreedSlots$History;", .methodLink RX4 103 yX0_commit, .instanceMethod yX0_commit, .selects RX0 yX0_commit yX0_commit, .initialized RX0, .code yX0_commit cX0_commit 1 none, .fieldLink RX0 18 "AgreedSlots$History" "next" "I", .fieldLink RX0 26 "AgreedSlots$History" "size" "I", .methodLink RX0 29 Lib.Math.min.name, .static Lib.Math.min.name, .initialized "java/lang/Math", .code Lib.Math.min.name Lib.Math.min.code 2 (some .int)] ++ wsX40 ++ wsX00)
def wsX4_setUp_r1 : List Cond := [Cond.fieldLink RX4 22 "AgreedSlots" "history" "LAgreedSlots$History;", Cond.fieldLink RX4 10 "AgreedSlots" "now" "LAgreedSlots$State;", Cond.methodLink RX4 40 yX0_draft, Cond.instanceMethod yX0_draft, Cond.selects RX0 yX0_draft yX0_draft, Cond.initialized RX0, Cond.code yX0_draft cX0_draft 2 none, Cond.fieldLink RX0 13 "AgreedSlots$History" "rows" "[LAgreedSlots$State;", Cond.fieldLink RX0 18 "AgreedSlots$History" "next" "I", Cond.methodLink RX0 22 yX2_copy, Cond.instanceMethod yX2_copy, Cond.selects RX2 yX2_copy yX2_copy, Cond.initialized RX2, Cond.code yX2_copy cX2_copy 2 none, Cond.fieldLink RX2 9 "AgreedSlots$State" "up" "I", Cond.fieldLink RX2 15 "AgreedSlots$State" "second" "I", Cond.fieldLink RX2 52 "AgreedSlots$State" "trimmed" "I", Cond.fieldLink RX2 55 "AgreedSlots$State" "refusedPromises" "I", Cond.fieldLink RX2 58 "AgreedSlots$State" "refusedVotes" "I", Cond.fieldLink RX2 18 "AgreedSlots$State" "promised" "[I", Cond.fieldLink RX2 22 "AgreedSlots$State" "voteBallot" "[I", Cond.fieldLink RX2 25 "AgreedSlots$State" "voteValue" "[I", Cond.fieldLink RX2 28 "AgreedSlots$State" "ballot" "[I", Cond.fieldLink RX2 31 "AgreedSlots$State" "heard" "[I"]
def wsX4_setUp_r2 : List Cond := [Cond.fieldLink RX2 34 "AgreedSlots$State" "promisers" "[I", Cond.fieldLink RX2 37 "AgreedSlots$State" "offered" "[I", Cond.fieldLink RX2 40 "AgreedSlots$State" "toldBallot" "[I", Cond.fieldLink RX2 43 "AgreedSlots$State" "toldValue" "[I", Cond.fieldLink RX2 46 "AgreedSlots$State" "chosenValue" "[I", Cond.fieldLink RX2 49 "AgreedSlots$State" "chosenBallot" "[I", Cond.methodLink RX2 61 yX2_copyAll, Cond.static yX2_copyAll, Cond.code yX2_copyAll cX2_copyAll 2 none, Cond.methodLink RX2 65 Lib.Math.min.name, Cond.static Lib.Math.min.name, Cond.initialized "java/lang/Math", Cond.code Lib.Math.min.name Lib.Math.min.code 2 (some .int), Cond.methodLink RX2 71 arraycopyName, Cond.native arraycopyName, Cond.static arraycopyName, Cond.initialized "java/lang/System", Cond.methodLink RX4 44 yX2_turn, Cond.instanceMethod yX2_turn, Cond.selects RX2 yX2_turn yX2_turn, Cond.code yX2_turn cX2_turn 3 (some .int), Cond.static yX4_isAcceptor, Cond.initialized RX4, Cond.code yX4_isAcceptor cX4_isAcceptor 1 (some .boolean)]
def wsX4_setUp_r3 : List Cond := [Cond.static yX4_has, Cond.code yX4_has cX4_has 2 (some .boolean), Cond.methodLink RX2 85 yJ6_bitCount_0f7a4, Cond.static yJ6_bitCount_0f7a4, Cond.initialized RJ6, Cond.code yJ6_bitCount_0f7a4 cJ6_bitCount_0f7a4 1 (some .int), Cond.constant RJ6 265 (1431655765), Cond.constant RJ6 266 (858993459), Cond.constant RJ6 267 (252645135), Cond.methodLink RX4 48 yX4_settled, Cond.instanceMethod yX4_settled, Cond.selects RX4 yX4_settled yX4_settled, Cond.code yX4_settled cX4_settled 2 (some .int), Cond.methodLink RX4 103 yX0_commit, Cond.instanceMethod yX0_commit, Cond.selects RX0 yX0_commit yX0_commit, Cond.code yX0_commit cX0_commit 1 none, Cond.fieldLink RX0 26 "AgreedSlots$History" "size" "I", Cond.methodLink RX0 29 Lib.Math.min.name]
def wsX4_setUp : List Cond := .code yX4_setUp cX4_setUp 3 (some .int) :: ((wsX4_setUp_r1 ++ (wsX4_setUp_r2 ++ wsX4_setUp_r3)) ++ wsX40 ++ wsX00 ++ wsX20)
def wsX4_setSecond_r1 : List Cond := [Cond.fieldLink RX4 22 "AgreedSlots" "history" "LAgreedSlots$History;", Cond.fieldLink RX4 10 "AgreedSlots" "now" "LAgreedSlots$State;", Cond.methodLink RX4 40 yX0_draft, Cond.instanceMethod yX0_draft, Cond.selects RX0 yX0_draft yX0_draft, Cond.initialized RX0, Cond.code yX0_draft cX0_draft 2 none, Cond.fieldLink RX0 13 "AgreedSlots$History" "rows" "[LAgreedSlots$State;", Cond.fieldLink RX0 18 "AgreedSlots$History" "next" "I", Cond.methodLink RX0 22 yX2_copy, Cond.instanceMethod yX2_copy, Cond.selects RX2 yX2_copy yX2_copy, Cond.initialized RX2, Cond.code yX2_copy cX2_copy 2 none, Cond.fieldLink RX2 9 "AgreedSlots$State" "up" "I", Cond.fieldLink RX2 15 "AgreedSlots$State" "second" "I", Cond.fieldLink RX2 52 "AgreedSlots$State" "trimmed" "I", Cond.fieldLink RX2 55 "AgreedSlots$State" "refusedPromises" "I", Cond.fieldLink RX2 58 "AgreedSlots$State" "refusedVotes" "I", Cond.fieldLink RX2 18 "AgreedSlots$State" "promised" "[I", Cond.fieldLink RX2 22 "AgreedSlots$State" "voteBallot" "[I", Cond.fieldLink RX2 25 "AgreedSlots$State" "voteValue" "[I", Cond.fieldLink RX2 28 "AgreedSlots$State" "ballot" "[I", Cond.fieldLink RX2 31 "AgreedSlots$State" "heard" "[I"]
def wsX4_setSecond_r2 : List Cond := [Cond.fieldLink RX2 34 "AgreedSlots$State" "promisers" "[I", Cond.fieldLink RX2 37 "AgreedSlots$State" "offered" "[I", Cond.fieldLink RX2 40 "AgreedSlots$State" "toldBallot" "[I", Cond.fieldLink RX2 43 "AgreedSlots$State" "toldValue" "[I", Cond.fieldLink RX2 46 "AgreedSlots$State" "chosenValue" "[I", Cond.fieldLink RX2 49 "AgreedSlots$State" "chosenBallot" "[I", Cond.methodLink RX2 61 yX2_copyAll, Cond.static yX2_copyAll, Cond.code yX2_copyAll cX2_copyAll 2 none, Cond.methodLink RX2 65 Lib.Math.min.name, Cond.static Lib.Math.min.name, Cond.initialized "java/lang/Math", Cond.code Lib.Math.min.name Lib.Math.min.code 2 (some .int), Cond.methodLink RX2 71 arraycopyName, Cond.native arraycopyName, Cond.static arraycopyName, Cond.initialized "java/lang/System", Cond.methodLink RX4 52 yX2_resizeSecond, Cond.instanceMethod yX2_resizeSecond, Cond.selects RX2 yX2_resizeSecond yX2_resizeSecond, Cond.code yX2_resizeSecond cX2_resizeSecond 3 (some .int), Cond.static yX4_isSize, Cond.initialized RX4, Cond.code yX4_isSize cX4_isSize 1 (some .boolean)]
def wsX4_setSecond_r3 : List Cond := [Cond.methodLink RX2 94 yX2_anyBallot, Cond.instanceMethod yX2_anyBallot, Cond.selects RX2 yX2_anyBallot yX2_anyBallot, Cond.code yX2_anyBallot cX2_anyBallot 2 (some .boolean), Cond.methodLink RX4 48 yX4_settled, Cond.instanceMethod yX4_settled, Cond.selects RX4 yX4_settled yX4_settled, Cond.code yX4_settled cX4_settled 2 (some .int), Cond.methodLink RX4 103 yX0_commit, Cond.instanceMethod yX0_commit, Cond.selects RX0 yX0_commit yX0_commit, Cond.code yX0_commit cX0_commit 1 none, Cond.fieldLink RX0 26 "AgreedSlots$History" "size" "I", Cond.methodLink RX0 29 Lib.Math.min.name]
def wsX4_setSecond : List Cond := .code yX4_setSecond cX4_setSecond 2 (some .int) :: ((wsX4_setSecond_r1 ++ (wsX4_setSecond_r2 ++ wsX4_setSecond_r3)) ++ wsX40 ++ wsX00 ++ wsX20)
def wsX4_prepare_r1 : List Cond := [Cond.fieldLink RX4 22 "AgreedSlots" "history" "LAgreedSlots$History;", Cond.fieldLink RX4 10 "AgreedSlots" "now" "LAgreedSlots$State;", Cond.methodLink RX4 40 yX0_draft, Cond.instanceMethod yX0_draft, Cond.selects RX0 yX0_draft yX0_draft, Cond.initialized RX0, Cond.code yX0_draft cX0_draft 2 none, Cond.fieldLink RX0 13 "AgreedSlots$History" "rows" "[LAgreedSlots$State;", Cond.fieldLink RX0 18 "AgreedSlots$History" "next" "I", Cond.methodLink RX0 22 yX2_copy, Cond.instanceMethod yX2_copy, Cond.selects RX2 yX2_copy yX2_copy, Cond.initialized RX2, Cond.code yX2_copy cX2_copy 2 none, Cond.fieldLink RX2 9 "AgreedSlots$State" "up" "I", Cond.fieldLink RX2 15 "AgreedSlots$State" "second" "I", Cond.fieldLink RX2 52 "AgreedSlots$State" "trimmed" "I", Cond.fieldLink RX2 55 "AgreedSlots$State" "refusedPromises" "I", Cond.fieldLink RX2 58 "AgreedSlots$State" "refusedVotes" "I", Cond.fieldLink RX2 18 "AgreedSlots$State" "promised" "[I", Cond.fieldLink RX2 22 "AgreedSlots$State" "voteBallot" "[I", Cond.fieldLink RX2 25 "AgreedSlots$State" "voteValue" "[I", Cond.fieldLink RX2 28 "AgreedSlots$State" "ballot" "[I", Cond.fieldLink RX2 31 "AgreedSlots$State" "heard" "[I"]
def wsX4_prepare_r2 : List Cond := [Cond.fieldLink RX2 34 "AgreedSlots$State" "promisers" "[I", Cond.fieldLink RX2 37 "AgreedSlots$State" "offered" "[I", Cond.fieldLink RX2 40 "AgreedSlots$State" "toldBallot" "[I", Cond.fieldLink RX2 43 "AgreedSlots$State" "toldValue" "[I", Cond.fieldLink RX2 46 "AgreedSlots$State" "chosenValue" "[I", Cond.fieldLink RX2 49 "AgreedSlots$State" "chosenBallot" "[I", Cond.methodLink RX2 61 yX2_copyAll, Cond.static yX2_copyAll, Cond.code yX2_copyAll cX2_copyAll 2 none, Cond.methodLink RX2 65 Lib.Math.min.name, Cond.static Lib.Math.min.name, Cond.initialized "java/lang/Math", Cond.code Lib.Math.min.name Lib.Math.min.code 2 (some .int), Cond.methodLink RX2 71 arraycopyName, Cond.native arraycopyName, Cond.static arraycopyName, Cond.initialized "java/lang/System", Cond.methodLink RX4 55 yX2_startBallot, Cond.instanceMethod yX2_startBallot, Cond.selects RX2 yX2_startBallot yX2_startBallot, Cond.code yX2_startBallot cX2_startBallot 4 (some .int), Cond.static yX4_isProposer, Cond.initialized RX4, Cond.code yX4_isProposer cX4_isProposer 1 (some .boolean)]
def wsX4_prepare_r3 : List Cond := [Cond.methodLink RX2 101 yX2_nextBallot, Cond.instanceMethod yX2_nextBallot, Cond.selects RX2 yX2_nextBallot yX2_nextBallot, Cond.code yX2_nextBallot cX2_nextBallot 4 (some .int), Cond.methodLink RX2 149 Lib.Math.max.name, Cond.static Lib.Math.max.name, Cond.code Lib.Math.max.name Lib.Math.max.code 2 (some .int), Cond.static yX4_cell, Cond.code yX4_cell cX4_cell 2 (some .int), Cond.methodLink RX4 48 yX4_settled, Cond.instanceMethod yX4_settled, Cond.selects RX4 yX4_settled yX4_settled, Cond.code yX4_settled cX4_settled 2 (some .int), Cond.methodLink RX4 103 yX0_commit, Cond.instanceMethod yX0_commit, Cond.selects RX0 yX0_commit yX0_commit, Cond.code yX0_commit cX0_commit 1 none, Cond.fieldLink RX0 26 "AgreedSlots$History" "size" "I", Cond.methodLink RX0 29 Lib.Math.min.name]
def wsX4_prepare : List Cond := .code yX4_prepare cX4_prepare 2 (some .int) :: ((wsX4_prepare_r1 ++ (wsX4_prepare_r2 ++ wsX4_prepare_r3)) ++ wsX40 ++ wsX00 ++ wsX20)
def wsX4_promise_r1 : List Cond := [Cond.fieldLink RX4 22 "AgreedSlots" "history" "LAgreedSlots$History;", Cond.fieldLink RX4 10 "AgreedSlots" "now" "LAgreedSlots$State;", Cond.methodLink RX4 40 yX0_draft, Cond.instanceMethod yX0_draft, Cond.selects RX0 yX0_draft yX0_draft, Cond.initialized RX0, Cond.code yX0_draft cX0_draft 2 none, Cond.fieldLink RX0 13 "AgreedSlots$History" "rows" "[LAgreedSlots$State;", Cond.fieldLink RX0 18 "AgreedSlots$History" "next" "I", Cond.methodLink RX0 22 yX2_copy, Cond.instanceMethod yX2_copy, Cond.selects RX2 yX2_copy yX2_copy, Cond.initialized RX2, Cond.code yX2_copy cX2_copy 2 none, Cond.fieldLink RX2 9 "AgreedSlots$State" "up" "I", Cond.fieldLink RX2 15 "AgreedSlots$State" "second" "I", Cond.fieldLink RX2 52 "AgreedSlots$State" "trimmed" "I", Cond.fieldLink RX2 55 "AgreedSlots$State" "refusedPromises" "I", Cond.fieldLink RX2 58 "AgreedSlots$State" "refusedVotes" "I", Cond.fieldLink RX2 18 "AgreedSlots$State" "promised" "[I", Cond.fieldLink RX2 22 "AgreedSlots$State" "voteBallot" "[I", Cond.fieldLink RX2 25 "AgreedSlots$State" "voteValue" "[I", Cond.fieldLink RX2 28 "AgreedSlots$State" "ballot" "[I", Cond.fieldLink RX2 31 "AgreedSlots$State" "heard" "[I"]
def wsX4_promise_r2 : List Cond := [Cond.fieldLink RX2 34 "AgreedSlots$State" "promisers" "[I", Cond.fieldLink RX2 37 "AgreedSlots$State" "offered" "[I", Cond.fieldLink RX2 40 "AgreedSlots$State" "toldBallot" "[I", Cond.fieldLink RX2 43 "AgreedSlots$State" "toldValue" "[I", Cond.fieldLink RX2 46 "AgreedSlots$State" "chosenValue" "[I", Cond.fieldLink RX2 49 "AgreedSlots$State" "chosenBallot" "[I", Cond.methodLink RX2 61 yX2_copyAll, Cond.static yX2_copyAll, Cond.code yX2_copyAll cX2_copyAll 2 none, Cond.methodLink RX2 65 Lib.Math.min.name, Cond.static Lib.Math.min.name, Cond.initialized "java/lang/Math", Cond.code Lib.Math.min.name Lib.Math.min.code 2 (some .int), Cond.methodLink RX2 71 arraycopyName, Cond.native arraycopyName, Cond.static arraycopyName, Cond.initialized "java/lang/System", Cond.methodLink RX4 58 yX2_askPromise, Cond.instanceMethod yX2_askPromise, Cond.selects RX2 yX2_askPromise yX2_askPromise, Cond.code yX2_askPromise cX2_askPromise 3 (some .int), Cond.static yX4_isProposer, Cond.initialized RX4, Cond.code yX4_isProposer cX4_isProposer 1 (some .boolean)]
def wsX4_promise_r3 : List Cond := [Cond.static yX4_isAcceptor, Cond.code yX4_isAcceptor cX4_isAcceptor 1 (some .boolean), Cond.static yX4_has, Cond.code yX4_has cX4_has 2 (some .boolean), Cond.methodLink RX2 107 yX2_refuse, Cond.instanceMethod yX2_refuse, Cond.selects RX2 yX2_refuse yX2_refuse, Cond.code yX2_refuse cX2_refuse 3 (some .int), Cond.methodLink RX2 149 Lib.Math.max.name, Cond.static Lib.Math.max.name, Cond.code Lib.Math.max.name Lib.Math.max.code 2 (some .int), Cond.methodLink RX2 110 yX2_tellVotes, Cond.instanceMethod yX2_tellVotes, Cond.selects RX2 yX2_tellVotes yX2_tellVotes, Cond.code yX2_tellVotes cX2_tellVotes 5 none, Cond.static yX4_cell, Cond.code yX4_cell cX4_cell 2 (some .int), Cond.methodLink RX2 114 yX2_votesOf, Cond.instanceMethod yX2_votesOf, Cond.selects RX2 yX2_votesOf yX2_votesOf, Cond.code yX2_votesOf cX2_votesOf 5 (some .int), Cond.methodLink RX4 48 yX4_settled, Cond.instanceMethod yX4_settled, Cond.selects RX4 yX4_settled yX4_settled]
def wsX4_promise_r4 : List Cond := [Cond.code yX4_settled cX4_settled 2 (some .int), Cond.methodLink RX4 103 yX0_commit, Cond.instanceMethod yX0_commit, Cond.selects RX0 yX0_commit yX0_commit, Cond.code yX0_commit cX0_commit 1 none, Cond.fieldLink RX0 26 "AgreedSlots$History" "size" "I", Cond.methodLink RX0 29 Lib.Math.min.name]
def wsX4_promise : List Cond := .code yX4_promise cX4_promise 3 (some .int) :: ((wsX4_promise_r1 ++ (wsX4_promise_r2 ++ (wsX4_promise_r3 ++ wsX4_promise_r4))) ++ wsX40 ++ wsX00 ++ wsX20)
def wsX4_propose_r1 : List Cond := [Cond.fieldLink RX4 22 "AgreedSlots" "history" "LAgreedSlots$History;", Cond.fieldLink RX4 10 "AgreedSlots" "now" "LAgreedSlots$State;", Cond.methodLink RX4 40 yX0_draft, Cond.instanceMethod yX0_draft, Cond.selects RX0 yX0_draft yX0_draft, Cond.initialized RX0, Cond.code yX0_draft cX0_draft 2 none, Cond.fieldLink RX0 13 "AgreedSlots$History" "rows" "[LAgreedSlots$State;", Cond.fieldLink RX0 18 "AgreedSlots$History" "next" "I", Cond.methodLink RX0 22 yX2_copy, Cond.instanceMethod yX2_copy, Cond.selects RX2 yX2_copy yX2_copy, Cond.initialized RX2, Cond.code yX2_copy cX2_copy 2 none, Cond.fieldLink RX2 9 "AgreedSlots$State" "up" "I", Cond.fieldLink RX2 15 "AgreedSlots$State" "second" "I", Cond.fieldLink RX2 52 "AgreedSlots$State" "trimmed" "I", Cond.fieldLink RX2 55 "AgreedSlots$State" "refusedPromises" "I", Cond.fieldLink RX2 58 "AgreedSlots$State" "refusedVotes" "I", Cond.fieldLink RX2 18 "AgreedSlots$State" "promised" "[I", Cond.fieldLink RX2 22 "AgreedSlots$State" "voteBallot" "[I", Cond.fieldLink RX2 25 "AgreedSlots$State" "voteValue" "[I", Cond.fieldLink RX2 28 "AgreedSlots$State" "ballot" "[I", Cond.fieldLink RX2 31 "AgreedSlots$State" "heard" "[I"]
def wsX4_propose_r2 : List Cond := [Cond.fieldLink RX2 34 "AgreedSlots$State" "promisers" "[I", Cond.fieldLink RX2 37 "AgreedSlots$State" "offered" "[I", Cond.fieldLink RX2 40 "AgreedSlots$State" "toldBallot" "[I", Cond.fieldLink RX2 43 "AgreedSlots$State" "toldValue" "[I", Cond.fieldLink RX2 46 "AgreedSlots$State" "chosenValue" "[I", Cond.fieldLink RX2 49 "AgreedSlots$State" "chosenBallot" "[I", Cond.methodLink RX2 61 yX2_copyAll, Cond.static yX2_copyAll, Cond.code yX2_copyAll cX2_copyAll 2 none, Cond.methodLink RX2 65 Lib.Math.min.name, Cond.static Lib.Math.min.name, Cond.initialized "java/lang/Math", Cond.code Lib.Math.min.name Lib.Math.min.code 2 (some .int), Cond.methodLink RX2 71 arraycopyName, Cond.native arraycopyName, Cond.static arraycopyName, Cond.initialized "java/lang/System", Cond.methodLink RX4 62 yX2_offerValue, Cond.instanceMethod yX2_offerValue, Cond.selects RX2 yX2_offerValue yX2_offerValue, Cond.code yX2_offerValue cX2_offerValue 6 (some .int), Cond.static yX4_isProposer, Cond.initialized RX4, Cond.code yX4_isProposer cX4_isProposer 1 (some .boolean)]
def wsX4_propose_r3 : List Cond := [Cond.static yX4_isSlot, Cond.code yX4_isSlot cX4_isSlot 1 (some .boolean), Cond.static yX4_isValue, Cond.code yX4_isValue cX4_isValue 3 (some .boolean), Cond.methodLink RX2 123 yX2_mayOffer, Cond.instanceMethod yX2_mayOffer, Cond.selects RX2 yX2_mayOffer yX2_mayOffer, Cond.code yX2_mayOffer cX2_mayOffer 3 (some .boolean), Cond.methodLink RX2 155 yX2_isOpen, Cond.instanceMethod yX2_isOpen, Cond.selects RX2 yX2_isOpen yX2_isOpen, Cond.code yX2_isOpen cX2_isOpen 2 (some .boolean), Cond.methodLink RX2 142 yX2_prefix, Cond.instanceMethod yX2_prefix, Cond.selects RX2 yX2_prefix yX2_prefix, Cond.code yX2_prefix cX2_prefix 2 (some .int), Cond.methodLink RX2 158 yX2_promisesMissing, Cond.instanceMethod yX2_promisesMissing, Cond.selects RX2 yX2_promisesMissing yX2_promisesMissing, Cond.code yX2_promisesMissing cX2_promisesMissing 4 (some .int), Cond.methodLink RX2 149 Lib.Math.max.name, Cond.static Lib.Math.max.name, Cond.code Lib.Math.max.name Lib.Math.max.code 2 (some .int), Cond.methodLink RX2 136 yX2_votersOf]
def wsX4_propose_r4 : List Cond := [Cond.instanceMethod yX2_votersOf, Cond.selects RX2 yX2_votersOf yX2_votersOf, Cond.code yX2_votersOf cX2_votersOf 4 (some .int), Cond.methodLink RX2 152 yX2_firstSize, Cond.instanceMethod yX2_firstSize, Cond.selects RX2 yX2_firstSize yX2_firstSize, Cond.code yX2_firstSize cX2_firstSize 2 (some .int), Cond.methodLink RX2 85 yJ6_bitCount_0f7a4, Cond.static yJ6_bitCount_0f7a4, Cond.initialized RJ6, Cond.code yJ6_bitCount_0f7a4 cJ6_bitCount_0f7a4 1 (some .int), Cond.constant RJ6 265 (1431655765), Cond.constant RJ6 266 (858993459), Cond.constant RJ6 267 (252645135), Cond.methodLink RX2 139 yX2_secondSize, Cond.instanceMethod yX2_secondSize, Cond.selects RX2 yX2_secondSize yX2_secondSize, Cond.code yX2_secondSize cX2_secondSize 2 (some .int), Cond.static yX4_cell, Cond.code yX4_cell cX4_cell 2 (some .int), Cond.methodLink RX2 126 yX2_boundValue, Cond.instanceMethod yX2_boundValue, Cond.selects RX2 yX2_boundValue yX2_boundValue, Cond.code yX2_boundValue cX2_boundValue 8 (some .int)]
def wsX4_propose_r5 : List Cond := [Cond.static yX4_has, Cond.code yX4_has cX4_has 2 (some .boolean), Cond.methodLink RX4 48 yX4_settled, Cond.instanceMethod yX4_settled, Cond.selects RX4 yX4_settled yX4_settled, Cond.code yX4_settled cX4_settled 2 (some .int), Cond.methodLink RX4 103 yX0_commit, Cond.instanceMethod yX0_commit, Cond.selects RX0 yX0_commit yX0_commit, Cond.code yX0_commit cX0_commit 1 none, Cond.fieldLink RX0 26 "AgreedSlots$History" "size" "I", Cond.methodLink RX0 29 Lib.Math.min.name]
def wsX4_propose : List Cond := .code yX4_propose cX4_propose 4 (some .int) :: ((wsX4_propose_r1 ++ (wsX4_propose_r2 ++ (wsX4_propose_r3 ++ (wsX4_propose_r4 ++ wsX4_propose_r5)))) ++ wsX40 ++ wsX00 ++ wsX20)
def wsX4_vote_r1 : List Cond := [Cond.fieldLink RX4 22 "AgreedSlots" "history" "LAgreedSlots$History;", Cond.fieldLink RX4 10 "AgreedSlots" "now" "LAgreedSlots$State;", Cond.methodLink RX4 40 yX0_draft, Cond.instanceMethod yX0_draft, Cond.selects RX0 yX0_draft yX0_draft, Cond.initialized RX0, Cond.code yX0_draft cX0_draft 2 none, Cond.fieldLink RX0 13 "AgreedSlots$History" "rows" "[LAgreedSlots$State;", Cond.fieldLink RX0 18 "AgreedSlots$History" "next" "I", Cond.methodLink RX0 22 yX2_copy, Cond.instanceMethod yX2_copy, Cond.selects RX2 yX2_copy yX2_copy, Cond.initialized RX2, Cond.code yX2_copy cX2_copy 2 none, Cond.fieldLink RX2 9 "AgreedSlots$State" "up" "I", Cond.fieldLink RX2 15 "AgreedSlots$State" "second" "I", Cond.fieldLink RX2 52 "AgreedSlots$State" "trimmed" "I", Cond.fieldLink RX2 55 "AgreedSlots$State" "refusedPromises" "I", Cond.fieldLink RX2 58 "AgreedSlots$State" "refusedVotes" "I", Cond.fieldLink RX2 18 "AgreedSlots$State" "promised" "[I", Cond.fieldLink RX2 22 "AgreedSlots$State" "voteBallot" "[I", Cond.fieldLink RX2 25 "AgreedSlots$State" "voteValue" "[I", Cond.fieldLink RX2 28 "AgreedSlots$State" "ballot" "[I", Cond.fieldLink RX2 31 "AgreedSlots$State" "heard" "[I"]
def wsX4_vote_r2 : List Cond := [Cond.fieldLink RX2 34 "AgreedSlots$State" "promisers" "[I", Cond.fieldLink RX2 37 "AgreedSlots$State" "offered" "[I", Cond.fieldLink RX2 40 "AgreedSlots$State" "toldBallot" "[I", Cond.fieldLink RX2 43 "AgreedSlots$State" "toldValue" "[I", Cond.fieldLink RX2 46 "AgreedSlots$State" "chosenValue" "[I", Cond.fieldLink RX2 49 "AgreedSlots$State" "chosenBallot" "[I", Cond.methodLink RX2 61 yX2_copyAll, Cond.static yX2_copyAll, Cond.code yX2_copyAll cX2_copyAll 2 none, Cond.methodLink RX2 65 Lib.Math.min.name, Cond.static Lib.Math.min.name, Cond.initialized "java/lang/Math", Cond.code Lib.Math.min.name Lib.Math.min.code 2 (some .int), Cond.methodLink RX2 71 arraycopyName, Cond.native arraycopyName, Cond.static arraycopyName, Cond.initialized "java/lang/System", Cond.methodLink RX4 66 yX2_askVote, Cond.instanceMethod yX2_askVote, Cond.selects RX2 yX2_askVote yX2_askVote, Cond.code yX2_askVote cX2_askVote 6 (some .int), Cond.static yX4_isProposer, Cond.initialized RX4, Cond.code yX4_isProposer cX4_isProposer 1 (some .boolean)]
def wsX4_vote_r3 : List Cond := [Cond.static yX4_isSlot, Cond.code yX4_isSlot cX4_isSlot 1 (some .boolean), Cond.static yX4_isAcceptor, Cond.code yX4_isAcceptor cX4_isAcceptor 1 (some .boolean), Cond.methodLink RX2 129 yX2_mayAskVote, Cond.instanceMethod yX2_mayAskVote, Cond.selects RX2 yX2_mayAskVote yX2_mayAskVote, Cond.code yX2_mayAskVote cX2_mayAskVote 4 (some .boolean), Cond.static yX4_cell, Cond.code yX4_cell cX4_cell 2 (some .int), Cond.static yX4_has, Cond.code yX4_has cX4_has 2 (some .boolean), Cond.methodLink RX2 136 yX2_votersOf, Cond.instanceMethod yX2_votersOf, Cond.selects RX2 yX2_votersOf yX2_votersOf, Cond.code yX2_votersOf cX2_votersOf 4 (some .int), Cond.methodLink RX2 107 yX2_refuse, Cond.instanceMethod yX2_refuse, Cond.selects RX2 yX2_refuse yX2_refuse, Cond.code yX2_refuse cX2_refuse 3 (some .int), Cond.methodLink RX2 149 Lib.Math.max.name, Cond.static Lib.Math.max.name, Cond.code Lib.Math.max.name Lib.Math.max.code 2 (some .int), Cond.methodLink RX2 133 yX2_votersFor]
def wsX4_vote_r4 : List Cond := [Cond.instanceMethod yX2_votersFor, Cond.selects RX2 yX2_votersFor yX2_votersFor, Cond.code yX2_votersFor cX2_votersFor 6 (some .int), Cond.methodLink RX2 85 yJ6_bitCount_0f7a4, Cond.static yJ6_bitCount_0f7a4, Cond.initialized RJ6, Cond.code yJ6_bitCount_0f7a4 cJ6_bitCount_0f7a4 1 (some .int), Cond.constant RJ6 265 (1431655765), Cond.constant RJ6 266 (858993459), Cond.constant RJ6 267 (252645135), Cond.methodLink RX2 139 yX2_secondSize, Cond.instanceMethod yX2_secondSize, Cond.selects RX2 yX2_secondSize yX2_secondSize, Cond.code yX2_secondSize cX2_secondSize 2 (some .int), Cond.methodLink RX4 48 yX4_settled, Cond.instanceMethod yX4_settled, Cond.selects RX4 yX4_settled yX4_settled, Cond.code yX4_settled cX4_settled 2 (some .int), Cond.methodLink RX4 103 yX0_commit, Cond.instanceMethod yX0_commit, Cond.selects RX0 yX0_commit yX0_commit, Cond.code yX0_commit cX0_commit 1 none, Cond.fieldLink RX0 26 "AgreedSlots$History" "size" "I", Cond.methodLink RX0 29 Lib.Math.min.name]
def wsX4_vote : List Cond := .code yX4_vote cX4_vote 4 (some .int) :: ((wsX4_vote_r1 ++ (wsX4_vote_r2 ++ (wsX4_vote_r3 ++ wsX4_vote_r4))) ++ wsX40 ++ wsX00 ++ wsX20)
def wsX4_trim_r1 : List Cond := [Cond.fieldLink RX4 22 "AgreedSlots" "history" "LAgreedSlots$History;", Cond.fieldLink RX4 10 "AgreedSlots" "now" "LAgreedSlots$State;", Cond.methodLink RX4 40 yX0_draft, Cond.instanceMethod yX0_draft, Cond.selects RX0 yX0_draft yX0_draft, Cond.initialized RX0, Cond.code yX0_draft cX0_draft 2 none, Cond.fieldLink RX0 13 "AgreedSlots$History" "rows" "[LAgreedSlots$State;", Cond.fieldLink RX0 18 "AgreedSlots$History" "next" "I", Cond.methodLink RX0 22 yX2_copy, Cond.instanceMethod yX2_copy, Cond.selects RX2 yX2_copy yX2_copy, Cond.initialized RX2, Cond.code yX2_copy cX2_copy 2 none, Cond.fieldLink RX2 9 "AgreedSlots$State" "up" "I", Cond.fieldLink RX2 15 "AgreedSlots$State" "second" "I", Cond.fieldLink RX2 52 "AgreedSlots$State" "trimmed" "I", Cond.fieldLink RX2 55 "AgreedSlots$State" "refusedPromises" "I", Cond.fieldLink RX2 58 "AgreedSlots$State" "refusedVotes" "I", Cond.fieldLink RX2 18 "AgreedSlots$State" "promised" "[I", Cond.fieldLink RX2 22 "AgreedSlots$State" "voteBallot" "[I", Cond.fieldLink RX2 25 "AgreedSlots$State" "voteValue" "[I", Cond.fieldLink RX2 28 "AgreedSlots$State" "ballot" "[I", Cond.fieldLink RX2 31 "AgreedSlots$State" "heard" "[I"]
def wsX4_trim_r2 : List Cond := [Cond.fieldLink RX2 34 "AgreedSlots$State" "promisers" "[I", Cond.fieldLink RX2 37 "AgreedSlots$State" "offered" "[I", Cond.fieldLink RX2 40 "AgreedSlots$State" "toldBallot" "[I", Cond.fieldLink RX2 43 "AgreedSlots$State" "toldValue" "[I", Cond.fieldLink RX2 46 "AgreedSlots$State" "chosenValue" "[I", Cond.fieldLink RX2 49 "AgreedSlots$State" "chosenBallot" "[I", Cond.methodLink RX2 61 yX2_copyAll, Cond.static yX2_copyAll, Cond.code yX2_copyAll cX2_copyAll 2 none, Cond.methodLink RX2 65 Lib.Math.min.name, Cond.static Lib.Math.min.name, Cond.initialized "java/lang/Math", Cond.code Lib.Math.min.name Lib.Math.min.code 2 (some .int), Cond.methodLink RX2 71 arraycopyName, Cond.native arraycopyName, Cond.static arraycopyName, Cond.initialized "java/lang/System", Cond.methodLink RX4 69 yX2_forgetUpTo, Cond.instanceMethod yX2_forgetUpTo, Cond.selects RX2 yX2_forgetUpTo yX2_forgetUpTo, Cond.code yX2_forgetUpTo cX2_forgetUpTo 4 (some .int), Cond.static yX4_isSlot, Cond.initialized RX4, Cond.code yX4_isSlot cX4_isSlot 1 (some .boolean)]
def wsX4_trim_r3 : List Cond := [Cond.methodLink RX2 142 yX2_prefix, Cond.instanceMethod yX2_prefix, Cond.selects RX2 yX2_prefix yX2_prefix, Cond.code yX2_prefix cX2_prefix 2 (some .int), Cond.methodLink RX2 114 yX2_votesOf, Cond.instanceMethod yX2_votesOf, Cond.selects RX2 yX2_votesOf yX2_votesOf, Cond.code yX2_votesOf cX2_votesOf 5 (some .int), Cond.static yX4_cell, Cond.code yX4_cell cX4_cell 2 (some .int), Cond.methodLink RX2 146 yX2_forgetVotes, Cond.instanceMethod yX2_forgetVotes, Cond.selects RX2 yX2_forgetVotes yX2_forgetVotes, Cond.code yX2_forgetVotes cX2_forgetVotes 4 none, Cond.methodLink RX4 48 yX4_settled, Cond.instanceMethod yX4_settled, Cond.selects RX4 yX4_settled yX4_settled, Cond.code yX4_settled cX4_settled 2 (some .int), Cond.methodLink RX4 103 yX0_commit, Cond.instanceMethod yX0_commit, Cond.selects RX0 yX0_commit yX0_commit, Cond.code yX0_commit cX0_commit 1 none, Cond.fieldLink RX0 26 "AgreedSlots$History" "size" "I", Cond.methodLink RX0 29 Lib.Math.min.name]
def wsX4_trim : List Cond := .code yX4_trim cX4_trim 2 (some .int) :: ((wsX4_trim_r1 ++ (wsX4_trim_r2 ++ wsX4_trim_r3)) ++ wsX40 ++ wsX00 ++ wsX20)
def wsX4_type : List Cond := .code yX4_type cX4_type 2 (some .int) :: ([.fieldLink RX4 29 "AgreedSlots" "text" "LAgreedSlots$Text;", .methodLink RX4 72 yX3_append, .instanceMethod yX3_append, .selects RX3 yX3_append yX3_append, .initialized RX3, .code yX3_append cX3_append 2 (some .int), .fieldLink RX3 15 "AgreedSlots$Text" "length" "I", .fieldLink RX3 11 "AgreedSlots$Text" "signs" "[C"] ++ wsX40 ++ wsX30)
def wsX4_clearText : List Cond := .code yX4_clearText cX4_clearText 1 (some .int) :: ([.fieldLink RX4 29 "AgreedSlots" "text" "LAgreedSlots$Text;", .methodLink RX4 76 yX3_empty, .instanceMethod yX3_empty, .selects RX3 yX3_empty yX3_empty, .initialized RX3, .code yX3_empty cX3_empty 2 (some .int), .fieldLink RX3 15 "AgreedSlots$Text" "length" "I"] ++ wsX40 ++ wsX30)
def wsX4_isError : List Cond := .code yX4_isError cX4_isError 1 (some .boolean) :: ([])
def wsX4_noteRefusal : List Cond := .code yX4_noteRefusal cX4_noteRefusal 3 none :: ([.fieldLink RX4 106 "AgreedSlots" "refusedOnce" "Z", .fieldLink RX4 110 "AgreedSlots" "refusedOrder" "I", .fieldLink RX4 113 "AgreedSlots" "refusedError" "I", .fieldLink RX4 36 "AgreedSlots" "orders" "LAgreedSlots$Orders;", .fieldLink RX4 116 "AgreedSlots" "refusedPlace" "I", .methodLink RX4 244 yX1_placeOf, .instanceMethod yX1_placeOf, .selects RX1 yX1_placeOf yX1_placeOf, .initialized RX1, .code yX1_placeOf cX1_placeOf 2 (some .int), .fieldLink RX1 25 "AgreedSlots$Orders" "size" "I", .fieldLink RX1 15 "AgreedSlots$Orders" "places" "[I"] ++ wsX40 ++ wsX10)
def wsX4_perform_r1 : List Cond := [Cond.fieldLink RX4 36 "AgreedSlots" "orders" "LAgreedSlots$Orders;", Cond.fieldLink RX4 29 "AgreedSlots" "text" "LAgreedSlots$Text;", Cond.fieldLink RX4 22 "AgreedSlots" "history" "LAgreedSlots$History;", Cond.fieldLink RX4 10 "AgreedSlots" "now" "LAgreedSlots$State;", Cond.fieldLink RX4 84 "AgreedSlots$Orders" "size" "I", Cond.methodLink RX4 80 yX1_read, Cond.instanceMethod yX1_read, Cond.selects RX1 yX1_read yX1_read, Cond.initialized RX1, Cond.code yX1_read cX1_read 2 (some .int), Cond.fieldLink RX1 21 "AgreedSlots$Orders" "at" "I", Cond.fieldLink RX1 25 "AgreedSlots$Orders" "size" "I", Cond.fieldLink RX1 32 "AgreedSlots$Text" "length" "I", Cond.methodLink RX1 28 yX1_readOrder, Cond.instanceMethod yX1_readOrder, Cond.selects RX1 yX1_readOrder yX1_readOrder, Cond.code yX1_readOrder cX1_readOrder 5 (some .boolean), Cond.fieldLink RX1 11 "AgreedSlots$Orders" "letters" "[I", Cond.fieldLink RX1 15 "AgreedSlots$Orders" "places" "[I", Cond.fieldLink RX1 83 "AgreedSlots$Orders" "told" "I", Cond.methodLink RX1 37 yX3_signAt, Cond.instanceMethod yX3_signAt, Cond.selects RX3 yX3_signAt yX3_signAt, Cond.initialized RX3]
def wsX4_perform_r2 : List Cond := [Cond.code yX3_signAt cX3_signAt 2 (some .int), Cond.fieldLink RX3 15 "AgreedSlots$Text" "length" "I", Cond.fieldLink RX3 11 "AgreedSlots$Text" "signs" "[C", Cond.methodLink RX1 73 yX1_partsOf, Cond.static yX1_partsOf, Cond.code yX1_partsOf cX1_partsOf 1 (some (.object "java/lang/String")), Cond.methodLink RX1 77 yJ0_isEmpty_aae02, Cond.instanceMethod yJ0_isEmpty_aae02, Cond.selects RJ0 yJ0_isEmpty_aae02 yJ0_isEmpty_aae02, Cond.initialized RJ0, Cond.code yJ0_isEmpty_aae02 cJ0_isEmpty_aae02 1 (some .boolean), Cond.fieldLink RJ0 9 "java/lang/String" "value" "[B", Cond.methodLink RX1 86 yJ0_length_8abf5, Cond.instanceMethod yJ0_length_8abf5, Cond.selects RJ0 yJ0_length_8abf5 yJ0_length_8abf5, Cond.code yJ0_length_8abf5 cJ0_length_8abf5 1 (some .int), Cond.methodLink RJ0 335 yJ0_coder_7d493, Cond.instanceMethod yJ0_coder_7d493, Cond.selects RJ0 yJ0_coder_7d493 yJ0_coder_7d493, Cond.code yJ0_coder_7d493 cJ0_coder_7d493 1 (some .byte), Cond.fieldLink RJ0 38 "java/lang/String" "COMPACT_STRINGS" "Z", Cond.fieldLink RJ0 15 "java/lang/String" "coder" "B", Cond.methodLink RX1 89 yJ0_charAt_5068e, Cond.instanceMethod yJ0_charAt_5068e]
def wsX4_perform_r3 : List Cond := [Cond.selects RJ0 yJ0_charAt_5068e yJ0_charAt_5068e, Cond.code yJ0_charAt_5068e cJ0_charAt_5068e 2 (some .char), Cond.methodLink RJ0 492 yJ0_isLatin1_aae02, Cond.instanceMethod yJ0_isLatin1_aae02, Cond.selects RJ0 yJ0_isLatin1_aae02 yJ0_isLatin1_aae02, Cond.code yJ0_isLatin1_aae02 cJ0_isLatin1_aae02 1 (some .boolean), Cond.methodLink RJ0 495 yJ1_charAt_3b067, Cond.static yJ1_charAt_3b067, Cond.initialized RJ1, Cond.code yJ1_charAt_3b067 cJ1_charAt_3b067 2 (some .char), Cond.methodLink RJ1 9 yJ0_checkIndex_df160, Cond.static yJ0_checkIndex_df160, Cond.code yJ0_checkIndex_df160 cJ0_checkIndex_df160 2 none, Cond.fieldLink RJ0 1053 "jdk/internal/util/Preconditions" "SIOOBE_FORMATTER" "Ljava/util/function/BiFunction;", Cond.methodLink RJ0 1059 yJ3_checkIndex_8e157, Cond.static yJ3_checkIndex_8e157, Cond.initialized RJ3, Cond.code yJ3_checkIndex_8e157 cJ3_checkIndex_8e157 3 (some .int), Cond.methodLink RJ0 498 yJ2_charAt_3b067, Cond.static yJ2_charAt_3b067, Cond.initialized RJ2, Cond.code yJ2_charAt_3b067 cJ2_charAt_3b067 2 (some .char), Cond.methodLink RJ2 67 yJ2_checkIndex_2214a, Cond.static yJ2_checkIndex_2214a]
def wsX4_perform_r4 : List Cond := [Cond.code yJ2_checkIndex_2214a cJ2_checkIndex_2214a 2 none, Cond.methodLink RJ2 48 yJ2_length_9d52b, Cond.static yJ2_length_9d52b, Cond.code yJ2_length_9d52b cJ2_length_9d52b 1 (some .int), Cond.methodLink RJ2 414 yJ0_checkIndex_df160, Cond.methodLink RJ2 71 yJ2_getChar_3b067, Cond.static yJ2_getChar_3b067, Cond.code yJ2_getChar_3b067 cJ2_getChar_3b067 2 (some .char), Cond.fieldLink RJ2 44 "java/lang/StringUTF16" "$assertionsDisabled" "Z", Cond.fieldLink RJ2 59 "java/lang/StringUTF16" "HI_BYTE_SHIFT" "I", Cond.fieldLink RJ2 63 "java/lang/StringUTF16" "LO_BYTE_SHIFT" "I", Cond.methodLink RX1 93 yX1_readPart, Cond.instanceMethod yX1_readPart, Cond.selects RX1 yX1_readPart yX1_readPart, Cond.code yX1_readPart cX1_readPart 3 (some .boolean), Cond.methodLink RX1 97 yX1_readDigit, Cond.instanceMethod yX1_readDigit, Cond.selects RX1 yX1_readDigit yX1_readDigit, Cond.code yX1_readDigit cX1_readDigit 4 (some .boolean), Cond.methodLink RX1 106 yX1_tell, Cond.instanceMethod yX1_tell, Cond.selects RX1 yX1_tell yX1_tell, Cond.code yX1_tell cX1_tell 2 none, Cond.fieldLink RX1 18 "AgreedSlots$Orders" "numbers" "[I"]
def wsX4_perform_r5 : List Cond := [Cond.methodLink RX1 100 yX1_readNumber, Cond.instanceMethod yX1_readNumber, Cond.selects RX1 yX1_readNumber yX1_readNumber, Cond.code yX1_readNumber cX1_readNumber 4 (some .boolean), Cond.methodLink RX1 110 yX1_isDigit, Cond.static yX1_isDigit, Cond.code yX1_isDigit cX1_isDigit 1 (some .boolean), Cond.methodLink RX1 103 yX1_readComma, Cond.instanceMethod yX1_readComma, Cond.selects RX1 yX1_readComma yX1_readComma, Cond.code yX1_readComma cX1_readComma 2 (some .boolean), Cond.methodLink RX4 40 yX0_draft, Cond.instanceMethod yX0_draft, Cond.selects RX0 yX0_draft yX0_draft, Cond.initialized RX0, Cond.code yX0_draft cX0_draft 2 none, Cond.fieldLink RX0 13 "AgreedSlots$History" "rows" "[LAgreedSlots$State;", Cond.fieldLink RX0 18 "AgreedSlots$History" "next" "I", Cond.methodLink RX0 22 yX2_copy, Cond.instanceMethod yX2_copy, Cond.selects RX2 yX2_copy yX2_copy, Cond.initialized RX2, Cond.code yX2_copy cX2_copy 2 none, Cond.fieldLink RX2 9 "AgreedSlots$State" "up" "I"]
def wsX4_perform_r6 : List Cond := [Cond.fieldLink RX2 15 "AgreedSlots$State" "second" "I", Cond.fieldLink RX2 52 "AgreedSlots$State" "trimmed" "I", Cond.fieldLink RX2 55 "AgreedSlots$State" "refusedPromises" "I", Cond.fieldLink RX2 58 "AgreedSlots$State" "refusedVotes" "I", Cond.fieldLink RX2 18 "AgreedSlots$State" "promised" "[I", Cond.fieldLink RX2 22 "AgreedSlots$State" "voteBallot" "[I", Cond.fieldLink RX2 25 "AgreedSlots$State" "voteValue" "[I", Cond.fieldLink RX2 28 "AgreedSlots$State" "ballot" "[I", Cond.fieldLink RX2 31 "AgreedSlots$State" "heard" "[I", Cond.fieldLink RX2 34 "AgreedSlots$State" "promisers" "[I", Cond.fieldLink RX2 37 "AgreedSlots$State" "offered" "[I", Cond.fieldLink RX2 40 "AgreedSlots$State" "toldBallot" "[I", Cond.fieldLink RX2 43 "AgreedSlots$State" "toldValue" "[I", Cond.fieldLink RX2 46 "AgreedSlots$State" "chosenValue" "[I", Cond.fieldLink RX2 49 "AgreedSlots$State" "chosenBallot" "[I", Cond.methodLink RX2 61 yX2_copyAll, Cond.static yX2_copyAll, Cond.code yX2_copyAll cX2_copyAll 2 none, Cond.methodLink RX2 65 Lib.Math.min.name, Cond.static Lib.Math.min.name, Cond.initialized "java/lang/Math", Cond.code Lib.Math.min.name Lib.Math.min.code 2 (some .int), Cond.methodLink RX2 71 arraycopyName, Cond.native arraycopyName]
def wsX4_perform_r7 : List Cond := [Cond.static arraycopyName, Cond.initialized "java/lang/System", Cond.methodLink RX4 88 yX1_carryOut, Cond.instanceMethod yX1_carryOut, Cond.selects RX1 yX1_carryOut yX1_carryOut, Cond.code yX1_carryOut cX1_carryOut 6 (some .int), Cond.methodLink RX1 41 yX2_startBallot, Cond.instanceMethod yX2_startBallot, Cond.selects RX2 yX2_startBallot yX2_startBallot, Cond.code yX2_startBallot cX2_startBallot 4 (some .int), Cond.static yX4_isProposer, Cond.initialized RX4, Cond.code yX4_isProposer cX4_isProposer 1 (some .boolean), Cond.methodLink RX2 101 yX2_nextBallot, Cond.instanceMethod yX2_nextBallot, Cond.selects RX2 yX2_nextBallot yX2_nextBallot, Cond.code yX2_nextBallot cX2_nextBallot 4 (some .int), Cond.methodLink RX2 149 Lib.Math.max.name, Cond.static Lib.Math.max.name, Cond.code Lib.Math.max.name Lib.Math.max.code 2 (some .int), Cond.static yX4_cell, Cond.code yX4_cell cX4_cell 2 (some .int), Cond.methodLink RX1 46 yX2_askPromise, Cond.instanceMethod yX2_askPromise]
def wsX4_perform_r8 : List Cond := [Cond.selects RX2 yX2_askPromise yX2_askPromise, Cond.code yX2_askPromise cX2_askPromise 3 (some .int), Cond.static yX4_isAcceptor, Cond.code yX4_isAcceptor cX4_isAcceptor 1 (some .boolean), Cond.static yX4_has, Cond.code yX4_has cX4_has 2 (some .boolean), Cond.methodLink RX2 107 yX2_refuse, Cond.instanceMethod yX2_refuse, Cond.selects RX2 yX2_refuse yX2_refuse, Cond.code yX2_refuse cX2_refuse 3 (some .int), Cond.methodLink RX2 110 yX2_tellVotes, Cond.instanceMethod yX2_tellVotes, Cond.selects RX2 yX2_tellVotes yX2_tellVotes, Cond.code yX2_tellVotes cX2_tellVotes 5 none, Cond.methodLink RX2 114 yX2_votesOf, Cond.instanceMethod yX2_votesOf, Cond.selects RX2 yX2_votesOf yX2_votesOf, Cond.code yX2_votesOf cX2_votesOf 5 (some .int), Cond.methodLink RX1 50 yX2_offerValue, Cond.instanceMethod yX2_offerValue, Cond.selects RX2 yX2_offerValue yX2_offerValue, Cond.code yX2_offerValue cX2_offerValue 6 (some .int), Cond.static yX4_isSlot, Cond.code yX4_isSlot cX4_isSlot 1 (some .boolean)]
def wsX4_perform_r9 : List Cond := [Cond.static yX4_isValue, Cond.code yX4_isValue cX4_isValue 3 (some .boolean), Cond.methodLink RX2 123 yX2_mayOffer, Cond.instanceMethod yX2_mayOffer, Cond.selects RX2 yX2_mayOffer yX2_mayOffer, Cond.code yX2_mayOffer cX2_mayOffer 3 (some .boolean), Cond.methodLink RX2 155 yX2_isOpen, Cond.instanceMethod yX2_isOpen, Cond.selects RX2 yX2_isOpen yX2_isOpen, Cond.code yX2_isOpen cX2_isOpen 2 (some .boolean), Cond.methodLink RX2 142 yX2_prefix, Cond.instanceMethod yX2_prefix, Cond.selects RX2 yX2_prefix yX2_prefix, Cond.code yX2_prefix cX2_prefix 2 (some .int), Cond.methodLink RX2 158 yX2_promisesMissing, Cond.instanceMethod yX2_promisesMissing, Cond.selects RX2 yX2_promisesMissing yX2_promisesMissing, Cond.code yX2_promisesMissing cX2_promisesMissing 4 (some .int), Cond.methodLink RX2 136 yX2_votersOf, Cond.instanceMethod yX2_votersOf, Cond.selects RX2 yX2_votersOf yX2_votersOf, Cond.code yX2_votersOf cX2_votersOf 4 (some .int), Cond.methodLink RX2 152 yX2_firstSize, Cond.instanceMethod yX2_firstSize]
def wsX4_perform_r10 : List Cond := [Cond.selects RX2 yX2_firstSize yX2_firstSize, Cond.code yX2_firstSize cX2_firstSize 2 (some .int), Cond.methodLink RX2 85 yJ6_bitCount_0f7a4, Cond.static yJ6_bitCount_0f7a4, Cond.initialized RJ6, Cond.code yJ6_bitCount_0f7a4 cJ6_bitCount_0f7a4 1 (some .int), Cond.constant RJ6 265 (1431655765), Cond.constant RJ6 266 (858993459), Cond.constant RJ6 267 (252645135), Cond.methodLink RX2 139 yX2_secondSize, Cond.instanceMethod yX2_secondSize, Cond.selects RX2 yX2_secondSize yX2_secondSize, Cond.code yX2_secondSize cX2_secondSize 2 (some .int), Cond.methodLink RX2 126 yX2_boundValue, Cond.instanceMethod yX2_boundValue, Cond.selects RX2 yX2_boundValue yX2_boundValue, Cond.code yX2_boundValue cX2_boundValue 8 (some .int), Cond.methodLink RX1 54 yX2_askVote, Cond.instanceMethod yX2_askVote, Cond.selects RX2 yX2_askVote yX2_askVote, Cond.code yX2_askVote cX2_askVote 6 (some .int), Cond.methodLink RX2 129 yX2_mayAskVote, Cond.instanceMethod yX2_mayAskVote, Cond.selects RX2 yX2_mayAskVote yX2_mayAskVote]
def wsX4_perform_r11 : List Cond := [Cond.code yX2_mayAskVote cX2_mayAskVote 4 (some .boolean), Cond.methodLink RX2 133 yX2_votersFor, Cond.instanceMethod yX2_votersFor, Cond.selects RX2 yX2_votersFor yX2_votersFor, Cond.code yX2_votersFor cX2_votersFor 6 (some .int), Cond.methodLink RX1 57 yX2_turn, Cond.instanceMethod yX2_turn, Cond.selects RX2 yX2_turn yX2_turn, Cond.code yX2_turn cX2_turn 3 (some .int), Cond.methodLink RX4 92 yX4_isError, Cond.static yX4_isError, Cond.code yX4_isError cX4_isError 1 (some .boolean), Cond.methodLink RX4 96 yX4_noteRefusal, Cond.instanceMethod yX4_noteRefusal, Cond.selects RX4 yX4_noteRefusal yX4_noteRefusal, Cond.code yX4_noteRefusal cX4_noteRefusal 3 none, Cond.fieldLink RX4 106 "AgreedSlots" "refusedOnce" "Z", Cond.fieldLink RX4 110 "AgreedSlots" "refusedOrder" "I", Cond.fieldLink RX4 113 "AgreedSlots" "refusedError" "I", Cond.fieldLink RX4 116 "AgreedSlots" "refusedPlace" "I", Cond.methodLink RX4 244 yX1_placeOf, Cond.instanceMethod yX1_placeOf, Cond.selects RX1 yX1_placeOf yX1_placeOf, Cond.code yX1_placeOf cX1_placeOf 2 (some .int)]
def wsX4_perform_r12 : List Cond := [Cond.methodLink RX4 100 yX0_bringBackDraft, Cond.instanceMethod yX0_bringBackDraft, Cond.selects RX0 yX0_bringBackDraft yX0_bringBackDraft, Cond.code yX0_bringBackDraft cX0_bringBackDraft 2 none, Cond.methodLink RX4 103 yX0_commit, Cond.instanceMethod yX0_commit, Cond.selects RX0 yX0_commit yX0_commit, Cond.code yX0_commit cX0_commit 1 none, Cond.fieldLink RX0 26 "AgreedSlots$History" "size" "I", Cond.methodLink RX0 29 Lib.Math.min.name]
def wsX4_perform : List Cond := .code yX4_perform cX4_perform 4 (some .int) :: ((wsX4_perform_r1 ++ (wsX4_perform_r2 ++ (wsX4_perform_r3 ++ (wsX4_perform_r4 ++ (wsX4_perform_r5 ++ (wsX4_perform_r6 ++ (wsX4_perform_r7 ++ (wsX4_perform_r8 ++ (wsX4_perform_r9 ++ (wsX4_perform_r10 ++ (wsX4_perform_r11 ++ wsX4_perform_r12))))))))))) ++ wsX40 ++ wsX10 ++ wsX30 ++ wsX00 ++ wsX20)
def wsX4_refusal : List Cond := .code yX4_refusal cX4_refusal 2 (some .int) :: ([.fieldLink RX4 106 "AgreedSlots" "refusedOnce" "Z", .fieldLink RX4 110 "AgreedSlots" "refusedOrder" "I", .fieldLink RX4 113 "AgreedSlots" "refusedError" "I", .fieldLink RX4 116 "AgreedSlots" "refusedPlace" "I"] ++ wsX40)
def wsX4_undo_r1 : List Cond := [Cond.fieldLink RX4 22 "AgreedSlots" "history" "LAgreedSlots$History;", Cond.fieldLink RX4 10 "AgreedSlots" "now" "LAgreedSlots$State;", Cond.methodLink RX4 119 yX0_bringBackLatest, Cond.instanceMethod yX0_bringBackLatest, Cond.selects RX0 yX0_bringBackLatest yX0_bringBackLatest, Cond.initialized RX0, Cond.code yX0_bringBackLatest cX0_bringBackLatest 2 (some .int), Cond.fieldLink RX0 26 "AgreedSlots$History" "size" "I", Cond.fieldLink RX0 18 "AgreedSlots$History" "next" "I", Cond.fieldLink RX0 13 "AgreedSlots$History" "rows" "[LAgreedSlots$State;", Cond.methodLink RX0 22 yX2_copy, Cond.instanceMethod yX2_copy, Cond.selects RX2 yX2_copy yX2_copy, Cond.initialized RX2, Cond.code yX2_copy cX2_copy 2 none, Cond.fieldLink RX2 9 "AgreedSlots$State" "up" "I", Cond.fieldLink RX2 15 "AgreedSlots$State" "second" "I", Cond.fieldLink RX2 52 "AgreedSlots$State" "trimmed" "I", Cond.fieldLink RX2 55 "AgreedSlots$State" "refusedPromises" "I", Cond.fieldLink RX2 58 "AgreedSlots$State" "refusedVotes" "I", Cond.fieldLink RX2 18 "AgreedSlots$State" "promised" "[I", Cond.fieldLink RX2 22 "AgreedSlots$State" "voteBallot" "[I", Cond.fieldLink RX2 25 "AgreedSlots$State" "voteValue" "[I", Cond.fieldLink RX2 28 "AgreedSlots$State" "ballot" "[I"]
def wsX4_undo_r2 : List Cond := [Cond.fieldLink RX2 31 "AgreedSlots$State" "heard" "[I", Cond.fieldLink RX2 34 "AgreedSlots$State" "promisers" "[I", Cond.fieldLink RX2 37 "AgreedSlots$State" "offered" "[I", Cond.fieldLink RX2 40 "AgreedSlots$State" "toldBallot" "[I", Cond.fieldLink RX2 43 "AgreedSlots$State" "toldValue" "[I", Cond.fieldLink RX2 46 "AgreedSlots$State" "chosenValue" "[I", Cond.fieldLink RX2 49 "AgreedSlots$State" "chosenBallot" "[I", Cond.methodLink RX2 61 yX2_copyAll, Cond.static yX2_copyAll, Cond.code yX2_copyAll cX2_copyAll 2 none, Cond.methodLink RX2 65 Lib.Math.min.name, Cond.static Lib.Math.min.name, Cond.initialized "java/lang/Math", Cond.code Lib.Math.min.name Lib.Math.min.code 2 (some .int), Cond.methodLink RX2 71 arraycopyName, Cond.native arraycopyName, Cond.static arraycopyName, Cond.initialized "java/lang/System"]
def wsX4_undo : List Cond := .code yX4_undo cX4_undo 1 (some .int) :: ((wsX4_undo_r1 ++ wsX4_undo_r2) ++ wsX40 ++ wsX00 ++ wsX20)
def wsX4_keep_r1 : List Cond := [Cond.fieldLink RX4 16 "AgreedSlots" "snapshot" "LAgreedSlots$State;", Cond.fieldLink RX4 10 "AgreedSlots" "now" "LAgreedSlots$State;", Cond.fieldLink RX4 126 "AgreedSlots" "kept" "Z", Cond.methodLink RX4 123 yX2_copy, Cond.instanceMethod yX2_copy, Cond.selects RX2 yX2_copy yX2_copy, Cond.initialized RX2, Cond.code yX2_copy cX2_copy 2 none, Cond.fieldLink RX2 9 "AgreedSlots$State" "up" "I", Cond.fieldLink RX2 15 "AgreedSlots$State" "second" "I", Cond.fieldLink RX2 52 "AgreedSlots$State" "trimmed" "I", Cond.fieldLink RX2 55 "AgreedSlots$State" "refusedPromises" "I", Cond.fieldLink RX2 58 "AgreedSlots$State" "refusedVotes" "I", Cond.fieldLink RX2 18 "AgreedSlots$State" "promised" "[I", Cond.fieldLink RX2 22 "AgreedSlots$State" "voteBallot" "[I", Cond.fieldLink RX2 25 "AgreedSlots$State" "voteValue" "[I", Cond.fieldLink RX2 28 "AgreedSlots$State" "ballot" "[I", Cond.fieldLink RX2 31 "AgreedSlots$State" "heard" "[I", Cond.fieldLink RX2 34 "AgreedSlots$State" "promisers" "[I", Cond.fieldLink RX2 37 "AgreedSlots$State" "offered" "[I", Cond.fieldLink RX2 40 "AgreedSlots$State" "toldBallot" "[I", Cond.fieldLink RX2 43 "AgreedSlots$State" "toldValue" "[I", Cond.fieldLink RX2 46 "AgreedSlots$State" "chosenValue" "[I", Cond.fieldLink RX2 49 "AgreedSlots$State" "chosenBallot" "[I"]
def wsX4_keep_r2 : List Cond := [Cond.methodLink RX2 61 yX2_copyAll, Cond.static yX2_copyAll, Cond.code yX2_copyAll cX2_copyAll 2 none, Cond.methodLink RX2 65 Lib.Math.min.name, Cond.static Lib.Math.min.name, Cond.initialized "java/lang/Math", Cond.code Lib.Math.min.name Lib.Math.min.code 2 (some .int), Cond.methodLink RX2 71 arraycopyName, Cond.native arraycopyName, Cond.static arraycopyName, Cond.initialized "java/lang/System", Cond.methodLink RX4 129 yX2_prefix, Cond.instanceMethod yX2_prefix, Cond.selects RX2 yX2_prefix yX2_prefix, Cond.code yX2_prefix cX2_prefix 2 (some .int)]
def wsX4_keep : List Cond := .code yX4_keep cX4_keep 1 (some .int) :: ((wsX4_keep_r1 ++ wsX4_keep_r2) ++ wsX40 ++ wsX20)
def wsX4_restore_r1 : List Cond := [Cond.fieldLink RX4 126 "AgreedSlots" "kept" "Z", Cond.fieldLink RX4 22 "AgreedSlots" "history" "LAgreedSlots$History;", Cond.fieldLink RX4 10 "AgreedSlots" "now" "LAgreedSlots$State;", Cond.fieldLink RX4 16 "AgreedSlots" "snapshot" "LAgreedSlots$State;", Cond.methodLink RX4 40 yX0_draft, Cond.instanceMethod yX0_draft, Cond.selects RX0 yX0_draft yX0_draft, Cond.initialized RX0, Cond.code yX0_draft cX0_draft 2 none, Cond.fieldLink RX0 13 "AgreedSlots$History" "rows" "[LAgreedSlots$State;", Cond.fieldLink RX0 18 "AgreedSlots$History" "next" "I", Cond.methodLink RX0 22 yX2_copy, Cond.instanceMethod yX2_copy, Cond.selects RX2 yX2_copy yX2_copy, Cond.initialized RX2, Cond.code yX2_copy cX2_copy 2 none, Cond.fieldLink RX2 9 "AgreedSlots$State" "up" "I", Cond.fieldLink RX2 15 "AgreedSlots$State" "second" "I", Cond.fieldLink RX2 52 "AgreedSlots$State" "trimmed" "I", Cond.fieldLink RX2 55 "AgreedSlots$State" "refusedPromises" "I", Cond.fieldLink RX2 58 "AgreedSlots$State" "refusedVotes" "I", Cond.fieldLink RX2 18 "AgreedSlots$State" "promised" "[I", Cond.fieldLink RX2 22 "AgreedSlots$State" "voteBallot" "[I", Cond.fieldLink RX2 25 "AgreedSlots$State" "voteValue" "[I"]
def wsX4_restore_r2 : List Cond := [Cond.fieldLink RX2 28 "AgreedSlots$State" "ballot" "[I", Cond.fieldLink RX2 31 "AgreedSlots$State" "heard" "[I", Cond.fieldLink RX2 34 "AgreedSlots$State" "promisers" "[I", Cond.fieldLink RX2 37 "AgreedSlots$State" "offered" "[I", Cond.fieldLink RX2 40 "AgreedSlots$State" "toldBallot" "[I", Cond.fieldLink RX2 43 "AgreedSlots$State" "toldValue" "[I", Cond.fieldLink RX2 46 "AgreedSlots$State" "chosenValue" "[I", Cond.fieldLink RX2 49 "AgreedSlots$State" "chosenBallot" "[I", Cond.methodLink RX2 61 yX2_copyAll, Cond.static yX2_copyAll, Cond.code yX2_copyAll cX2_copyAll 2 none, Cond.methodLink RX2 65 Lib.Math.min.name, Cond.static Lib.Math.min.name, Cond.initialized "java/lang/Math", Cond.code Lib.Math.min.name Lib.Math.min.code 2 (some .int), Cond.methodLink RX2 71 arraycopyName, Cond.native arraycopyName, Cond.static arraycopyName, Cond.initialized "java/lang/System", Cond.methodLink RX4 123 yX2_copy, Cond.methodLink RX4 129 yX2_prefix, Cond.instanceMethod yX2_prefix, Cond.selects RX2 yX2_prefix yX2_prefix, Cond.code yX2_prefix cX2_prefix 2 (some .int)]
def wsX4_restore_r3 : List Cond := [Cond.methodLink RX4 48 yX4_settled, Cond.instanceMethod yX4_settled, Cond.selects RX4 yX4_settled yX4_settled, Cond.initialized RX4, Cond.code yX4_settled cX4_settled 2 (some .int), Cond.methodLink RX4 103 yX0_commit, Cond.instanceMethod yX0_commit, Cond.selects RX0 yX0_commit yX0_commit, Cond.code yX0_commit cX0_commit 1 none, Cond.fieldLink RX0 26 "AgreedSlots$History" "size" "I", Cond.methodLink RX0 29 Lib.Math.min.name]
def wsX4_restore : List Cond := .code yX4_restore cX4_restore 1 (some .int) :: ((wsX4_restore_r1 ++ (wsX4_restore_r2 ++ wsX4_restore_r3)) ++ wsX40 ++ wsX00 ++ wsX20)
def wsX4_acceptor : List Cond := .code yX4_acceptor cX4_acceptor 3 (some .int) :: ([.fieldLink RX4 10 "AgreedSlots" "now" "LAgreedSlots$State;", .fieldLink RX4 135 "AgreedSlots$State" "up" "I", .fieldLink RX4 142 "AgreedSlots$State" "promised" "[I", .methodLink RX4 132 yX4_isAcceptor, .static yX4_isAcceptor, .initialized RX4, .code yX4_isAcceptor cX4_isAcceptor 1 (some .boolean), .methodLink RX4 138 yX4_has, .static yX4_has, .code yX4_has cX4_has 2 (some .boolean), .methodLink RX4 146 yX2_votesOf, .instanceMethod yX2_votesOf, .selects RX2 yX2_votesOf yX2_votesOf, .initialized RX2, .code yX2_votesOf cX2_votesOf 5 (some .int), .fieldLink RX2 22 "AgreedSlots$State" "voteBallot" "[I", .static yX4_cell, .code yX4_cell cX4_cell 2 (some .int)] ++ wsX40 ++ wsX20)
def wsX4_voted : List Cond := .code yX4_voted cX4_voted 5 (some .int) :: ([.fieldLink RX4 10 "AgreedSlots" "now" "LAgreedSlots$State;", .fieldLink RX4 155 "AgreedSlots$State" "voteBallot" "[I", .fieldLink RX4 158 "AgreedSlots$State" "voteValue" "[I", .methodLink RX4 132 yX4_isAcceptor, .static yX4_isAcceptor, .initialized RX4, .code yX4_isAcceptor cX4_isAcceptor 1 (some .boolean), .methodLink RX4 149 yX4_isSlot, .static yX4_isSlot, .code yX4_isSlot cX4_isSlot 1 (some .boolean), .methodLink RX4 152 yX4_cell, .static yX4_cell, .code yX4_cell cX4_cell 2 (some .int)] ++ wsX40 ++ wsX20)
def wsX4_proposer : List Cond := .code yX4_proposer cX4_proposer 3 (some .int) :: ([.fieldLink RX4 10 "AgreedSlots" "now" "LAgreedSlots$State;", .fieldLink RX4 164 "AgreedSlots$State" "ballot" "[I", .fieldLink RX4 167 "AgreedSlots$State" "heard" "[I", .fieldLink RX4 170 "AgreedSlots$State" "promisers" "[I", .methodLink RX4 161 yX4_isProposer, .static yX4_isProposer, .initialized RX4, .code yX4_isProposer cX4_isProposer 1 (some .boolean), .methodLink RX4 173 yX2_offersOf, .instanceMethod yX2_offersOf, .selects RX2 yX2_offersOf yX2_offersOf, .initialized RX2, .code yX2_offersOf cX2_offersOf 4 (some .int), .fieldLink RX2 37 "AgreedSlots$State" "offered" "[I", .static yX4_cell, .code yX4_cell cX4_cell 2 (some .int)] ++ wsX40 ++ wsX20)
def wsX4_orNone : List Cond := .code yX4_orNone cX4_orNone 1 (some .int) :: ([])
def wsX4_proposed_r1 : List Cond := [Cond.fieldLink RX4 10 "AgreedSlots" "now" "LAgreedSlots$State;", Cond.fieldLink RX4 176 "AgreedSlots$State" "offered" "[I", Cond.methodLink RX4 161 yX4_isProposer, Cond.static yX4_isProposer, Cond.initialized RX4, Cond.code yX4_isProposer cX4_isProposer 1 (some .boolean), Cond.methodLink RX4 149 yX4_isSlot, Cond.static yX4_isSlot, Cond.code yX4_isSlot cX4_isSlot 1 (some .boolean), Cond.methodLink RX4 152 yX4_cell, Cond.static yX4_cell, Cond.code yX4_cell cX4_cell 2 (some .int), Cond.methodLink RX4 179 yX4_orNone, Cond.static yX4_orNone, Cond.code yX4_orNone cX4_orNone 1 (some .int), Cond.methodLink RX4 182 yX2_isOpen, Cond.instanceMethod yX2_isOpen, Cond.selects RX2 yX2_isOpen yX2_isOpen, Cond.initialized RX2, Cond.code yX2_isOpen cX2_isOpen 2 (some .boolean), Cond.methodLink RX2 142 yX2_prefix, Cond.instanceMethod yX2_prefix, Cond.selects RX2 yX2_prefix yX2_prefix, Cond.code yX2_prefix cX2_prefix 2 (some .int)]
def wsX4_proposed_r2 : List Cond := [Cond.fieldLink RX2 46 "AgreedSlots$State" "chosenValue" "[I", Cond.methodLink RX4 185 yX2_boundValue, Cond.instanceMethod yX2_boundValue, Cond.selects RX2 yX2_boundValue yX2_boundValue, Cond.code yX2_boundValue cX2_boundValue 8 (some .int), Cond.fieldLink RX2 34 "AgreedSlots$State" "promisers" "[I", Cond.fieldLink RX2 40 "AgreedSlots$State" "toldBallot" "[I", Cond.fieldLink RX2 43 "AgreedSlots$State" "toldValue" "[I", Cond.methodLink RX2 136 yX2_votersOf, Cond.instanceMethod yX2_votersOf, Cond.selects RX2 yX2_votersOf yX2_votersOf, Cond.code yX2_votersOf cX2_votersOf 4 (some .int), Cond.static yX4_has, Cond.code yX4_has cX4_has 2 (some .boolean), Cond.methodLink RX4 188 yX2_promisesMissing, Cond.instanceMethod yX2_promisesMissing, Cond.selects RX2 yX2_promisesMissing yX2_promisesMissing, Cond.code yX2_promisesMissing cX2_promisesMissing 4 (some .int), Cond.methodLink RX2 149 Lib.Math.max.name, Cond.static Lib.Math.max.name, Cond.initialized "java/lang/Math", Cond.code Lib.Math.max.name Lib.Math.max.code 2 (some .int), Cond.methodLink RX2 152 yX2_firstSize, Cond.instanceMethod yX2_firstSize]
def wsX4_proposed_r3 : List Cond := [Cond.selects RX2 yX2_firstSize yX2_firstSize, Cond.code yX2_firstSize cX2_firstSize 2 (some .int), Cond.methodLink RX2 85 yJ6_bitCount_0f7a4, Cond.static yJ6_bitCount_0f7a4, Cond.initialized RJ6, Cond.code yJ6_bitCount_0f7a4 cJ6_bitCount_0f7a4 1 (some .int), Cond.constant RJ6 265 (1431655765), Cond.constant RJ6 266 (858993459), Cond.constant RJ6 267 (252645135), Cond.methodLink RX2 139 yX2_secondSize, Cond.instanceMethod yX2_secondSize, Cond.selects RX2 yX2_secondSize yX2_secondSize, Cond.code yX2_secondSize cX2_secondSize 2 (some .int), Cond.fieldLink RX2 15 "AgreedSlots$State" "second" "I", Cond.methodLink RX2 65 Lib.Math.min.name, Cond.static Lib.Math.min.name, Cond.code Lib.Math.min.name Lib.Math.min.code 2 (some .int)]
def wsX4_proposed : List Cond := .code yX4_proposed cX4_proposed 4 (some .int) :: ((wsX4_proposed_r1 ++ (wsX4_proposed_r2 ++ wsX4_proposed_r3)) ++ wsX40 ++ wsX20)
def wsX4_slot_r1 : List Cond := [Cond.fieldLink RX4 10 "AgreedSlots" "now" "LAgreedSlots$State;", Cond.fieldLink RX4 191 "AgreedSlots$State" "chosenValue" "[I", Cond.fieldLink RX4 194 "AgreedSlots$State" "chosenBallot" "[I", Cond.fieldLink RX4 206 "AgreedSlots$State" "trimmed" "I", Cond.methodLink RX4 149 yX4_isSlot, Cond.static yX4_isSlot, Cond.initialized RX4, Cond.code yX4_isSlot cX4_isSlot 1 (some .boolean), Cond.methodLink RX4 179 yX4_orNone, Cond.static yX4_orNone, Cond.code yX4_orNone cX4_orNone 1 (some .int), Cond.methodLink RX4 182 yX2_isOpen, Cond.instanceMethod yX2_isOpen, Cond.selects RX2 yX2_isOpen yX2_isOpen, Cond.initialized RX2, Cond.code yX2_isOpen cX2_isOpen 2 (some .boolean), Cond.methodLink RX2 142 yX2_prefix, Cond.instanceMethod yX2_prefix, Cond.selects RX2 yX2_prefix yX2_prefix, Cond.code yX2_prefix cX2_prefix 2 (some .int), Cond.fieldLink RX2 46 "AgreedSlots$State" "chosenValue" "[I", Cond.methodLink RX4 197 yX2_votersOf, Cond.instanceMethod yX2_votersOf, Cond.selects RX2 yX2_votersOf yX2_votersOf]
def wsX4_slot_r2 : List Cond := [Cond.code yX2_votersOf cX2_votersOf 4 (some .int), Cond.methodLink RX4 200 yX2_firstSize, Cond.instanceMethod yX2_firstSize, Cond.selects RX2 yX2_firstSize yX2_firstSize, Cond.code yX2_firstSize cX2_firstSize 2 (some .int), Cond.methodLink RX2 85 yJ6_bitCount_0f7a4, Cond.static yJ6_bitCount_0f7a4, Cond.initialized RJ6, Cond.code yJ6_bitCount_0f7a4 cJ6_bitCount_0f7a4 1 (some .int), Cond.constant RJ6 265 (1431655765), Cond.constant RJ6 266 (858993459), Cond.constant RJ6 267 (252645135), Cond.methodLink RX2 139 yX2_secondSize, Cond.instanceMethod yX2_secondSize, Cond.selects RX2 yX2_secondSize yX2_secondSize, Cond.code yX2_secondSize cX2_secondSize 2 (some .int), Cond.fieldLink RX2 15 "AgreedSlots$State" "second" "I", Cond.methodLink RX2 65 Lib.Math.min.name, Cond.static Lib.Math.min.name, Cond.initialized "java/lang/Math", Cond.code Lib.Math.min.name Lib.Math.min.code 2 (some .int), Cond.methodLink RX4 203 yX2_secondSize]
def wsX4_slot : List Cond := .code yX4_slot cX4_slot 3 (some .int) :: ((wsX4_slot_r1 ++ wsX4_slot_r2) ++ wsX40 ++ wsX20)
def wsX4_could_r1 : List Cond := [Cond.fieldLink RX4 10 "AgreedSlots" "now" "LAgreedSlots$State;", Cond.fieldLink RX4 206 "AgreedSlots$State" "trimmed" "I", Cond.methodLink RX4 149 yX4_isSlot, Cond.static yX4_isSlot, Cond.initialized RX4, Cond.code yX4_isSlot cX4_isSlot 1 (some .boolean), Cond.methodLink RX4 182 yX2_isOpen, Cond.instanceMethod yX2_isOpen, Cond.selects RX2 yX2_isOpen yX2_isOpen, Cond.initialized RX2, Cond.code yX2_isOpen cX2_isOpen 2 (some .boolean), Cond.methodLink RX2 142 yX2_prefix, Cond.instanceMethod yX2_prefix, Cond.selects RX2 yX2_prefix yX2_prefix, Cond.code yX2_prefix cX2_prefix 2 (some .int), Cond.fieldLink RX2 46 "AgreedSlots$State" "chosenValue" "[I", Cond.methodLink RX4 209 yX2_couldChoose, Cond.instanceMethod yX2_couldChoose, Cond.selects RX2 yX2_couldChoose yX2_couldChoose, Cond.code yX2_couldChoose cX2_couldChoose 6 (some .boolean), Cond.fieldLink RX2 18 "AgreedSlots$State" "promised" "[I", Cond.methodLink RX2 136 yX2_votersOf, Cond.instanceMethod yX2_votersOf, Cond.selects RX2 yX2_votersOf yX2_votersOf]
def wsX4_could_r2 : List Cond := [Cond.code yX2_votersOf cX2_votersOf 4 (some .int), Cond.methodLink RX2 133 yX2_votersFor, Cond.instanceMethod yX2_votersFor, Cond.selects RX2 yX2_votersFor yX2_votersFor, Cond.code yX2_votersFor cX2_votersFor 6 (some .int), Cond.fieldLink RX2 22 "AgreedSlots$State" "voteBallot" "[I", Cond.static yX4_has, Cond.code yX4_has cX4_has 2 (some .boolean), Cond.static yX4_cell, Cond.code yX4_cell cX4_cell 2 (some .int), Cond.methodLink RX2 85 yJ6_bitCount_0f7a4, Cond.static yJ6_bitCount_0f7a4, Cond.initialized RJ6, Cond.code yJ6_bitCount_0f7a4 cJ6_bitCount_0f7a4 1 (some .int), Cond.constant RJ6 265 (1431655765), Cond.constant RJ6 266 (858993459), Cond.constant RJ6 267 (252645135), Cond.methodLink RX2 139 yX2_secondSize, Cond.instanceMethod yX2_secondSize, Cond.selects RX2 yX2_secondSize yX2_secondSize, Cond.code yX2_secondSize cX2_secondSize 2 (some .int), Cond.fieldLink RX2 15 "AgreedSlots$State" "second" "I", Cond.methodLink RX2 65 Lib.Math.min.name, Cond.static Lib.Math.min.name]
def wsX4_could_r3 : List Cond := [Cond.initialized "java/lang/Math", Cond.code Lib.Math.min.name Lib.Math.min.code 2 (some .int)]
def wsX4_could : List Cond := .code yX4_could cX4_could 3 (some .int) :: ((wsX4_could_r1 ++ (wsX4_could_r2 ++ wsX4_could_r3)) ++ wsX40 ++ wsX20)
def wsX4_lowest : List Cond := .code yX4_lowest cX4_lowest 5 (some .int) :: ([.methodLink RX4 138 yX4_has, .static yX4_has, .initialized RX4, .code yX4_has cX4_has 2 (some .boolean)])
def wsX4_witness : List Cond := .code yX4_witness cX4_witness 7 (some .int) :: ([.methodLink RX4 212 yX4_isSize, .static yX4_isSize, .initialized RX4, .code yX4_isSize cX4_isSize 1 (some .boolean), .methodLink RX4 215 yJ6_bitCount_0f7a4, .static yJ6_bitCount_0f7a4, .initialized RJ6, .code yJ6_bitCount_0f7a4 cJ6_bitCount_0f7a4 1 (some .int), .constant RJ6 265 (1431655765), .constant RJ6 266 (858993459), .constant RJ6 267 (252645135), .methodLink RX4 220 yX4_lowest, .static yX4_lowest, .code yX4_lowest cX4_lowest 5 (some .int), .methodLink RX4 138 yX4_has, .static yX4_has, .code yX4_has cX4_has 2 (some .boolean)])
def wsX4_count : List Cond := .code yX4_count cX4_count 2 (some .int) :: ([.fieldLink RX4 10 "AgreedSlots" "now" "LAgreedSlots$State;", .fieldLink RX4 206 "AgreedSlots$State" "trimmed" "I", .fieldLink RX4 226 "AgreedSlots$State" "second" "I", .fieldLink RX4 135 "AgreedSlots$State" "up" "I", .methodLink RX4 229 Lib.Math.min.name, .static Lib.Math.min.name, .initialized "java/lang/Math", .code Lib.Math.min.name Lib.Math.min.code 2 (some .int), .fieldLink RX4 234 "AgreedSlots$State" "refusedPromises" "I", .fieldLink RX4 237 "AgreedSlots$State" "refusedVotes" "I", .fieldLink RX4 22 "AgreedSlots" "history" "LAgreedSlots$History;", .fieldLink RX4 240 "AgreedSlots$History" "size" "I", .fieldLink RX4 29 "AgreedSlots" "text" "LAgreedSlots$Text;", .fieldLink RX4 241 "AgreedSlots$Text" "length" "I", .methodLink RX4 129 yX2_prefix, .instanceMethod yX2_prefix, .selects RX2 yX2_prefix yX2_prefix, .initialized RX2, .code yX2_prefix cX2_prefix 2 (some .int), .fieldLink RX2 46 "AgreedSlots$State" "chosenValue" "[I", .methodLink RX4 223 yX2_chosenAbove, .instanceMethod yX2_chosenAbove, .selects RX2 yX2_chosenAbove yX2_chosenAbove, .code yX2_chosenAbove cX2_chosenAbove 4 (some .int)] ++ wsX40 ++ wsX20 ++ wsX00 ++ wsX30)
def wsX5_init : List Cond := .code yX5_init cX5_init 2 none :: ([.methodLink RX5 1 objectInit, .instanceMethod objectInit, .code objectInit ⟨#[0xb1]⟩ 1 none, .arrayClass .int, .fieldLink RX5 7 "AgreedSlotsModel" "now" "[I", .fieldLink RX5 13 "AgreedSlotsModel" "history" "[I", .fieldLink RX5 16 "AgreedSlotsModel" "slot" "[I", .arrayClass .char, .fieldLink RX5 19 "AgreedSlotsModel" "text" "[C", .fieldLink RX5 23 "AgreedSlotsModel" "orders" "[I", .fieldLink RX5 26 "AgreedSlotsModel" "refused" "I", .fieldLink RX5 30 "AgreedSlotsModel" "before" "[I"] ++ wsX50)
def wsX5_in : List Cond := .code yX5_in cX5_in 3 (some .boolean) :: ([])
def wsX5_noAcceptor : List Cond := .code yX5_noAcceptor cX5_noAcceptor 1 (some .boolean) :: ([.methodLink RX5 33 yX5_in, .static yX5_in, .initialized RX5, .code yX5_in cX5_in 3 (some .boolean)])
def wsX5_noProposer : List Cond := .code yX5_noProposer cX5_noProposer 1 (some .boolean) :: ([.methodLink RX5 33 yX5_in, .static yX5_in, .initialized RX5, .code yX5_in cX5_in 3 (some .boolean)])
def wsX5_noSlot : List Cond := .code yX5_noSlot cX5_noSlot 1 (some .boolean) :: ([.methodLink RX5 33 yX5_in, .static yX5_in, .initialized RX5, .code yX5_in cX5_in 3 (some .boolean)])
def wsX5_isIn : List Cond := .code yX5_isIn cX5_isIn 2 (some .boolean) :: ([])
def wsX5_bits : List Cond := .code yX5_bits cX5_bits 3 (some .int) :: ([])
def wsX5_voteAt : List Cond := .code yX5_voteAt cX5_voteAt 2 (some .int) :: ([])
def wsX5_toldAt : List Cond := .code yX5_toldAt cX5_toldAt 3 (some .int) :: ([])
def wsX5_proposedAt : List Cond := .code yX5_proposedAt cX5_proposedAt 2 (some .int) :: ([])
def wsX5_chosen : List Cond := .code yX5_chosen cX5_chosen 2 (some .int) :: ([.fieldLink RX5 7 "AgreedSlotsModel" "now" "[I"] ++ wsX50)
def wsX5_record : List Cond := .code yX5_record cX5_record 2 none :: ([.fieldLink RX5 37 "AgreedSlotsModel" "isQuiet" "Z", .fieldLink RX5 41 "AgreedSlotsModel" "kept" "I", .fieldLink RX5 13 "AgreedSlotsModel" "history" "[I", .fieldLink RX5 7 "AgreedSlotsModel" "now" "[I"] ++ wsX50)
def wsX5_prefix : List Cond := .code yX5_prefix cX5_prefix 2 (some .int) :: ([.methodLink RX5 44 yX5_chosen, .instanceMethod yX5_chosen, .selects RX5 yX5_chosen yX5_chosen, .initialized RX5, .code yX5_chosen cX5_chosen 2 (some .int), .fieldLink RX5 7 "AgreedSlotsModel" "now" "[I"] ++ wsX50)
def wsX5_isOpen : List Cond := .code yX5_isOpen cX5_isOpen 2 (some .boolean) :: ([.methodLink RX5 48 yX5_prefix, .instanceMethod yX5_prefix, .selects RX5 yX5_prefix yX5_prefix, .initialized RX5, .code yX5_prefix cX5_prefix 2 (some .int), .methodLink RX5 44 yX5_chosen, .instanceMethod yX5_chosen, .selects RX5 yX5_chosen yX5_chosen, .code yX5_chosen cX5_chosen 2 (some .int), .fieldLink RX5 7 "AgreedSlotsModel" "now" "[I"] ++ wsX50)
def wsX5_isTrimmed : List Cond := .code yX5_isTrimmed cX5_isTrimmed 2 (some .boolean) :: ([.fieldLink RX5 7 "AgreedSlotsModel" "now" "[I"] ++ wsX50)
def wsX5_voters : List Cond := .code yX5_voters cX5_voters 3 (some .int) :: ([.methodLink RX5 44 yX5_chosen, .instanceMethod yX5_chosen, .selects RX5 yX5_chosen yX5_chosen, .initialized RX5, .code yX5_chosen cX5_chosen 2 (some .int), .fieldLink RX5 7 "AgreedSlotsModel" "now" "[I"] ++ wsX50)
def wsX5_secondSize : List Cond := .code yX5_secondSize cX5_secondSize 3 (some .int) :: ([.fieldLink RX5 7 "AgreedSlotsModel" "now" "[I", .methodLink RX5 52 yX5_voters, .instanceMethod yX5_voters, .selects RX5 yX5_voters yX5_voters, .initialized RX5, .code yX5_voters cX5_voters 3 (some .int), .methodLink RX5 44 yX5_chosen, .instanceMethod yX5_chosen, .selects RX5 yX5_chosen yX5_chosen, .code yX5_chosen cX5_chosen 2 (some .int), .methodLink RX5 55 yX5_bits, .static yX5_bits, .code yX5_bits cX5_bits 3 (some .int)] ++ wsX50)
def wsX5_firstSize : List Cond := .code yX5_firstSize cX5_firstSize 2 (some .int) :: ([.methodLink RX5 52 yX5_voters, .instanceMethod yX5_voters, .selects RX5 yX5_voters yX5_voters, .initialized RX5, .code yX5_voters cX5_voters 3 (some .int), .methodLink RX5 44 yX5_chosen, .instanceMethod yX5_chosen, .selects RX5 yX5_chosen yX5_chosen, .code yX5_chosen cX5_chosen 2 (some .int), .fieldLink RX5 7 "AgreedSlotsModel" "now" "[I", .methodLink RX5 55 yX5_bits, .static yX5_bits, .code yX5_bits cX5_bits 3 (some .int), .methodLink RX5 58 yX5_secondSize, .instanceMethod yX5_secondSize, .selects RX5 yX5_secondSize yX5_secondSize, .code yX5_secondSize cX5_secondSize 3 (some .int)] ++ wsX50)
def wsX5_ups : List Cond := .code yX5_ups cX5_ups 3 (some .int) :: ([.fieldLink RX5 7 "AgreedSlotsModel" "now" "[I"] ++ wsX50)
def wsX5_setUp : List Cond := .code yX5_setUp cX5_setUp 3 (some .int) :: ([.fieldLink RX5 7 "AgreedSlotsModel" "now" "[I", .methodLink RX5 61 yX5_noAcceptor, .static yX5_noAcceptor, .initialized RX5, .code yX5_noAcceptor cX5_noAcceptor 1 (some .boolean), .methodLink RX5 33 yX5_in, .static yX5_in, .code yX5_in cX5_in 3 (some .boolean), .methodLink RX5 65 yX5_record, .instanceMethod yX5_record, .selects RX5 yX5_record yX5_record, .code yX5_record cX5_record 2 none, .fieldLink RX5 37 "AgreedSlotsModel" "isQuiet" "Z", .fieldLink RX5 41 "AgreedSlotsModel" "kept" "I", .fieldLink RX5 13 "AgreedSlotsModel" "history" "[I", .methodLink RX5 68 yX5_ups, .instanceMethod yX5_ups, .selects RX5 yX5_ups yX5_ups, .code yX5_ups cX5_ups 3 (some .int), .methodLink RX5 55 yX5_bits, .static yX5_bits, .code yX5_bits cX5_bits 3 (some .int)] ++ wsX50)
def wsX5_setSecond : List Cond := .code yX5_setSecond cX5_setSecond 3 (some .int) :: ([.fieldLink RX5 7 "AgreedSlotsModel" "now" "[I", .methodLink RX5 33 yX5_in, .static yX5_in, .initialized RX5, .code yX5_in cX5_in 3 (some .boolean), .methodLink RX5 65 yX5_record, .instanceMethod yX5_record, .selects RX5 yX5_record yX5_record, .code yX5_record cX5_record 2 none, .fieldLink RX5 37 "AgreedSlotsModel" "isQuiet" "Z", .fieldLink RX5 41 "AgreedSlotsModel" "kept" "I", .fieldLink RX5 13 "AgreedSlotsModel" "history" "[I"] ++ wsX50)
def wsX5_prepare : List Cond := .code yX5_prepare cX5_prepare 6 (some .int) :: ([.fieldLink RX5 7 "AgreedSlotsModel" "now" "[I", .methodLink RX5 71 yX5_noProposer, .static yX5_noProposer, .initialized RX5, .code yX5_noProposer cX5_noProposer 1 (some .boolean), .methodLink RX5 33 yX5_in, .static yX5_in, .code yX5_in cX5_in 3 (some .boolean), .methodLink RX5 65 yX5_record, .instanceMethod yX5_record, .selects RX5 yX5_record yX5_record, .code yX5_record cX5_record 2 none, .fieldLink RX5 37 "AgreedSlotsModel" "isQuiet" "Z", .fieldLink RX5 41 "AgreedSlotsModel" "kept" "I", .fieldLink RX5 13 "AgreedSlotsModel" "history" "[I", .methodLink RX5 74 yX5_proposedAt, .static yX5_proposedAt, .code yX5_proposedAt cX5_proposedAt 2 (some .int), .methodLink RX5 78 yX5_toldAt, .static yX5_toldAt, .code yX5_toldAt cX5_toldAt 3 (some .int)] ++ wsX50)
def wsX5_refuses : List Cond := .code yX5_refuses cX5_refuses 5 (some .int) :: ([.fieldLink RX5 7 "AgreedSlotsModel" "now" "[I"] ++ wsX50)
def wsX5_promise_r1 : List Cond := [Cond.fieldLink RX5 7 "AgreedSlotsModel" "now" "[I", Cond.methodLink RX5 71 yX5_noProposer, Cond.static yX5_noProposer, Cond.initialized RX5, Cond.code yX5_noProposer cX5_noProposer 1 (some .boolean), Cond.methodLink RX5 33 yX5_in, Cond.static yX5_in, Cond.code yX5_in cX5_in 3 (some .boolean), Cond.methodLink RX5 61 yX5_noAcceptor, Cond.static yX5_noAcceptor, Cond.code yX5_noAcceptor cX5_noAcceptor 1 (some .boolean), Cond.methodLink RX5 82 yX5_isIn, Cond.static yX5_isIn, Cond.code yX5_isIn cX5_isIn 2 (some .boolean), Cond.methodLink RX5 65 yX5_record, Cond.instanceMethod yX5_record, Cond.selects RX5 yX5_record yX5_record, Cond.code yX5_record cX5_record 2 none, Cond.fieldLink RX5 37 "AgreedSlotsModel" "isQuiet" "Z", Cond.fieldLink RX5 41 "AgreedSlotsModel" "kept" "I", Cond.fieldLink RX5 13 "AgreedSlotsModel" "history" "[I", Cond.methodLink RX5 86 yX5_refuses, Cond.instanceMethod yX5_refuses, Cond.selects RX5 yX5_refuses yX5_refuses]
def wsX5_promise_r2 : List Cond := [Cond.code yX5_refuses cX5_refuses 5 (some .int), Cond.methodLink RX5 89 yX5_voteAt, Cond.static yX5_voteAt, Cond.code yX5_voteAt cX5_voteAt 2 (some .int), Cond.methodLink RX5 78 yX5_toldAt, Cond.static yX5_toldAt, Cond.code yX5_toldAt cX5_toldAt 3 (some .int)]
def wsX5_promise : List Cond := .code yX5_promise cX5_promise 8 (some .int) :: ((wsX5_promise_r1 ++ wsX5_promise_r2) ++ wsX50)
def wsX5_bound : List Cond := .code yX5_bound cX5_bound 8 (some .int) :: ([.fieldLink RX5 7 "AgreedSlotsModel" "now" "[I", .methodLink RX5 52 yX5_voters, .instanceMethod yX5_voters, .selects RX5 yX5_voters yX5_voters, .initialized RX5, .code yX5_voters cX5_voters 3 (some .int), .methodLink RX5 44 yX5_chosen, .instanceMethod yX5_chosen, .selects RX5 yX5_chosen yX5_chosen, .code yX5_chosen cX5_chosen 2 (some .int), .methodLink RX5 78 yX5_toldAt, .static yX5_toldAt, .code yX5_toldAt cX5_toldAt 3 (some .int), .methodLink RX5 82 yX5_isIn, .static yX5_isIn, .code yX5_isIn cX5_isIn 2 (some .boolean)] ++ wsX50)
def wsX5_lacking : List Cond := .code yX5_lacking cX5_lacking 4 (some .int) :: ([.fieldLink RX5 7 "AgreedSlotsModel" "now" "[I", .methodLink RX5 92 yX5_firstSize, .instanceMethod yX5_firstSize, .selects RX5 yX5_firstSize yX5_firstSize, .initialized RX5, .code yX5_firstSize cX5_firstSize 2 (some .int), .methodLink RX5 52 yX5_voters, .instanceMethod yX5_voters, .selects RX5 yX5_voters yX5_voters, .code yX5_voters cX5_voters 3 (some .int), .methodLink RX5 44 yX5_chosen, .instanceMethod yX5_chosen, .selects RX5 yX5_chosen yX5_chosen, .code yX5_chosen cX5_chosen 2 (some .int), .methodLink RX5 55 yX5_bits, .static yX5_bits, .code yX5_bits cX5_bits 3 (some .int), .methodLink RX5 58 yX5_secondSize, .instanceMethod yX5_secondSize, .selects RX5 yX5_secondSize yX5_secondSize, .code yX5_secondSize cX5_secondSize 3 (some .int)] ++ wsX50)
def wsX5_propose_r1 : List Cond := [Cond.fieldLink RX5 7 "AgreedSlotsModel" "now" "[I", Cond.methodLink RX5 71 yX5_noProposer, Cond.static yX5_noProposer, Cond.initialized RX5, Cond.code yX5_noProposer cX5_noProposer 1 (some .boolean), Cond.methodLink RX5 33 yX5_in, Cond.static yX5_in, Cond.code yX5_in cX5_in 3 (some .boolean), Cond.methodLink RX5 95 yX5_noSlot, Cond.static yX5_noSlot, Cond.code yX5_noSlot cX5_noSlot 1 (some .boolean), Cond.methodLink RX5 98 yX5_isTrimmed, Cond.instanceMethod yX5_isTrimmed, Cond.selects RX5 yX5_isTrimmed yX5_isTrimmed, Cond.code yX5_isTrimmed cX5_isTrimmed 2 (some .boolean), Cond.methodLink RX5 101 yX5_isOpen, Cond.instanceMethod yX5_isOpen, Cond.selects RX5 yX5_isOpen yX5_isOpen, Cond.code yX5_isOpen cX5_isOpen 2 (some .boolean), Cond.methodLink RX5 48 yX5_prefix, Cond.instanceMethod yX5_prefix, Cond.selects RX5 yX5_prefix yX5_prefix, Cond.code yX5_prefix cX5_prefix 2 (some .int), Cond.methodLink RX5 44 yX5_chosen]
def wsX5_propose_r2 : List Cond := [Cond.instanceMethod yX5_chosen, Cond.selects RX5 yX5_chosen yX5_chosen, Cond.code yX5_chosen cX5_chosen 2 (some .int), Cond.methodLink RX5 104 yX5_lacking, Cond.instanceMethod yX5_lacking, Cond.selects RX5 yX5_lacking yX5_lacking, Cond.code yX5_lacking cX5_lacking 4 (some .int), Cond.methodLink RX5 92 yX5_firstSize, Cond.instanceMethod yX5_firstSize, Cond.selects RX5 yX5_firstSize yX5_firstSize, Cond.code yX5_firstSize cX5_firstSize 2 (some .int), Cond.methodLink RX5 52 yX5_voters, Cond.instanceMethod yX5_voters, Cond.selects RX5 yX5_voters yX5_voters, Cond.code yX5_voters cX5_voters 3 (some .int), Cond.methodLink RX5 55 yX5_bits, Cond.static yX5_bits, Cond.code yX5_bits cX5_bits 3 (some .int), Cond.methodLink RX5 58 yX5_secondSize, Cond.instanceMethod yX5_secondSize, Cond.selects RX5 yX5_secondSize yX5_secondSize, Cond.code yX5_secondSize cX5_secondSize 3 (some .int), Cond.methodLink RX5 74 yX5_proposedAt, Cond.static yX5_proposedAt]
def wsX5_propose_r3 : List Cond := [Cond.code yX5_proposedAt cX5_proposedAt 2 (some .int), Cond.methodLink RX5 65 yX5_record, Cond.instanceMethod yX5_record, Cond.selects RX5 yX5_record yX5_record, Cond.code yX5_record cX5_record 2 none, Cond.fieldLink RX5 37 "AgreedSlotsModel" "isQuiet" "Z", Cond.fieldLink RX5 41 "AgreedSlotsModel" "kept" "I", Cond.fieldLink RX5 13 "AgreedSlotsModel" "history" "[I", Cond.methodLink RX5 107 yX5_bound, Cond.instanceMethod yX5_bound, Cond.selects RX5 yX5_bound yX5_bound, Cond.code yX5_bound cX5_bound 8 (some .int), Cond.methodLink RX5 78 yX5_toldAt, Cond.static yX5_toldAt, Cond.code yX5_toldAt cX5_toldAt 3 (some .int), Cond.methodLink RX5 82 yX5_isIn, Cond.static yX5_isIn, Cond.code yX5_isIn cX5_isIn 2 (some .boolean)]
def wsX5_propose : List Cond := .code yX5_propose cX5_propose 5 (some .int) :: ((wsX5_propose_r1 ++ (wsX5_propose_r2 ++ wsX5_propose_r3)) ++ wsX50)
def wsX5_vote_r1 : List Cond := [Cond.fieldLink RX5 7 "AgreedSlotsModel" "now" "[I", Cond.methodLink RX5 71 yX5_noProposer, Cond.static yX5_noProposer, Cond.initialized RX5, Cond.code yX5_noProposer cX5_noProposer 1 (some .boolean), Cond.methodLink RX5 33 yX5_in, Cond.static yX5_in, Cond.code yX5_in cX5_in 3 (some .boolean), Cond.methodLink RX5 95 yX5_noSlot, Cond.static yX5_noSlot, Cond.code yX5_noSlot cX5_noSlot 1 (some .boolean), Cond.methodLink RX5 61 yX5_noAcceptor, Cond.static yX5_noAcceptor, Cond.code yX5_noAcceptor cX5_noAcceptor 1 (some .boolean), Cond.methodLink RX5 74 yX5_proposedAt, Cond.static yX5_proposedAt, Cond.code yX5_proposedAt cX5_proposedAt 2 (some .int), Cond.methodLink RX5 98 yX5_isTrimmed, Cond.instanceMethod yX5_isTrimmed, Cond.selects RX5 yX5_isTrimmed yX5_isTrimmed, Cond.code yX5_isTrimmed cX5_isTrimmed 2 (some .boolean), Cond.methodLink RX5 52 yX5_voters, Cond.instanceMethod yX5_voters, Cond.selects RX5 yX5_voters yX5_voters]
def wsX5_vote_r2 : List Cond := [Cond.code yX5_voters cX5_voters 3 (some .int), Cond.methodLink RX5 44 yX5_chosen, Cond.instanceMethod yX5_chosen, Cond.selects RX5 yX5_chosen yX5_chosen, Cond.code yX5_chosen cX5_chosen 2 (some .int), Cond.methodLink RX5 82 yX5_isIn, Cond.static yX5_isIn, Cond.code yX5_isIn cX5_isIn 2 (some .boolean), Cond.methodLink RX5 89 yX5_voteAt, Cond.static yX5_voteAt, Cond.code yX5_voteAt cX5_voteAt 2 (some .int), Cond.methodLink RX5 65 yX5_record, Cond.instanceMethod yX5_record, Cond.selects RX5 yX5_record yX5_record, Cond.code yX5_record cX5_record 2 none, Cond.fieldLink RX5 37 "AgreedSlotsModel" "isQuiet" "Z", Cond.fieldLink RX5 41 "AgreedSlotsModel" "kept" "I", Cond.fieldLink RX5 13 "AgreedSlotsModel" "history" "[I", Cond.methodLink RX5 86 yX5_refuses, Cond.instanceMethod yX5_refuses, Cond.selects RX5 yX5_refuses yX5_refuses, Cond.code yX5_refuses cX5_refuses 5 (some .int), Cond.methodLink RX5 58 yX5_secondSize, Cond.instanceMethod yX5_secondSize]
def wsX5_vote_r3 : List Cond := [Cond.selects RX5 yX5_secondSize yX5_secondSize, Cond.code yX5_secondSize cX5_secondSize 3 (some .int), Cond.methodLink RX5 55 yX5_bits, Cond.static yX5_bits, Cond.code yX5_bits cX5_bits 3 (some .int)]
def wsX5_vote : List Cond := .code yX5_vote cX5_vote 9 (some .int) :: ((wsX5_vote_r1 ++ (wsX5_vote_r2 ++ wsX5_vote_r3)) ++ wsX50)
def wsX5_trim_r1 : List Cond := [Cond.fieldLink RX5 7 "AgreedSlotsModel" "now" "[I", Cond.methodLink RX5 95 yX5_noSlot, Cond.static yX5_noSlot, Cond.initialized RX5, Cond.code yX5_noSlot cX5_noSlot 1 (some .boolean), Cond.methodLink RX5 33 yX5_in, Cond.static yX5_in, Cond.code yX5_in cX5_in 3 (some .boolean), Cond.methodLink RX5 48 yX5_prefix, Cond.instanceMethod yX5_prefix, Cond.selects RX5 yX5_prefix yX5_prefix, Cond.code yX5_prefix cX5_prefix 2 (some .int), Cond.methodLink RX5 44 yX5_chosen, Cond.instanceMethod yX5_chosen, Cond.selects RX5 yX5_chosen yX5_chosen, Cond.code yX5_chosen cX5_chosen 2 (some .int), Cond.methodLink RX5 98 yX5_isTrimmed, Cond.instanceMethod yX5_isTrimmed, Cond.selects RX5 yX5_isTrimmed yX5_isTrimmed, Cond.code yX5_isTrimmed cX5_isTrimmed 2 (some .boolean), Cond.methodLink RX5 65 yX5_record, Cond.instanceMethod yX5_record, Cond.selects RX5 yX5_record yX5_record, Cond.code yX5_record cX5_record 2 none]
def wsX5_trim_r2 : List Cond := [Cond.fieldLink RX5 37 "AgreedSlotsModel" "isQuiet" "Z", Cond.fieldLink RX5 41 "AgreedSlotsModel" "kept" "I", Cond.fieldLink RX5 13 "AgreedSlotsModel" "history" "[I", Cond.methodLink RX5 89 yX5_voteAt, Cond.static yX5_voteAt, Cond.code yX5_voteAt cX5_voteAt 2 (some .int)]
def wsX5_trim : List Cond := .code yX5_trim cX5_trim 5 (some .int) :: ((wsX5_trim_r1 ++ wsX5_trim_r2) ++ wsX50)
def wsX5_type : List Cond := .code yX5_type cX5_type 2 (some .int) :: ([.fieldLink RX5 110 "AgreedSlotsModel" "typed" "I", .fieldLink RX5 19 "AgreedSlotsModel" "text" "[C"] ++ wsX50)
def wsX5_clearText : List Cond := .code yX5_clearText cX5_clearText 2 (some .int) :: ([.fieldLink RX5 110 "AgreedSlotsModel" "typed" "I"] ++ wsX50)
def wsX5_isBetween : List Cond := .code yX5_isBetween cX5_isBetween 3 (some .boolean) :: ([.fieldLink RX5 113 "AgreedSlotsModel" "at" "I", .fieldLink RX5 110 "AgreedSlotsModel" "typed" "I", .fieldLink RX5 19 "AgreedSlotsModel" "text" "[C", .methodLink RX5 33 yX5_in, .static yX5_in, .initialized RX5, .code yX5_in cX5_in 3 (some .boolean)] ++ wsX50)
def wsX5_takes : List Cond := .code yX5_takes cX5_takes 5 (some .boolean) :: ([.fieldLink RX5 113 "AgreedSlotsModel" "at" "I", .fieldLink RX5 19 "AgreedSlotsModel" "text" "[C", .fieldLink RX5 23 "AgreedSlotsModel" "orders" "[I", .fieldLink RX5 119 "AgreedSlotsModel" "many" "I", .methodLink RX5 116 yX5_isBetween, .instanceMethod yX5_isBetween, .selects RX5 yX5_isBetween yX5_isBetween, .initialized RX5, .code yX5_isBetween cX5_isBetween 3 (some .boolean), .fieldLink RX5 110 "AgreedSlotsModel" "typed" "I", .methodLink RX5 33 yX5_in, .static yX5_in, .code yX5_in cX5_in 3 (some .boolean)] ++ wsX50)
def wsX5_takesOrder : List Cond := .code yX5_takesOrder cX5_takesOrder 3 (some .boolean) :: ([.fieldLink RX5 113 "AgreedSlotsModel" "at" "I", .fieldLink RX5 110 "AgreedSlotsModel" "typed" "I", .fieldLink RX5 19 "AgreedSlotsModel" "text" "[C", .fieldLink RX5 23 "AgreedSlotsModel" "orders" "[I", .fieldLink RX5 119 "AgreedSlotsModel" "many" "I", .methodLink RX5 122 yX5_takes, .instanceMethod yX5_takes, .selects RX5 yX5_takes yX5_takes, .initialized RX5, .code yX5_takes cX5_takes 5 (some .boolean), .methodLink RX5 116 yX5_isBetween, .instanceMethod yX5_isBetween, .selects RX5 yX5_isBetween yX5_isBetween, .code yX5_isBetween cX5_isBetween 3 (some .boolean), .methodLink RX5 33 yX5_in, .static yX5_in, .code yX5_in cX5_in 3 (some .boolean)] ++ wsX50)
def wsX5_isRead : List Cond := .code yX5_isRead cX5_isRead 2 (some .boolean) :: ([.fieldLink RX5 113 "AgreedSlotsModel" "at" "I", .fieldLink RX5 119 "AgreedSlotsModel" "many" "I", .fieldLink RX5 110 "AgreedSlotsModel" "typed" "I", .fieldLink RX5 19 "AgreedSlotsModel" "text" "[C", .methodLink RX5 125 yX5_takesOrder, .instanceMethod yX5_takesOrder, .selects RX5 yX5_takesOrder yX5_takesOrder, .initialized RX5, .code yX5_takesOrder cX5_takesOrder 3 (some .boolean), .fieldLink RX5 23 "AgreedSlotsModel" "orders" "[I", .methodLink RX5 122 yX5_takes, .instanceMethod yX5_takes, .selects RX5 yX5_takes yX5_takes, .code yX5_takes cX5_takes 5 (some .boolean), .methodLink RX5 116 yX5_isBetween, .instanceMethod yX5_isBetween, .selects RX5 yX5_isBetween yX5_isBetween, .code yX5_isBetween cX5_isBetween 3 (some .boolean), .methodLink RX5 33 yX5_in, .static yX5_in, .code yX5_in cX5_in 3 (some .boolean)] ++ wsX50)
def wsX5_does_r1 : List Cond := [Cond.fieldLink RX5 23 "AgreedSlotsModel" "orders" "[I", Cond.methodLink RX5 129 yX5_prepare, Cond.instanceMethod yX5_prepare, Cond.selects RX5 yX5_prepare yX5_prepare, Cond.initialized RX5, Cond.code yX5_prepare cX5_prepare 6 (some .int), Cond.fieldLink RX5 7 "AgreedSlotsModel" "now" "[I", Cond.methodLink RX5 71 yX5_noProposer, Cond.static yX5_noProposer, Cond.code yX5_noProposer cX5_noProposer 1 (some .boolean), Cond.methodLink RX5 33 yX5_in, Cond.static yX5_in, Cond.code yX5_in cX5_in 3 (some .boolean), Cond.methodLink RX5 65 yX5_record, Cond.instanceMethod yX5_record, Cond.selects RX5 yX5_record yX5_record, Cond.code yX5_record cX5_record 2 none, Cond.fieldLink RX5 37 "AgreedSlotsModel" "isQuiet" "Z", Cond.fieldLink RX5 41 "AgreedSlotsModel" "kept" "I", Cond.fieldLink RX5 13 "AgreedSlotsModel" "history" "[I", Cond.methodLink RX5 74 yX5_proposedAt, Cond.static yX5_proposedAt, Cond.code yX5_proposedAt cX5_proposedAt 2 (some .int), Cond.methodLink RX5 78 yX5_toldAt]
def wsX5_does_r2 : List Cond := [Cond.static yX5_toldAt, Cond.code yX5_toldAt cX5_toldAt 3 (some .int), Cond.methodLink RX5 132 yX5_promise, Cond.instanceMethod yX5_promise, Cond.selects RX5 yX5_promise yX5_promise, Cond.code yX5_promise cX5_promise 8 (some .int), Cond.methodLink RX5 61 yX5_noAcceptor, Cond.static yX5_noAcceptor, Cond.code yX5_noAcceptor cX5_noAcceptor 1 (some .boolean), Cond.methodLink RX5 82 yX5_isIn, Cond.static yX5_isIn, Cond.code yX5_isIn cX5_isIn 2 (some .boolean), Cond.methodLink RX5 86 yX5_refuses, Cond.instanceMethod yX5_refuses, Cond.selects RX5 yX5_refuses yX5_refuses, Cond.code yX5_refuses cX5_refuses 5 (some .int), Cond.methodLink RX5 89 yX5_voteAt, Cond.static yX5_voteAt, Cond.code yX5_voteAt cX5_voteAt 2 (some .int), Cond.methodLink RX5 135 yX5_propose, Cond.instanceMethod yX5_propose, Cond.selects RX5 yX5_propose yX5_propose, Cond.code yX5_propose cX5_propose 5 (some .int), Cond.methodLink RX5 95 yX5_noSlot]
def wsX5_does_r3 : List Cond := [Cond.static yX5_noSlot, Cond.code yX5_noSlot cX5_noSlot 1 (some .boolean), Cond.methodLink RX5 98 yX5_isTrimmed, Cond.instanceMethod yX5_isTrimmed, Cond.selects RX5 yX5_isTrimmed yX5_isTrimmed, Cond.code yX5_isTrimmed cX5_isTrimmed 2 (some .boolean), Cond.methodLink RX5 101 yX5_isOpen, Cond.instanceMethod yX5_isOpen, Cond.selects RX5 yX5_isOpen yX5_isOpen, Cond.code yX5_isOpen cX5_isOpen 2 (some .boolean), Cond.methodLink RX5 48 yX5_prefix, Cond.instanceMethod yX5_prefix, Cond.selects RX5 yX5_prefix yX5_prefix, Cond.code yX5_prefix cX5_prefix 2 (some .int), Cond.methodLink RX5 44 yX5_chosen, Cond.instanceMethod yX5_chosen, Cond.selects RX5 yX5_chosen yX5_chosen, Cond.code yX5_chosen cX5_chosen 2 (some .int), Cond.methodLink RX5 104 yX5_lacking, Cond.instanceMethod yX5_lacking, Cond.selects RX5 yX5_lacking yX5_lacking, Cond.code yX5_lacking cX5_lacking 4 (some .int), Cond.methodLink RX5 92 yX5_firstSize, Cond.instanceMethod yX5_firstSize]
def wsX5_does_r4 : List Cond := [Cond.selects RX5 yX5_firstSize yX5_firstSize, Cond.code yX5_firstSize cX5_firstSize 2 (some .int), Cond.methodLink RX5 52 yX5_voters, Cond.instanceMethod yX5_voters, Cond.selects RX5 yX5_voters yX5_voters, Cond.code yX5_voters cX5_voters 3 (some .int), Cond.methodLink RX5 55 yX5_bits, Cond.static yX5_bits, Cond.code yX5_bits cX5_bits 3 (some .int), Cond.methodLink RX5 58 yX5_secondSize, Cond.instanceMethod yX5_secondSize, Cond.selects RX5 yX5_secondSize yX5_secondSize, Cond.code yX5_secondSize cX5_secondSize 3 (some .int), Cond.methodLink RX5 107 yX5_bound, Cond.instanceMethod yX5_bound, Cond.selects RX5 yX5_bound yX5_bound, Cond.code yX5_bound cX5_bound 8 (some .int), Cond.methodLink RX5 138 yX5_vote, Cond.instanceMethod yX5_vote, Cond.selects RX5 yX5_vote yX5_vote, Cond.code yX5_vote cX5_vote 9 (some .int), Cond.methodLink RX5 141 yX5_setUp, Cond.instanceMethod yX5_setUp, Cond.selects RX5 yX5_setUp yX5_setUp]
def wsX5_does_r5 : List Cond := [Cond.code yX5_setUp cX5_setUp 3 (some .int), Cond.methodLink RX5 68 yX5_ups, Cond.instanceMethod yX5_ups, Cond.selects RX5 yX5_ups yX5_ups, Cond.code yX5_ups cX5_ups 3 (some .int)]
def wsX5_does : List Cond := .code yX5_does cX5_does 5 (some .int) :: ((wsX5_does_r1 ++ (wsX5_does_r2 ++ (wsX5_does_r3 ++ (wsX5_does_r4 ++ wsX5_does_r5)))) ++ wsX50)
def wsX5_copies : List Cond := .code yX5_copies cX5_copies 4 none :: ([])
def wsX5_perform_r1 : List Cond := [Cond.fieldLink RX5 113 "AgreedSlotsModel" "at" "I", Cond.fieldLink RX5 7 "AgreedSlotsModel" "now" "[I", Cond.fieldLink RX5 30 "AgreedSlotsModel" "before" "[I", Cond.fieldLink RX5 37 "AgreedSlotsModel" "isQuiet" "Z", Cond.fieldLink RX5 119 "AgreedSlotsModel" "many" "I", Cond.fieldLink RX5 26 "AgreedSlotsModel" "refused" "I", Cond.fieldLink RX5 155 "AgreedSlotsModel" "error" "I", Cond.fieldLink RX5 23 "AgreedSlotsModel" "orders" "[I", Cond.fieldLink RX5 158 "AgreedSlotsModel" "refusedAt" "I", Cond.methodLink RX5 145 yX5_isRead, Cond.instanceMethod yX5_isRead, Cond.selects RX5 yX5_isRead yX5_isRead, Cond.initialized RX5, Cond.code yX5_isRead cX5_isRead 2 (some .boolean), Cond.fieldLink RX5 110 "AgreedSlotsModel" "typed" "I", Cond.fieldLink RX5 19 "AgreedSlotsModel" "text" "[C", Cond.methodLink RX5 125 yX5_takesOrder, Cond.instanceMethod yX5_takesOrder, Cond.selects RX5 yX5_takesOrder yX5_takesOrder, Cond.code yX5_takesOrder cX5_takesOrder 3 (some .boolean), Cond.methodLink RX5 122 yX5_takes, Cond.instanceMethod yX5_takes, Cond.selects RX5 yX5_takes yX5_takes, Cond.code yX5_takes cX5_takes 5 (some .boolean)]
def wsX5_perform_r2 : List Cond := [Cond.methodLink RX5 116 yX5_isBetween, Cond.instanceMethod yX5_isBetween, Cond.selects RX5 yX5_isBetween yX5_isBetween, Cond.code yX5_isBetween cX5_isBetween 3 (some .boolean), Cond.methodLink RX5 33 yX5_in, Cond.static yX5_in, Cond.code yX5_in cX5_in 3 (some .boolean), Cond.methodLink RX5 148 yX5_copies, Cond.instanceMethod yX5_copies, Cond.selects RX5 yX5_copies yX5_copies, Cond.code yX5_copies cX5_copies 4 none, Cond.methodLink RX5 152 yX5_does, Cond.instanceMethod yX5_does, Cond.selects RX5 yX5_does yX5_does, Cond.code yX5_does cX5_does 5 (some .int), Cond.methodLink RX5 129 yX5_prepare, Cond.instanceMethod yX5_prepare, Cond.selects RX5 yX5_prepare yX5_prepare, Cond.code yX5_prepare cX5_prepare 6 (some .int), Cond.methodLink RX5 71 yX5_noProposer, Cond.static yX5_noProposer, Cond.code yX5_noProposer cX5_noProposer 1 (some .boolean), Cond.methodLink RX5 65 yX5_record, Cond.instanceMethod yX5_record]
def wsX5_perform_r3 : List Cond := [Cond.selects RX5 yX5_record yX5_record, Cond.code yX5_record cX5_record 2 none, Cond.fieldLink RX5 41 "AgreedSlotsModel" "kept" "I", Cond.fieldLink RX5 13 "AgreedSlotsModel" "history" "[I", Cond.methodLink RX5 74 yX5_proposedAt, Cond.static yX5_proposedAt, Cond.code yX5_proposedAt cX5_proposedAt 2 (some .int), Cond.methodLink RX5 78 yX5_toldAt, Cond.static yX5_toldAt, Cond.code yX5_toldAt cX5_toldAt 3 (some .int), Cond.methodLink RX5 132 yX5_promise, Cond.instanceMethod yX5_promise, Cond.selects RX5 yX5_promise yX5_promise, Cond.code yX5_promise cX5_promise 8 (some .int), Cond.methodLink RX5 61 yX5_noAcceptor, Cond.static yX5_noAcceptor, Cond.code yX5_noAcceptor cX5_noAcceptor 1 (some .boolean), Cond.methodLink RX5 82 yX5_isIn, Cond.static yX5_isIn, Cond.code yX5_isIn cX5_isIn 2 (some .boolean), Cond.methodLink RX5 86 yX5_refuses, Cond.instanceMethod yX5_refuses, Cond.selects RX5 yX5_refuses yX5_refuses, Cond.code yX5_refuses cX5_refuses 5 (some .int)]
def wsX5_perform_r4 : List Cond := [Cond.methodLink RX5 89 yX5_voteAt, Cond.static yX5_voteAt, Cond.code yX5_voteAt cX5_voteAt 2 (some .int), Cond.methodLink RX5 135 yX5_propose, Cond.instanceMethod yX5_propose, Cond.selects RX5 yX5_propose yX5_propose, Cond.code yX5_propose cX5_propose 5 (some .int), Cond.methodLink RX5 95 yX5_noSlot, Cond.static yX5_noSlot, Cond.code yX5_noSlot cX5_noSlot 1 (some .boolean), Cond.methodLink RX5 98 yX5_isTrimmed, Cond.instanceMethod yX5_isTrimmed, Cond.selects RX5 yX5_isTrimmed yX5_isTrimmed, Cond.code yX5_isTrimmed cX5_isTrimmed 2 (some .boolean), Cond.methodLink RX5 101 yX5_isOpen, Cond.instanceMethod yX5_isOpen, Cond.selects RX5 yX5_isOpen yX5_isOpen, Cond.code yX5_isOpen cX5_isOpen 2 (some .boolean), Cond.methodLink RX5 48 yX5_prefix, Cond.instanceMethod yX5_prefix, Cond.selects RX5 yX5_prefix yX5_prefix, Cond.code yX5_prefix cX5_prefix 2 (some .int), Cond.methodLink RX5 44 yX5_chosen, Cond.instanceMethod yX5_chosen]
def wsX5_perform_r5 : List Cond := [Cond.selects RX5 yX5_chosen yX5_chosen, Cond.code yX5_chosen cX5_chosen 2 (some .int), Cond.methodLink RX5 104 yX5_lacking, Cond.instanceMethod yX5_lacking, Cond.selects RX5 yX5_lacking yX5_lacking, Cond.code yX5_lacking cX5_lacking 4 (some .int), Cond.methodLink RX5 92 yX5_firstSize, Cond.instanceMethod yX5_firstSize, Cond.selects RX5 yX5_firstSize yX5_firstSize, Cond.code yX5_firstSize cX5_firstSize 2 (some .int), Cond.methodLink RX5 52 yX5_voters, Cond.instanceMethod yX5_voters, Cond.selects RX5 yX5_voters yX5_voters, Cond.code yX5_voters cX5_voters 3 (some .int), Cond.methodLink RX5 55 yX5_bits, Cond.static yX5_bits, Cond.code yX5_bits cX5_bits 3 (some .int), Cond.methodLink RX5 58 yX5_secondSize, Cond.instanceMethod yX5_secondSize, Cond.selects RX5 yX5_secondSize yX5_secondSize, Cond.code yX5_secondSize cX5_secondSize 3 (some .int), Cond.methodLink RX5 107 yX5_bound, Cond.instanceMethod yX5_bound, Cond.selects RX5 yX5_bound yX5_bound]
def wsX5_perform_r6 : List Cond := [Cond.code yX5_bound cX5_bound 8 (some .int), Cond.methodLink RX5 138 yX5_vote, Cond.instanceMethod yX5_vote, Cond.selects RX5 yX5_vote yX5_vote, Cond.code yX5_vote cX5_vote 9 (some .int), Cond.methodLink RX5 141 yX5_setUp, Cond.instanceMethod yX5_setUp, Cond.selects RX5 yX5_setUp yX5_setUp, Cond.code yX5_setUp cX5_setUp 3 (some .int), Cond.methodLink RX5 68 yX5_ups, Cond.instanceMethod yX5_ups, Cond.selects RX5 yX5_ups yX5_ups, Cond.code yX5_ups cX5_ups 3 (some .int)]
def wsX5_perform : List Cond := .code yX5_perform cX5_perform 5 (some .int) :: ((wsX5_perform_r1 ++ (wsX5_perform_r2 ++ (wsX5_perform_r3 ++ (wsX5_perform_r4 ++ (wsX5_perform_r5 ++ wsX5_perform_r6))))) ++ wsX50)
def wsX5_refusal : List Cond := .code yX5_refusal cX5_refusal 2 (some .int) :: ([.fieldLink RX5 26 "AgreedSlotsModel" "refused" "I", .fieldLink RX5 155 "AgreedSlotsModel" "error" "I", .fieldLink RX5 158 "AgreedSlotsModel" "refusedAt" "I", .methodLink RX5 33 yX5_in, .static yX5_in, .initialized RX5, .code yX5_in cX5_in 3 (some .boolean)] ++ wsX50)
def wsX5_undo : List Cond := .code yX5_undo cX5_undo 2 (some .int) :: ([.fieldLink RX5 41 "AgreedSlotsModel" "kept" "I", .fieldLink RX5 7 "AgreedSlotsModel" "now" "[I", .fieldLink RX5 13 "AgreedSlotsModel" "history" "[I"] ++ wsX50)
def wsX5_keep : List Cond := .code yX5_keep cX5_keep 1 (some .int) :: ([.fieldLink RX5 7 "AgreedSlotsModel" "now" "[I", .fieldLink RX5 16 "AgreedSlotsModel" "slot" "[I", .fieldLink RX5 161 "AgreedSlotsModel" "isFilled" "Z", .methodLink RX5 148 yX5_copies, .instanceMethod yX5_copies, .selects RX5 yX5_copies yX5_copies, .initialized RX5, .code yX5_copies cX5_copies 4 none, .methodLink RX5 48 yX5_prefix, .instanceMethod yX5_prefix, .selects RX5 yX5_prefix yX5_prefix, .code yX5_prefix cX5_prefix 2 (some .int), .methodLink RX5 44 yX5_chosen, .instanceMethod yX5_chosen, .selects RX5 yX5_chosen yX5_chosen, .code yX5_chosen cX5_chosen 2 (some .int)] ++ wsX50)
def wsX5_restore : List Cond := .code yX5_restore cX5_restore 1 (some .int) :: ([.fieldLink RX5 161 "AgreedSlotsModel" "isFilled" "Z", .fieldLink RX5 16 "AgreedSlotsModel" "slot" "[I", .fieldLink RX5 7 "AgreedSlotsModel" "now" "[I", .methodLink RX5 65 yX5_record, .instanceMethod yX5_record, .selects RX5 yX5_record yX5_record, .initialized RX5, .code yX5_record cX5_record 2 none, .fieldLink RX5 37 "AgreedSlotsModel" "isQuiet" "Z", .fieldLink RX5 41 "AgreedSlotsModel" "kept" "I", .fieldLink RX5 13 "AgreedSlotsModel" "history" "[I", .methodLink RX5 148 yX5_copies, .instanceMethod yX5_copies, .selects RX5 yX5_copies yX5_copies, .code yX5_copies cX5_copies 4 none, .methodLink RX5 48 yX5_prefix, .instanceMethod yX5_prefix, .selects RX5 yX5_prefix yX5_prefix, .code yX5_prefix cX5_prefix 2 (some .int), .methodLink RX5 44 yX5_chosen, .instanceMethod yX5_chosen, .selects RX5 yX5_chosen yX5_chosen, .code yX5_chosen cX5_chosen 2 (some .int)] ++ wsX50)
def wsX5_votes : List Cond := .code yX5_votes cX5_votes 4 (some .int) :: ([.fieldLink RX5 7 "AgreedSlotsModel" "now" "[I", .methodLink RX5 89 yX5_voteAt, .static yX5_voteAt, .initialized RX5, .code yX5_voteAt cX5_voteAt 2 (some .int)] ++ wsX50)
def wsX5_acceptor : List Cond := .code yX5_acceptor cX5_acceptor 3 (some .int) :: ([.fieldLink RX5 7 "AgreedSlotsModel" "now" "[I", .methodLink RX5 61 yX5_noAcceptor, .static yX5_noAcceptor, .initialized RX5, .code yX5_noAcceptor cX5_noAcceptor 1 (some .boolean), .methodLink RX5 33 yX5_in, .static yX5_in, .code yX5_in cX5_in 3 (some .boolean), .methodLink RX5 164 yX5_votes, .instanceMethod yX5_votes, .selects RX5 yX5_votes yX5_votes, .code yX5_votes cX5_votes 4 (some .int), .methodLink RX5 89 yX5_voteAt, .static yX5_voteAt, .code yX5_voteAt cX5_voteAt 2 (some .int)] ++ wsX50)
def wsX5_voted : List Cond := .code yX5_voted cX5_voted 5 (some .int) :: ([.fieldLink RX5 7 "AgreedSlotsModel" "now" "[I", .methodLink RX5 61 yX5_noAcceptor, .static yX5_noAcceptor, .initialized RX5, .code yX5_noAcceptor cX5_noAcceptor 1 (some .boolean), .methodLink RX5 33 yX5_in, .static yX5_in, .code yX5_in cX5_in 3 (some .boolean), .methodLink RX5 95 yX5_noSlot, .static yX5_noSlot, .code yX5_noSlot cX5_noSlot 1 (some .boolean), .methodLink RX5 89 yX5_voteAt, .static yX5_voteAt, .code yX5_voteAt cX5_voteAt 2 (some .int)] ++ wsX50)
def wsX5_proposals : List Cond := .code yX5_proposals cX5_proposals 4 (some .int) :: ([.fieldLink RX5 7 "AgreedSlotsModel" "now" "[I", .methodLink RX5 74 yX5_proposedAt, .static yX5_proposedAt, .initialized RX5, .code yX5_proposedAt cX5_proposedAt 2 (some .int)] ++ wsX50)
def wsX5_proposer : List Cond := .code yX5_proposer cX5_proposer 3 (some .int) :: ([.fieldLink RX5 7 "AgreedSlotsModel" "now" "[I", .methodLink RX5 71 yX5_noProposer, .static yX5_noProposer, .initialized RX5, .code yX5_noProposer cX5_noProposer 1 (some .boolean), .methodLink RX5 33 yX5_in, .static yX5_in, .code yX5_in cX5_in 3 (some .boolean), .methodLink RX5 167 yX5_proposals, .instanceMethod yX5_proposals, .selects RX5 yX5_proposals yX5_proposals, .code yX5_proposals cX5_proposals 4 (some .int), .methodLink RX5 74 yX5_proposedAt, .static yX5_proposedAt, .code yX5_proposedAt cX5_proposedAt 2 (some .int)] ++ wsX50)
def wsX5_proposed_r1 : List Cond := [Cond.fieldLink RX5 7 "AgreedSlotsModel" "now" "[I", Cond.methodLink RX5 71 yX5_noProposer, Cond.static yX5_noProposer, Cond.initialized RX5, Cond.code yX5_noProposer cX5_noProposer 1 (some .boolean), Cond.methodLink RX5 33 yX5_in, Cond.static yX5_in, Cond.code yX5_in cX5_in 3 (some .boolean), Cond.methodLink RX5 95 yX5_noSlot, Cond.static yX5_noSlot, Cond.code yX5_noSlot cX5_noSlot 1 (some .boolean), Cond.methodLink RX5 74 yX5_proposedAt, Cond.static yX5_proposedAt, Cond.code yX5_proposedAt cX5_proposedAt 2 (some .int), Cond.methodLink RX5 101 yX5_isOpen, Cond.instanceMethod yX5_isOpen, Cond.selects RX5 yX5_isOpen yX5_isOpen, Cond.code yX5_isOpen cX5_isOpen 2 (some .boolean), Cond.methodLink RX5 48 yX5_prefix, Cond.instanceMethod yX5_prefix, Cond.selects RX5 yX5_prefix yX5_prefix, Cond.code yX5_prefix cX5_prefix 2 (some .int), Cond.methodLink RX5 44 yX5_chosen, Cond.instanceMethod yX5_chosen]
def wsX5_proposed_r2 : List Cond := [Cond.selects RX5 yX5_chosen yX5_chosen, Cond.code yX5_chosen cX5_chosen 2 (some .int), Cond.methodLink RX5 107 yX5_bound, Cond.instanceMethod yX5_bound, Cond.selects RX5 yX5_bound yX5_bound, Cond.code yX5_bound cX5_bound 8 (some .int), Cond.methodLink RX5 52 yX5_voters, Cond.instanceMethod yX5_voters, Cond.selects RX5 yX5_voters yX5_voters, Cond.code yX5_voters cX5_voters 3 (some .int), Cond.methodLink RX5 78 yX5_toldAt, Cond.static yX5_toldAt, Cond.code yX5_toldAt cX5_toldAt 3 (some .int), Cond.methodLink RX5 82 yX5_isIn, Cond.static yX5_isIn, Cond.code yX5_isIn cX5_isIn 2 (some .boolean), Cond.methodLink RX5 104 yX5_lacking, Cond.instanceMethod yX5_lacking, Cond.selects RX5 yX5_lacking yX5_lacking, Cond.code yX5_lacking cX5_lacking 4 (some .int), Cond.methodLink RX5 92 yX5_firstSize, Cond.instanceMethod yX5_firstSize, Cond.selects RX5 yX5_firstSize yX5_firstSize, Cond.code yX5_firstSize cX5_firstSize 2 (some .int)]
def wsX5_proposed_r3 : List Cond := [Cond.methodLink RX5 55 yX5_bits, Cond.static yX5_bits, Cond.code yX5_bits cX5_bits 3 (some .int), Cond.methodLink RX5 58 yX5_secondSize, Cond.instanceMethod yX5_secondSize, Cond.selects RX5 yX5_secondSize yX5_secondSize, Cond.code yX5_secondSize cX5_secondSize 3 (some .int)]
def wsX5_proposed : List Cond := .code yX5_proposed cX5_proposed 5 (some .int) :: ((wsX5_proposed_r1 ++ (wsX5_proposed_r2 ++ wsX5_proposed_r3)) ++ wsX50)
def wsX5_slot_r1 : List Cond := [Cond.fieldLink RX5 7 "AgreedSlotsModel" "now" "[I", Cond.methodLink RX5 95 yX5_noSlot, Cond.static yX5_noSlot, Cond.initialized RX5, Cond.code yX5_noSlot cX5_noSlot 1 (some .boolean), Cond.methodLink RX5 33 yX5_in, Cond.static yX5_in, Cond.code yX5_in cX5_in 3 (some .boolean), Cond.methodLink RX5 44 yX5_chosen, Cond.instanceMethod yX5_chosen, Cond.selects RX5 yX5_chosen yX5_chosen, Cond.code yX5_chosen cX5_chosen 2 (some .int), Cond.methodLink RX5 101 yX5_isOpen, Cond.instanceMethod yX5_isOpen, Cond.selects RX5 yX5_isOpen yX5_isOpen, Cond.code yX5_isOpen cX5_isOpen 2 (some .boolean), Cond.methodLink RX5 48 yX5_prefix, Cond.instanceMethod yX5_prefix, Cond.selects RX5 yX5_prefix yX5_prefix, Cond.code yX5_prefix cX5_prefix 2 (some .int), Cond.methodLink RX5 52 yX5_voters, Cond.instanceMethod yX5_voters, Cond.selects RX5 yX5_voters yX5_voters, Cond.code yX5_voters cX5_voters 3 (some .int)]
def wsX5_slot_r2 : List Cond := [Cond.methodLink RX5 92 yX5_firstSize, Cond.instanceMethod yX5_firstSize, Cond.selects RX5 yX5_firstSize yX5_firstSize, Cond.code yX5_firstSize cX5_firstSize 2 (some .int), Cond.methodLink RX5 55 yX5_bits, Cond.static yX5_bits, Cond.code yX5_bits cX5_bits 3 (some .int), Cond.methodLink RX5 58 yX5_secondSize, Cond.instanceMethod yX5_secondSize, Cond.selects RX5 yX5_secondSize yX5_secondSize, Cond.code yX5_secondSize cX5_secondSize 3 (some .int), Cond.methodLink RX5 98 yX5_isTrimmed, Cond.instanceMethod yX5_isTrimmed, Cond.selects RX5 yX5_isTrimmed yX5_isTrimmed, Cond.code yX5_isTrimmed cX5_isTrimmed 2 (some .boolean)]
def wsX5_slot : List Cond := .code yX5_slot cX5_slot 3 (some .int) :: ((wsX5_slot_r1 ++ wsX5_slot_r2) ++ wsX50)
def wsX5_could_r1 : List Cond := [Cond.fieldLink RX5 7 "AgreedSlotsModel" "now" "[I", Cond.methodLink RX5 95 yX5_noSlot, Cond.static yX5_noSlot, Cond.initialized RX5, Cond.code yX5_noSlot cX5_noSlot 1 (some .boolean), Cond.methodLink RX5 33 yX5_in, Cond.static yX5_in, Cond.code yX5_in cX5_in 3 (some .boolean), Cond.methodLink RX5 98 yX5_isTrimmed, Cond.instanceMethod yX5_isTrimmed, Cond.selects RX5 yX5_isTrimmed yX5_isTrimmed, Cond.code yX5_isTrimmed cX5_isTrimmed 2 (some .boolean), Cond.methodLink RX5 101 yX5_isOpen, Cond.instanceMethod yX5_isOpen, Cond.selects RX5 yX5_isOpen yX5_isOpen, Cond.code yX5_isOpen cX5_isOpen 2 (some .boolean), Cond.methodLink RX5 48 yX5_prefix, Cond.instanceMethod yX5_prefix, Cond.selects RX5 yX5_prefix yX5_prefix, Cond.code yX5_prefix cX5_prefix 2 (some .int), Cond.methodLink RX5 44 yX5_chosen, Cond.instanceMethod yX5_chosen, Cond.selects RX5 yX5_chosen yX5_chosen, Cond.code yX5_chosen cX5_chosen 2 (some .int)]
def wsX5_could_r2 : List Cond := [Cond.methodLink RX5 52 yX5_voters, Cond.instanceMethod yX5_voters, Cond.selects RX5 yX5_voters yX5_voters, Cond.code yX5_voters cX5_voters 3 (some .int), Cond.methodLink RX5 82 yX5_isIn, Cond.static yX5_isIn, Cond.code yX5_isIn cX5_isIn 2 (some .boolean), Cond.methodLink RX5 89 yX5_voteAt, Cond.static yX5_voteAt, Cond.code yX5_voteAt cX5_voteAt 2 (some .int), Cond.methodLink RX5 58 yX5_secondSize, Cond.instanceMethod yX5_secondSize, Cond.selects RX5 yX5_secondSize yX5_secondSize, Cond.code yX5_secondSize cX5_secondSize 3 (some .int), Cond.methodLink RX5 55 yX5_bits, Cond.static yX5_bits, Cond.code yX5_bits cX5_bits 3 (some .int)]
def wsX5_could : List Cond := .code yX5_could cX5_could 5 (some .int) :: ((wsX5_could_r1 ++ wsX5_could_r2) ++ wsX50)
def wsX5_witness : List Cond := .code yX5_witness cX5_witness 8 (some .int) :: ([.methodLink RX5 33 yX5_in, .static yX5_in, .initialized RX5, .code yX5_in cX5_in 3 (some .boolean), .methodLink RX5 55 yX5_bits, .static yX5_bits, .code yX5_bits cX5_bits 3 (some .int), .methodLink RX5 82 yX5_isIn, .static yX5_isIn, .code yX5_isIn cX5_isIn 2 (some .boolean)])
def wsX5_slots : List Cond := .code yX5_slots cX5_slots 4 (some .int) :: ([.methodLink RX5 44 yX5_chosen, .instanceMethod yX5_chosen, .selects RX5 yX5_chosen yX5_chosen, .initialized RX5, .code yX5_chosen cX5_chosen 2 (some .int), .fieldLink RX5 7 "AgreedSlotsModel" "now" "[I"] ++ wsX50)
def wsX5_count : List Cond := .code yX5_count cX5_count 2 (some .int) :: ([.fieldLink RX5 7 "AgreedSlotsModel" "now" "[I", .fieldLink RX5 41 "AgreedSlotsModel" "kept" "I", .fieldLink RX5 110 "AgreedSlotsModel" "typed" "I", .methodLink RX5 48 yX5_prefix, .instanceMethod yX5_prefix, .selects RX5 yX5_prefix yX5_prefix, .initialized RX5, .code yX5_prefix cX5_prefix 2 (some .int), .methodLink RX5 44 yX5_chosen, .instanceMethod yX5_chosen, .selects RX5 yX5_chosen yX5_chosen, .code yX5_chosen cX5_chosen 2 (some .int), .methodLink RX5 170 yX5_slots, .instanceMethod yX5_slots, .selects RX5 yX5_slots yX5_slots, .code yX5_slots cX5_slots 4 (some .int), .methodLink RX5 68 yX5_ups, .instanceMethod yX5_ups, .selects RX5 yX5_ups yX5_ups, .code yX5_ups cX5_ups 3 (some .int)] ++ wsX50)
def wsJ9_max_7cf53 : List Cond := .code yJ9_max_7cf53 cJ9_max_7cf53 2 (some .int) :: ([])
def wsJ9_min_7cf53 : List Cond := .code yJ9_min_7cf53 cJ9_min_7cf53 2 (some .int) :: ([])
def wsL_law_r1 : List Cond := [Cond.classLink RL 7 RX4, Cond.instantiable RX4 10, Cond.initialized RX4, Cond.classLink RL 10 RX5, Cond.instantiable RX5 15, Cond.initialized RX5, Cond.methodLink RL 9 yX4_init, Cond.instanceMethod yX4_init, Cond.code yX4_init cX4_init 1 none, Cond.methodLink RX4 1 objectInit, Cond.instanceMethod objectInit, Cond.code objectInit ⟨#[0xb1]⟩ 1 none, Cond.classLink RX4 7 RX2, Cond.instantiable RX2 16, Cond.initialized RX2, Cond.fieldLink RX4 10 "AgreedSlots" "now" "LAgreedSlots$State;", Cond.fieldLink RX4 16 "AgreedSlots" "snapshot" "LAgreedSlots$State;", Cond.classLink RX4 19 RX0, Cond.instantiable RX0 3, Cond.initialized RX0, Cond.fieldLink RX4 22 "AgreedSlots" "history" "LAgreedSlots$History;", Cond.classLink RX4 26 RX3, Cond.instantiable RX3 2, Cond.initialized RX3]
def wsL_law_r2 : List Cond := [Cond.fieldLink RX4 29 "AgreedSlots" "text" "LAgreedSlots$Text;", Cond.classLink RX4 33 RX1, Cond.instantiable RX1 6, Cond.initialized RX1, Cond.fieldLink RX4 36 "AgreedSlots" "orders" "LAgreedSlots$Orders;", Cond.instanceMethod yX2_init, Cond.code yX2_init cX2_init 1 none, Cond.methodLink RX2 3 objectInit, Cond.fieldLink RX2 9 "AgreedSlots$State" "up" "I", Cond.fieldLink RX2 15 "AgreedSlots$State" "second" "I", Cond.arrayClass .int, Cond.fieldLink RX2 18 "AgreedSlots$State" "promised" "[I", Cond.fieldLink RX2 22 "AgreedSlots$State" "voteBallot" "[I", Cond.fieldLink RX2 25 "AgreedSlots$State" "voteValue" "[I", Cond.fieldLink RX2 28 "AgreedSlots$State" "ballot" "[I", Cond.fieldLink RX2 31 "AgreedSlots$State" "heard" "[I", Cond.fieldLink RX2 34 "AgreedSlots$State" "promisers" "[I", Cond.fieldLink RX2 37 "AgreedSlots$State" "offered" "[I", Cond.fieldLink RX2 40 "AgreedSlots$State" "toldBallot" "[I", Cond.fieldLink RX2 43 "AgreedSlots$State" "toldValue" "[I", Cond.fieldLink RX2 46 "AgreedSlots$State" "chosenValue" "[I", Cond.fieldLink RX2 49 "AgreedSlots$State" "chosenBallot" "[I", Cond.methodLink RX4 21 yX0_init, Cond.instanceMethod yX0_init]
def wsL_law_r3 : List Cond := [Cond.code yX0_init cX0_init 2 none, Cond.methodLink RX0 5 objectInit, Cond.classLink RX0 11 RX2, Cond.fieldLink RX0 13 "AgreedSlots$History" "rows" "[LAgreedSlots$State;", Cond.instanceMethod yX3_init, Cond.code yX3_init cX3_init 1 none, Cond.methodLink RX3 3 objectInit, Cond.arrayClass .char, Cond.fieldLink RX3 11 "AgreedSlots$Text" "signs" "[C", Cond.instanceMethod yX1_init, Cond.code yX1_init cX1_init 1 none, Cond.methodLink RX1 3 objectInit, Cond.fieldLink RX1 11 "AgreedSlots$Orders" "letters" "[I", Cond.fieldLink RX1 15 "AgreedSlots$Orders" "places" "[I", Cond.fieldLink RX1 18 "AgreedSlots$Orders" "numbers" "[I", Cond.methodLink RL 12 yX5_init, Cond.instanceMethod yX5_init, Cond.code yX5_init cX5_init 2 none, Cond.methodLink RX5 1 objectInit, Cond.fieldLink RX5 7 "AgreedSlotsModel" "now" "[I", Cond.fieldLink RX5 13 "AgreedSlotsModel" "history" "[I", Cond.fieldLink RX5 16 "AgreedSlotsModel" "slot" "[I", Cond.fieldLink RX5 19 "AgreedSlotsModel" "text" "[C", Cond.fieldLink RX5 23 "AgreedSlotsModel" "orders" "[I"]
def wsL_law_r4 : List Cond := [Cond.fieldLink RX5 26 "AgreedSlotsModel" "refused" "I", Cond.fieldLink RX5 30 "AgreedSlotsModel" "before" "[I", Cond.methodLink RL 13 yX4_setUp, Cond.instanceMethod yX4_setUp, Cond.selects RX4 yX4_setUp yX4_setUp, Cond.code yX4_setUp cX4_setUp 3 (some .int), Cond.methodLink RX4 40 yX0_draft, Cond.instanceMethod yX0_draft, Cond.selects RX0 yX0_draft yX0_draft, Cond.code yX0_draft cX0_draft 2 none, Cond.fieldLink RX0 18 "AgreedSlots$History" "next" "I", Cond.methodLink RX0 22 yX2_copy, Cond.instanceMethod yX2_copy, Cond.selects RX2 yX2_copy yX2_copy, Cond.code yX2_copy cX2_copy 2 none, Cond.fieldLink RX2 52 "AgreedSlots$State" "trimmed" "I", Cond.fieldLink RX2 55 "AgreedSlots$State" "refusedPromises" "I", Cond.fieldLink RX2 58 "AgreedSlots$State" "refusedVotes" "I", Cond.methodLink RX2 61 yX2_copyAll, Cond.static yX2_copyAll, Cond.code yX2_copyAll cX2_copyAll 2 none, Cond.methodLink RX2 65 Lib.Math.min.name, Cond.static Lib.Math.min.name, Cond.initialized "java/lang/Math"]
def wsL_law_r5 : List Cond := [Cond.code Lib.Math.min.name Lib.Math.min.code 2 (some .int), Cond.methodLink RX2 71 arraycopyName, Cond.native arraycopyName, Cond.static arraycopyName, Cond.initialized "java/lang/System", Cond.methodLink RX4 44 yX2_turn, Cond.instanceMethod yX2_turn, Cond.selects RX2 yX2_turn yX2_turn, Cond.code yX2_turn cX2_turn 3 (some .int), Cond.static yX4_isAcceptor, Cond.code yX4_isAcceptor cX4_isAcceptor 1 (some .boolean), Cond.static yX4_has, Cond.code yX4_has cX4_has 2 (some .boolean), Cond.methodLink RX2 85 yJ6_bitCount_0f7a4, Cond.static yJ6_bitCount_0f7a4, Cond.initialized RJ6, Cond.code yJ6_bitCount_0f7a4 cJ6_bitCount_0f7a4 1 (some .int), Cond.constant RJ6 265 (1431655765), Cond.constant RJ6 266 (858993459), Cond.constant RJ6 267 (252645135), Cond.methodLink RX4 48 yX4_settled, Cond.instanceMethod yX4_settled, Cond.selects RX4 yX4_settled yX4_settled, Cond.code yX4_settled cX4_settled 2 (some .int)]
def wsL_law_r6 : List Cond := [Cond.methodLink RX4 103 yX0_commit, Cond.instanceMethod yX0_commit, Cond.selects RX0 yX0_commit yX0_commit, Cond.code yX0_commit cX0_commit 1 none, Cond.fieldLink RX0 26 "AgreedSlots$History" "size" "I", Cond.methodLink RX0 29 Lib.Math.min.name, Cond.methodLink RL 17 yX5_setUp, Cond.instanceMethod yX5_setUp, Cond.selects RX5 yX5_setUp yX5_setUp, Cond.code yX5_setUp cX5_setUp 3 (some .int), Cond.methodLink RX5 61 yX5_noAcceptor, Cond.static yX5_noAcceptor, Cond.code yX5_noAcceptor cX5_noAcceptor 1 (some .boolean), Cond.methodLink RX5 33 yX5_in, Cond.static yX5_in, Cond.code yX5_in cX5_in 3 (some .boolean), Cond.methodLink RX5 65 yX5_record, Cond.instanceMethod yX5_record, Cond.selects RX5 yX5_record yX5_record, Cond.code yX5_record cX5_record 2 none, Cond.fieldLink RX5 37 "AgreedSlotsModel" "isQuiet" "Z", Cond.fieldLink RX5 41 "AgreedSlotsModel" "kept" "I", Cond.methodLink RX5 68 yX5_ups, Cond.instanceMethod yX5_ups]
def wsL_law_r7 : List Cond := [Cond.selects RX5 yX5_ups yX5_ups, Cond.code yX5_ups cX5_ups 3 (some .int), Cond.methodLink RX5 55 yX5_bits, Cond.static yX5_bits, Cond.code yX5_bits cX5_bits 3 (some .int), Cond.methodLink RL 18 yX4_setSecond, Cond.instanceMethod yX4_setSecond, Cond.selects RX4 yX4_setSecond yX4_setSecond, Cond.code yX4_setSecond cX4_setSecond 2 (some .int), Cond.methodLink RX4 52 yX2_resizeSecond, Cond.instanceMethod yX2_resizeSecond, Cond.selects RX2 yX2_resizeSecond yX2_resizeSecond, Cond.code yX2_resizeSecond cX2_resizeSecond 3 (some .int), Cond.static yX4_isSize, Cond.code yX4_isSize cX4_isSize 1 (some .boolean), Cond.methodLink RX2 94 yX2_anyBallot, Cond.instanceMethod yX2_anyBallot, Cond.selects RX2 yX2_anyBallot yX2_anyBallot, Cond.code yX2_anyBallot cX2_anyBallot 2 (some .boolean), Cond.methodLink RL 22 yX5_setSecond, Cond.instanceMethod yX5_setSecond, Cond.selects RX5 yX5_setSecond yX5_setSecond, Cond.code yX5_setSecond cX5_setSecond 3 (some .int), Cond.methodLink RL 23 yX4_prepare]
def wsL_law_r8 : List Cond := [Cond.instanceMethod yX4_prepare, Cond.selects RX4 yX4_prepare yX4_prepare, Cond.code yX4_prepare cX4_prepare 2 (some .int), Cond.methodLink RX4 55 yX2_startBallot, Cond.instanceMethod yX2_startBallot, Cond.selects RX2 yX2_startBallot yX2_startBallot, Cond.code yX2_startBallot cX2_startBallot 4 (some .int), Cond.static yX4_isProposer, Cond.code yX4_isProposer cX4_isProposer 1 (some .boolean), Cond.methodLink RX2 101 yX2_nextBallot, Cond.instanceMethod yX2_nextBallot, Cond.selects RX2 yX2_nextBallot yX2_nextBallot, Cond.code yX2_nextBallot cX2_nextBallot 4 (some .int), Cond.methodLink RX2 149 Lib.Math.max.name, Cond.static Lib.Math.max.name, Cond.code Lib.Math.max.name Lib.Math.max.code 2 (some .int), Cond.static yX4_cell, Cond.code yX4_cell cX4_cell 2 (some .int), Cond.methodLink RL 26 yX5_prepare, Cond.instanceMethod yX5_prepare, Cond.selects RX5 yX5_prepare yX5_prepare, Cond.code yX5_prepare cX5_prepare 6 (some .int), Cond.methodLink RX5 71 yX5_noProposer, Cond.static yX5_noProposer]
def wsL_law_r9 : List Cond := [Cond.code yX5_noProposer cX5_noProposer 1 (some .boolean), Cond.methodLink RX5 74 yX5_proposedAt, Cond.static yX5_proposedAt, Cond.code yX5_proposedAt cX5_proposedAt 2 (some .int), Cond.methodLink RX5 78 yX5_toldAt, Cond.static yX5_toldAt, Cond.code yX5_toldAt cX5_toldAt 3 (some .int), Cond.methodLink RL 27 yX4_promise, Cond.instanceMethod yX4_promise, Cond.selects RX4 yX4_promise yX4_promise, Cond.code yX4_promise cX4_promise 3 (some .int), Cond.methodLink RX4 58 yX2_askPromise, Cond.instanceMethod yX2_askPromise, Cond.selects RX2 yX2_askPromise yX2_askPromise, Cond.code yX2_askPromise cX2_askPromise 3 (some .int), Cond.methodLink RX2 107 yX2_refuse, Cond.instanceMethod yX2_refuse, Cond.selects RX2 yX2_refuse yX2_refuse, Cond.code yX2_refuse cX2_refuse 3 (some .int), Cond.methodLink RX2 110 yX2_tellVotes, Cond.instanceMethod yX2_tellVotes, Cond.selects RX2 yX2_tellVotes yX2_tellVotes, Cond.code yX2_tellVotes cX2_tellVotes 5 none, Cond.methodLink RX2 114 yX2_votesOf]
def wsL_law_r10 : List Cond := [Cond.instanceMethod yX2_votesOf, Cond.selects RX2 yX2_votesOf yX2_votesOf, Cond.code yX2_votesOf cX2_votesOf 5 (some .int), Cond.methodLink RL 31 yX5_promise, Cond.instanceMethod yX5_promise, Cond.selects RX5 yX5_promise yX5_promise, Cond.code yX5_promise cX5_promise 8 (some .int), Cond.methodLink RX5 82 yX5_isIn, Cond.static yX5_isIn, Cond.code yX5_isIn cX5_isIn 2 (some .boolean), Cond.methodLink RX5 86 yX5_refuses, Cond.instanceMethod yX5_refuses, Cond.selects RX5 yX5_refuses yX5_refuses, Cond.code yX5_refuses cX5_refuses 5 (some .int), Cond.methodLink RX5 89 yX5_voteAt, Cond.static yX5_voteAt, Cond.code yX5_voteAt cX5_voteAt 2 (some .int), Cond.methodLink RL 32 yX4_propose, Cond.instanceMethod yX4_propose, Cond.selects RX4 yX4_propose yX4_propose, Cond.code yX4_propose cX4_propose 4 (some .int), Cond.methodLink RX4 62 yX2_offerValue, Cond.instanceMethod yX2_offerValue, Cond.selects RX2 yX2_offerValue yX2_offerValue]
def wsL_law_r11 : List Cond := [Cond.code yX2_offerValue cX2_offerValue 6 (some .int), Cond.static yX4_isSlot, Cond.code yX4_isSlot cX4_isSlot 1 (some .boolean), Cond.static yX4_isValue, Cond.code yX4_isValue cX4_isValue 3 (some .boolean), Cond.methodLink RX2 123 yX2_mayOffer, Cond.instanceMethod yX2_mayOffer, Cond.selects RX2 yX2_mayOffer yX2_mayOffer, Cond.code yX2_mayOffer cX2_mayOffer 3 (some .boolean), Cond.methodLink RX2 155 yX2_isOpen, Cond.instanceMethod yX2_isOpen, Cond.selects RX2 yX2_isOpen yX2_isOpen, Cond.code yX2_isOpen cX2_isOpen 2 (some .boolean), Cond.methodLink RX2 142 yX2_prefix, Cond.instanceMethod yX2_prefix, Cond.selects RX2 yX2_prefix yX2_prefix, Cond.code yX2_prefix cX2_prefix 2 (some .int), Cond.methodLink RX2 158 yX2_promisesMissing, Cond.instanceMethod yX2_promisesMissing, Cond.selects RX2 yX2_promisesMissing yX2_promisesMissing, Cond.code yX2_promisesMissing cX2_promisesMissing 4 (some .int), Cond.methodLink RX2 136 yX2_votersOf, Cond.instanceMethod yX2_votersOf, Cond.selects RX2 yX2_votersOf yX2_votersOf]
def wsL_law_r12 : List Cond := [Cond.code yX2_votersOf cX2_votersOf 4 (some .int), Cond.methodLink RX2 152 yX2_firstSize, Cond.instanceMethod yX2_firstSize, Cond.selects RX2 yX2_firstSize yX2_firstSize, Cond.code yX2_firstSize cX2_firstSize 2 (some .int), Cond.methodLink RX2 139 yX2_secondSize, Cond.instanceMethod yX2_secondSize, Cond.selects RX2 yX2_secondSize yX2_secondSize, Cond.code yX2_secondSize cX2_secondSize 2 (some .int), Cond.methodLink RX2 126 yX2_boundValue, Cond.instanceMethod yX2_boundValue, Cond.selects RX2 yX2_boundValue yX2_boundValue, Cond.code yX2_boundValue cX2_boundValue 8 (some .int), Cond.methodLink RL 36 yX5_propose, Cond.instanceMethod yX5_propose, Cond.selects RX5 yX5_propose yX5_propose, Cond.code yX5_propose cX5_propose 5 (some .int), Cond.methodLink RX5 95 yX5_noSlot, Cond.static yX5_noSlot, Cond.code yX5_noSlot cX5_noSlot 1 (some .boolean), Cond.methodLink RX5 98 yX5_isTrimmed, Cond.instanceMethod yX5_isTrimmed, Cond.selects RX5 yX5_isTrimmed yX5_isTrimmed, Cond.code yX5_isTrimmed cX5_isTrimmed 2 (some .boolean)]
def wsL_law_r13 : List Cond := [Cond.methodLink RX5 101 yX5_isOpen, Cond.instanceMethod yX5_isOpen, Cond.selects RX5 yX5_isOpen yX5_isOpen, Cond.code yX5_isOpen cX5_isOpen 2 (some .boolean), Cond.methodLink RX5 48 yX5_prefix, Cond.instanceMethod yX5_prefix, Cond.selects RX5 yX5_prefix yX5_prefix, Cond.code yX5_prefix cX5_prefix 2 (some .int), Cond.methodLink RX5 44 yX5_chosen, Cond.instanceMethod yX5_chosen, Cond.selects RX5 yX5_chosen yX5_chosen, Cond.code yX5_chosen cX5_chosen 2 (some .int), Cond.methodLink RX5 104 yX5_lacking, Cond.instanceMethod yX5_lacking, Cond.selects RX5 yX5_lacking yX5_lacking, Cond.code yX5_lacking cX5_lacking 4 (some .int), Cond.methodLink RX5 92 yX5_firstSize, Cond.instanceMethod yX5_firstSize, Cond.selects RX5 yX5_firstSize yX5_firstSize, Cond.code yX5_firstSize cX5_firstSize 2 (some .int), Cond.methodLink RX5 52 yX5_voters, Cond.instanceMethod yX5_voters, Cond.selects RX5 yX5_voters yX5_voters, Cond.code yX5_voters cX5_voters 3 (some .int)]
def wsL_law_r14 : List Cond := [Cond.methodLink RX5 58 yX5_secondSize, Cond.instanceMethod yX5_secondSize, Cond.selects RX5 yX5_secondSize yX5_secondSize, Cond.code yX5_secondSize cX5_secondSize 3 (some .int), Cond.methodLink RX5 107 yX5_bound, Cond.instanceMethod yX5_bound, Cond.selects RX5 yX5_bound yX5_bound, Cond.code yX5_bound cX5_bound 8 (some .int), Cond.methodLink RL 37 yX4_vote, Cond.instanceMethod yX4_vote, Cond.selects RX4 yX4_vote yX4_vote, Cond.code yX4_vote cX4_vote 4 (some .int), Cond.methodLink RX4 66 yX2_askVote, Cond.instanceMethod yX2_askVote, Cond.selects RX2 yX2_askVote yX2_askVote, Cond.code yX2_askVote cX2_askVote 6 (some .int), Cond.methodLink RX2 129 yX2_mayAskVote, Cond.instanceMethod yX2_mayAskVote, Cond.selects RX2 yX2_mayAskVote yX2_mayAskVote, Cond.code yX2_mayAskVote cX2_mayAskVote 4 (some .boolean), Cond.methodLink RX2 133 yX2_votersFor, Cond.instanceMethod yX2_votersFor, Cond.selects RX2 yX2_votersFor yX2_votersFor, Cond.code yX2_votersFor cX2_votersFor 6 (some .int)]
def wsL_law_r15 : List Cond := [Cond.methodLink RL 40 yX5_vote, Cond.instanceMethod yX5_vote, Cond.selects RX5 yX5_vote yX5_vote, Cond.code yX5_vote cX5_vote 9 (some .int), Cond.methodLink RL 41 yX4_trim, Cond.instanceMethod yX4_trim, Cond.selects RX4 yX4_trim yX4_trim, Cond.code yX4_trim cX4_trim 2 (some .int), Cond.methodLink RX4 69 yX2_forgetUpTo, Cond.instanceMethod yX2_forgetUpTo, Cond.selects RX2 yX2_forgetUpTo yX2_forgetUpTo, Cond.code yX2_forgetUpTo cX2_forgetUpTo 4 (some .int), Cond.methodLink RX2 146 yX2_forgetVotes, Cond.instanceMethod yX2_forgetVotes, Cond.selects RX2 yX2_forgetVotes yX2_forgetVotes, Cond.code yX2_forgetVotes cX2_forgetVotes 4 none, Cond.methodLink RL 44 yX5_trim, Cond.instanceMethod yX5_trim, Cond.selects RX5 yX5_trim yX5_trim, Cond.code yX5_trim cX5_trim 5 (some .int), Cond.methodLink RL 45 yX4_type, Cond.instanceMethod yX4_type, Cond.selects RX4 yX4_type yX4_type, Cond.code yX4_type cX4_type 2 (some .int)]
def wsL_law_r16 : List Cond := [Cond.methodLink RX4 72 yX3_append, Cond.instanceMethod yX3_append, Cond.selects RX3 yX3_append yX3_append, Cond.code yX3_append cX3_append 2 (some .int), Cond.fieldLink RX3 15 "AgreedSlots$Text" "length" "I", Cond.methodLink RL 49 yX5_type, Cond.instanceMethod yX5_type, Cond.selects RX5 yX5_type yX5_type, Cond.code yX5_type cX5_type 2 (some .int), Cond.fieldLink RX5 110 "AgreedSlotsModel" "typed" "I", Cond.methodLink RL 50 yX4_clearText, Cond.instanceMethod yX4_clearText, Cond.selects RX4 yX4_clearText yX4_clearText, Cond.code yX4_clearText cX4_clearText 1 (some .int), Cond.methodLink RX4 76 yX3_empty, Cond.instanceMethod yX3_empty, Cond.selects RX3 yX3_empty yX3_empty, Cond.code yX3_empty cX3_empty 2 (some .int), Cond.methodLink RL 54 yX5_clearText, Cond.instanceMethod yX5_clearText, Cond.selects RX5 yX5_clearText yX5_clearText, Cond.code yX5_clearText cX5_clearText 2 (some .int), Cond.methodLink RL 55 yX4_perform, Cond.instanceMethod yX4_perform]
def wsL_law_r17 : List Cond := [Cond.selects RX4 yX4_perform yX4_perform, Cond.code yX4_perform cX4_perform 4 (some .int), Cond.fieldLink RX4 84 "AgreedSlots$Orders" "size" "I", Cond.methodLink RX4 80 yX1_read, Cond.instanceMethod yX1_read, Cond.selects RX1 yX1_read yX1_read, Cond.code yX1_read cX1_read 2 (some .int), Cond.fieldLink RX1 21 "AgreedSlots$Orders" "at" "I", Cond.fieldLink RX1 25 "AgreedSlots$Orders" "size" "I", Cond.fieldLink RX1 32 "AgreedSlots$Text" "length" "I", Cond.methodLink RX1 28 yX1_readOrder, Cond.instanceMethod yX1_readOrder, Cond.selects RX1 yX1_readOrder yX1_readOrder, Cond.code yX1_readOrder cX1_readOrder 5 (some .boolean), Cond.fieldLink RX1 83 "AgreedSlots$Orders" "told" "I", Cond.methodLink RX1 37 yX3_signAt, Cond.instanceMethod yX3_signAt, Cond.selects RX3 yX3_signAt yX3_signAt, Cond.code yX3_signAt cX3_signAt 2 (some .int), Cond.methodLink RX1 73 yX1_partsOf, Cond.static yX1_partsOf, Cond.code yX1_partsOf cX1_partsOf 1 (some (.object "java/lang/String")), Cond.methodLink RX1 77 yJ0_isEmpty_aae02, Cond.instanceMethod yJ0_isEmpty_aae02]
def wsL_law_r18 : List Cond := [Cond.selects RJ0 yJ0_isEmpty_aae02 yJ0_isEmpty_aae02, Cond.initialized RJ0, Cond.code yJ0_isEmpty_aae02 cJ0_isEmpty_aae02 1 (some .boolean), Cond.fieldLink RJ0 9 "java/lang/String" "value" "[B", Cond.methodLink RX1 86 yJ0_length_8abf5, Cond.instanceMethod yJ0_length_8abf5, Cond.selects RJ0 yJ0_length_8abf5 yJ0_length_8abf5, Cond.code yJ0_length_8abf5 cJ0_length_8abf5 1 (some .int), Cond.methodLink RJ0 335 yJ0_coder_7d493, Cond.instanceMethod yJ0_coder_7d493, Cond.selects RJ0 yJ0_coder_7d493 yJ0_coder_7d493, Cond.code yJ0_coder_7d493 cJ0_coder_7d493 1 (some .byte), Cond.fieldLink RJ0 38 "java/lang/String" "COMPACT_STRINGS" "Z", Cond.fieldLink RJ0 15 "java/lang/String" "coder" "B", Cond.methodLink RX1 89 yJ0_charAt_5068e, Cond.instanceMethod yJ0_charAt_5068e, Cond.selects RJ0 yJ0_charAt_5068e yJ0_charAt_5068e, Cond.code yJ0_charAt_5068e cJ0_charAt_5068e 2 (some .char), Cond.methodLink RJ0 492 yJ0_isLatin1_aae02, Cond.instanceMethod yJ0_isLatin1_aae02, Cond.selects RJ0 yJ0_isLatin1_aae02 yJ0_isLatin1_aae02, Cond.code yJ0_isLatin1_aae02 cJ0_isLatin1_aae02 1 (some .boolean), Cond.methodLink RJ0 495 yJ1_charAt_3b067, Cond.static yJ1_charAt_3b067]
def wsL_law_r19 : List Cond := [Cond.initialized RJ1, Cond.code yJ1_charAt_3b067 cJ1_charAt_3b067 2 (some .char), Cond.methodLink RJ1 9 yJ0_checkIndex_df160, Cond.static yJ0_checkIndex_df160, Cond.code yJ0_checkIndex_df160 cJ0_checkIndex_df160 2 none, Cond.fieldLink RJ0 1053 "jdk/internal/util/Preconditions" "SIOOBE_FORMATTER" "Ljava/util/function/BiFunction;", Cond.methodLink RJ0 1059 yJ3_checkIndex_8e157, Cond.static yJ3_checkIndex_8e157, Cond.initialized RJ3, Cond.code yJ3_checkIndex_8e157 cJ3_checkIndex_8e157 3 (some .int), Cond.methodLink RJ0 498 yJ2_charAt_3b067, Cond.static yJ2_charAt_3b067, Cond.initialized RJ2, Cond.code yJ2_charAt_3b067 cJ2_charAt_3b067 2 (some .char), Cond.methodLink RJ2 67 yJ2_checkIndex_2214a, Cond.static yJ2_checkIndex_2214a, Cond.code yJ2_checkIndex_2214a cJ2_checkIndex_2214a 2 none, Cond.methodLink RJ2 48 yJ2_length_9d52b, Cond.static yJ2_length_9d52b, Cond.code yJ2_length_9d52b cJ2_length_9d52b 1 (some .int), Cond.methodLink RJ2 414 yJ0_checkIndex_df160, Cond.methodLink RJ2 71 yJ2_getChar_3b067, Cond.static yJ2_getChar_3b067, Cond.code yJ2_getChar_3b067 cJ2_getChar_3b067 2 (some .char)]
def wsL_law_r20 : List Cond := [Cond.fieldLink RJ2 44 "java/lang/StringUTF16" "$assertionsDisabled" "Z", Cond.fieldLink RJ2 59 "java/lang/StringUTF16" "HI_BYTE_SHIFT" "I", Cond.fieldLink RJ2 63 "java/lang/StringUTF16" "LO_BYTE_SHIFT" "I", Cond.methodLink RX1 93 yX1_readPart, Cond.instanceMethod yX1_readPart, Cond.selects RX1 yX1_readPart yX1_readPart, Cond.code yX1_readPart cX1_readPart 3 (some .boolean), Cond.methodLink RX1 97 yX1_readDigit, Cond.instanceMethod yX1_readDigit, Cond.selects RX1 yX1_readDigit yX1_readDigit, Cond.code yX1_readDigit cX1_readDigit 4 (some .boolean), Cond.methodLink RX1 106 yX1_tell, Cond.instanceMethod yX1_tell, Cond.selects RX1 yX1_tell yX1_tell, Cond.code yX1_tell cX1_tell 2 none, Cond.methodLink RX1 100 yX1_readNumber, Cond.instanceMethod yX1_readNumber, Cond.selects RX1 yX1_readNumber yX1_readNumber, Cond.code yX1_readNumber cX1_readNumber 4 (some .boolean), Cond.methodLink RX1 110 yX1_isDigit, Cond.static yX1_isDigit, Cond.code yX1_isDigit cX1_isDigit 1 (some .boolean), Cond.methodLink RX1 103 yX1_readComma, Cond.instanceMethod yX1_readComma]
def wsL_law_r21 : List Cond := [Cond.selects RX1 yX1_readComma yX1_readComma, Cond.code yX1_readComma cX1_readComma 2 (some .boolean), Cond.methodLink RX4 88 yX1_carryOut, Cond.instanceMethod yX1_carryOut, Cond.selects RX1 yX1_carryOut yX1_carryOut, Cond.code yX1_carryOut cX1_carryOut 6 (some .int), Cond.methodLink RX1 41 yX2_startBallot, Cond.methodLink RX1 46 yX2_askPromise, Cond.methodLink RX1 50 yX2_offerValue, Cond.methodLink RX1 54 yX2_askVote, Cond.methodLink RX1 57 yX2_turn, Cond.methodLink RX4 92 yX4_isError, Cond.static yX4_isError, Cond.code yX4_isError cX4_isError 1 (some .boolean), Cond.methodLink RX4 96 yX4_noteRefusal, Cond.instanceMethod yX4_noteRefusal, Cond.selects RX4 yX4_noteRefusal yX4_noteRefusal, Cond.code yX4_noteRefusal cX4_noteRefusal 3 none, Cond.fieldLink RX4 106 "AgreedSlots" "refusedOnce" "Z", Cond.fieldLink RX4 110 "AgreedSlots" "refusedOrder" "I", Cond.fieldLink RX4 113 "AgreedSlots" "refusedError" "I", Cond.fieldLink RX4 116 "AgreedSlots" "refusedPlace" "I", Cond.methodLink RX4 244 yX1_placeOf, Cond.instanceMethod yX1_placeOf]
def wsL_law_r22 : List Cond := [Cond.selects RX1 yX1_placeOf yX1_placeOf, Cond.code yX1_placeOf cX1_placeOf 2 (some .int), Cond.methodLink RX4 100 yX0_bringBackDraft, Cond.instanceMethod yX0_bringBackDraft, Cond.selects RX0 yX0_bringBackDraft yX0_bringBackDraft, Cond.code yX0_bringBackDraft cX0_bringBackDraft 2 none, Cond.methodLink RL 58 yX5_perform, Cond.instanceMethod yX5_perform, Cond.selects RX5 yX5_perform yX5_perform, Cond.code yX5_perform cX5_perform 5 (some .int), Cond.fieldLink RX5 113 "AgreedSlotsModel" "at" "I", Cond.fieldLink RX5 119 "AgreedSlotsModel" "many" "I", Cond.fieldLink RX5 155 "AgreedSlotsModel" "error" "I", Cond.fieldLink RX5 158 "AgreedSlotsModel" "refusedAt" "I", Cond.methodLink RX5 145 yX5_isRead, Cond.instanceMethod yX5_isRead, Cond.selects RX5 yX5_isRead yX5_isRead, Cond.code yX5_isRead cX5_isRead 2 (some .boolean), Cond.methodLink RX5 125 yX5_takesOrder, Cond.instanceMethod yX5_takesOrder, Cond.selects RX5 yX5_takesOrder yX5_takesOrder, Cond.code yX5_takesOrder cX5_takesOrder 3 (some .boolean), Cond.methodLink RX5 122 yX5_takes, Cond.instanceMethod yX5_takes]
def wsL_law_r23 : List Cond := [Cond.selects RX5 yX5_takes yX5_takes, Cond.code yX5_takes cX5_takes 5 (some .boolean), Cond.methodLink RX5 116 yX5_isBetween, Cond.instanceMethod yX5_isBetween, Cond.selects RX5 yX5_isBetween yX5_isBetween, Cond.code yX5_isBetween cX5_isBetween 3 (some .boolean), Cond.methodLink RX5 148 yX5_copies, Cond.instanceMethod yX5_copies, Cond.selects RX5 yX5_copies yX5_copies, Cond.code yX5_copies cX5_copies 4 none, Cond.methodLink RX5 152 yX5_does, Cond.instanceMethod yX5_does, Cond.selects RX5 yX5_does yX5_does, Cond.code yX5_does cX5_does 5 (some .int), Cond.methodLink RX5 129 yX5_prepare, Cond.methodLink RX5 132 yX5_promise, Cond.methodLink RX5 135 yX5_propose, Cond.methodLink RX5 138 yX5_vote, Cond.methodLink RX5 141 yX5_setUp, Cond.methodLink RL 59 yX4_refusal, Cond.instanceMethod yX4_refusal, Cond.selects RX4 yX4_refusal yX4_refusal, Cond.code yX4_refusal cX4_refusal 2 (some .int), Cond.methodLink RL 62 yX5_refusal]
def wsL_law_r24 : List Cond := [Cond.instanceMethod yX5_refusal, Cond.selects RX5 yX5_refusal yX5_refusal, Cond.code yX5_refusal cX5_refusal 2 (some .int), Cond.methodLink RL 63 yX4_undo, Cond.instanceMethod yX4_undo, Cond.selects RX4 yX4_undo yX4_undo, Cond.code yX4_undo cX4_undo 1 (some .int), Cond.methodLink RX4 119 yX0_bringBackLatest, Cond.instanceMethod yX0_bringBackLatest, Cond.selects RX0 yX0_bringBackLatest yX0_bringBackLatest, Cond.code yX0_bringBackLatest cX0_bringBackLatest 2 (some .int), Cond.methodLink RL 66 yX5_undo, Cond.instanceMethod yX5_undo, Cond.selects RX5 yX5_undo yX5_undo, Cond.code yX5_undo cX5_undo 2 (some .int), Cond.methodLink RL 67 yX4_keep, Cond.instanceMethod yX4_keep, Cond.selects RX4 yX4_keep yX4_keep, Cond.code yX4_keep cX4_keep 1 (some .int), Cond.fieldLink RX4 126 "AgreedSlots" "kept" "Z", Cond.methodLink RX4 123 yX2_copy, Cond.methodLink RX4 129 yX2_prefix, Cond.methodLink RL 70 yX5_keep, Cond.instanceMethod yX5_keep]
def wsL_law_r25 : List Cond := [Cond.selects RX5 yX5_keep yX5_keep, Cond.code yX5_keep cX5_keep 1 (some .int), Cond.fieldLink RX5 161 "AgreedSlotsModel" "isFilled" "Z", Cond.methodLink RL 71 yX4_restore, Cond.instanceMethod yX4_restore, Cond.selects RX4 yX4_restore yX4_restore, Cond.code yX4_restore cX4_restore 1 (some .int), Cond.methodLink RL 74 yX5_restore, Cond.instanceMethod yX5_restore, Cond.selects RX5 yX5_restore yX5_restore, Cond.code yX5_restore cX5_restore 1 (some .int), Cond.methodLink RL 75 yX4_acceptor, Cond.instanceMethod yX4_acceptor, Cond.selects RX4 yX4_acceptor yX4_acceptor, Cond.code yX4_acceptor cX4_acceptor 3 (some .int), Cond.fieldLink RX4 135 "AgreedSlots$State" "up" "I", Cond.fieldLink RX4 142 "AgreedSlots$State" "promised" "[I", Cond.methodLink RX4 132 yX4_isAcceptor, Cond.methodLink RX4 138 yX4_has, Cond.methodLink RX4 146 yX2_votesOf, Cond.methodLink RL 78 yX5_acceptor, Cond.instanceMethod yX5_acceptor, Cond.selects RX5 yX5_acceptor yX5_acceptor, Cond.code yX5_acceptor cX5_acceptor 3 (some .int)]
def wsL_law_r26 : List Cond := [Cond.methodLink RX5 164 yX5_votes, Cond.instanceMethod yX5_votes, Cond.selects RX5 yX5_votes yX5_votes, Cond.code yX5_votes cX5_votes 4 (some .int), Cond.methodLink RL 79 yX4_voted, Cond.instanceMethod yX4_voted, Cond.selects RX4 yX4_voted yX4_voted, Cond.code yX4_voted cX4_voted 5 (some .int), Cond.fieldLink RX4 155 "AgreedSlots$State" "voteBallot" "[I", Cond.fieldLink RX4 158 "AgreedSlots$State" "voteValue" "[I", Cond.methodLink RX4 149 yX4_isSlot, Cond.methodLink RX4 152 yX4_cell, Cond.methodLink RL 82 yX5_voted, Cond.instanceMethod yX5_voted, Cond.selects RX5 yX5_voted yX5_voted, Cond.code yX5_voted cX5_voted 5 (some .int), Cond.methodLink RL 83 yX4_proposer, Cond.instanceMethod yX4_proposer, Cond.selects RX4 yX4_proposer yX4_proposer, Cond.code yX4_proposer cX4_proposer 3 (some .int), Cond.fieldLink RX4 164 "AgreedSlots$State" "ballot" "[I", Cond.fieldLink RX4 167 "AgreedSlots$State" "heard" "[I", Cond.fieldLink RX4 170 "AgreedSlots$State" "promisers" "[I", Cond.methodLink RX4 161 yX4_isProposer]
def wsL_law_r27 : List Cond := [Cond.methodLink RX4 173 yX2_offersOf, Cond.instanceMethod yX2_offersOf, Cond.selects RX2 yX2_offersOf yX2_offersOf, Cond.code yX2_offersOf cX2_offersOf 4 (some .int), Cond.methodLink RL 86 yX5_proposer, Cond.instanceMethod yX5_proposer, Cond.selects RX5 yX5_proposer yX5_proposer, Cond.code yX5_proposer cX5_proposer 3 (some .int), Cond.methodLink RX5 167 yX5_proposals, Cond.instanceMethod yX5_proposals, Cond.selects RX5 yX5_proposals yX5_proposals, Cond.code yX5_proposals cX5_proposals 4 (some .int), Cond.methodLink RL 87 yX4_proposed, Cond.instanceMethod yX4_proposed, Cond.selects RX4 yX4_proposed yX4_proposed, Cond.code yX4_proposed cX4_proposed 4 (some .int), Cond.fieldLink RX4 176 "AgreedSlots$State" "offered" "[I", Cond.methodLink RX4 179 yX4_orNone, Cond.static yX4_orNone, Cond.code yX4_orNone cX4_orNone 1 (some .int), Cond.methodLink RX4 182 yX2_isOpen, Cond.methodLink RX4 185 yX2_boundValue, Cond.methodLink RX4 188 yX2_promisesMissing, Cond.methodLink RL 90 yX5_proposed]
def wsL_law_r28 : List Cond := [Cond.instanceMethod yX5_proposed, Cond.selects RX5 yX5_proposed yX5_proposed, Cond.code yX5_proposed cX5_proposed 5 (some .int), Cond.methodLink RL 91 yX4_slot, Cond.instanceMethod yX4_slot, Cond.selects RX4 yX4_slot yX4_slot, Cond.code yX4_slot cX4_slot 3 (some .int), Cond.fieldLink RX4 191 "AgreedSlots$State" "chosenValue" "[I", Cond.fieldLink RX4 194 "AgreedSlots$State" "chosenBallot" "[I", Cond.fieldLink RX4 206 "AgreedSlots$State" "trimmed" "I", Cond.methodLink RX4 197 yX2_votersOf, Cond.methodLink RX4 200 yX2_firstSize, Cond.methodLink RX4 203 yX2_secondSize, Cond.methodLink RL 94 yX5_slot, Cond.instanceMethod yX5_slot, Cond.selects RX5 yX5_slot yX5_slot, Cond.code yX5_slot cX5_slot 3 (some .int), Cond.methodLink RL 95 yX4_could, Cond.instanceMethod yX4_could, Cond.selects RX4 yX4_could yX4_could, Cond.code yX4_could cX4_could 3 (some .int), Cond.methodLink RX4 209 yX2_couldChoose, Cond.instanceMethod yX2_couldChoose, Cond.selects RX2 yX2_couldChoose yX2_couldChoose]
def wsL_law_r29 : List Cond := [Cond.code yX2_couldChoose cX2_couldChoose 6 (some .boolean), Cond.methodLink RL 98 yX5_could, Cond.instanceMethod yX5_could, Cond.selects RX5 yX5_could yX5_could, Cond.code yX5_could cX5_could 5 (some .int), Cond.methodLink RL 99 yX4_witness, Cond.instanceMethod yX4_witness, Cond.selects RX4 yX4_witness yX4_witness, Cond.code yX4_witness cX4_witness 7 (some .int), Cond.methodLink RX4 212 yX4_isSize, Cond.methodLink RX4 215 yJ6_bitCount_0f7a4, Cond.methodLink RX4 220 yX4_lowest, Cond.static yX4_lowest, Cond.code yX4_lowest cX4_lowest 5 (some .int), Cond.methodLink RL 103 yX5_witness, Cond.instanceMethod yX5_witness, Cond.selects RX5 yX5_witness yX5_witness, Cond.code yX5_witness cX5_witness 8 (some .int), Cond.methodLink RL 104 yX4_count, Cond.instanceMethod yX4_count, Cond.selects RX4 yX4_count yX4_count, Cond.code yX4_count cX4_count 2 (some .int), Cond.fieldLink RX4 226 "AgreedSlots$State" "second" "I", Cond.methodLink RX4 229 Lib.Math.min.name]
def wsL_law_r30 : List Cond := [Cond.fieldLink RX4 234 "AgreedSlots$State" "refusedPromises" "I", Cond.fieldLink RX4 237 "AgreedSlots$State" "refusedVotes" "I", Cond.fieldLink RX4 240 "AgreedSlots$History" "size" "I", Cond.fieldLink RX4 241 "AgreedSlots$Text" "length" "I", Cond.methodLink RX4 223 yX2_chosenAbove, Cond.instanceMethod yX2_chosenAbove, Cond.selects RX2 yX2_chosenAbove yX2_chosenAbove, Cond.code yX2_chosenAbove cX2_chosenAbove 4 (some .int), Cond.methodLink RL 107 yX5_count, Cond.instanceMethod yX5_count, Cond.selects RX5 yX5_count yX5_count, Cond.code yX5_count cX5_count 2 (some .int), Cond.methodLink RX5 170 yX5_slots, Cond.instanceMethod yX5_slots, Cond.selects RX5 yX5_slots yX5_slots, Cond.code yX5_slots cX5_slots 4 (some .int)]
def wsL_law : List Cond := (wsL_law_r1 ++ (wsL_law_r2 ++ (wsL_law_r3 ++ (wsL_law_r4 ++ (wsL_law_r5 ++ (wsL_law_r6 ++ (wsL_law_r7 ++ (wsL_law_r8 ++ (wsL_law_r9 ++ (wsL_law_r10 ++ (wsL_law_r11 ++ (wsL_law_r12 ++ (wsL_law_r13 ++ (wsL_law_r14 ++ (wsL_law_r15 ++ (wsL_law_r16 ++ (wsL_law_r17 ++ (wsL_law_r18 ++ (wsL_law_r19 ++ (wsL_law_r20 ++ (wsL_law_r21 ++ (wsL_law_r22 ++ (wsL_law_r23 ++ (wsL_law_r24 ++ (wsL_law_r25 ++ (wsL_law_r26 ++ (wsL_law_r27 ++ (wsL_law_r28 ++ (wsL_law_r29 ++ wsL_law_r30))))))))))))))))))))))))))))) ++ wsX40 ++ wsX50 ++ wsX20 ++ wsX00 ++ wsX30 ++ wsX10 ++ ([] : List Cond)
end
section
set_option maxRecDepth 20000 in
theorem wsL_law_r1_in : ∀ w ∈ wsL_law_r1, w ∈ lw_tbl := fun w h => (goodIn_p wsL_law_r1 [55, 58] (by decide +kernel) (by decide +kernel) w h).1
set_option maxRecDepth 20000 in
theorem wsL_law_r2_in : ∀ w ∈ wsL_law_r2, w ∈ lw_tbl := fun w h => (goodIn_p wsL_law_r2 [63] (by decide +kernel) (by decide +kernel) w h).1
set_option maxRecDepth 20000 in
theorem wsL_law_r3_in : ∀ w ∈ wsL_law_r3, w ∈ lw_tbl := fun w h => (goodIn_p wsL_law_r3 [133, 153, 169, 630] (by decide +kernel) (by decide +kernel) w h).1
set_option maxRecDepth 20000 in
theorem wsL_law_r4_in : ∀ w ∈ wsL_law_r4, w ∈ lw_tbl := fun w h => (goodIn_p wsL_law_r4 [225, 229, 233, 236] (by decide +kernel) (by decide +kernel) w h).1
set_option maxRecDepth 20000 in
theorem wsL_law_r5_in : ∀ w ∈ wsL_law_r5, w ∈ lw_tbl := fun w h => (goodIn_p wsL_law_r5 [239, 246, 249, 252, 255, 262] (by decide +kernel) (by decide +kernel) w h).1
set_option maxRecDepth 20000 in
theorem wsL_law_r6_in : ∀ w ∈ wsL_law_r6, w ∈ lw_tbl := fun w h => (goodIn_p wsL_law_r6 [266, 681, 684, 687, 691] (by decide +kernel) (by decide +kernel) w h).1
set_option maxRecDepth 20000 in
theorem wsL_law_r7_in : ∀ w ∈ wsL_law_r7, w ∈ lw_tbl := fun w h => (goodIn_p wsL_law_r7 [695, 698, 271, 275, 278, 282, 702] (by decide +kernel) (by decide +kernel) w h).1
set_option maxRecDepth 20000 in
theorem wsL_law_r8_in : ∀ w ∈ wsL_law_r8, w ∈ lw_tbl := fun w h => (goodIn_p wsL_law_r8 [286, 290, 293, 297, 300, 303, 706] (by decide +kernel) (by decide +kernel) w h).1
set_option maxRecDepth 20000 in
theorem wsL_law_r9_in : ∀ w ∈ wsL_law_r9, w ∈ lw_tbl := fun w h => (goodIn_p wsL_law_r9 [709, 712, 715, 307, 311, 315, 319] (by decide +kernel) (by decide +kernel) w h).1
set_option maxRecDepth 20000 in
theorem wsL_law_r10_in : ∀ w ∈ wsL_law_r10, w ∈ lw_tbl := fun w h => (goodIn_p wsL_law_r10 [323, 719, 722, 726, 729, 327] (by decide +kernel) (by decide +kernel) w h).1
set_option maxRecDepth 20000 in
theorem wsL_law_r11_in : ∀ w ∈ wsL_law_r11, w ∈ lw_tbl := fun w h => (goodIn_p wsL_law_r11 [331, 334, 337, 341, 345, 349, 353] (by decide +kernel) (by decide +kernel) w h).1
set_option maxRecDepth 20000 in
theorem wsL_law_r12_in : ∀ w ∈ wsL_law_r12, w ∈ lw_tbl := fun w h => (goodIn_p wsL_law_r12 [357, 361, 365, 369, 733, 736, 740] (by decide +kernel) (by decide +kernel) w h).1
set_option maxRecDepth 20000 in
theorem wsL_law_r13_in : ∀ w ∈ wsL_law_r13, w ∈ lw_tbl := fun w h => (goodIn_p wsL_law_r13 [744, 748, 752, 756, 760, 764] (by decide +kernel) (by decide +kernel) w h).1
set_option maxRecDepth 20000 in
theorem wsL_law_r14_in : ∀ w ∈ wsL_law_r14, w ∈ lw_tbl := fun w h => (goodIn_p wsL_law_r14 [768, 772, 373, 377, 381, 385] (by decide +kernel) (by decide +kernel) w h).1
set_option maxRecDepth 20000 in
theorem wsL_law_r15_in : ∀ w ∈ wsL_law_r15, w ∈ lw_tbl := fun w h => (goodIn_p wsL_law_r15 [776, 389, 393, 397, 780, 401] (by decide +kernel) (by decide +kernel) w h).1
set_option maxRecDepth 20000 in
theorem wsL_law_r16_in : ∀ w ∈ wsL_law_r16, w ∈ lw_tbl := fun w h => (goodIn_p wsL_law_r16 [405, 784, 409, 413, 788] (by decide +kernel) (by decide +kernel) w h).1
set_option maxRecDepth 20000 in
theorem wsL_law_r17_in : ∀ w ∈ wsL_law_r17, w ∈ lw_tbl := fun w h => (goodIn_p wsL_law_r17 [417, 421, 425, 429, 432] (by decide +kernel) (by decide +kernel) w h).1
set_option maxRecDepth 20000 in
theorem wsL_law_r18_in : ∀ w ∈ wsL_law_r18, w ∈ lw_tbl := fun w h => (goodIn_p wsL_law_r18 [442, 446, 450, 456, 460] (by decide +kernel) (by decide +kernel) w h).1
set_option maxRecDepth 20000 in
theorem wsL_law_r19_in : ∀ w ∈ wsL_law_r19, w ∈ lw_tbl := fun w h => (goodIn_p wsL_law_r19 [463, 466, 471, 474, 477, 480, 484] (by decide +kernel) (by decide +kernel) w h).1
set_option maxRecDepth 20000 in
theorem wsL_law_r20_in : ∀ w ∈ wsL_law_r20, w ∈ lw_tbl := fun w h => (goodIn_p wsL_law_r20 [494, 498, 502, 506, 509] (by decide +kernel) (by decide +kernel) w h).1
set_option maxRecDepth 20000 in
theorem wsL_law_r21_in : ∀ w ∈ wsL_law_r21, w ∈ lw_tbl := fun w h => (goodIn_p wsL_law_r21 [513, 517, 525, 529] (by decide +kernel) (by decide +kernel) w h).1
set_option maxRecDepth 20000 in
theorem wsL_law_r22_in : ∀ w ∈ wsL_law_r22, w ∈ lw_tbl := fun w h => (goodIn_p wsL_law_r22 [533, 537, 792, 796, 800] (by decide +kernel) (by decide +kernel) w h).1
set_option maxRecDepth 20000 in
theorem wsL_law_r23_in : ∀ w ∈ wsL_law_r23, w ∈ lw_tbl := fun w h => (goodIn_p wsL_law_r23 [804, 808, 812, 816, 542] (by decide +kernel) (by decide +kernel) w h).1
set_option maxRecDepth 20000 in
theorem wsL_law_r24_in : ∀ w ∈ wsL_law_r24, w ∈ lw_tbl := fun w h => (goodIn_p wsL_law_r24 [825, 546, 550, 829, 554] (by decide +kernel) (by decide +kernel) w h).1
set_option maxRecDepth 20000 in
theorem wsL_law_r25_in : ∀ w ∈ wsL_law_r25, w ∈ lw_tbl := fun w h => (goodIn_p wsL_law_r25 [833, 560, 837, 564, 841] (by decide +kernel) (by decide +kernel) w h).1
set_option maxRecDepth 20000 in
theorem wsL_law_r26_in : ∀ w ∈ wsL_law_r26, w ∈ lw_tbl := fun w h => (goodIn_p wsL_law_r26 [845, 571, 849, 577] (by decide +kernel) (by decide +kernel) w h).1
set_option maxRecDepth 20000 in
theorem wsL_law_r27_in : ∀ w ∈ wsL_law_r27, w ∈ lw_tbl := fun w h => (goodIn_p wsL_law_r27 [582, 853, 857, 586, 589] (by decide +kernel) (by decide +kernel) w h).1
set_option maxRecDepth 20000 in
theorem wsL_law_r28_in : ∀ w ∈ wsL_law_r28, w ∈ lw_tbl := fun w h => (goodIn_p wsL_law_r28 [861, 596, 865, 603] (by decide +kernel) (by decide +kernel) w h).1
set_option maxRecDepth 20000 in
theorem wsL_law_r29_in : ∀ w ∈ wsL_law_r29, w ∈ lw_tbl := fun w h => (goodIn_p wsL_law_r29 [607, 869, 611, 616, 873, 620] (by decide +kernel) (by decide +kernel) w h).1
set_option maxRecDepth 20000 in
theorem wsL_law_r30_in : ∀ w ∈ wsL_law_r30, w ∈ lw_tbl := fun w h => (goodIn_p wsL_law_r30 [624, 877, 881] (by decide +kernel) (by decide +kernel) w h).1
theorem wsX40_lt : ∀ w ∈ wsX40, w ∈ lw_tbl := by decide +kernel
theorem wsX50_lt : ∀ w ∈ wsX50, w ∈ lw_tbl := by decide +kernel
theorem wsX20_lt : ∀ w ∈ wsX20, w ∈ lw_tbl := by decide +kernel
theorem wsX00_lt : ∀ w ∈ wsX00, w ∈ lw_tbl := by decide +kernel
theorem wsX30_lt : ∀ w ∈ wsX30, w ∈ lw_tbl := by decide +kernel
theorem wsX10_lt : ∀ w ∈ wsX10, w ∈ lw_tbl := by decide +kernel
theorem wsL_law_in : ∀ w ∈ wsL_law, w ∈ lw_tbl := (List.forall_mem_append.mpr ⟨(List.forall_mem_append.mpr ⟨(List.forall_mem_append.mpr ⟨(List.forall_mem_append.mpr ⟨(List.forall_mem_append.mpr ⟨(List.forall_mem_append.mpr ⟨(List.forall_mem_append.mpr ⟨(List.forall_mem_append.mpr ⟨wsL_law_r1_in, (List.forall_mem_append.mpr ⟨wsL_law_r2_in, (List.forall_mem_append.mpr ⟨wsL_law_r3_in, (List.forall_mem_append.mpr ⟨wsL_law_r4_in, (List.forall_mem_append.mpr ⟨wsL_law_r5_in, (List.forall_mem_append.mpr ⟨wsL_law_r6_in, (List.forall_mem_append.mpr ⟨wsL_law_r7_in, (List.forall_mem_append.mpr ⟨wsL_law_r8_in, (List.forall_mem_append.mpr ⟨wsL_law_r9_in, (List.forall_mem_append.mpr ⟨wsL_law_r10_in, (List.forall_mem_append.mpr ⟨wsL_law_r11_in, (List.forall_mem_append.mpr ⟨wsL_law_r12_in, (List.forall_mem_append.mpr ⟨wsL_law_r13_in, (List.forall_mem_append.mpr ⟨wsL_law_r14_in, (List.forall_mem_append.mpr ⟨wsL_law_r15_in, (List.forall_mem_append.mpr ⟨wsL_law_r16_in, (List.forall_mem_append.mpr ⟨wsL_law_r17_in, (List.forall_mem_append.mpr ⟨wsL_law_r18_in, (List.forall_mem_append.mpr ⟨wsL_law_r19_in, (List.forall_mem_append.mpr ⟨wsL_law_r20_in, (List.forall_mem_append.mpr ⟨wsL_law_r21_in, (List.forall_mem_append.mpr ⟨wsL_law_r22_in, (List.forall_mem_append.mpr ⟨wsL_law_r23_in, (List.forall_mem_append.mpr ⟨wsL_law_r24_in, (List.forall_mem_append.mpr ⟨wsL_law_r25_in, (List.forall_mem_append.mpr ⟨wsL_law_r26_in, (List.forall_mem_append.mpr ⟨wsL_law_r27_in, (List.forall_mem_append.mpr ⟨wsL_law_r28_in, (List.forall_mem_append.mpr ⟨wsL_law_r29_in, wsL_law_r30_in⟩)⟩)⟩)⟩)⟩)⟩)⟩)⟩)⟩)⟩)⟩)⟩)⟩)⟩)⟩)⟩)⟩)⟩)⟩)⟩)⟩)⟩)⟩)⟩)⟩)⟩)⟩)⟩)⟩), wsX40_lt⟩), wsX50_lt⟩), wsX20_lt⟩), wsX00_lt⟩), wsX30_lt⟩), wsX10_lt⟩), fun _ h => absurd h List.not_mem_nil⟩)
theorem inlX0 : ∀ w ∈ wsX00, w ∈ wsL_law := fun _ h => List.mem_append_left _ (List.mem_append_left _ (List.mem_append_left _ (List.mem_append_right _ h)))
theorem inX0 : ∀ w ∈ wsX00, w ∈ lw_tbl := fun w h => wsL_law_in w (inlX0 w h)
theorem inlX1 : ∀ w ∈ wsX10, w ∈ wsL_law := fun _ h => List.mem_append_left _ (List.mem_append_right _ h)
theorem inX1 : ∀ w ∈ wsX10, w ∈ lw_tbl := fun w h => wsL_law_in w (inlX1 w h)
theorem inlX2 : ∀ w ∈ wsX20, w ∈ wsL_law := fun _ h => List.mem_append_left _ (List.mem_append_left _ (List.mem_append_left _ (List.mem_append_left _ (List.mem_append_right _ h))))
theorem inX2 : ∀ w ∈ wsX20, w ∈ lw_tbl := fun w h => wsL_law_in w (inlX2 w h)
theorem inlX3 : ∀ w ∈ wsX30, w ∈ wsL_law := fun _ h => List.mem_append_left _ (List.mem_append_left _ (List.mem_append_right _ h))
theorem inX3 : ∀ w ∈ wsX30, w ∈ lw_tbl := fun w h => wsL_law_in w (inlX3 w h)
theorem inlX4 : ∀ w ∈ wsX40, w ∈ wsL_law := fun _ h => List.mem_append_left _ (List.mem_append_left _ (List.mem_append_left _ (List.mem_append_left _ (List.mem_append_left _ (List.mem_append_left _ (List.mem_append_right _ h))))))
theorem inX4 : ∀ w ∈ wsX40, w ∈ lw_tbl := fun w h => wsL_law_in w (inlX4 w h)
theorem inlX5 : ∀ w ∈ wsX50, w ∈ wsL_law := fun _ h => List.mem_append_left _ (List.mem_append_left _ (List.mem_append_left _ (List.mem_append_left _ (List.mem_append_left _ (List.mem_append_right _ h)))))
theorem inX5 : ∀ w ∈ wsX50, w ∈ lw_tbl := fun w h => wsL_law_in w (inlX5 w h)
theorem inJ6 : ∀ w ∈ wsJ60, w ∈ lw_tbl := by decide +kernel
theorem inJ9 : ∀ w ∈ wsJ90, w ∈ lw_tbl := by decide +kernel
theorem inJ0 : ∀ w ∈ wsJ00, w ∈ lw_tbl := by decide +kernel
theorem inJ1 : ∀ w ∈ wsJ10, w ∈ lw_tbl := by decide +kernel
theorem inJ2 : ∀ w ∈ wsJ20, w ∈ lw_tbl := by decide +kernel
theorem inJ10 : ∀ w ∈ wsJ100, w ∈ lw_tbl := by decide +kernel
theorem inJ3 : ∀ w ∈ wsJ30, w ∈ lw_tbl := by decide +kernel
end
section
set_option maxRecDepth 20000 in
theorem ggX0_init_X2_init : GoodIn wsX0_init wsX2_init := goodIn_r _ [9, 10, 2, 3, 11, 12, 13, 14, 15, 16, 17, 18, 19, 20, 21, 22, 23, 24, 28, 29, 30, 31, 32, 33, 34, 35, 36, 37, 38, 39, 40, 41, 42, 43] (by decide +kernel) (by decide +kernel)
set_option maxRecDepth 20000 in
theorem gX0_init_X2_init_n17 : GoodIn wsX0_init (wsX2_init) := ggX0_init_X2_init
theorem dX0_init_0 : decode cX0_init 0 = .ok (.aload_n 0, 1) := by decide +kernel
theorem dX0_init_1 : decode cX0_init 1 = .ok (.invokespecial 5, 3) := by decide +kernel
theorem dX0_init_4 : decode cX0_init 4 = .ok (.aload_n 0, 1) := by decide +kernel
theorem dX0_init_5 : decode cX0_init 5 = .ok (.iconst 5, 1) := by decide +kernel
theorem dX0_init_6 : decode cX0_init 6 = .ok (.anewarray 11, 3) := by decide +kernel
theorem dX0_init_9 : decode cX0_init 9 = .ok (.putfield 13, 3) := by decide +kernel
theorem dX0_init_12 : decode cX0_init 12 = .ok (.iconst 0, 1) := by decide +kernel
theorem dX0_init_13 : decode cX0_init 13 = .ok (.istore_n 1, 1) := by decide +kernel
theorem dX0_init_14 : decode cX0_init 14 = .ok (.iload_n 1, 1) := by decide +kernel
theorem dX0_init_15 : decode cX0_init 15 = .ok (.iconst 5, 1) := by decide +kernel
theorem dX0_init_16 : decode cX0_init 16 = .ok (.if_icmp .ge 22, 3) := by decide +kernel
theorem dX0_init_19 : decode cX0_init 19 = .ok (.aload_n 0, 1) := by decide +kernel
theorem dX0_init_20 : decode cX0_init 20 = .ok (.getfield 13, 3) := by decide +kernel
theorem dX0_init_23 : decode cX0_init 23 = .ok (.iload_n 1, 1) := by decide +kernel
theorem dX0_init_24 : decode cX0_init 24 = .ok (.new 11, 3) := by decide +kernel
theorem dX0_init_27 : decode cX0_init 27 = .ok (.dup, 1) := by decide +kernel
theorem dX0_init_28 : decode cX0_init 28 = .ok (.invokespecial 17, 3) := by decide +kernel
theorem dX0_init_31 : decode cX0_init 31 = .ok (.aastore, 1) := by decide +kernel
theorem dX0_init_32 : decode cX0_init 32 = .ok (.iinc 1 1, 3) := by decide +kernel
theorem dX0_init_35 : decode cX0_init 35 = .ok (.goto (-21), 3) := by decide +kernel
theorem dX0_init_38 : decode cX0_init 38 = .ok (.return_, 1) := by decide +kernel
set_option maxRecDepth 20000 in
theorem ggX0_draft_X2_copy : GoodIn wsX0_draft wsX2_copy := goodIn_r _ [7, 8, 9, 10, 11, 12, 13, 14, 15, 16, 17, 18, 19, 20, 21, 22, 23, 24, 25, 6, 26, 27, 28, 29, 30, 31, 32, 33, 34, 38, 39, 40, 41, 42, 43, 44, 45, 46, 47, 48, 49, 50, 51, 52, 53] (by decide +kernel) (by decide +kernel)
set_option maxRecDepth 20000 in
theorem gX0_draft_X2_copy : GoodIn wsX0_draft (wsV RX0 22 RX2 yX2_copy wsX2_copy) := goodIn_app (goodIn_of _ (by decide +kernel)) ggX0_draft_X2_copy
theorem dX0_draft_0 : decode cX0_draft 0 = .ok (.aload_n 0, 1) := by decide +kernel
theorem dX0_draft_1 : decode cX0_draft 1 = .ok (.getfield 13, 3) := by decide +kernel
theorem dX0_draft_4 : decode cX0_draft 4 = .ok (.aload_n 0, 1) := by decide +kernel
theorem dX0_draft_5 : decode cX0_draft 5 = .ok (.getfield 18, 3) := by decide +kernel
theorem dX0_draft_8 : decode cX0_draft 8 = .ok (.aaload, 1) := by decide +kernel
theorem dX0_draft_9 : decode cX0_draft 9 = .ok (.aload_n 1, 1) := by decide +kernel
theorem dX0_draft_10 : decode cX0_draft 10 = .ok (.invokevirtual 22, 3) := by decide +kernel
theorem dX0_draft_13 : decode cX0_draft 13 = .ok (.return_, 1) := by decide +kernel
set_option maxRecDepth 20000 in
theorem ggX0_bringBackDraft_X2_copy : GoodIn wsX0_bringBackDraft wsX2_copy := goodIn_r _ [7, 8, 9, 10, 11, 12, 13, 14, 15, 16, 17, 18, 19, 20, 21, 22, 23, 24, 25, 6, 26, 27, 28, 29, 30, 31, 32, 33, 34, 38, 39, 40, 41, 42, 43, 44, 45, 46, 47, 48, 49, 50, 51, 52, 53] (by decide +kernel) (by decide +kernel)
set_option maxRecDepth 20000 in
theorem gX0_bringBackDraft_X2_copy : GoodIn wsX0_bringBackDraft (wsV RX0 22 RX2 yX2_copy wsX2_copy) := goodIn_app (goodIn_of _ (by decide +kernel)) ggX0_bringBackDraft_X2_copy
theorem dX0_bringBackDraft_0 : decode cX0_bringBackDraft 0 = .ok (.aload_n 1, 1) := by decide +kernel
theorem dX0_bringBackDraft_1 : decode cX0_bringBackDraft 1 = .ok (.aload_n 0, 1) := by decide +kernel
theorem dX0_bringBackDraft_2 : decode cX0_bringBackDraft 2 = .ok (.getfield 13, 3) := by decide +kernel
theorem dX0_bringBackDraft_5 : decode cX0_bringBackDraft 5 = .ok (.aload_n 0, 1) := by decide +kernel
theorem dX0_bringBackDraft_6 : decode cX0_bringBackDraft 6 = .ok (.getfield 18, 3) := by decide +kernel
theorem dX0_bringBackDraft_9 : decode cX0_bringBackDraft 9 = .ok (.aaload, 1) := by decide +kernel
theorem dX0_bringBackDraft_10 : decode cX0_bringBackDraft 10 = .ok (.invokevirtual 22, 3) := by decide +kernel
theorem dX0_bringBackDraft_13 : decode cX0_bringBackDraft 13 = .ok (.return_, 1) := by decide +kernel
theorem dX0_commit_0 : decode cX0_commit 0 = .ok (.aload_n 0, 1) := by decide +kernel
theorem dX0_commit_1 : decode cX0_commit 1 = .ok (.aload_n 0, 1) := by decide +kernel
theorem dX0_commit_2 : decode cX0_commit 2 = .ok (.getfield 18, 3) := by decide +kernel
theorem dX0_commit_5 : decode cX0_commit 5 = .ok (.iconst 1, 1) := by decide +kernel
theorem dX0_commit_6 : decode cX0_commit 6 = .ok (.iadd, 1) := by decide +kernel
theorem dX0_commit_7 : decode cX0_commit 7 = .ok (.iconst 5, 1) := by decide +kernel
theorem dX0_commit_8 : decode cX0_commit 8 = .ok (.irem, 1) := by decide +kernel
theorem dX0_commit_9 : decode cX0_commit 9 = .ok (.putfield 18, 3) := by decide +kernel
theorem dX0_commit_12 : decode cX0_commit 12 = .ok (.aload_n 0, 1) := by decide +kernel
theorem dX0_commit_13 : decode cX0_commit 13 = .ok (.iconst 4, 1) := by decide +kernel
theorem dX0_commit_14 : decode cX0_commit 14 = .ok (.aload_n 0, 1) := by decide +kernel
theorem dX0_commit_15 : decode cX0_commit 15 = .ok (.getfield 26, 3) := by decide +kernel
theorem dX0_commit_18 : decode cX0_commit 18 = .ok (.iconst 1, 1) := by decide +kernel
theorem dX0_commit_19 : decode cX0_commit 19 = .ok (.iadd, 1) := by decide +kernel
theorem dX0_commit_20 : decode cX0_commit 20 = .ok (.invokestatic 29, 3) := by decide +kernel
theorem dX0_commit_23 : decode cX0_commit 23 = .ok (.putfield 26, 3) := by decide +kernel
theorem dX0_commit_26 : decode cX0_commit 26 = .ok (.return_, 1) := by decide +kernel
set_option maxRecDepth 20000 in
theorem ggX0_bringBackLatest_X2_copy : GoodIn wsX0_bringBackLatest wsX2_copy := goodIn_r _ [8, 9, 10, 11, 12, 13, 14, 15, 16, 17, 18, 19, 20, 21, 22, 23, 24, 25, 26, 7, 27, 28, 29, 30, 31, 32, 33, 34, 35, 39, 40, 41, 42, 43, 44, 45, 46, 47, 48, 49, 50, 51, 52, 53, 54] (by decide +kernel) (by decide +kernel)
set_option maxRecDepth 20000 in
theorem gX0_bringBackLatest_X2_copy : GoodIn wsX0_bringBackLatest (wsV RX0 22 RX2 yX2_copy wsX2_copy) := goodIn_app (goodIn_of _ (by decide +kernel)) ggX0_bringBackLatest_X2_copy
theorem dX0_bringBackLatest_0 : decode cX0_bringBackLatest 0 = .ok (.aload_n 0, 1) := by decide +kernel
theorem dX0_bringBackLatest_1 : decode cX0_bringBackLatest 1 = .ok (.getfield 26, 3) := by decide +kernel
theorem dX0_bringBackLatest_4 : decode cX0_bringBackLatest 4 = .ok (.ifCond .ne 6, 3) := by decide +kernel
theorem dX0_bringBackLatest_7 : decode cX0_bringBackLatest 7 = .ok (.bipush (-5), 2) := by decide +kernel
theorem dX0_bringBackLatest_9 : decode cX0_bringBackLatest 9 = .ok (.ireturn, 1) := by decide +kernel
theorem dX0_bringBackLatest_10 : decode cX0_bringBackLatest 10 = .ok (.aload_n 0, 1) := by decide +kernel
theorem dX0_bringBackLatest_11 : decode cX0_bringBackLatest 11 = .ok (.aload_n 0, 1) := by decide +kernel
theorem dX0_bringBackLatest_12 : decode cX0_bringBackLatest 12 = .ok (.getfield 18, 3) := by decide +kernel
theorem dX0_bringBackLatest_15 : decode cX0_bringBackLatest 15 = .ok (.iconst 5, 1) := by decide +kernel
theorem dX0_bringBackLatest_16 : decode cX0_bringBackLatest 16 = .ok (.iadd, 1) := by decide +kernel
theorem dX0_bringBackLatest_17 : decode cX0_bringBackLatest 17 = .ok (.iconst 1, 1) := by decide +kernel
theorem dX0_bringBackLatest_18 : decode cX0_bringBackLatest 18 = .ok (.isub, 1) := by decide +kernel
theorem dX0_bringBackLatest_19 : decode cX0_bringBackLatest 19 = .ok (.iconst 5, 1) := by decide +kernel
theorem dX0_bringBackLatest_20 : decode cX0_bringBackLatest 20 = .ok (.irem, 1) := by decide +kernel
theorem dX0_bringBackLatest_21 : decode cX0_bringBackLatest 21 = .ok (.putfield 18, 3) := by decide +kernel
theorem dX0_bringBackLatest_24 : decode cX0_bringBackLatest 24 = .ok (.aload_n 0, 1) := by decide +kernel
theorem dX0_bringBackLatest_25 : decode cX0_bringBackLatest 25 = .ok (.dup, 1) := by decide +kernel
theorem dX0_bringBackLatest_26 : decode cX0_bringBackLatest 26 = .ok (.getfield 26, 3) := by decide +kernel
theorem dX0_bringBackLatest_29 : decode cX0_bringBackLatest 29 = .ok (.iconst 1, 1) := by decide +kernel
theorem dX0_bringBackLatest_30 : decode cX0_bringBackLatest 30 = .ok (.isub, 1) := by decide +kernel
theorem dX0_bringBackLatest_31 : decode cX0_bringBackLatest 31 = .ok (.putfield 26, 3) := by decide +kernel
theorem dX0_bringBackLatest_34 : decode cX0_bringBackLatest 34 = .ok (.aload_n 1, 1) := by decide +kernel
theorem dX0_bringBackLatest_35 : decode cX0_bringBackLatest 35 = .ok (.aload_n 0, 1) := by decide +kernel
theorem dX0_bringBackLatest_36 : decode cX0_bringBackLatest 36 = .ok (.getfield 13, 3) := by decide +kernel
theorem dX0_bringBackLatest_39 : decode cX0_bringBackLatest 39 = .ok (.aload_n 0, 1) := by decide +kernel
theorem dX0_bringBackLatest_40 : decode cX0_bringBackLatest 40 = .ok (.getfield 18, 3) := by decide +kernel
theorem dX0_bringBackLatest_43 : decode cX0_bringBackLatest 43 = .ok (.aaload, 1) := by decide +kernel
theorem dX0_bringBackLatest_44 : decode cX0_bringBackLatest 44 = .ok (.invokevirtual 22, 3) := by decide +kernel
theorem dX0_bringBackLatest_47 : decode cX0_bringBackLatest 47 = .ok (.aload_n 0, 1) := by decide +kernel
theorem dX0_bringBackLatest_48 : decode cX0_bringBackLatest 48 = .ok (.getfield 26, 3) := by decide +kernel
theorem dX0_bringBackLatest_51 : decode cX0_bringBackLatest 51 = .ok (.ireturn, 1) := by decide +kernel
theorem dX1_init_0 : decode cX1_init 0 = .ok (.aload_n 0, 1) := by decide +kernel
theorem dX1_init_1 : decode cX1_init 1 = .ok (.invokespecial 3, 3) := by decide +kernel
theorem dX1_init_4 : decode cX1_init 4 = .ok (.aload_n 0, 1) := by decide +kernel
theorem dX1_init_5 : decode cX1_init 5 = .ok (.bipush 20, 2) := by decide +kernel
theorem dX1_init_7 : decode cX1_init 7 = .ok (.newarray .int, 2) := by decide +kernel
theorem dX1_init_9 : decode cX1_init 9 = .ok (.putfield 11, 3) := by decide +kernel
theorem dX1_init_12 : decode cX1_init 12 = .ok (.aload_n 0, 1) := by decide +kernel
theorem dX1_init_13 : decode cX1_init 13 = .ok (.bipush 20, 2) := by decide +kernel
theorem dX1_init_15 : decode cX1_init 15 = .ok (.newarray .int, 2) := by decide +kernel
theorem dX1_init_17 : decode cX1_init 17 = .ok (.putfield 15, 3) := by decide +kernel
theorem dX1_init_20 : decode cX1_init 20 = .ok (.aload_n 0, 1) := by decide +kernel
theorem dX1_init_21 : decode cX1_init 21 = .ok (.bipush 60, 2) := by decide +kernel
theorem dX1_init_23 : decode cX1_init 23 = .ok (.newarray .int, 2) := by decide +kernel
theorem dX1_init_25 : decode cX1_init 25 = .ok (.putfield 18, 3) := by decide +kernel
theorem dX1_init_28 : decode cX1_init 28 = .ok (.return_, 1) := by decide +kernel
set_option maxRecDepth 20000 in
theorem ggX1_read_X1_readOrder : GoodIn wsX1_read wsX1_readOrder := goodIn_r _ [8, 1, 2, 9, 10, 11, 12, 13, 14, 15, 16, 17, 18, 19, 20, 7, 21, 22, 23, 24, 25, 26, 27, 28, 29, 30, 31, 32, 33, 34, 35, 36, 37, 38, 39, 40, 41, 42, 43, 44, 45, 46, 47, 48, 49, 50, 51, 52, 53, 54, 55, 56, 57, 58, 59, 60, 61, 62, 63, 64, 65, 66, 67, 68, 69, 70, 71, 72, 73, 74, 75, 76, 77, 78, 79, 80, 81, 82, 83, 84, 85, 86, 87, 88, 89, 90, 91, 92, 93, 94, 95, 96, 97, 98, 99, 100, 101, 102, 103, 104, 105, 106] (by decide +kernel) (by decide +kernel)
set_option maxRecDepth 20000 in
theorem gX1_read_X1_readOrder : GoodIn wsX1_read (wsV RX1 28 RX1 yX1_readOrder wsX1_readOrder) := goodIn_app (goodIn_of _ (by decide +kernel)) ggX1_read_X1_readOrder
set_option maxRecDepth 20000 in
theorem ggX1_read_X3_signAt : GoodIn wsX1_read wsX3_signAt := goodIn_r _ [16, 17, 18, 105, 106] (by decide +kernel) (by decide +kernel)
set_option maxRecDepth 20000 in
theorem gX1_read_X3_signAt : GoodIn wsX1_read (wsV RX1 37 RX3 yX3_signAt wsX3_signAt) := goodIn_app (goodIn_of _ (by decide +kernel)) ggX1_read_X3_signAt
theorem dX1_read_0 : decode cX1_read 0 = .ok (.aload_n 0, 1) := by decide +kernel
theorem dX1_read_1 : decode cX1_read 1 = .ok (.iconst 0, 1) := by decide +kernel
theorem dX1_read_2 : decode cX1_read 2 = .ok (.putfield 21, 3) := by decide +kernel
theorem dX1_read_5 : decode cX1_read 5 = .ok (.aload_n 0, 1) := by decide +kernel
theorem dX1_read_6 : decode cX1_read 6 = .ok (.iconst 0, 1) := by decide +kernel
theorem dX1_read_7 : decode cX1_read 7 = .ok (.putfield 25, 3) := by decide +kernel
theorem dX1_read_10 : decode cX1_read 10 = .ok (.aload_n 0, 1) := by decide +kernel
theorem dX1_read_11 : decode cX1_read 11 = .ok (.getfield 25, 3) := by decide +kernel
theorem dX1_read_14 : decode cX1_read 14 = .ok (.bipush 20, 2) := by decide +kernel
theorem dX1_read_16 : decode cX1_read 16 = .ok (.if_icmp .ge 60, 3) := by decide +kernel
theorem dX1_read_19 : decode cX1_read 19 = .ok (.aload_n 0, 1) := by decide +kernel
theorem dX1_read_20 : decode cX1_read 20 = .ok (.aload_n 1, 1) := by decide +kernel
theorem dX1_read_21 : decode cX1_read 21 = .ok (.invokevirtual 28, 3) := by decide +kernel
theorem dX1_read_24 : decode cX1_read 24 = .ok (.ifCond .ne 8, 3) := by decide +kernel
theorem dX1_read_27 : decode cX1_read 27 = .ok (.aload_n 0, 1) := by decide +kernel
theorem dX1_read_28 : decode cX1_read 28 = .ok (.getfield 21, 3) := by decide +kernel
theorem dX1_read_31 : decode cX1_read 31 = .ok (.ireturn, 1) := by decide +kernel
theorem dX1_read_32 : decode cX1_read 32 = .ok (.aload_n 0, 1) := by decide +kernel
theorem dX1_read_33 : decode cX1_read 33 = .ok (.getfield 21, 3) := by decide +kernel
theorem dX1_read_36 : decode cX1_read 36 = .ok (.aload_n 1, 1) := by decide +kernel
theorem dX1_read_37 : decode cX1_read 37 = .ok (.getfield 32, 3) := by decide +kernel
theorem dX1_read_40 : decode cX1_read 40 = .ok (.if_icmp .ne 5, 3) := by decide +kernel
theorem dX1_read_43 : decode cX1_read 43 = .ok (.iconst (-1), 1) := by decide +kernel
theorem dX1_read_44 : decode cX1_read 44 = .ok (.ireturn, 1) := by decide +kernel
theorem dX1_read_45 : decode cX1_read 45 = .ok (.aload_n 1, 1) := by decide +kernel
theorem dX1_read_46 : decode cX1_read 46 = .ok (.aload_n 0, 1) := by decide +kernel
theorem dX1_read_47 : decode cX1_read 47 = .ok (.getfield 21, 3) := by decide +kernel
theorem dX1_read_50 : decode cX1_read 50 = .ok (.invokevirtual 37, 3) := by decide +kernel
theorem dX1_read_53 : decode cX1_read 53 = .ok (.bipush 59, 2) := by decide +kernel
theorem dX1_read_55 : decode cX1_read 55 = .ok (.if_icmp .eq 8, 3) := by decide +kernel
theorem dX1_read_58 : decode cX1_read 58 = .ok (.aload_n 0, 1) := by decide +kernel
theorem dX1_read_59 : decode cX1_read 59 = .ok (.getfield 21, 3) := by decide +kernel
theorem dX1_read_62 : decode cX1_read 62 = .ok (.ireturn, 1) := by decide +kernel
theorem dX1_read_63 : decode cX1_read 63 = .ok (.aload_n 0, 1) := by decide +kernel
theorem dX1_read_64 : decode cX1_read 64 = .ok (.dup, 1) := by decide +kernel
theorem dX1_read_65 : decode cX1_read 65 = .ok (.getfield 21, 3) := by decide +kernel
theorem dX1_read_68 : decode cX1_read 68 = .ok (.iconst 1, 1) := by decide +kernel
theorem dX1_read_69 : decode cX1_read 69 = .ok (.iadd, 1) := by decide +kernel
theorem dX1_read_70 : decode cX1_read 70 = .ok (.putfield 21, 3) := by decide +kernel
theorem dX1_read_73 : decode cX1_read 73 = .ok (.goto (-63), 3) := by decide +kernel
theorem dX1_read_76 : decode cX1_read 76 = .ok (.aload_n 0, 1) := by decide +kernel
theorem dX1_read_77 : decode cX1_read 77 = .ok (.getfield 21, 3) := by decide +kernel
theorem dX1_read_80 : decode cX1_read 80 = .ok (.ireturn, 1) := by decide +kernel
theorem dX1_placeOf_0 : decode cX1_placeOf 0 = .ok (.iload_n 1, 1) := by decide +kernel
theorem dX1_placeOf_1 : decode cX1_placeOf 1 = .ok (.ifCond .lt 20, 3) := by decide +kernel
theorem dX1_placeOf_4 : decode cX1_placeOf 4 = .ok (.iload_n 1, 1) := by decide +kernel
theorem dX1_placeOf_5 : decode cX1_placeOf 5 = .ok (.aload_n 0, 1) := by decide +kernel
theorem dX1_placeOf_6 : decode cX1_placeOf 6 = .ok (.getfield 25, 3) := by decide +kernel
theorem dX1_placeOf_9 : decode cX1_placeOf 9 = .ok (.if_icmp .ge 12, 3) := by decide +kernel
theorem dX1_placeOf_12 : decode cX1_placeOf 12 = .ok (.aload_n 0, 1) := by decide +kernel
theorem dX1_placeOf_13 : decode cX1_placeOf 13 = .ok (.getfield 15, 3) := by decide +kernel
theorem dX1_placeOf_16 : decode cX1_placeOf 16 = .ok (.iload_n 1, 1) := by decide +kernel
theorem dX1_placeOf_17 : decode cX1_placeOf 17 = .ok (.iaload, 1) := by decide +kernel
theorem dX1_placeOf_18 : decode cX1_placeOf 18 = .ok (.goto 4, 3) := by decide +kernel
theorem dX1_placeOf_21 : decode cX1_placeOf 21 = .ok (.iconst 0, 1) := by decide +kernel
theorem dX1_placeOf_22 : decode cX1_placeOf 22 = .ok (.ireturn, 1) := by decide +kernel
set_option maxRecDepth 20000 in
theorem ggX1_carryOut_X2_startBallot : GoodIn wsX1_carryOut wsX2_startBallot := goodIn_r _ [8, 9, 10, 11, 12, 13, 14, 15, 16, 17, 7, 18, 19, 20, 21, 22, 23, 24, 25, 130, 131, 132, 133, 134, 135, 136, 137, 138, 139, 140, 141, 142, 143, 144, 145] (by decide +kernel) (by decide +kernel)
set_option maxRecDepth 20000 in
theorem gX1_carryOut_X2_startBallot : GoodIn wsX1_carryOut (wsV RX1 41 RX2 yX2_startBallot wsX2_startBallot) := goodIn_app (goodIn_of _ (by decide +kernel)) ggX1_carryOut_X2_startBallot
set_option maxRecDepth 20000 in
theorem ggX1_carryOut_X2_askPromise : GoodIn wsX1_carryOut wsX2_askPromise := goodIn_r _ [29, 9, 30, 10, 31, 32, 12, 13, 14, 33, 34, 35, 36, 37, 38, 39, 7, 40, 19, 20, 21, 22, 23, 41, 42, 43, 44, 45, 46, 47, 48, 24, 25, 49, 50, 51, 52, 130, 131, 132, 133, 134, 135, 136, 137, 138, 139, 140, 141, 142, 143, 144, 145] (by decide +kernel) (by decide +kernel)
set_option maxRecDepth 20000 in
theorem gX1_carryOut_X2_askPromise : GoodIn wsX1_carryOut (wsV RX1 46 RX2 yX2_askPromise wsX2_askPromise) := goodIn_app (goodIn_of _ (by decide +kernel)) ggX1_carryOut_X2_askPromise
set_option maxRecDepth 20000 in
theorem ggX1_carryOut_X2_offerValue : GoodIn wsX1_carryOut wsX2_offerValue := goodIn_r _ [56, 11, 12, 13, 14, 57, 58, 59, 60, 61, 62, 63, 7, 64, 9, 65, 66, 67, 68, 69, 70, 71, 72, 73, 74, 75, 76, 77, 78, 10, 20, 21, 22, 23, 79, 80, 81, 82, 83, 84, 85, 86, 87, 88, 89, 90, 91, 92, 93, 94, 95, 96, 97, 98, 99, 100, 101, 24, 25, 102, 103, 104, 105, 45, 47, 35, 36, 130, 131, 132, 133, 134, 135, 136, 137, 138, 139, 140, 141, 142, 143, 144, 145] (by decide +kernel) (by decide +kernel)
set_option maxRecDepth 20000 in
theorem gX1_carryOut_X2_offerValue : GoodIn wsX1_carryOut (wsV RX1 50 RX2 yX2_offerValue wsX2_offerValue) := goodIn_app (goodIn_of _ (by decide +kernel)) ggX1_carryOut_X2_offerValue
set_option maxRecDepth 20000 in
theorem ggX1_carryOut_X2_askVote : GoodIn wsX1_carryOut wsX2_askVote := goodIn_r _ [109, 46, 9, 31, 110, 48, 11, 74, 111, 12, 13, 14, 57, 58, 33, 34, 112, 113, 114, 7, 115, 65, 30, 24, 25, 35, 36, 79, 80, 81, 82, 37, 38, 39, 40, 19, 20, 21, 22, 23, 116, 117, 118, 119, 87, 88, 89, 90, 91, 92, 93, 94, 95, 96, 97, 98, 99, 100, 101, 130, 131, 132, 133, 134, 135, 136, 137, 138, 139, 140, 141, 142, 143, 144, 145] (by decide +kernel) (by decide +kernel)
set_option maxRecDepth 20000 in
theorem gX1_carryOut_X2_askVote : GoodIn wsX1_carryOut (wsV RX1 54 RX2 yX2_askVote wsX2_askVote) := goodIn_app (goodIn_of _ (by decide +kernel)) ggX1_carryOut_X2_askVote
set_option maxRecDepth 20000 in
theorem ggX1_carryOut_X2_turn : GoodIn wsX1_carryOut wsX2_turn := goodIn_r _ [123, 30, 33, 13, 34, 35, 36, 87, 88, 89, 90, 91, 92, 93, 130, 131, 132, 133, 134, 135, 136, 137, 138, 139, 140, 141, 142, 143, 144, 145] (by decide +kernel) (by decide +kernel)
set_option maxRecDepth 20000 in
theorem gX1_carryOut_X2_turn : GoodIn wsX1_carryOut (wsV RX1 57 RX2 yX2_turn wsX2_turn) := goodIn_app (goodIn_of _ (by decide +kernel)) ggX1_carryOut_X2_turn
theorem dX1_carryOut_0 : decode cX1_carryOut 0 = .ok (.iload_n 1, 1) := by decide +kernel
theorem dX1_carryOut_1 : decode cX1_carryOut 1 = .ok (.ifCond .lt 11, 3) := by decide +kernel
theorem dX1_carryOut_4 : decode cX1_carryOut 4 = .ok (.iload_n 1, 1) := by decide +kernel
theorem dX1_carryOut_5 : decode cX1_carryOut 5 = .ok (.aload_n 0, 1) := by decide +kernel
theorem dX1_carryOut_6 : decode cX1_carryOut 6 = .ok (.getfield 25, 3) := by decide +kernel
theorem dX1_carryOut_9 : decode cX1_carryOut 9 = .ok (.if_icmp .lt 6, 3) := by decide +kernel
theorem dX1_carryOut_12 : decode cX1_carryOut 12 = .ok (.bipush (-5), 2) := by decide +kernel
theorem dX1_carryOut_14 : decode cX1_carryOut 14 = .ok (.ireturn, 1) := by decide +kernel
theorem dX1_carryOut_15 : decode cX1_carryOut 15 = .ok (.aload_n 0, 1) := by decide +kernel
theorem dX1_carryOut_16 : decode cX1_carryOut 16 = .ok (.getfield 18, 3) := by decide +kernel
theorem dX1_carryOut_19 : decode cX1_carryOut 19 = .ok (.iload_n 1, 1) := by decide +kernel
theorem dX1_carryOut_20 : decode cX1_carryOut 20 = .ok (.iconst 3, 1) := by decide +kernel
theorem dX1_carryOut_21 : decode cX1_carryOut 21 = .ok (.imul, 1) := by decide +kernel
theorem dX1_carryOut_22 : decode cX1_carryOut 22 = .ok (.iaload, 1) := by decide +kernel
theorem dX1_carryOut_23 : decode cX1_carryOut 23 = .ok (.istore_n 3, 1) := by decide +kernel
theorem dX1_carryOut_24 : decode cX1_carryOut 24 = .ok (.aload_n 0, 1) := by decide +kernel
theorem dX1_carryOut_25 : decode cX1_carryOut 25 = .ok (.getfield 18, 3) := by decide +kernel
theorem dX1_carryOut_28 : decode cX1_carryOut 28 = .ok (.iload_n 1, 1) := by decide +kernel
theorem dX1_carryOut_29 : decode cX1_carryOut 29 = .ok (.iconst 3, 1) := by decide +kernel
theorem dX1_carryOut_30 : decode cX1_carryOut 30 = .ok (.imul, 1) := by decide +kernel
theorem dX1_carryOut_31 : decode cX1_carryOut 31 = .ok (.iconst 1, 1) := by decide +kernel
theorem dX1_carryOut_32 : decode cX1_carryOut 32 = .ok (.iadd, 1) := by decide +kernel
theorem dX1_carryOut_33 : decode cX1_carryOut 33 = .ok (.iaload, 1) := by decide +kernel
theorem dX1_carryOut_34 : decode cX1_carryOut 34 = .ok (.istore 4, 2) := by decide +kernel
theorem dX1_carryOut_36 : decode cX1_carryOut 36 = .ok (.aload_n 0, 1) := by decide +kernel
theorem dX1_carryOut_37 : decode cX1_carryOut 37 = .ok (.getfield 18, 3) := by decide +kernel
theorem dX1_carryOut_40 : decode cX1_carryOut 40 = .ok (.iload_n 1, 1) := by decide +kernel
theorem dX1_carryOut_41 : decode cX1_carryOut 41 = .ok (.iconst 3, 1) := by decide +kernel
theorem dX1_carryOut_42 : decode cX1_carryOut 42 = .ok (.imul, 1) := by decide +kernel
theorem dX1_carryOut_43 : decode cX1_carryOut 43 = .ok (.iconst 2, 1) := by decide +kernel
theorem dX1_carryOut_44 : decode cX1_carryOut 44 = .ok (.iadd, 1) := by decide +kernel
theorem dX1_carryOut_45 : decode cX1_carryOut 45 = .ok (.iaload, 1) := by decide +kernel
theorem dX1_carryOut_46 : decode cX1_carryOut 46 = .ok (.istore 5, 2) := by decide +kernel
theorem dX1_carryOut_48 : decode cX1_carryOut 48 = .ok (.aload_n 0, 1) := by decide +kernel
theorem dX1_carryOut_49 : decode cX1_carryOut 49 = .ok (.getfield 11, 3) := by decide +kernel
theorem dX1_carryOut_52 : decode cX1_carryOut 52 = .ok (.iload_n 1, 1) := by decide +kernel
theorem dX1_carryOut_53 : decode cX1_carryOut 53 = .ok (.iaload, 1) := by decide +kernel
theorem dX1_carryOut_54 : decode cX1_carryOut 54 = .ok (.lookupswitch 76 #[(97, 66), (110, 42), (118, 56), (121, 48)], 42) := by decide +kernel
theorem dX1_carryOut_96 : decode cX1_carryOut 96 = .ok (.aload_n 2, 1) := by decide +kernel
theorem dX1_carryOut_97 : decode cX1_carryOut 97 = .ok (.iload_n 3, 1) := by decide +kernel
theorem dX1_carryOut_98 : decode cX1_carryOut 98 = .ok (.invokevirtual 41, 3) := by decide +kernel
theorem dX1_carryOut_101 : decode cX1_carryOut 101 = .ok (.ireturn, 1) := by decide +kernel
theorem dX1_carryOut_102 : decode cX1_carryOut 102 = .ok (.aload_n 2, 1) := by decide +kernel
theorem dX1_carryOut_103 : decode cX1_carryOut 103 = .ok (.iload_n 3, 1) := by decide +kernel
theorem dX1_carryOut_104 : decode cX1_carryOut 104 = .ok (.iload 4, 2) := by decide +kernel
theorem dX1_carryOut_106 : decode cX1_carryOut 106 = .ok (.invokevirtual 46, 3) := by decide +kernel
theorem dX1_carryOut_109 : decode cX1_carryOut 109 = .ok (.ireturn, 1) := by decide +kernel
theorem dX1_carryOut_110 : decode cX1_carryOut 110 = .ok (.aload_n 2, 1) := by decide +kernel
theorem dX1_carryOut_111 : decode cX1_carryOut 111 = .ok (.iload_n 3, 1) := by decide +kernel
theorem dX1_carryOut_112 : decode cX1_carryOut 112 = .ok (.iload 4, 2) := by decide +kernel
theorem dX1_carryOut_114 : decode cX1_carryOut 114 = .ok (.iload 5, 2) := by decide +kernel
theorem dX1_carryOut_116 : decode cX1_carryOut 116 = .ok (.invokevirtual 50, 3) := by decide +kernel
theorem dX1_carryOut_119 : decode cX1_carryOut 119 = .ok (.ireturn, 1) := by decide +kernel
theorem dX1_carryOut_120 : decode cX1_carryOut 120 = .ok (.aload_n 2, 1) := by decide +kernel
theorem dX1_carryOut_121 : decode cX1_carryOut 121 = .ok (.iload_n 3, 1) := by decide +kernel
theorem dX1_carryOut_122 : decode cX1_carryOut 122 = .ok (.iload 4, 2) := by decide +kernel
theorem dX1_carryOut_124 : decode cX1_carryOut 124 = .ok (.iload 5, 2) := by decide +kernel
theorem dX1_carryOut_126 : decode cX1_carryOut 126 = .ok (.invokevirtual 54, 3) := by decide +kernel
theorem dX1_carryOut_129 : decode cX1_carryOut 129 = .ok (.ireturn, 1) := by decide +kernel
theorem dX1_carryOut_130 : decode cX1_carryOut 130 = .ok (.aload_n 2, 1) := by decide +kernel
theorem dX1_carryOut_131 : decode cX1_carryOut 131 = .ok (.iload_n 3, 1) := by decide +kernel
theorem dX1_carryOut_132 : decode cX1_carryOut 132 = .ok (.aload_n 0, 1) := by decide +kernel
theorem dX1_carryOut_133 : decode cX1_carryOut 133 = .ok (.getfield 11, 3) := by decide +kernel
theorem dX1_carryOut_136 : decode cX1_carryOut 136 = .ok (.iload_n 1, 1) := by decide +kernel
theorem dX1_carryOut_137 : decode cX1_carryOut 137 = .ok (.iaload, 1) := by decide +kernel
theorem dX1_carryOut_138 : decode cX1_carryOut 138 = .ok (.bipush 117, 2) := by decide +kernel
theorem dX1_carryOut_140 : decode cX1_carryOut 140 = .ok (.if_icmp .ne 7, 3) := by decide +kernel
theorem dX1_carryOut_143 : decode cX1_carryOut 143 = .ok (.iconst 1, 1) := by decide +kernel
theorem dX1_carryOut_144 : decode cX1_carryOut 144 = .ok (.goto 4, 3) := by decide +kernel
theorem dX1_carryOut_147 : decode cX1_carryOut 147 = .ok (.iconst 0, 1) := by decide +kernel
theorem dX1_carryOut_148 : decode cX1_carryOut 148 = .ok (.invokevirtual 57, 3) := by decide +kernel
theorem dX1_carryOut_151 : decode cX1_carryOut 151 = .ok (.ireturn, 1) := by decide +kernel
theorem dX1_partsOf_0 : decode cX1_partsOf 0 = .ok (.iload_n 0, 1) := by decide +kernel
theorem dX1_partsOf_1 : decode cX1_partsOf 1 = .ok (.lookupswitch 74 #[(97, 68), (100, 71), (110, 59), (117, 71), (118, 65), (121, 62)], 59) := by decide +kernel
theorem dX1_partsOf_60 : decode cX1_partsOf 60 = .ok (.ldc 61, 2) := by decide +kernel
theorem dX1_partsOf_62 : decode cX1_partsOf 62 = .ok (.areturn, 1) := by decide +kernel
theorem dX1_partsOf_63 : decode cX1_partsOf 63 = .ok (.ldc 63, 2) := by decide +kernel
theorem dX1_partsOf_65 : decode cX1_partsOf 65 = .ok (.areturn, 1) := by decide +kernel
theorem dX1_partsOf_66 : decode cX1_partsOf 66 = .ok (.ldc 65, 2) := by decide +kernel
theorem dX1_partsOf_68 : decode cX1_partsOf 68 = .ok (.areturn, 1) := by decide +kernel
theorem dX1_partsOf_69 : decode cX1_partsOf 69 = .ok (.ldc 67, 2) := by decide +kernel
theorem dX1_partsOf_71 : decode cX1_partsOf 71 = .ok (.areturn, 1) := by decide +kernel
theorem dX1_partsOf_72 : decode cX1_partsOf 72 = .ok (.ldc 69, 2) := by decide +kernel
theorem dX1_partsOf_74 : decode cX1_partsOf 74 = .ok (.areturn, 1) := by decide +kernel
theorem dX1_partsOf_75 : decode cX1_partsOf 75 = .ok (.ldc 71, 2) := by decide +kernel
theorem dX1_partsOf_77 : decode cX1_partsOf 77 = .ok (.areturn, 1) := by decide +kernel
set_option maxRecDepth 20000 in
theorem ggX1_readOrder_X3_signAt : GoodIn wsX1_readOrder wsX3_signAt := goodIn_r _ [10, 11, 12, 100, 101] (by decide +kernel) (by decide +kernel)
set_option maxRecDepth 20000 in
theorem gX1_readOrder_X3_signAt : GoodIn wsX1_readOrder (wsV RX1 37 RX3 yX3_signAt wsX3_signAt) := goodIn_app (goodIn_of _ (by decide +kernel)) ggX1_readOrder_X3_signAt
set_option maxRecDepth 20000 in
theorem ggX1_readOrder_X1_partsOf : GoodIn wsX1_readOrder wsX1_partsOf := goodIn_r _ [16] (by decide +kernel) (by decide +kernel)
set_option maxRecDepth 20000 in
theorem gX1_readOrder_X1_partsOf : GoodIn wsX1_readOrder (va_wsS RX1 73 yX1_partsOf wsX1_partsOf) := goodIn_app (goodIn_of _ (by decide +kernel)) ggX1_readOrder_X1_partsOf
set_option maxRecDepth 20000 in
theorem ggX1_readOrder_J0_isEmpty_aae02 : GoodIn wsX1_readOrder wsJ0_isEmpty_aae02 := goodIn_r _ [21, 22] (by decide +kernel) (by decide +kernel)
set_option maxRecDepth 20000 in
theorem gX1_readOrder_J0_isEmpty_aae02 : GoodIn wsX1_readOrder (wsV RX1 77 RJ0 yJ0_isEmpty_aae02 wsJ0_isEmpty_aae02) := goodIn_app (goodIn_of _ (by decide +kernel)) ggX1_readOrder_J0_isEmpty_aae02
set_option maxRecDepth 20000 in
theorem ggX1_readOrder_J0_length_8abf5 : GoodIn wsX1_readOrder wsJ0_length_8abf5 := goodIn_r _ [26, 22, 27, 28, 29, 20, 30, 31, 32] (by decide +kernel) (by decide +kernel)
set_option maxRecDepth 20000 in
theorem gX1_readOrder_J0_length_8abf5 : GoodIn wsX1_readOrder (wsV RX1 86 RJ0 yJ0_length_8abf5 wsJ0_length_8abf5) := goodIn_app (goodIn_of _ (by decide +kernel)) ggX1_readOrder_J0_length_8abf5
set_option maxRecDepth 20000 in
theorem ggX1_readOrder_J0_charAt_5068e : GoodIn wsX1_readOrder wsJ0_charAt_5068e := goodIn_r _ [36, 22, 37, 38, 39, 20, 40, 31, 32, 41, 42, 43, 44, 45, 46, 47, 48, 49, 50, 51, 52, 53, 54, 55, 56, 57, 58, 59, 60, 61, 62, 63, 64, 65, 66, 67, 68, 69] (by decide +kernel) (by decide +kernel)
set_option maxRecDepth 20000 in
theorem gX1_readOrder_J0_charAt_5068e : GoodIn wsX1_readOrder (wsV RX1 89 RJ0 yJ0_charAt_5068e wsJ0_charAt_5068e) := goodIn_app (goodIn_of _ (by decide +kernel)) ggX1_readOrder_J0_charAt_5068e
set_option maxRecDepth 20000 in
theorem ggX1_readOrder_X1_readPart : GoodIn wsX1_readOrder wsX1_readPart := goodIn_r _ [73, 74, 75, 76, 15, 77, 1, 6, 7, 8, 9, 10, 11, 12, 78, 79, 80, 81, 5, 2, 82, 83, 84, 85, 86, 87, 88, 89, 90, 91, 92, 93, 94, 95, 96, 97, 98, 99, 100, 101] (by decide +kernel) (by decide +kernel)
set_option maxRecDepth 20000 in
theorem gX1_readOrder_X1_readPart : GoodIn wsX1_readOrder (wsV RX1 93 RX1 yX1_readPart wsX1_readPart) := goodIn_app (goodIn_of _ (by decide +kernel)) ggX1_readOrder_X1_readPart
theorem dX1_readOrder_0 : decode cX1_readOrder 0 = .ok (.aload_n 1, 1) := by decide +kernel
theorem dX1_readOrder_1 : decode cX1_readOrder 1 = .ok (.aload_n 0, 1) := by decide +kernel
theorem dX1_readOrder_2 : decode cX1_readOrder 2 = .ok (.getfield 21, 3) := by decide +kernel
theorem dX1_readOrder_5 : decode cX1_readOrder 5 = .ok (.invokevirtual 37, 3) := by decide +kernel
theorem dX1_readOrder_8 : decode cX1_readOrder 8 = .ok (.istore_n 2, 1) := by decide +kernel
theorem dX1_readOrder_9 : decode cX1_readOrder 9 = .ok (.iload_n 2, 1) := by decide +kernel
theorem dX1_readOrder_10 : decode cX1_readOrder 10 = .ok (.invokestatic 73, 3) := by decide +kernel
theorem dX1_readOrder_13 : decode cX1_readOrder 13 = .ok (.astore_n 3, 1) := by decide +kernel
theorem dX1_readOrder_14 : decode cX1_readOrder 14 = .ok (.aload_n 3, 1) := by decide +kernel
theorem dX1_readOrder_15 : decode cX1_readOrder 15 = .ok (.invokevirtual 77, 3) := by decide +kernel
theorem dX1_readOrder_18 : decode cX1_readOrder 18 = .ok (.ifCond .ne 12, 3) := by decide +kernel
theorem dX1_readOrder_21 : decode cX1_readOrder 21 = .ok (.aload_n 0, 1) := by decide +kernel
theorem dX1_readOrder_22 : decode cX1_readOrder 22 = .ok (.getfield 25, 3) := by decide +kernel
theorem dX1_readOrder_25 : decode cX1_readOrder 25 = .ok (.bipush 20, 2) := by decide +kernel
theorem dX1_readOrder_27 : decode cX1_readOrder 27 = .ok (.if_icmp .lt 5, 3) := by decide +kernel
theorem dX1_readOrder_30 : decode cX1_readOrder 30 = .ok (.iconst 0, 1) := by decide +kernel
theorem dX1_readOrder_31 : decode cX1_readOrder 31 = .ok (.ireturn, 1) := by decide +kernel
theorem dX1_readOrder_32 : decode cX1_readOrder 32 = .ok (.aload_n 0, 1) := by decide +kernel
theorem dX1_readOrder_33 : decode cX1_readOrder 33 = .ok (.getfield 11, 3) := by decide +kernel
theorem dX1_readOrder_36 : decode cX1_readOrder 36 = .ok (.aload_n 0, 1) := by decide +kernel
theorem dX1_readOrder_37 : decode cX1_readOrder 37 = .ok (.getfield 25, 3) := by decide +kernel
theorem dX1_readOrder_40 : decode cX1_readOrder 40 = .ok (.iload_n 2, 1) := by decide +kernel
theorem dX1_readOrder_41 : decode cX1_readOrder 41 = .ok (.iastore, 1) := by decide +kernel
theorem dX1_readOrder_42 : decode cX1_readOrder 42 = .ok (.aload_n 0, 1) := by decide +kernel
theorem dX1_readOrder_43 : decode cX1_readOrder 43 = .ok (.getfield 15, 3) := by decide +kernel
theorem dX1_readOrder_46 : decode cX1_readOrder 46 = .ok (.aload_n 0, 1) := by decide +kernel
theorem dX1_readOrder_47 : decode cX1_readOrder 47 = .ok (.getfield 25, 3) := by decide +kernel
theorem dX1_readOrder_50 : decode cX1_readOrder 50 = .ok (.aload_n 0, 1) := by decide +kernel
theorem dX1_readOrder_51 : decode cX1_readOrder 51 = .ok (.getfield 21, 3) := by decide +kernel
theorem dX1_readOrder_54 : decode cX1_readOrder 54 = .ok (.iastore, 1) := by decide +kernel
theorem dX1_readOrder_55 : decode cX1_readOrder 55 = .ok (.aload_n 0, 1) := by decide +kernel
theorem dX1_readOrder_56 : decode cX1_readOrder 56 = .ok (.dup, 1) := by decide +kernel
theorem dX1_readOrder_57 : decode cX1_readOrder 57 = .ok (.getfield 21, 3) := by decide +kernel
theorem dX1_readOrder_60 : decode cX1_readOrder 60 = .ok (.iconst 1, 1) := by decide +kernel
theorem dX1_readOrder_61 : decode cX1_readOrder 61 = .ok (.iadd, 1) := by decide +kernel
theorem dX1_readOrder_62 : decode cX1_readOrder 62 = .ok (.putfield 21, 3) := by decide +kernel
theorem dX1_readOrder_65 : decode cX1_readOrder 65 = .ok (.aload_n 0, 1) := by decide +kernel
theorem dX1_readOrder_66 : decode cX1_readOrder 66 = .ok (.iconst 0, 1) := by decide +kernel
theorem dX1_readOrder_67 : decode cX1_readOrder 67 = .ok (.putfield 83, 3) := by decide +kernel
theorem dX1_readOrder_70 : decode cX1_readOrder 70 = .ok (.iconst 0, 1) := by decide +kernel
theorem dX1_readOrder_71 : decode cX1_readOrder 71 = .ok (.istore 4, 2) := by decide +kernel
theorem dX1_readOrder_73 : decode cX1_readOrder 73 = .ok (.iload 4, 2) := by decide +kernel
theorem dX1_readOrder_75 : decode cX1_readOrder 75 = .ok (.aload_n 3, 1) := by decide +kernel
theorem dX1_readOrder_76 : decode cX1_readOrder 76 = .ok (.invokevirtual 86, 3) := by decide +kernel
theorem dX1_readOrder_79 : decode cX1_readOrder 79 = .ok (.if_icmp .ge 25, 3) := by decide +kernel
theorem dX1_readOrder_82 : decode cX1_readOrder 82 = .ok (.aload_n 0, 1) := by decide +kernel
theorem dX1_readOrder_83 : decode cX1_readOrder 83 = .ok (.aload_n 1, 1) := by decide +kernel
theorem dX1_readOrder_84 : decode cX1_readOrder 84 = .ok (.aload_n 3, 1) := by decide +kernel
theorem dX1_readOrder_85 : decode cX1_readOrder 85 = .ok (.iload 4, 2) := by decide +kernel
theorem dX1_readOrder_87 : decode cX1_readOrder 87 = .ok (.invokevirtual 89, 3) := by decide +kernel
theorem dX1_readOrder_90 : decode cX1_readOrder 90 = .ok (.invokevirtual 93, 3) := by decide +kernel
theorem dX1_readOrder_93 : decode cX1_readOrder 93 = .ok (.ifCond .ne 5, 3) := by decide +kernel
theorem dX1_readOrder_96 : decode cX1_readOrder 96 = .ok (.iconst 0, 1) := by decide +kernel
theorem dX1_readOrder_97 : decode cX1_readOrder 97 = .ok (.ireturn, 1) := by decide +kernel
theorem dX1_readOrder_98 : decode cX1_readOrder 98 = .ok (.iinc 4 1, 3) := by decide +kernel
theorem dX1_readOrder_101 : decode cX1_readOrder 101 = .ok (.goto (-28), 3) := by decide +kernel
theorem dX1_readOrder_104 : decode cX1_readOrder 104 = .ok (.aload_n 0, 1) := by decide +kernel
theorem dX1_readOrder_105 : decode cX1_readOrder 105 = .ok (.dup, 1) := by decide +kernel
theorem dX1_readOrder_106 : decode cX1_readOrder 106 = .ok (.getfield 25, 3) := by decide +kernel
theorem dX1_readOrder_109 : decode cX1_readOrder 109 = .ok (.iconst 1, 1) := by decide +kernel
theorem dX1_readOrder_110 : decode cX1_readOrder 110 = .ok (.iadd, 1) := by decide +kernel
theorem dX1_readOrder_111 : decode cX1_readOrder 111 = .ok (.putfield 25, 3) := by decide +kernel
theorem dX1_readOrder_114 : decode cX1_readOrder 114 = .ok (.iconst 1, 1) := by decide +kernel
theorem dX1_readOrder_115 : decode cX1_readOrder 115 = .ok (.ireturn, 1) := by decide +kernel
set_option maxRecDepth 20000 in
theorem ggX1_readPart_X1_readDigit : GoodIn wsX1_readPart wsX1_readDigit := goodIn_r _ [5, 6, 7, 8, 9, 10, 11, 12, 13, 14, 15, 16, 4, 17, 18, 19, 20, 32, 33, 34, 35, 36, 37, 38, 39] (by decide +kernel) (by decide +kernel)
set_option maxRecDepth 20000 in
theorem gX1_readPart_X1_readDigit : GoodIn wsX1_readPart (wsV RX1 97 RX1 yX1_readDigit wsX1_readDigit) := goodIn_app (goodIn_of _ (by decide +kernel)) ggX1_readPart_X1_readDigit
set_option maxRecDepth 20000 in
theorem ggX1_readPart_X1_readNumber : GoodIn wsX1_readPart wsX1_readNumber := goodIn_r _ [24, 6, 7, 8, 9, 10, 11, 12, 13, 25, 26, 4, 27, 14, 15, 16, 17, 18, 19, 20, 32, 33, 34, 35, 36, 37, 38, 39] (by decide +kernel) (by decide +kernel)
set_option maxRecDepth 20000 in
theorem gX1_readPart_X1_readNumber : GoodIn wsX1_readPart (wsV RX1 100 RX1 yX1_readNumber wsX1_readNumber) := goodIn_app (goodIn_of _ (by decide +kernel)) ggX1_readPart_X1_readNumber
set_option maxRecDepth 20000 in
theorem ggX1_readPart_X1_readComma : GoodIn wsX1_readPart wsX1_readComma := goodIn_r _ [31, 6, 7, 8, 9, 10, 11, 12, 13, 32, 33, 34, 35, 36, 37, 38, 39] (by decide +kernel) (by decide +kernel)
set_option maxRecDepth 20000 in
theorem gX1_readPart_X1_readComma : GoodIn wsX1_readPart (wsV RX1 103 RX1 yX1_readComma wsX1_readComma) := goodIn_app (goodIn_of _ (by decide +kernel)) ggX1_readPart_X1_readComma
theorem dX1_readPart_0 : decode cX1_readPart 0 = .ok (.iload_n 2, 1) := by decide +kernel
theorem dX1_readPart_1 : decode cX1_readPart 1 = .ok (.lookupswitch 56 #[(35, 50), (97, 42), (112, 35)], 35) := by decide +kernel
theorem dX1_readPart_36 : decode cX1_readPart 36 = .ok (.aload_n 0, 1) := by decide +kernel
theorem dX1_readPart_37 : decode cX1_readPart 37 = .ok (.aload_n 1, 1) := by decide +kernel
theorem dX1_readPart_38 : decode cX1_readPart 38 = .ok (.iconst 3, 1) := by decide +kernel
theorem dX1_readPart_39 : decode cX1_readPart 39 = .ok (.invokevirtual 97, 3) := by decide +kernel
theorem dX1_readPart_42 : decode cX1_readPart 42 = .ok (.ireturn, 1) := by decide +kernel
theorem dX1_readPart_43 : decode cX1_readPart 43 = .ok (.aload_n 0, 1) := by decide +kernel
theorem dX1_readPart_44 : decode cX1_readPart 44 = .ok (.aload_n 1, 1) := by decide +kernel
theorem dX1_readPart_45 : decode cX1_readPart 45 = .ok (.bipush 6, 2) := by decide +kernel
theorem dX1_readPart_47 : decode cX1_readPart 47 = .ok (.invokevirtual 97, 3) := by decide +kernel
theorem dX1_readPart_50 : decode cX1_readPart 50 = .ok (.ireturn, 1) := by decide +kernel
theorem dX1_readPart_51 : decode cX1_readPart 51 = .ok (.aload_n 0, 1) := by decide +kernel
theorem dX1_readPart_52 : decode cX1_readPart 52 = .ok (.aload_n 1, 1) := by decide +kernel
theorem dX1_readPart_53 : decode cX1_readPart 53 = .ok (.invokevirtual 100, 3) := by decide +kernel
theorem dX1_readPart_56 : decode cX1_readPart 56 = .ok (.ireturn, 1) := by decide +kernel
theorem dX1_readPart_57 : decode cX1_readPart 57 = .ok (.aload_n 0, 1) := by decide +kernel
theorem dX1_readPart_58 : decode cX1_readPart 58 = .ok (.aload_n 1, 1) := by decide +kernel
theorem dX1_readPart_59 : decode cX1_readPart 59 = .ok (.invokevirtual 103, 3) := by decide +kernel
theorem dX1_readPart_62 : decode cX1_readPart 62 = .ok (.ireturn, 1) := by decide +kernel
set_option maxRecDepth 20000 in
theorem ggX1_readComma_X3_signAt : GoodIn wsX1_readComma wsX3_signAt := goodIn_r _ [6, 7, 8, 15, 16] (by decide +kernel) (by decide +kernel)
set_option maxRecDepth 20000 in
theorem gX1_readComma_X3_signAt : GoodIn wsX1_readComma (wsV RX1 37 RX3 yX3_signAt wsX3_signAt) := goodIn_app (goodIn_of _ (by decide +kernel)) ggX1_readComma_X3_signAt
theorem dX1_readComma_0 : decode cX1_readComma 0 = .ok (.aload_n 1, 1) := by decide +kernel
theorem dX1_readComma_1 : decode cX1_readComma 1 = .ok (.aload_n 0, 1) := by decide +kernel
theorem dX1_readComma_2 : decode cX1_readComma 2 = .ok (.getfield 21, 3) := by decide +kernel
theorem dX1_readComma_5 : decode cX1_readComma 5 = .ok (.invokevirtual 37, 3) := by decide +kernel
theorem dX1_readComma_8 : decode cX1_readComma 8 = .ok (.bipush 44, 2) := by decide +kernel
theorem dX1_readComma_10 : decode cX1_readComma 10 = .ok (.if_icmp .eq 5, 3) := by decide +kernel
theorem dX1_readComma_13 : decode cX1_readComma 13 = .ok (.iconst 0, 1) := by decide +kernel
theorem dX1_readComma_14 : decode cX1_readComma 14 = .ok (.ireturn, 1) := by decide +kernel
theorem dX1_readComma_15 : decode cX1_readComma 15 = .ok (.aload_n 0, 1) := by decide +kernel
theorem dX1_readComma_16 : decode cX1_readComma 16 = .ok (.dup, 1) := by decide +kernel
theorem dX1_readComma_17 : decode cX1_readComma 17 = .ok (.getfield 21, 3) := by decide +kernel
theorem dX1_readComma_20 : decode cX1_readComma 20 = .ok (.iconst 1, 1) := by decide +kernel
theorem dX1_readComma_21 : decode cX1_readComma 21 = .ok (.iadd, 1) := by decide +kernel
theorem dX1_readComma_22 : decode cX1_readComma 22 = .ok (.putfield 21, 3) := by decide +kernel
theorem dX1_readComma_25 : decode cX1_readComma 25 = .ok (.iconst 1, 1) := by decide +kernel
theorem dX1_readComma_26 : decode cX1_readComma 26 = .ok (.ireturn, 1) := by decide +kernel
set_option maxRecDepth 20000 in
theorem ggX1_readDigit_X3_signAt : GoodIn wsX1_readDigit wsX3_signAt := goodIn_r _ [6, 7, 8, 23, 24] (by decide +kernel) (by decide +kernel)
set_option maxRecDepth 20000 in
theorem gX1_readDigit_X3_signAt : GoodIn wsX1_readDigit (wsV RX1 37 RX3 yX3_signAt wsX3_signAt) := goodIn_app (goodIn_of _ (by decide +kernel)) ggX1_readDigit_X3_signAt
set_option maxRecDepth 20000 in
theorem ggX1_readDigit_X1_tell : GoodIn wsX1_readDigit wsX1_tell := goodIn_r _ [13, 14, 15, 16, 17, 18, 19, 20, 21, 22] (by decide +kernel) (by decide +kernel)
set_option maxRecDepth 20000 in
theorem gX1_readDigit_X1_tell : GoodIn wsX1_readDigit (wsV RX1 106 RX1 yX1_tell wsX1_tell) := goodIn_app (goodIn_of _ (by decide +kernel)) ggX1_readDigit_X1_tell
theorem dX1_readDigit_0 : decode cX1_readDigit 0 = .ok (.aload_n 1, 1) := by decide +kernel
theorem dX1_readDigit_1 : decode cX1_readDigit 1 = .ok (.aload_n 0, 1) := by decide +kernel
theorem dX1_readDigit_2 : decode cX1_readDigit 2 = .ok (.getfield 21, 3) := by decide +kernel
theorem dX1_readDigit_5 : decode cX1_readDigit 5 = .ok (.invokevirtual 37, 3) := by decide +kernel
theorem dX1_readDigit_8 : decode cX1_readDigit 8 = .ok (.bipush 48, 2) := by decide +kernel
theorem dX1_readDigit_10 : decode cX1_readDigit 10 = .ok (.isub, 1) := by decide +kernel
theorem dX1_readDigit_11 : decode cX1_readDigit 11 = .ok (.istore_n 3, 1) := by decide +kernel
theorem dX1_readDigit_12 : decode cX1_readDigit 12 = .ok (.iload_n 3, 1) := by decide +kernel
theorem dX1_readDigit_13 : decode cX1_readDigit 13 = .ok (.ifCond .lt 8, 3) := by decide +kernel
theorem dX1_readDigit_16 : decode cX1_readDigit 16 = .ok (.iload_n 3, 1) := by decide +kernel
theorem dX1_readDigit_17 : decode cX1_readDigit 17 = .ok (.iload_n 2, 1) := by decide +kernel
theorem dX1_readDigit_18 : decode cX1_readDigit 18 = .ok (.if_icmp .lt 5, 3) := by decide +kernel
theorem dX1_readDigit_21 : decode cX1_readDigit 21 = .ok (.iconst 0, 1) := by decide +kernel
theorem dX1_readDigit_22 : decode cX1_readDigit 22 = .ok (.ireturn, 1) := by decide +kernel
theorem dX1_readDigit_23 : decode cX1_readDigit 23 = .ok (.aload_n 0, 1) := by decide +kernel
theorem dX1_readDigit_24 : decode cX1_readDigit 24 = .ok (.dup, 1) := by decide +kernel
theorem dX1_readDigit_25 : decode cX1_readDigit 25 = .ok (.getfield 21, 3) := by decide +kernel
theorem dX1_readDigit_28 : decode cX1_readDigit 28 = .ok (.iconst 1, 1) := by decide +kernel
theorem dX1_readDigit_29 : decode cX1_readDigit 29 = .ok (.iadd, 1) := by decide +kernel
theorem dX1_readDigit_30 : decode cX1_readDigit 30 = .ok (.putfield 21, 3) := by decide +kernel
theorem dX1_readDigit_33 : decode cX1_readDigit 33 = .ok (.aload_n 0, 1) := by decide +kernel
theorem dX1_readDigit_34 : decode cX1_readDigit 34 = .ok (.iload_n 3, 1) := by decide +kernel
theorem dX1_readDigit_35 : decode cX1_readDigit 35 = .ok (.invokevirtual 106, 3) := by decide +kernel
theorem dX1_readDigit_38 : decode cX1_readDigit 38 = .ok (.iconst 1, 1) := by decide +kernel
theorem dX1_readDigit_39 : decode cX1_readDigit 39 = .ok (.ireturn, 1) := by decide +kernel
set_option maxRecDepth 20000 in
theorem ggX1_readNumber_X3_signAt : GoodIn wsX1_readNumber wsX3_signAt := goodIn_r _ [6, 7, 8, 26, 27] (by decide +kernel) (by decide +kernel)
set_option maxRecDepth 20000 in
theorem gX1_readNumber_X3_signAt : GoodIn wsX1_readNumber (wsV RX1 37 RX3 yX3_signAt wsX3_signAt) := goodIn_app (goodIn_of _ (by decide +kernel)) ggX1_readNumber_X3_signAt
set_option maxRecDepth 20000 in
theorem ggX1_readNumber_X1_isDigit : GoodIn wsX1_readNumber wsX1_isDigit := goodIn_r _ [12] (by decide +kernel) (by decide +kernel)
set_option maxRecDepth 20000 in
theorem gX1_readNumber_X1_isDigit : GoodIn wsX1_readNumber (va_wsS RX1 110 yX1_isDigit wsX1_isDigit) := goodIn_app (goodIn_of _ (by decide +kernel)) ggX1_readNumber_X1_isDigit
set_option maxRecDepth 20000 in
theorem ggX1_readNumber_X1_tell : GoodIn wsX1_readNumber wsX1_tell := goodIn_r _ [16, 17, 18, 19, 20, 21, 22, 23, 24, 25] (by decide +kernel) (by decide +kernel)
set_option maxRecDepth 20000 in
theorem gX1_readNumber_X1_tell : GoodIn wsX1_readNumber (wsV RX1 106 RX1 yX1_tell wsX1_tell) := goodIn_app (goodIn_of _ (by decide +kernel)) ggX1_readNumber_X1_tell
theorem dX1_readNumber_0 : decode cX1_readNumber 0 = .ok (.aload_n 1, 1) := by decide +kernel
theorem dX1_readNumber_1 : decode cX1_readNumber 1 = .ok (.aload_n 0, 1) := by decide +kernel
theorem dX1_readNumber_2 : decode cX1_readNumber 2 = .ok (.getfield 21, 3) := by decide +kernel
theorem dX1_readNumber_5 : decode cX1_readNumber 5 = .ok (.invokevirtual 37, 3) := by decide +kernel
theorem dX1_readNumber_8 : decode cX1_readNumber 8 = .ok (.bipush 48, 2) := by decide +kernel
theorem dX1_readNumber_10 : decode cX1_readNumber 10 = .ok (.if_icmp .ne 5, 3) := by decide +kernel
theorem dX1_readNumber_13 : decode cX1_readNumber 13 = .ok (.iconst 0, 1) := by decide +kernel
theorem dX1_readNumber_14 : decode cX1_readNumber 14 = .ok (.ireturn, 1) := by decide +kernel
theorem dX1_readNumber_15 : decode cX1_readNumber 15 = .ok (.iconst 0, 1) := by decide +kernel
theorem dX1_readNumber_16 : decode cX1_readNumber 16 = .ok (.istore_n 2, 1) := by decide +kernel
theorem dX1_readNumber_17 : decode cX1_readNumber 17 = .ok (.iconst 0, 1) := by decide +kernel
theorem dX1_readNumber_18 : decode cX1_readNumber 18 = .ok (.istore_n 3, 1) := by decide +kernel
theorem dX1_readNumber_19 : decode cX1_readNumber 19 = .ok (.iload_n 3, 1) := by decide +kernel
theorem dX1_readNumber_20 : decode cX1_readNumber 20 = .ok (.iconst 3, 1) := by decide +kernel
theorem dX1_readNumber_21 : decode cX1_readNumber 21 = .ok (.if_icmp .ge 50, 3) := by decide +kernel
theorem dX1_readNumber_24 : decode cX1_readNumber 24 = .ok (.aload_n 1, 1) := by decide +kernel
theorem dX1_readNumber_25 : decode cX1_readNumber 25 = .ok (.aload_n 0, 1) := by decide +kernel
theorem dX1_readNumber_26 : decode cX1_readNumber 26 = .ok (.getfield 21, 3) := by decide +kernel
theorem dX1_readNumber_29 : decode cX1_readNumber 29 = .ok (.invokevirtual 37, 3) := by decide +kernel
theorem dX1_readNumber_32 : decode cX1_readNumber 32 = .ok (.invokestatic 110, 3) := by decide +kernel
theorem dX1_readNumber_35 : decode cX1_readNumber 35 = .ok (.ifCond .eq 36, 3) := by decide +kernel
theorem dX1_readNumber_38 : decode cX1_readNumber 38 = .ok (.iload_n 2, 1) := by decide +kernel
theorem dX1_readNumber_39 : decode cX1_readNumber 39 = .ok (.bipush 10, 2) := by decide +kernel
theorem dX1_readNumber_41 : decode cX1_readNumber 41 = .ok (.imul, 1) := by decide +kernel
theorem dX1_readNumber_42 : decode cX1_readNumber 42 = .ok (.aload_n 1, 1) := by decide +kernel
theorem dX1_readNumber_43 : decode cX1_readNumber 43 = .ok (.aload_n 0, 1) := by decide +kernel
theorem dX1_readNumber_44 : decode cX1_readNumber 44 = .ok (.getfield 21, 3) := by decide +kernel
theorem dX1_readNumber_47 : decode cX1_readNumber 47 = .ok (.invokevirtual 37, 3) := by decide +kernel
theorem dX1_readNumber_50 : decode cX1_readNumber 50 = .ok (.bipush 48, 2) := by decide +kernel
theorem dX1_readNumber_52 : decode cX1_readNumber 52 = .ok (.isub, 1) := by decide +kernel
theorem dX1_readNumber_53 : decode cX1_readNumber 53 = .ok (.iadd, 1) := by decide +kernel
theorem dX1_readNumber_54 : decode cX1_readNumber 54 = .ok (.istore_n 2, 1) := by decide +kernel
theorem dX1_readNumber_55 : decode cX1_readNumber 55 = .ok (.aload_n 0, 1) := by decide +kernel
theorem dX1_readNumber_56 : decode cX1_readNumber 56 = .ok (.dup, 1) := by decide +kernel
theorem dX1_readNumber_57 : decode cX1_readNumber 57 = .ok (.getfield 21, 3) := by decide +kernel
theorem dX1_readNumber_60 : decode cX1_readNumber 60 = .ok (.iconst 1, 1) := by decide +kernel
theorem dX1_readNumber_61 : decode cX1_readNumber 61 = .ok (.iadd, 1) := by decide +kernel
theorem dX1_readNumber_62 : decode cX1_readNumber 62 = .ok (.putfield 21, 3) := by decide +kernel
theorem dX1_readNumber_65 : decode cX1_readNumber 65 = .ok (.iinc 3 1, 3) := by decide +kernel
theorem dX1_readNumber_68 : decode cX1_readNumber 68 = .ok (.goto (-49), 3) := by decide +kernel
theorem dX1_readNumber_71 : decode cX1_readNumber 71 = .ok (.iload_n 3, 1) := by decide +kernel
theorem dX1_readNumber_72 : decode cX1_readNumber 72 = .ok (.ifCond .ne 5, 3) := by decide +kernel
theorem dX1_readNumber_75 : decode cX1_readNumber 75 = .ok (.iconst 0, 1) := by decide +kernel
theorem dX1_readNumber_76 : decode cX1_readNumber 76 = .ok (.ireturn, 1) := by decide +kernel
theorem dX1_readNumber_77 : decode cX1_readNumber 77 = .ok (.aload_n 0, 1) := by decide +kernel
theorem dX1_readNumber_78 : decode cX1_readNumber 78 = .ok (.iload_n 2, 1) := by decide +kernel
theorem dX1_readNumber_79 : decode cX1_readNumber 79 = .ok (.invokevirtual 106, 3) := by decide +kernel
theorem dX1_readNumber_82 : decode cX1_readNumber 82 = .ok (.iconst 1, 1) := by decide +kernel
theorem dX1_readNumber_83 : decode cX1_readNumber 83 = .ok (.ireturn, 1) := by decide +kernel
theorem dX1_isDigit_0 : decode cX1_isDigit 0 = .ok (.iload_n 0, 1) := by decide +kernel
theorem dX1_isDigit_1 : decode cX1_isDigit 1 = .ok (.bipush 48, 2) := by decide +kernel
theorem dX1_isDigit_3 : decode cX1_isDigit 3 = .ok (.if_icmp .lt 13, 3) := by decide +kernel
theorem dX1_isDigit_6 : decode cX1_isDigit 6 = .ok (.iload_n 0, 1) := by decide +kernel
theorem dX1_isDigit_7 : decode cX1_isDigit 7 = .ok (.bipush 57, 2) := by decide +kernel
theorem dX1_isDigit_9 : decode cX1_isDigit 9 = .ok (.if_icmp .gt 7, 3) := by decide +kernel
theorem dX1_isDigit_12 : decode cX1_isDigit 12 = .ok (.iconst 1, 1) := by decide +kernel
theorem dX1_isDigit_13 : decode cX1_isDigit 13 = .ok (.goto 4, 3) := by decide +kernel
theorem dX1_isDigit_16 : decode cX1_isDigit 16 = .ok (.iconst 0, 1) := by decide +kernel
theorem dX1_isDigit_17 : decode cX1_isDigit 17 = .ok (.ireturn, 1) := by decide +kernel
theorem dX1_tell_0 : decode cX1_tell 0 = .ok (.aload_n 0, 1) := by decide +kernel
theorem dX1_tell_1 : decode cX1_tell 1 = .ok (.getfield 83, 3) := by decide +kernel
theorem dX1_tell_4 : decode cX1_tell 4 = .ok (.iconst 3, 1) := by decide +kernel
theorem dX1_tell_5 : decode cX1_tell 5 = .ok (.if_icmp .ge 39, 3) := by decide +kernel
theorem dX1_tell_8 : decode cX1_tell 8 = .ok (.aload_n 0, 1) := by decide +kernel
theorem dX1_tell_9 : decode cX1_tell 9 = .ok (.getfield 25, 3) := by decide +kernel
theorem dX1_tell_12 : decode cX1_tell 12 = .ok (.bipush 20, 2) := by decide +kernel
theorem dX1_tell_14 : decode cX1_tell 14 = .ok (.if_icmp .ge 30, 3) := by decide +kernel
theorem dX1_tell_17 : decode cX1_tell 17 = .ok (.aload_n 0, 1) := by decide +kernel
theorem dX1_tell_18 : decode cX1_tell 18 = .ok (.getfield 18, 3) := by decide +kernel
theorem dX1_tell_21 : decode cX1_tell 21 = .ok (.aload_n 0, 1) := by decide +kernel
theorem dX1_tell_22 : decode cX1_tell 22 = .ok (.getfield 25, 3) := by decide +kernel
theorem dX1_tell_25 : decode cX1_tell 25 = .ok (.iconst 3, 1) := by decide +kernel
theorem dX1_tell_26 : decode cX1_tell 26 = .ok (.imul, 1) := by decide +kernel
theorem dX1_tell_27 : decode cX1_tell 27 = .ok (.aload_n 0, 1) := by decide +kernel
theorem dX1_tell_28 : decode cX1_tell 28 = .ok (.getfield 83, 3) := by decide +kernel
theorem dX1_tell_31 : decode cX1_tell 31 = .ok (.iadd, 1) := by decide +kernel
theorem dX1_tell_32 : decode cX1_tell 32 = .ok (.iload_n 1, 1) := by decide +kernel
theorem dX1_tell_33 : decode cX1_tell 33 = .ok (.iastore, 1) := by decide +kernel
theorem dX1_tell_34 : decode cX1_tell 34 = .ok (.aload_n 0, 1) := by decide +kernel
theorem dX1_tell_35 : decode cX1_tell 35 = .ok (.dup, 1) := by decide +kernel
theorem dX1_tell_36 : decode cX1_tell 36 = .ok (.getfield 83, 3) := by decide +kernel
theorem dX1_tell_39 : decode cX1_tell 39 = .ok (.iconst 1, 1) := by decide +kernel
theorem dX1_tell_40 : decode cX1_tell 40 = .ok (.iadd, 1) := by decide +kernel
theorem dX1_tell_41 : decode cX1_tell 41 = .ok (.putfield 83, 3) := by decide +kernel
theorem dX1_tell_44 : decode cX1_tell 44 = .ok (.return_, 1) := by decide +kernel
theorem dX2_init_0 : decode cX2_init 0 = .ok (.aload_n 0, 1) := by decide +kernel
theorem dX2_init_1 : decode cX2_init 1 = .ok (.invokespecial 3, 3) := by decide +kernel
theorem dX2_init_4 : decode cX2_init 4 = .ok (.aload_n 0, 1) := by decide +kernel
theorem dX2_init_5 : decode cX2_init 5 = .ok (.bipush 63, 2) := by decide +kernel
theorem dX2_init_7 : decode cX2_init 7 = .ok (.putfield 9, 3) := by decide +kernel
theorem dX2_init_10 : decode cX2_init 10 = .ok (.aload_n 0, 1) := by decide +kernel
theorem dX2_init_11 : decode cX2_init 11 = .ok (.iconst 2, 1) := by decide +kernel
theorem dX2_init_12 : decode cX2_init 12 = .ok (.putfield 15, 3) := by decide +kernel
theorem dX2_init_15 : decode cX2_init 15 = .ok (.aload_n 0, 1) := by decide +kernel
theorem dX2_init_16 : decode cX2_init 16 = .ok (.bipush 6, 2) := by decide +kernel
theorem dX2_init_18 : decode cX2_init 18 = .ok (.newarray .int, 2) := by decide +kernel
theorem dX2_init_20 : decode cX2_init 20 = .ok (.putfield 18, 3) := by decide +kernel
theorem dX2_init_23 : decode cX2_init 23 = .ok (.aload_n 0, 1) := by decide +kernel
theorem dX2_init_24 : decode cX2_init 24 = .ok (.bipush 96, 2) := by decide +kernel
theorem dX2_init_26 : decode cX2_init 26 = .ok (.newarray .int, 2) := by decide +kernel
theorem dX2_init_28 : decode cX2_init 28 = .ok (.putfield 22, 3) := by decide +kernel
theorem dX2_init_31 : decode cX2_init 31 = .ok (.aload_n 0, 1) := by decide +kernel
theorem dX2_init_32 : decode cX2_init 32 = .ok (.bipush 96, 2) := by decide +kernel
theorem dX2_init_34 : decode cX2_init 34 = .ok (.newarray .int, 2) := by decide +kernel
theorem dX2_init_36 : decode cX2_init 36 = .ok (.putfield 25, 3) := by decide +kernel
theorem dX2_init_39 : decode cX2_init 39 = .ok (.aload_n 0, 1) := by decide +kernel
theorem dX2_init_40 : decode cX2_init 40 = .ok (.iconst 3, 1) := by decide +kernel
theorem dX2_init_41 : decode cX2_init 41 = .ok (.newarray .int, 2) := by decide +kernel
theorem dX2_init_43 : decode cX2_init 43 = .ok (.putfield 28, 3) := by decide +kernel
theorem dX2_init_46 : decode cX2_init 46 = .ok (.aload_n 0, 1) := by decide +kernel
theorem dX2_init_47 : decode cX2_init 47 = .ok (.iconst 3, 1) := by decide +kernel
theorem dX2_init_48 : decode cX2_init 48 = .ok (.newarray .int, 2) := by decide +kernel
theorem dX2_init_50 : decode cX2_init 50 = .ok (.putfield 31, 3) := by decide +kernel
theorem dX2_init_53 : decode cX2_init 53 = .ok (.aload_n 0, 1) := by decide +kernel
theorem dX2_init_54 : decode cX2_init 54 = .ok (.iconst 3, 1) := by decide +kernel
theorem dX2_init_55 : decode cX2_init 55 = .ok (.newarray .int, 2) := by decide +kernel
theorem dX2_init_57 : decode cX2_init 57 = .ok (.putfield 34, 3) := by decide +kernel
theorem dX2_init_60 : decode cX2_init 60 = .ok (.aload_n 0, 1) := by decide +kernel
theorem dX2_init_61 : decode cX2_init 61 = .ok (.bipush 48, 2) := by decide +kernel
theorem dX2_init_63 : decode cX2_init 63 = .ok (.newarray .int, 2) := by decide +kernel
theorem dX2_init_65 : decode cX2_init 65 = .ok (.putfield 37, 3) := by decide +kernel
theorem dX2_init_68 : decode cX2_init 68 = .ok (.aload_n 0, 1) := by decide +kernel
theorem dX2_init_69 : decode cX2_init 69 = .ok (.sipush 288, 3) := by decide +kernel
theorem dX2_init_72 : decode cX2_init 72 = .ok (.newarray .int, 2) := by decide +kernel
theorem dX2_init_74 : decode cX2_init 74 = .ok (.putfield 40, 3) := by decide +kernel
theorem dX2_init_77 : decode cX2_init 77 = .ok (.aload_n 0, 1) := by decide +kernel
theorem dX2_init_78 : decode cX2_init 78 = .ok (.sipush 288, 3) := by decide +kernel
theorem dX2_init_81 : decode cX2_init 81 = .ok (.newarray .int, 2) := by decide +kernel
theorem dX2_init_83 : decode cX2_init 83 = .ok (.putfield 43, 3) := by decide +kernel
theorem dX2_init_86 : decode cX2_init 86 = .ok (.aload_n 0, 1) := by decide +kernel
theorem dX2_init_87 : decode cX2_init 87 = .ok (.bipush 17, 2) := by decide +kernel
theorem dX2_init_89 : decode cX2_init 89 = .ok (.newarray .int, 2) := by decide +kernel
theorem dX2_init_91 : decode cX2_init 91 = .ok (.putfield 46, 3) := by decide +kernel
theorem dX2_init_94 : decode cX2_init 94 = .ok (.aload_n 0, 1) := by decide +kernel
theorem dX2_init_95 : decode cX2_init 95 = .ok (.bipush 17, 2) := by decide +kernel
theorem dX2_init_97 : decode cX2_init 97 = .ok (.newarray .int, 2) := by decide +kernel
theorem dX2_init_99 : decode cX2_init 99 = .ok (.putfield 49, 3) := by decide +kernel
theorem dX2_init_102 : decode cX2_init 102 = .ok (.return_, 1) := by decide +kernel
set_option maxRecDepth 20000 in
theorem ggX2_copy_X2_copyAll : GoodIn wsX2_copy wsX2_copyAll := goodIn_r _ [20, 21, 22, 23, 24, 25, 26, 27, 28] (by decide +kernel) (by decide +kernel)
set_option maxRecDepth 20000 in
theorem gX2_copy_X2_copyAll : GoodIn wsX2_copy (va_wsS RX2 61 yX2_copyAll wsX2_copyAll) := goodIn_app (goodIn_of _ (by decide +kernel)) ggX2_copy_X2_copyAll
theorem dX2_copy_0 : decode cX2_copy 0 = .ok (.aload_n 0, 1) := by decide +kernel
theorem dX2_copy_1 : decode cX2_copy 1 = .ok (.aload_n 1, 1) := by decide +kernel
theorem dX2_copy_2 : decode cX2_copy 2 = .ok (.getfield 9, 3) := by decide +kernel
theorem dX2_copy_5 : decode cX2_copy 5 = .ok (.putfield 9, 3) := by decide +kernel
theorem dX2_copy_8 : decode cX2_copy 8 = .ok (.aload_n 0, 1) := by decide +kernel
theorem dX2_copy_9 : decode cX2_copy 9 = .ok (.aload_n 1, 1) := by decide +kernel
theorem dX2_copy_10 : decode cX2_copy 10 = .ok (.getfield 15, 3) := by decide +kernel
theorem dX2_copy_13 : decode cX2_copy 13 = .ok (.putfield 15, 3) := by decide +kernel
theorem dX2_copy_16 : decode cX2_copy 16 = .ok (.aload_n 0, 1) := by decide +kernel
theorem dX2_copy_17 : decode cX2_copy 17 = .ok (.aload_n 1, 1) := by decide +kernel
theorem dX2_copy_18 : decode cX2_copy 18 = .ok (.getfield 52, 3) := by decide +kernel
theorem dX2_copy_21 : decode cX2_copy 21 = .ok (.putfield 52, 3) := by decide +kernel
theorem dX2_copy_24 : decode cX2_copy 24 = .ok (.aload_n 0, 1) := by decide +kernel
theorem dX2_copy_25 : decode cX2_copy 25 = .ok (.aload_n 1, 1) := by decide +kernel
theorem dX2_copy_26 : decode cX2_copy 26 = .ok (.getfield 55, 3) := by decide +kernel
theorem dX2_copy_29 : decode cX2_copy 29 = .ok (.putfield 55, 3) := by decide +kernel
theorem dX2_copy_32 : decode cX2_copy 32 = .ok (.aload_n 0, 1) := by decide +kernel
theorem dX2_copy_33 : decode cX2_copy 33 = .ok (.aload_n 1, 1) := by decide +kernel
theorem dX2_copy_34 : decode cX2_copy 34 = .ok (.getfield 58, 3) := by decide +kernel
theorem dX2_copy_37 : decode cX2_copy 37 = .ok (.putfield 58, 3) := by decide +kernel
theorem dX2_copy_40 : decode cX2_copy 40 = .ok (.aload_n 1, 1) := by decide +kernel
theorem dX2_copy_41 : decode cX2_copy 41 = .ok (.getfield 18, 3) := by decide +kernel
theorem dX2_copy_44 : decode cX2_copy 44 = .ok (.aload_n 0, 1) := by decide +kernel
theorem dX2_copy_45 : decode cX2_copy 45 = .ok (.getfield 18, 3) := by decide +kernel
theorem dX2_copy_48 : decode cX2_copy 48 = .ok (.invokestatic 61, 3) := by decide +kernel
theorem dX2_copy_51 : decode cX2_copy 51 = .ok (.aload_n 1, 1) := by decide +kernel
theorem dX2_copy_52 : decode cX2_copy 52 = .ok (.getfield 22, 3) := by decide +kernel
theorem dX2_copy_55 : decode cX2_copy 55 = .ok (.aload_n 0, 1) := by decide +kernel
theorem dX2_copy_56 : decode cX2_copy 56 = .ok (.getfield 22, 3) := by decide +kernel
theorem dX2_copy_59 : decode cX2_copy 59 = .ok (.invokestatic 61, 3) := by decide +kernel
theorem dX2_copy_62 : decode cX2_copy 62 = .ok (.aload_n 1, 1) := by decide +kernel
theorem dX2_copy_63 : decode cX2_copy 63 = .ok (.getfield 25, 3) := by decide +kernel
theorem dX2_copy_66 : decode cX2_copy 66 = .ok (.aload_n 0, 1) := by decide +kernel
theorem dX2_copy_67 : decode cX2_copy 67 = .ok (.getfield 25, 3) := by decide +kernel
theorem dX2_copy_70 : decode cX2_copy 70 = .ok (.invokestatic 61, 3) := by decide +kernel
theorem dX2_copy_73 : decode cX2_copy 73 = .ok (.aload_n 1, 1) := by decide +kernel
theorem dX2_copy_74 : decode cX2_copy 74 = .ok (.getfield 28, 3) := by decide +kernel
theorem dX2_copy_77 : decode cX2_copy 77 = .ok (.aload_n 0, 1) := by decide +kernel
theorem dX2_copy_78 : decode cX2_copy 78 = .ok (.getfield 28, 3) := by decide +kernel
theorem dX2_copy_81 : decode cX2_copy 81 = .ok (.invokestatic 61, 3) := by decide +kernel
theorem dX2_copy_84 : decode cX2_copy 84 = .ok (.aload_n 1, 1) := by decide +kernel
theorem dX2_copy_85 : decode cX2_copy 85 = .ok (.getfield 31, 3) := by decide +kernel
theorem dX2_copy_88 : decode cX2_copy 88 = .ok (.aload_n 0, 1) := by decide +kernel
theorem dX2_copy_89 : decode cX2_copy 89 = .ok (.getfield 31, 3) := by decide +kernel
theorem dX2_copy_92 : decode cX2_copy 92 = .ok (.invokestatic 61, 3) := by decide +kernel
theorem dX2_copy_95 : decode cX2_copy 95 = .ok (.aload_n 1, 1) := by decide +kernel
theorem dX2_copy_96 : decode cX2_copy 96 = .ok (.getfield 34, 3) := by decide +kernel
theorem dX2_copy_99 : decode cX2_copy 99 = .ok (.aload_n 0, 1) := by decide +kernel
theorem dX2_copy_100 : decode cX2_copy 100 = .ok (.getfield 34, 3) := by decide +kernel
theorem dX2_copy_103 : decode cX2_copy 103 = .ok (.invokestatic 61, 3) := by decide +kernel
theorem dX2_copy_106 : decode cX2_copy 106 = .ok (.aload_n 1, 1) := by decide +kernel
theorem dX2_copy_107 : decode cX2_copy 107 = .ok (.getfield 37, 3) := by decide +kernel
theorem dX2_copy_110 : decode cX2_copy 110 = .ok (.aload_n 0, 1) := by decide +kernel
theorem dX2_copy_111 : decode cX2_copy 111 = .ok (.getfield 37, 3) := by decide +kernel
theorem dX2_copy_114 : decode cX2_copy 114 = .ok (.invokestatic 61, 3) := by decide +kernel
theorem dX2_copy_117 : decode cX2_copy 117 = .ok (.aload_n 1, 1) := by decide +kernel
theorem dX2_copy_118 : decode cX2_copy 118 = .ok (.getfield 40, 3) := by decide +kernel
theorem dX2_copy_121 : decode cX2_copy 121 = .ok (.aload_n 0, 1) := by decide +kernel
theorem dX2_copy_122 : decode cX2_copy 122 = .ok (.getfield 40, 3) := by decide +kernel
theorem dX2_copy_125 : decode cX2_copy 125 = .ok (.invokestatic 61, 3) := by decide +kernel
theorem dX2_copy_128 : decode cX2_copy 128 = .ok (.aload_n 1, 1) := by decide +kernel
theorem dX2_copy_129 : decode cX2_copy 129 = .ok (.getfield 43, 3) := by decide +kernel
theorem dX2_copy_132 : decode cX2_copy 132 = .ok (.aload_n 0, 1) := by decide +kernel
theorem dX2_copy_133 : decode cX2_copy 133 = .ok (.getfield 43, 3) := by decide +kernel
theorem dX2_copy_136 : decode cX2_copy 136 = .ok (.invokestatic 61, 3) := by decide +kernel
theorem dX2_copy_139 : decode cX2_copy 139 = .ok (.aload_n 1, 1) := by decide +kernel
theorem dX2_copy_140 : decode cX2_copy 140 = .ok (.getfield 46, 3) := by decide +kernel
theorem dX2_copy_143 : decode cX2_copy 143 = .ok (.aload_n 0, 1) := by decide +kernel
theorem dX2_copy_144 : decode cX2_copy 144 = .ok (.getfield 46, 3) := by decide +kernel
theorem dX2_copy_147 : decode cX2_copy 147 = .ok (.invokestatic 61, 3) := by decide +kernel
theorem dX2_copy_150 : decode cX2_copy 150 = .ok (.aload_n 1, 1) := by decide +kernel
theorem dX2_copy_151 : decode cX2_copy 151 = .ok (.getfield 49, 3) := by decide +kernel
theorem dX2_copy_154 : decode cX2_copy 154 = .ok (.aload_n 0, 1) := by decide +kernel
theorem dX2_copy_155 : decode cX2_copy 155 = .ok (.getfield 49, 3) := by decide +kernel
theorem dX2_copy_158 : decode cX2_copy 158 = .ok (.invokestatic 61, 3) := by decide +kernel
theorem dX2_copy_161 : decode cX2_copy 161 = .ok (.return_, 1) := by decide +kernel
theorem dX2_copyAll_0 : decode cX2_copyAll 0 = .ok (.aload_n 0, 1) := by decide +kernel
theorem dX2_copyAll_1 : decode cX2_copyAll 1 = .ok (.iconst 0, 1) := by decide +kernel
theorem dX2_copyAll_2 : decode cX2_copyAll 2 = .ok (.aload_n 1, 1) := by decide +kernel
theorem dX2_copyAll_3 : decode cX2_copyAll 3 = .ok (.iconst 0, 1) := by decide +kernel
theorem dX2_copyAll_4 : decode cX2_copyAll 4 = .ok (.aload_n 0, 1) := by decide +kernel
theorem dX2_copyAll_5 : decode cX2_copyAll 5 = .ok (.arraylength, 1) := by decide +kernel
theorem dX2_copyAll_6 : decode cX2_copyAll 6 = .ok (.aload_n 1, 1) := by decide +kernel
theorem dX2_copyAll_7 : decode cX2_copyAll 7 = .ok (.arraylength, 1) := by decide +kernel
theorem dX2_copyAll_8 : decode cX2_copyAll 8 = .ok (.invokestatic 65, 3) := by decide +kernel
theorem dX2_copyAll_11 : decode cX2_copyAll 11 = .ok (.invokestatic 71, 3) := by decide +kernel
theorem dX2_copyAll_14 : decode cX2_copyAll 14 = .ok (.return_, 1) := by decide +kernel
set_option maxRecDepth 20000 in
theorem ggX2_turn_X4_isAcceptor : GoodIn wsX2_turn wsX4_isAcceptor := goodIn_r _ [4] (by decide +kernel) (by decide +kernel)
set_option maxRecDepth 20000 in
theorem gX2_turn_X4_isAcceptor_n77 : GoodIn wsX2_turn (wsX4_isAcceptor) := ggX2_turn_X4_isAcceptor
set_option maxRecDepth 20000 in
theorem ggX2_turn_X4_has : GoodIn wsX2_turn wsX4_has := goodIn_r _ [6] (by decide +kernel) (by decide +kernel)
set_option maxRecDepth 20000 in
theorem gX2_turn_X4_has_n81 : GoodIn wsX2_turn (wsX4_has) := ggX2_turn_X4_has
set_option maxRecDepth 20000 in
theorem ggX2_turn_J6_bitCount_0f7a4 : GoodIn wsX2_turn wsJ6_bitCount_0f7a4 := goodIn_r _ [10, 11, 12, 13] (by decide +kernel) (by decide +kernel)
set_option maxRecDepth 20000 in
theorem gX2_turn_J6_bitCount_0f7a4 : GoodIn wsX2_turn (va_wsS RX2 85 yJ6_bitCount_0f7a4 wsJ6_bitCount_0f7a4) := goodIn_app (goodIn_of _ (by decide +kernel)) ggX2_turn_J6_bitCount_0f7a4
theorem dX2_turn_0 : decode cX2_turn 0 = .ok (.iload_n 1, 1) := by decide +kernel
theorem dX2_turn_1 : decode cX2_turn 1 = .ok (.invokestatic 77, 3) := by decide +kernel
theorem dX2_turn_4 : decode cX2_turn 4 = .ok (.ifCond .ne 5, 3) := by decide +kernel
theorem dX2_turn_7 : decode cX2_turn 7 = .ok (.iconst (-1), 1) := by decide +kernel
theorem dX2_turn_8 : decode cX2_turn 8 = .ok (.ireturn, 1) := by decide +kernel
theorem dX2_turn_9 : decode cX2_turn 9 = .ok (.aload_n 0, 1) := by decide +kernel
theorem dX2_turn_10 : decode cX2_turn 10 = .ok (.getfield 9, 3) := by decide +kernel
theorem dX2_turn_13 : decode cX2_turn 13 = .ok (.iload_n 1, 1) := by decide +kernel
theorem dX2_turn_14 : decode cX2_turn 14 = .ok (.invokestatic 81, 3) := by decide +kernel
theorem dX2_turn_17 : decode cX2_turn 17 = .ok (.iload_n 2, 1) := by decide +kernel
theorem dX2_turn_18 : decode cX2_turn 18 = .ok (.if_icmp .ne 6, 3) := by decide +kernel
theorem dX2_turn_21 : decode cX2_turn 21 = .ok (.bipush (-5), 2) := by decide +kernel
theorem dX2_turn_23 : decode cX2_turn 23 = .ok (.ireturn, 1) := by decide +kernel
theorem dX2_turn_24 : decode cX2_turn 24 = .ok (.aload_n 0, 1) := by decide +kernel
theorem dX2_turn_25 : decode cX2_turn 25 = .ok (.dup, 1) := by decide +kernel
theorem dX2_turn_26 : decode cX2_turn 26 = .ok (.getfield 9, 3) := by decide +kernel
theorem dX2_turn_29 : decode cX2_turn 29 = .ok (.iconst 1, 1) := by decide +kernel
theorem dX2_turn_30 : decode cX2_turn 30 = .ok (.iload_n 1, 1) := by decide +kernel
theorem dX2_turn_31 : decode cX2_turn 31 = .ok (.ishl, 1) := by decide +kernel
theorem dX2_turn_32 : decode cX2_turn 32 = .ok (.ixor, 1) := by decide +kernel
theorem dX2_turn_33 : decode cX2_turn 33 = .ok (.putfield 9, 3) := by decide +kernel
theorem dX2_turn_36 : decode cX2_turn 36 = .ok (.aload_n 0, 1) := by decide +kernel
theorem dX2_turn_37 : decode cX2_turn 37 = .ok (.getfield 9, 3) := by decide +kernel
theorem dX2_turn_40 : decode cX2_turn 40 = .ok (.invokestatic 85, 3) := by decide +kernel
theorem dX2_turn_43 : decode cX2_turn 43 = .ok (.ireturn, 1) := by decide +kernel
set_option maxRecDepth 20000 in
theorem ggX2_resizeSecond_X4_isSize : GoodIn wsX2_resizeSecond wsX4_isSize := goodIn_r _ [4] (by decide +kernel) (by decide +kernel)
set_option maxRecDepth 20000 in
theorem gX2_resizeSecond_X4_isSize_n91 : GoodIn wsX2_resizeSecond (wsX4_isSize) := ggX2_resizeSecond_X4_isSize
set_option maxRecDepth 20000 in
theorem ggX2_resizeSecond_X2_anyBallot : GoodIn wsX2_resizeSecond wsX2_anyBallot := goodIn_r _ [9, 10, 11, 12, 13, 14, 15, 16, 17, 18, 19, 20, 21, 22, 23, 24, 25, 26] (by decide +kernel) (by decide +kernel)
set_option maxRecDepth 20000 in
theorem gX2_resizeSecond_X2_anyBallot : GoodIn wsX2_resizeSecond (wsV RX2 94 RX2 yX2_anyBallot wsX2_anyBallot) := goodIn_app (goodIn_of _ (by decide +kernel)) ggX2_resizeSecond_X2_anyBallot
theorem dX2_resizeSecond_0 : decode cX2_resizeSecond 0 = .ok (.iload_n 1, 1) := by decide +kernel
theorem dX2_resizeSecond_1 : decode cX2_resizeSecond 1 = .ok (.invokestatic 91, 3) := by decide +kernel
theorem dX2_resizeSecond_4 : decode cX2_resizeSecond 4 = .ok (.ifCond .ne 6, 3) := by decide +kernel
theorem dX2_resizeSecond_7 : decode cX2_resizeSecond 7 = .ok (.bipush (-2), 2) := by decide +kernel
theorem dX2_resizeSecond_9 : decode cX2_resizeSecond 9 = .ok (.ireturn, 1) := by decide +kernel
theorem dX2_resizeSecond_10 : decode cX2_resizeSecond 10 = .ok (.aload_n 0, 1) := by decide +kernel
theorem dX2_resizeSecond_11 : decode cX2_resizeSecond 11 = .ok (.invokevirtual 94, 3) := by decide +kernel
theorem dX2_resizeSecond_14 : decode cX2_resizeSecond 14 = .ok (.ifCond .eq 6, 3) := by decide +kernel
theorem dX2_resizeSecond_17 : decode cX2_resizeSecond 17 = .ok (.bipush (-4), 2) := by decide +kernel
theorem dX2_resizeSecond_19 : decode cX2_resizeSecond 19 = .ok (.ireturn, 1) := by decide +kernel
theorem dX2_resizeSecond_20 : decode cX2_resizeSecond 20 = .ok (.aload_n 0, 1) := by decide +kernel
theorem dX2_resizeSecond_21 : decode cX2_resizeSecond 21 = .ok (.getfield 15, 3) := by decide +kernel
theorem dX2_resizeSecond_24 : decode cX2_resizeSecond 24 = .ok (.iload_n 1, 1) := by decide +kernel
theorem dX2_resizeSecond_25 : decode cX2_resizeSecond 25 = .ok (.if_icmp .ne 6, 3) := by decide +kernel
theorem dX2_resizeSecond_28 : decode cX2_resizeSecond 28 = .ok (.bipush (-5), 2) := by decide +kernel
theorem dX2_resizeSecond_30 : decode cX2_resizeSecond 30 = .ok (.ireturn, 1) := by decide +kernel
theorem dX2_resizeSecond_31 : decode cX2_resizeSecond 31 = .ok (.aload_n 0, 1) := by decide +kernel
theorem dX2_resizeSecond_32 : decode cX2_resizeSecond 32 = .ok (.getfield 15, 3) := by decide +kernel
theorem dX2_resizeSecond_35 : decode cX2_resizeSecond 35 = .ok (.istore_n 2, 1) := by decide +kernel
theorem dX2_resizeSecond_36 : decode cX2_resizeSecond 36 = .ok (.aload_n 0, 1) := by decide +kernel
theorem dX2_resizeSecond_37 : decode cX2_resizeSecond 37 = .ok (.iload_n 1, 1) := by decide +kernel
theorem dX2_resizeSecond_38 : decode cX2_resizeSecond 38 = .ok (.putfield 15, 3) := by decide +kernel
theorem dX2_resizeSecond_41 : decode cX2_resizeSecond 41 = .ok (.iload_n 2, 1) := by decide +kernel
theorem dX2_resizeSecond_42 : decode cX2_resizeSecond 42 = .ok (.ireturn, 1) := by decide +kernel
set_option maxRecDepth 20000 in
theorem ggX2_startBallot_X4_isProposer : GoodIn wsX2_startBallot wsX4_isProposer := goodIn_r _ [6] (by decide +kernel) (by decide +kernel)
set_option maxRecDepth 20000 in
theorem gX2_startBallot_X4_isProposer_n98 : GoodIn wsX2_startBallot (wsX4_isProposer) := ggX2_startBallot_X4_isProposer
set_option maxRecDepth 20000 in
theorem ggX2_startBallot_X2_nextBallot : GoodIn wsX2_startBallot wsX2_nextBallot := goodIn_r _ [11, 1, 12, 13, 14, 15, 16, 19, 20, 21, 22, 23, 24, 25, 26, 27, 28, 29, 30, 31, 32, 33, 34] (by decide +kernel) (by decide +kernel)
set_option maxRecDepth 20000 in
theorem gX2_startBallot_X2_nextBallot : GoodIn wsX2_startBallot (wsV RX2 101 RX2 yX2_nextBallot wsX2_nextBallot) := goodIn_app (goodIn_of _ (by decide +kernel)) ggX2_startBallot_X2_nextBallot
set_option maxRecDepth 20000 in
theorem ggX2_startBallot_X4_cell : GoodIn wsX2_startBallot wsX4_cell := goodIn_r _ [18] (by decide +kernel) (by decide +kernel)
set_option maxRecDepth 20000 in
theorem gX2_startBallot_X4_cell_n104 : GoodIn wsX2_startBallot (wsX4_cell) := ggX2_startBallot_X4_cell
theorem dX2_startBallot_0 : decode cX2_startBallot 0 = .ok (.iload_n 1, 1) := by decide +kernel
theorem dX2_startBallot_1 : decode cX2_startBallot 1 = .ok (.invokestatic 98, 3) := by decide +kernel
theorem dX2_startBallot_4 : decode cX2_startBallot 4 = .ok (.ifCond .ne 5, 3) := by decide +kernel
theorem dX2_startBallot_7 : decode cX2_startBallot 7 = .ok (.iconst (-1), 1) := by decide +kernel
theorem dX2_startBallot_8 : decode cX2_startBallot 8 = .ok (.ireturn, 1) := by decide +kernel
theorem dX2_startBallot_9 : decode cX2_startBallot 9 = .ok (.aload_n 0, 1) := by decide +kernel
theorem dX2_startBallot_10 : decode cX2_startBallot 10 = .ok (.iload_n 1, 1) := by decide +kernel
theorem dX2_startBallot_11 : decode cX2_startBallot 11 = .ok (.invokevirtual 101, 3) := by decide +kernel
theorem dX2_startBallot_14 : decode cX2_startBallot 14 = .ok (.istore_n 2, 1) := by decide +kernel
theorem dX2_startBallot_15 : decode cX2_startBallot 15 = .ok (.iload_n 2, 1) := by decide +kernel
theorem dX2_startBallot_16 : decode cX2_startBallot 16 = .ok (.sipush 999, 3) := by decide +kernel
theorem dX2_startBallot_19 : decode cX2_startBallot 19 = .ok (.if_icmp .le 6, 3) := by decide +kernel
theorem dX2_startBallot_22 : decode cX2_startBallot 22 = .ok (.bipush (-3), 2) := by decide +kernel
theorem dX2_startBallot_24 : decode cX2_startBallot 24 = .ok (.ireturn, 1) := by decide +kernel
theorem dX2_startBallot_25 : decode cX2_startBallot 25 = .ok (.aload_n 0, 1) := by decide +kernel
theorem dX2_startBallot_26 : decode cX2_startBallot 26 = .ok (.getfield 28, 3) := by decide +kernel
theorem dX2_startBallot_29 : decode cX2_startBallot 29 = .ok (.iload_n 1, 1) := by decide +kernel
theorem dX2_startBallot_30 : decode cX2_startBallot 30 = .ok (.iload_n 2, 1) := by decide +kernel
theorem dX2_startBallot_31 : decode cX2_startBallot 31 = .ok (.iastore, 1) := by decide +kernel
theorem dX2_startBallot_32 : decode cX2_startBallot 32 = .ok (.aload_n 0, 1) := by decide +kernel
theorem dX2_startBallot_33 : decode cX2_startBallot 33 = .ok (.getfield 34, 3) := by decide +kernel
theorem dX2_startBallot_36 : decode cX2_startBallot 36 = .ok (.iload_n 1, 1) := by decide +kernel
theorem dX2_startBallot_37 : decode cX2_startBallot 37 = .ok (.iconst 0, 1) := by decide +kernel
theorem dX2_startBallot_38 : decode cX2_startBallot 38 = .ok (.iastore, 1) := by decide +kernel
theorem dX2_startBallot_39 : decode cX2_startBallot 39 = .ok (.iconst 1, 1) := by decide +kernel
theorem dX2_startBallot_40 : decode cX2_startBallot 40 = .ok (.istore_n 3, 1) := by decide +kernel
theorem dX2_startBallot_41 : decode cX2_startBallot 41 = .ok (.iload_n 3, 1) := by decide +kernel
theorem dX2_startBallot_42 : decode cX2_startBallot 42 = .ok (.bipush 16, 2) := by decide +kernel
theorem dX2_startBallot_44 : decode cX2_startBallot 44 = .ok (.if_icmp .gt 20, 3) := by decide +kernel
theorem dX2_startBallot_47 : decode cX2_startBallot 47 = .ok (.aload_n 0, 1) := by decide +kernel
theorem dX2_startBallot_48 : decode cX2_startBallot 48 = .ok (.getfield 37, 3) := by decide +kernel
theorem dX2_startBallot_51 : decode cX2_startBallot 51 = .ok (.iload_n 1, 1) := by decide +kernel
theorem dX2_startBallot_52 : decode cX2_startBallot 52 = .ok (.iload_n 3, 1) := by decide +kernel
theorem dX2_startBallot_53 : decode cX2_startBallot 53 = .ok (.invokestatic 104, 3) := by decide +kernel
theorem dX2_startBallot_56 : decode cX2_startBallot 56 = .ok (.iconst 0, 1) := by decide +kernel
theorem dX2_startBallot_57 : decode cX2_startBallot 57 = .ok (.iastore, 1) := by decide +kernel
theorem dX2_startBallot_58 : decode cX2_startBallot 58 = .ok (.iinc 3 1, 3) := by decide +kernel
theorem dX2_startBallot_61 : decode cX2_startBallot 61 = .ok (.goto (-20), 3) := by decide +kernel
theorem dX2_startBallot_64 : decode cX2_startBallot 64 = .ok (.iload_n 2, 1) := by decide +kernel
theorem dX2_startBallot_65 : decode cX2_startBallot 65 = .ok (.ireturn, 1) := by decide +kernel
set_option maxRecDepth 20000 in
theorem ggX2_askPromise_X4_isProposer : GoodIn wsX2_askPromise wsX4_isProposer := goodIn_r _ [8] (by decide +kernel) (by decide +kernel)
set_option maxRecDepth 20000 in
theorem gX2_askPromise_X4_isProposer_n98 : GoodIn wsX2_askPromise (wsX4_isProposer) := ggX2_askPromise_X4_isProposer
set_option maxRecDepth 20000 in
theorem ggX2_askPromise_X4_isAcceptor : GoodIn wsX2_askPromise wsX4_isAcceptor := goodIn_r _ [10] (by decide +kernel) (by decide +kernel)
set_option maxRecDepth 20000 in
theorem gX2_askPromise_X4_isAcceptor_n77 : GoodIn wsX2_askPromise (wsX4_isAcceptor) := ggX2_askPromise_X4_isAcceptor
set_option maxRecDepth 20000 in
theorem ggX2_askPromise_X4_has : GoodIn wsX2_askPromise wsX4_has := goodIn_r _ [12] (by decide +kernel) (by decide +kernel)
set_option maxRecDepth 20000 in
theorem gX2_askPromise_X4_has_n81 : GoodIn wsX2_askPromise (wsX4_has) := ggX2_askPromise_X4_has
set_option maxRecDepth 20000 in
theorem ggX2_askPromise_X2_refuse : GoodIn wsX2_askPromise wsX2_refuse := goodIn_r _ [17, 18, 4, 19, 20, 21, 22, 37, 38, 39, 40, 41, 42, 43, 44, 45, 46, 47, 48, 49, 50, 51, 52] (by decide +kernel) (by decide +kernel)
set_option maxRecDepth 20000 in
theorem gX2_askPromise_X2_refuse : GoodIn wsX2_askPromise (wsV RX2 107 RX2 yX2_refuse wsX2_refuse) := goodIn_app (goodIn_of _ (by decide +kernel)) ggX2_askPromise_X2_refuse
set_option maxRecDepth 20000 in
theorem ggX2_askPromise_X2_tellVotes : GoodIn wsX2_askPromise wsX2_tellVotes := goodIn_r _ [26, 27, 28, 29, 30, 31, 7, 32, 37, 38, 39, 40, 41, 42, 43, 44, 45, 46, 47, 48, 49, 50, 51, 52] (by decide +kernel) (by decide +kernel)
set_option maxRecDepth 20000 in
theorem gX2_askPromise_X2_tellVotes : GoodIn wsX2_askPromise (wsV RX2 110 RX2 yX2_tellVotes wsX2_tellVotes) := goodIn_app (goodIn_of _ (by decide +kernel)) ggX2_askPromise_X2_tellVotes
set_option maxRecDepth 20000 in
theorem ggX2_askPromise_X2_votesOf : GoodIn wsX2_askPromise wsX2_votesOf := goodIn_r _ [36, 28, 31, 7, 32, 37, 38, 39, 40, 41, 42, 43, 44, 45, 46, 47, 48, 49, 50, 51, 52] (by decide +kernel) (by decide +kernel)
set_option maxRecDepth 20000 in
theorem gX2_askPromise_X2_votesOf : GoodIn wsX2_askPromise (wsV RX2 114 RX2 yX2_votesOf wsX2_votesOf) := goodIn_app (goodIn_of _ (by decide +kernel)) ggX2_askPromise_X2_votesOf
theorem dX2_askPromise_0 : decode cX2_askPromise 0 = .ok (.iload_n 1, 1) := by decide +kernel
theorem dX2_askPromise_1 : decode cX2_askPromise 1 = .ok (.invokestatic 98, 3) := by decide +kernel
theorem dX2_askPromise_4 : decode cX2_askPromise 4 = .ok (.ifCond .eq 10, 3) := by decide +kernel
theorem dX2_askPromise_7 : decode cX2_askPromise 7 = .ok (.iload_n 2, 1) := by decide +kernel
theorem dX2_askPromise_8 : decode cX2_askPromise 8 = .ok (.invokestatic 77, 3) := by decide +kernel
theorem dX2_askPromise_11 : decode cX2_askPromise 11 = .ok (.ifCond .ne 5, 3) := by decide +kernel
theorem dX2_askPromise_14 : decode cX2_askPromise 14 = .ok (.iconst (-1), 1) := by decide +kernel
theorem dX2_askPromise_15 : decode cX2_askPromise 15 = .ok (.ireturn, 1) := by decide +kernel
theorem dX2_askPromise_16 : decode cX2_askPromise 16 = .ok (.aload_n 0, 1) := by decide +kernel
theorem dX2_askPromise_17 : decode cX2_askPromise 17 = .ok (.getfield 28, 3) := by decide +kernel
theorem dX2_askPromise_20 : decode cX2_askPromise 20 = .ok (.iload_n 1, 1) := by decide +kernel
theorem dX2_askPromise_21 : decode cX2_askPromise 21 = .ok (.iaload, 1) := by decide +kernel
theorem dX2_askPromise_22 : decode cX2_askPromise 22 = .ok (.ifCond .eq 14, 3) := by decide +kernel
theorem dX2_askPromise_25 : decode cX2_askPromise 25 = .ok (.aload_n 0, 1) := by decide +kernel
theorem dX2_askPromise_26 : decode cX2_askPromise 26 = .ok (.getfield 9, 3) := by decide +kernel
theorem dX2_askPromise_29 : decode cX2_askPromise 29 = .ok (.iload_n 2, 1) := by decide +kernel
theorem dX2_askPromise_30 : decode cX2_askPromise 30 = .ok (.invokestatic 81, 3) := by decide +kernel
theorem dX2_askPromise_33 : decode cX2_askPromise 33 = .ok (.ifCond .ne 6, 3) := by decide +kernel
theorem dX2_askPromise_36 : decode cX2_askPromise 36 = .ok (.bipush (-4), 2) := by decide +kernel
theorem dX2_askPromise_38 : decode cX2_askPromise 38 = .ok (.ireturn, 1) := by decide +kernel
theorem dX2_askPromise_39 : decode cX2_askPromise 39 = .ok (.aload_n 0, 1) := by decide +kernel
theorem dX2_askPromise_40 : decode cX2_askPromise 40 = .ok (.getfield 34, 3) := by decide +kernel
theorem dX2_askPromise_43 : decode cX2_askPromise 43 = .ok (.iload_n 1, 1) := by decide +kernel
theorem dX2_askPromise_44 : decode cX2_askPromise 44 = .ok (.iaload, 1) := by decide +kernel
theorem dX2_askPromise_45 : decode cX2_askPromise 45 = .ok (.iload_n 2, 1) := by decide +kernel
theorem dX2_askPromise_46 : decode cX2_askPromise 46 = .ok (.invokestatic 81, 3) := by decide +kernel
theorem dX2_askPromise_49 : decode cX2_askPromise 49 = .ok (.ifCond .eq 6, 3) := by decide +kernel
theorem dX2_askPromise_52 : decode cX2_askPromise 52 = .ok (.bipush (-5), 2) := by decide +kernel
theorem dX2_askPromise_54 : decode cX2_askPromise 54 = .ok (.ireturn, 1) := by decide +kernel
theorem dX2_askPromise_55 : decode cX2_askPromise 55 = .ok (.aload_n 0, 1) := by decide +kernel
theorem dX2_askPromise_56 : decode cX2_askPromise 56 = .ok (.getfield 28, 3) := by decide +kernel
theorem dX2_askPromise_59 : decode cX2_askPromise 59 = .ok (.iload_n 1, 1) := by decide +kernel
theorem dX2_askPromise_60 : decode cX2_askPromise 60 = .ok (.iaload, 1) := by decide +kernel
theorem dX2_askPromise_61 : decode cX2_askPromise 61 = .ok (.aload_n 0, 1) := by decide +kernel
theorem dX2_askPromise_62 : decode cX2_askPromise 62 = .ok (.getfield 18, 3) := by decide +kernel
theorem dX2_askPromise_65 : decode cX2_askPromise 65 = .ok (.iload_n 2, 1) := by decide +kernel
theorem dX2_askPromise_66 : decode cX2_askPromise 66 = .ok (.iaload, 1) := by decide +kernel
theorem dX2_askPromise_67 : decode cX2_askPromise 67 = .ok (.if_icmp .gt 20, 3) := by decide +kernel
theorem dX2_askPromise_70 : decode cX2_askPromise 70 = .ok (.aload_n 0, 1) := by decide +kernel
theorem dX2_askPromise_71 : decode cX2_askPromise 71 = .ok (.dup, 1) := by decide +kernel
theorem dX2_askPromise_72 : decode cX2_askPromise 72 = .ok (.getfield 55, 3) := by decide +kernel
theorem dX2_askPromise_75 : decode cX2_askPromise 75 = .ok (.iconst 1, 1) := by decide +kernel
theorem dX2_askPromise_76 : decode cX2_askPromise 76 = .ok (.iadd, 1) := by decide +kernel
theorem dX2_askPromise_77 : decode cX2_askPromise 77 = .ok (.putfield 55, 3) := by decide +kernel
theorem dX2_askPromise_80 : decode cX2_askPromise 80 = .ok (.aload_n 0, 1) := by decide +kernel
theorem dX2_askPromise_81 : decode cX2_askPromise 81 = .ok (.iload_n 1, 1) := by decide +kernel
theorem dX2_askPromise_82 : decode cX2_askPromise 82 = .ok (.iload_n 2, 1) := by decide +kernel
theorem dX2_askPromise_83 : decode cX2_askPromise 83 = .ok (.invokevirtual 107, 3) := by decide +kernel
theorem dX2_askPromise_86 : decode cX2_askPromise 86 = .ok (.ireturn, 1) := by decide +kernel
theorem dX2_askPromise_87 : decode cX2_askPromise 87 = .ok (.aload_n 0, 1) := by decide +kernel
theorem dX2_askPromise_88 : decode cX2_askPromise 88 = .ok (.getfield 18, 3) := by decide +kernel
theorem dX2_askPromise_91 : decode cX2_askPromise 91 = .ok (.iload_n 2, 1) := by decide +kernel
theorem dX2_askPromise_92 : decode cX2_askPromise 92 = .ok (.aload_n 0, 1) := by decide +kernel
theorem dX2_askPromise_93 : decode cX2_askPromise 93 = .ok (.getfield 28, 3) := by decide +kernel
theorem dX2_askPromise_96 : decode cX2_askPromise 96 = .ok (.iload_n 1, 1) := by decide +kernel
theorem dX2_askPromise_97 : decode cX2_askPromise 97 = .ok (.iaload, 1) := by decide +kernel
theorem dX2_askPromise_98 : decode cX2_askPromise 98 = .ok (.iastore, 1) := by decide +kernel
theorem dX2_askPromise_99 : decode cX2_askPromise 99 = .ok (.aload_n 0, 1) := by decide +kernel
theorem dX2_askPromise_100 : decode cX2_askPromise 100 = .ok (.getfield 34, 3) := by decide +kernel
theorem dX2_askPromise_103 : decode cX2_askPromise 103 = .ok (.iload_n 1, 1) := by decide +kernel
theorem dX2_askPromise_104 : decode cX2_askPromise 104 = .ok (.dup2, 1) := by decide +kernel
theorem dX2_askPromise_105 : decode cX2_askPromise 105 = .ok (.iaload, 1) := by decide +kernel
theorem dX2_askPromise_106 : decode cX2_askPromise 106 = .ok (.iconst 1, 1) := by decide +kernel
theorem dX2_askPromise_107 : decode cX2_askPromise 107 = .ok (.iload_n 2, 1) := by decide +kernel
theorem dX2_askPromise_108 : decode cX2_askPromise 108 = .ok (.ishl, 1) := by decide +kernel
theorem dX2_askPromise_109 : decode cX2_askPromise 109 = .ok (.ior, 1) := by decide +kernel
theorem dX2_askPromise_110 : decode cX2_askPromise 110 = .ok (.iastore, 1) := by decide +kernel
theorem dX2_askPromise_111 : decode cX2_askPromise 111 = .ok (.aload_n 0, 1) := by decide +kernel
theorem dX2_askPromise_112 : decode cX2_askPromise 112 = .ok (.iload_n 1, 1) := by decide +kernel
theorem dX2_askPromise_113 : decode cX2_askPromise 113 = .ok (.iload_n 2, 1) := by decide +kernel
theorem dX2_askPromise_114 : decode cX2_askPromise 114 = .ok (.invokevirtual 110, 3) := by decide +kernel
theorem dX2_askPromise_117 : decode cX2_askPromise 117 = .ok (.aload_n 0, 1) := by decide +kernel
theorem dX2_askPromise_118 : decode cX2_askPromise 118 = .ok (.iload_n 2, 1) := by decide +kernel
theorem dX2_askPromise_119 : decode cX2_askPromise 119 = .ok (.bipush 16, 2) := by decide +kernel
theorem dX2_askPromise_121 : decode cX2_askPromise 121 = .ok (.invokevirtual 114, 3) := by decide +kernel
theorem dX2_askPromise_124 : decode cX2_askPromise 124 = .ok (.ireturn, 1) := by decide +kernel
set_option maxRecDepth 20000 in
theorem ggX2_offerValue_X4_isProposer : GoodIn wsX2_offerValue wsX4_isProposer := goodIn_r _ [4] (by decide +kernel) (by decide +kernel)
set_option maxRecDepth 20000 in
theorem gX2_offerValue_X4_isProposer_n98 : GoodIn wsX2_offerValue (wsX4_isProposer) := ggX2_offerValue_X4_isProposer
set_option maxRecDepth 20000 in
theorem ggX2_offerValue_X4_isSlot : GoodIn wsX2_offerValue wsX4_isSlot := goodIn_r _ [6] (by decide +kernel) (by decide +kernel)
set_option maxRecDepth 20000 in
theorem gX2_offerValue_X4_isSlot_n117 : GoodIn wsX2_offerValue (wsX4_isSlot) := ggX2_offerValue_X4_isSlot
set_option maxRecDepth 20000 in
theorem ggX2_offerValue_X4_isValue : GoodIn wsX2_offerValue wsX4_isValue := goodIn_r _ [8] (by decide +kernel) (by decide +kernel)
set_option maxRecDepth 20000 in
theorem gX2_offerValue_X4_isValue_n120 : GoodIn wsX2_offerValue (wsX4_isValue) := ggX2_offerValue_X4_isValue
set_option maxRecDepth 20000 in
theorem ggX2_offerValue_X2_mayOffer : GoodIn wsX2_offerValue wsX2_mayOffer := goodIn_r _ [13, 14, 15, 1, 16, 17, 18, 12, 19, 20, 21, 22, 23, 24, 25, 26, 27, 28, 29, 30, 31, 32, 33, 34, 35, 36, 37, 38, 39, 40, 41, 42, 43, 44, 45, 46, 47, 48, 49, 50, 51, 52, 53, 54, 55, 56, 57, 3, 58, 67, 68, 69, 70, 71, 72, 73, 74, 75, 76, 77, 78, 79, 80, 81, 82] (by decide +kernel) (by decide +kernel)
set_option maxRecDepth 20000 in
theorem gX2_offerValue_X2_mayOffer : GoodIn wsX2_offerValue (wsV RX2 123 RX2 yX2_mayOffer wsX2_mayOffer) := goodIn_app (goodIn_of _ (by decide +kernel)) ggX2_offerValue_X2_mayOffer
set_option maxRecDepth 20000 in
theorem ggX2_offerValue_X2_boundValue : GoodIn wsX2_offerValue wsX2_boundValue := goodIn_r _ [62, 29, 63, 64, 34, 35, 36, 12, 37, 24, 57, 3, 58, 65, 66, 67, 68, 69, 70, 71, 72, 73, 74, 75, 76, 77, 78, 79, 80, 81, 82] (by decide +kernel) (by decide +kernel)
set_option maxRecDepth 20000 in
theorem gX2_offerValue_X2_boundValue : GoodIn wsX2_offerValue (wsV RX2 126 RX2 yX2_boundValue wsX2_boundValue) := goodIn_app (goodIn_of _ (by decide +kernel)) ggX2_offerValue_X2_boundValue
set_option maxRecDepth 20000 in
theorem ggX2_offerValue_X4_cell : GoodIn wsX2_offerValue wsX4_cell := goodIn_r _ [58] (by decide +kernel) (by decide +kernel)
set_option maxRecDepth 20000 in
theorem gX2_offerValue_X4_cell_n104 : GoodIn wsX2_offerValue (wsX4_cell) := ggX2_offerValue_X4_cell
theorem dX2_offerValue_0 : decode cX2_offerValue 0 = .ok (.iload_n 1, 1) := by decide +kernel
theorem dX2_offerValue_1 : decode cX2_offerValue 1 = .ok (.invokestatic 98, 3) := by decide +kernel
theorem dX2_offerValue_4 : decode cX2_offerValue 4 = .ok (.ifCond .eq 10, 3) := by decide +kernel
theorem dX2_offerValue_7 : decode cX2_offerValue 7 = .ok (.iload_n 2, 1) := by decide +kernel
theorem dX2_offerValue_8 : decode cX2_offerValue 8 = .ok (.invokestatic 117, 3) := by decide +kernel
theorem dX2_offerValue_11 : decode cX2_offerValue 11 = .ok (.ifCond .ne 5, 3) := by decide +kernel
theorem dX2_offerValue_14 : decode cX2_offerValue 14 = .ok (.iconst (-1), 1) := by decide +kernel
theorem dX2_offerValue_15 : decode cX2_offerValue 15 = .ok (.ireturn, 1) := by decide +kernel
theorem dX2_offerValue_16 : decode cX2_offerValue 16 = .ok (.iload_n 3, 1) := by decide +kernel
theorem dX2_offerValue_17 : decode cX2_offerValue 17 = .ok (.invokestatic 120, 3) := by decide +kernel
theorem dX2_offerValue_20 : decode cX2_offerValue 20 = .ok (.ifCond .ne 6, 3) := by decide +kernel
theorem dX2_offerValue_23 : decode cX2_offerValue 23 = .ok (.bipush (-2), 2) := by decide +kernel
theorem dX2_offerValue_25 : decode cX2_offerValue 25 = .ok (.ireturn, 1) := by decide +kernel
theorem dX2_offerValue_26 : decode cX2_offerValue 26 = .ok (.aload_n 0, 1) := by decide +kernel
theorem dX2_offerValue_27 : decode cX2_offerValue 27 = .ok (.iload_n 1, 1) := by decide +kernel
theorem dX2_offerValue_28 : decode cX2_offerValue 28 = .ok (.iload_n 2, 1) := by decide +kernel
theorem dX2_offerValue_29 : decode cX2_offerValue 29 = .ok (.invokevirtual 123, 3) := by decide +kernel
theorem dX2_offerValue_32 : decode cX2_offerValue 32 = .ok (.ifCond .ne 6, 3) := by decide +kernel
theorem dX2_offerValue_35 : decode cX2_offerValue 35 = .ok (.bipush (-4), 2) := by decide +kernel
theorem dX2_offerValue_37 : decode cX2_offerValue 37 = .ok (.ireturn, 1) := by decide +kernel
theorem dX2_offerValue_38 : decode cX2_offerValue 38 = .ok (.aload_n 0, 1) := by decide +kernel
theorem dX2_offerValue_39 : decode cX2_offerValue 39 = .ok (.iload_n 1, 1) := by decide +kernel
theorem dX2_offerValue_40 : decode cX2_offerValue 40 = .ok (.iload_n 2, 1) := by decide +kernel
theorem dX2_offerValue_41 : decode cX2_offerValue 41 = .ok (.invokevirtual 126, 3) := by decide +kernel
theorem dX2_offerValue_44 : decode cX2_offerValue 44 = .ok (.istore 4, 2) := by decide +kernel
theorem dX2_offerValue_46 : decode cX2_offerValue 46 = .ok (.iload 4, 2) := by decide +kernel
theorem dX2_offerValue_48 : decode cX2_offerValue 48 = .ok (.ifCond .ne 7, 3) := by decide +kernel
theorem dX2_offerValue_51 : decode cX2_offerValue 51 = .ok (.iload_n 3, 1) := by decide +kernel
theorem dX2_offerValue_52 : decode cX2_offerValue 52 = .ok (.goto 5, 3) := by decide +kernel
theorem dX2_offerValue_55 : decode cX2_offerValue 55 = .ok (.iload 4, 2) := by decide +kernel
theorem dX2_offerValue_57 : decode cX2_offerValue 57 = .ok (.istore 5, 2) := by decide +kernel
theorem dX2_offerValue_59 : decode cX2_offerValue 59 = .ok (.aload_n 0, 1) := by decide +kernel
theorem dX2_offerValue_60 : decode cX2_offerValue 60 = .ok (.getfield 37, 3) := by decide +kernel
theorem dX2_offerValue_63 : decode cX2_offerValue 63 = .ok (.iload_n 1, 1) := by decide +kernel
theorem dX2_offerValue_64 : decode cX2_offerValue 64 = .ok (.iload_n 2, 1) := by decide +kernel
theorem dX2_offerValue_65 : decode cX2_offerValue 65 = .ok (.invokestatic 104, 3) := by decide +kernel
theorem dX2_offerValue_68 : decode cX2_offerValue 68 = .ok (.iload 5, 2) := by decide +kernel
theorem dX2_offerValue_70 : decode cX2_offerValue 70 = .ok (.iastore, 1) := by decide +kernel
theorem dX2_offerValue_71 : decode cX2_offerValue 71 = .ok (.iload 5, 2) := by decide +kernel
theorem dX2_offerValue_73 : decode cX2_offerValue 73 = .ok (.ireturn, 1) := by decide +kernel
set_option maxRecDepth 20000 in
theorem ggX2_askVote_X4_isProposer : GoodIn wsX2_askVote wsX4_isProposer := goodIn_r _ [11] (by decide +kernel) (by decide +kernel)
set_option maxRecDepth 20000 in
theorem gX2_askVote_X4_isProposer_n98 : GoodIn wsX2_askVote (wsX4_isProposer) := ggX2_askVote_X4_isProposer
set_option maxRecDepth 20000 in
theorem ggX2_askVote_X4_isSlot : GoodIn wsX2_askVote wsX4_isSlot := goodIn_r _ [13] (by decide +kernel) (by decide +kernel)
set_option maxRecDepth 20000 in
theorem gX2_askVote_X4_isSlot_n117 : GoodIn wsX2_askVote (wsX4_isSlot) := ggX2_askVote_X4_isSlot
set_option maxRecDepth 20000 in
theorem ggX2_askVote_X4_isAcceptor : GoodIn wsX2_askVote wsX4_isAcceptor := goodIn_r _ [15] (by decide +kernel) (by decide +kernel)
set_option maxRecDepth 20000 in
theorem gX2_askVote_X4_isAcceptor_n77 : GoodIn wsX2_askVote (wsX4_isAcceptor) := ggX2_askVote_X4_isAcceptor
set_option maxRecDepth 20000 in
theorem ggX2_askVote_X2_mayAskVote : GoodIn wsX2_askVote wsX2_mayAskVote := goodIn_r _ [20, 6, 21, 22, 23, 10, 24, 25, 26, 27, 28, 29, 19, 30, 7, 59, 60, 61, 62, 63, 64, 65, 66, 67, 68, 69, 70, 71, 72, 73, 74] (by decide +kernel) (by decide +kernel)
set_option maxRecDepth 20000 in
theorem gX2_askVote_X2_mayAskVote : GoodIn wsX2_askVote (wsV RX2 129 RX2 yX2_mayAskVote wsX2_mayAskVote) := goodIn_app (goodIn_of _ (by decide +kernel)) ggX2_askVote_X2_mayAskVote
set_option maxRecDepth 20000 in
theorem ggX2_askVote_X4_cell : GoodIn wsX2_askVote wsX4_cell := goodIn_r _ [24] (by decide +kernel) (by decide +kernel)
set_option maxRecDepth 20000 in
theorem gX2_askVote_X4_cell_n104 : GoodIn wsX2_askVote (wsX4_cell) := ggX2_askVote_X4_cell
set_option maxRecDepth 20000 in
theorem ggX2_askVote_X2_refuse : GoodIn wsX2_askVote wsX2_refuse := goodIn_r _ [34, 35, 3, 36, 37, 38, 39, 59, 60, 61, 62, 63, 64, 65, 66, 67, 68, 69, 70, 71, 72, 73, 74] (by decide +kernel) (by decide +kernel)
set_option maxRecDepth 20000 in
theorem gX2_askVote_X2_refuse : GoodIn wsX2_askVote (wsV RX2 107 RX2 yX2_refuse wsX2_refuse) := goodIn_app (goodIn_of _ (by decide +kernel)) ggX2_askVote_X2_refuse
set_option maxRecDepth 20000 in
theorem ggX2_askVote_X2_votersFor : GoodIn wsX2_askVote wsX2_votersFor := goodIn_r _ [43, 1, 27, 28, 29, 19, 30, 7, 25, 10, 26, 23, 24, 59, 60, 61, 62, 63, 64, 65, 66, 67, 68, 69, 70, 71, 72, 73, 74] (by decide +kernel) (by decide +kernel)
set_option maxRecDepth 20000 in
theorem gX2_askVote_X2_votersFor : GoodIn wsX2_askVote (wsV RX2 133 RX2 yX2_votersFor wsX2_votersFor) := goodIn_app (goodIn_of _ (by decide +kernel)) ggX2_askVote_X2_votersFor
set_option maxRecDepth 20000 in
theorem ggX2_askVote_J6_bitCount_0f7a4 : GoodIn wsX2_askVote wsJ6_bitCount_0f7a4 := goodIn_r _ [47, 48, 49, 50] (by decide +kernel) (by decide +kernel)
set_option maxRecDepth 20000 in
theorem gX2_askVote_J6_bitCount_0f7a4 : GoodIn wsX2_askVote (va_wsS RX2 85 yJ6_bitCount_0f7a4 wsJ6_bitCount_0f7a4) := goodIn_app (goodIn_of _ (by decide +kernel)) ggX2_askVote_J6_bitCount_0f7a4
set_option maxRecDepth 20000 in
theorem ggX2_askVote_X2_votersOf : GoodIn wsX2_askVote wsX2_votersOf := goodIn_r _ [30, 7, 59, 60, 61, 62, 63, 64, 65, 66, 67, 68, 69, 70, 71, 72, 73, 74] (by decide +kernel) (by decide +kernel)
set_option maxRecDepth 20000 in
theorem gX2_askVote_X2_votersOf : GoodIn wsX2_askVote (wsV RX2 136 RX2 yX2_votersOf wsX2_votersOf) := goodIn_app (goodIn_of _ (by decide +kernel)) ggX2_askVote_X2_votersOf
set_option maxRecDepth 20000 in
theorem ggX2_askVote_X2_secondSize : GoodIn wsX2_askVote wsX2_secondSize := goodIn_r _ [54, 55, 56, 57, 38, 58, 44, 45, 46, 47, 48, 49, 50, 59, 60, 61, 62, 63, 64, 65, 66, 67, 68, 69, 70, 71, 72, 73, 74] (by decide +kernel) (by decide +kernel)
set_option maxRecDepth 20000 in
theorem gX2_askVote_X2_secondSize : GoodIn wsX2_askVote (wsV RX2 139 RX2 yX2_secondSize wsX2_secondSize) := goodIn_app (goodIn_of _ (by decide +kernel)) ggX2_askVote_X2_secondSize
theorem dX2_askVote_0 : decode cX2_askVote 0 = .ok (.iload_n 1, 1) := by decide +kernel
theorem dX2_askVote_1 : decode cX2_askVote 1 = .ok (.invokestatic 98, 3) := by decide +kernel
theorem dX2_askVote_4 : decode cX2_askVote 4 = .ok (.ifCond .eq 17, 3) := by decide +kernel
theorem dX2_askVote_7 : decode cX2_askVote 7 = .ok (.iload_n 2, 1) := by decide +kernel
theorem dX2_askVote_8 : decode cX2_askVote 8 = .ok (.invokestatic 117, 3) := by decide +kernel
theorem dX2_askVote_11 : decode cX2_askVote 11 = .ok (.ifCond .eq 10, 3) := by decide +kernel
theorem dX2_askVote_14 : decode cX2_askVote 14 = .ok (.iload_n 3, 1) := by decide +kernel
theorem dX2_askVote_15 : decode cX2_askVote 15 = .ok (.invokestatic 77, 3) := by decide +kernel
theorem dX2_askVote_18 : decode cX2_askVote 18 = .ok (.ifCond .ne 5, 3) := by decide +kernel
theorem dX2_askVote_21 : decode cX2_askVote 21 = .ok (.iconst (-1), 1) := by decide +kernel
theorem dX2_askVote_22 : decode cX2_askVote 22 = .ok (.ireturn, 1) := by decide +kernel
theorem dX2_askVote_23 : decode cX2_askVote 23 = .ok (.aload_n 0, 1) := by decide +kernel
theorem dX2_askVote_24 : decode cX2_askVote 24 = .ok (.iload_n 1, 1) := by decide +kernel
theorem dX2_askVote_25 : decode cX2_askVote 25 = .ok (.iload_n 2, 1) := by decide +kernel
theorem dX2_askVote_26 : decode cX2_askVote 26 = .ok (.iload_n 3, 1) := by decide +kernel
theorem dX2_askVote_27 : decode cX2_askVote 27 = .ok (.invokevirtual 129, 3) := by decide +kernel
theorem dX2_askVote_30 : decode cX2_askVote 30 = .ok (.ifCond .ne 6, 3) := by decide +kernel
theorem dX2_askVote_33 : decode cX2_askVote 33 = .ok (.bipush (-4), 2) := by decide +kernel
theorem dX2_askVote_35 : decode cX2_askVote 35 = .ok (.ireturn, 1) := by decide +kernel
theorem dX2_askVote_36 : decode cX2_askVote 36 = .ok (.iload_n 3, 1) := by decide +kernel
theorem dX2_askVote_37 : decode cX2_askVote 37 = .ok (.iload_n 2, 1) := by decide +kernel
theorem dX2_askVote_38 : decode cX2_askVote 38 = .ok (.invokestatic 104, 3) := by decide +kernel
theorem dX2_askVote_41 : decode cX2_askVote 41 = .ok (.istore 4, 2) := by decide +kernel
theorem dX2_askVote_43 : decode cX2_askVote 43 = .ok (.aload_n 0, 1) := by decide +kernel
theorem dX2_askVote_44 : decode cX2_askVote 44 = .ok (.getfield 22, 3) := by decide +kernel
theorem dX2_askVote_47 : decode cX2_askVote 47 = .ok (.iload 4, 2) := by decide +kernel
theorem dX2_askVote_49 : decode cX2_askVote 49 = .ok (.iaload, 1) := by decide +kernel
theorem dX2_askVote_50 : decode cX2_askVote 50 = .ok (.aload_n 0, 1) := by decide +kernel
theorem dX2_askVote_51 : decode cX2_askVote 51 = .ok (.getfield 28, 3) := by decide +kernel
theorem dX2_askVote_54 : decode cX2_askVote 54 = .ok (.iload_n 1, 1) := by decide +kernel
theorem dX2_askVote_55 : decode cX2_askVote 55 = .ok (.iaload, 1) := by decide +kernel
theorem dX2_askVote_56 : decode cX2_askVote 56 = .ok (.if_icmp .ne 6, 3) := by decide +kernel
theorem dX2_askVote_59 : decode cX2_askVote 59 = .ok (.bipush (-5), 2) := by decide +kernel
theorem dX2_askVote_61 : decode cX2_askVote 61 = .ok (.ireturn, 1) := by decide +kernel
theorem dX2_askVote_62 : decode cX2_askVote 62 = .ok (.aload_n 0, 1) := by decide +kernel
theorem dX2_askVote_63 : decode cX2_askVote 63 = .ok (.getfield 28, 3) := by decide +kernel
theorem dX2_askVote_66 : decode cX2_askVote 66 = .ok (.iload_n 1, 1) := by decide +kernel
theorem dX2_askVote_67 : decode cX2_askVote 67 = .ok (.iaload, 1) := by decide +kernel
theorem dX2_askVote_68 : decode cX2_askVote 68 = .ok (.aload_n 0, 1) := by decide +kernel
theorem dX2_askVote_69 : decode cX2_askVote 69 = .ok (.getfield 18, 3) := by decide +kernel
theorem dX2_askVote_72 : decode cX2_askVote 72 = .ok (.iload_n 3, 1) := by decide +kernel
theorem dX2_askVote_73 : decode cX2_askVote 73 = .ok (.iaload, 1) := by decide +kernel
theorem dX2_askVote_74 : decode cX2_askVote 74 = .ok (.if_icmp .ge 20, 3) := by decide +kernel
theorem dX2_askVote_77 : decode cX2_askVote 77 = .ok (.aload_n 0, 1) := by decide +kernel
theorem dX2_askVote_78 : decode cX2_askVote 78 = .ok (.dup, 1) := by decide +kernel
theorem dX2_askVote_79 : decode cX2_askVote 79 = .ok (.getfield 58, 3) := by decide +kernel
theorem dX2_askVote_82 : decode cX2_askVote 82 = .ok (.iconst 1, 1) := by decide +kernel
theorem dX2_askVote_83 : decode cX2_askVote 83 = .ok (.iadd, 1) := by decide +kernel
theorem dX2_askVote_84 : decode cX2_askVote 84 = .ok (.putfield 58, 3) := by decide +kernel
theorem dX2_askVote_87 : decode cX2_askVote 87 = .ok (.aload_n 0, 1) := by decide +kernel
theorem dX2_askVote_88 : decode cX2_askVote 88 = .ok (.iload_n 1, 1) := by decide +kernel
theorem dX2_askVote_89 : decode cX2_askVote 89 = .ok (.iload_n 3, 1) := by decide +kernel
theorem dX2_askVote_90 : decode cX2_askVote 90 = .ok (.invokevirtual 107, 3) := by decide +kernel
theorem dX2_askVote_93 : decode cX2_askVote 93 = .ok (.ireturn, 1) := by decide +kernel
theorem dX2_askVote_94 : decode cX2_askVote 94 = .ok (.aload_n 0, 1) := by decide +kernel
theorem dX2_askVote_95 : decode cX2_askVote 95 = .ok (.getfield 18, 3) := by decide +kernel
theorem dX2_askVote_98 : decode cX2_askVote 98 = .ok (.iload_n 3, 1) := by decide +kernel
theorem dX2_askVote_99 : decode cX2_askVote 99 = .ok (.aload_n 0, 1) := by decide +kernel
theorem dX2_askVote_100 : decode cX2_askVote 100 = .ok (.getfield 28, 3) := by decide +kernel
theorem dX2_askVote_103 : decode cX2_askVote 103 = .ok (.iload_n 1, 1) := by decide +kernel
theorem dX2_askVote_104 : decode cX2_askVote 104 = .ok (.iaload, 1) := by decide +kernel
theorem dX2_askVote_105 : decode cX2_askVote 105 = .ok (.iastore, 1) := by decide +kernel
theorem dX2_askVote_106 : decode cX2_askVote 106 = .ok (.aload_n 0, 1) := by decide +kernel
theorem dX2_askVote_107 : decode cX2_askVote 107 = .ok (.getfield 22, 3) := by decide +kernel
theorem dX2_askVote_110 : decode cX2_askVote 110 = .ok (.iload 4, 2) := by decide +kernel
theorem dX2_askVote_112 : decode cX2_askVote 112 = .ok (.aload_n 0, 1) := by decide +kernel
theorem dX2_askVote_113 : decode cX2_askVote 113 = .ok (.getfield 28, 3) := by decide +kernel
theorem dX2_askVote_116 : decode cX2_askVote 116 = .ok (.iload_n 1, 1) := by decide +kernel
theorem dX2_askVote_117 : decode cX2_askVote 117 = .ok (.iaload, 1) := by decide +kernel
theorem dX2_askVote_118 : decode cX2_askVote 118 = .ok (.iastore, 1) := by decide +kernel
theorem dX2_askVote_119 : decode cX2_askVote 119 = .ok (.aload_n 0, 1) := by decide +kernel
theorem dX2_askVote_120 : decode cX2_askVote 120 = .ok (.getfield 25, 3) := by decide +kernel
theorem dX2_askVote_123 : decode cX2_askVote 123 = .ok (.iload 4, 2) := by decide +kernel
theorem dX2_askVote_125 : decode cX2_askVote 125 = .ok (.aload_n 0, 1) := by decide +kernel
theorem dX2_askVote_126 : decode cX2_askVote 126 = .ok (.getfield 37, 3) := by decide +kernel
theorem dX2_askVote_129 : decode cX2_askVote 129 = .ok (.iload_n 1, 1) := by decide +kernel
theorem dX2_askVote_130 : decode cX2_askVote 130 = .ok (.iload_n 2, 1) := by decide +kernel
theorem dX2_askVote_131 : decode cX2_askVote 131 = .ok (.invokestatic 104, 3) := by decide +kernel
theorem dX2_askVote_134 : decode cX2_askVote 134 = .ok (.iaload, 1) := by decide +kernel
theorem dX2_askVote_135 : decode cX2_askVote 135 = .ok (.iastore, 1) := by decide +kernel
theorem dX2_askVote_136 : decode cX2_askVote 136 = .ok (.aload_n 0, 1) := by decide +kernel
theorem dX2_askVote_137 : decode cX2_askVote 137 = .ok (.iload_n 2, 1) := by decide +kernel
theorem dX2_askVote_138 : decode cX2_askVote 138 = .ok (.aload_n 0, 1) := by decide +kernel
theorem dX2_askVote_139 : decode cX2_askVote 139 = .ok (.getfield 28, 3) := by decide +kernel
theorem dX2_askVote_142 : decode cX2_askVote 142 = .ok (.iload_n 1, 1) := by decide +kernel
theorem dX2_askVote_143 : decode cX2_askVote 143 = .ok (.iaload, 1) := by decide +kernel
theorem dX2_askVote_144 : decode cX2_askVote 144 = .ok (.invokevirtual 133, 3) := by decide +kernel
theorem dX2_askVote_147 : decode cX2_askVote 147 = .ok (.invokestatic 85, 3) := by decide +kernel
theorem dX2_askVote_150 : decode cX2_askVote 150 = .ok (.istore 5, 2) := by decide +kernel
theorem dX2_askVote_152 : decode cX2_askVote 152 = .ok (.aload_n 0, 1) := by decide +kernel
theorem dX2_askVote_153 : decode cX2_askVote 153 = .ok (.getfield 46, 3) := by decide +kernel
theorem dX2_askVote_156 : decode cX2_askVote 156 = .ok (.iload_n 2, 1) := by decide +kernel
theorem dX2_askVote_157 : decode cX2_askVote 157 = .ok (.iaload, 1) := by decide +kernel
theorem dX2_askVote_158 : decode cX2_askVote 158 = .ok (.ifCond .ne 42, 3) := by decide +kernel
theorem dX2_askVote_161 : decode cX2_askVote 161 = .ok (.iload 5, 2) := by decide +kernel
theorem dX2_askVote_163 : decode cX2_askVote 163 = .ok (.aload_n 0, 1) := by decide +kernel
theorem dX2_askVote_164 : decode cX2_askVote 164 = .ok (.aload_n 0, 1) := by decide +kernel
theorem dX2_askVote_165 : decode cX2_askVote 165 = .ok (.iload_n 2, 1) := by decide +kernel
theorem dX2_askVote_166 : decode cX2_askVote 166 = .ok (.invokevirtual 136, 3) := by decide +kernel
theorem dX2_askVote_169 : decode cX2_askVote 169 = .ok (.invokevirtual 139, 3) := by decide +kernel
theorem dX2_askVote_172 : decode cX2_askVote 172 = .ok (.if_icmp .lt 28, 3) := by decide +kernel
theorem dX2_askVote_175 : decode cX2_askVote 175 = .ok (.aload_n 0, 1) := by decide +kernel
theorem dX2_askVote_176 : decode cX2_askVote 176 = .ok (.getfield 46, 3) := by decide +kernel
theorem dX2_askVote_179 : decode cX2_askVote 179 = .ok (.iload_n 2, 1) := by decide +kernel
theorem dX2_askVote_180 : decode cX2_askVote 180 = .ok (.aload_n 0, 1) := by decide +kernel
theorem dX2_askVote_181 : decode cX2_askVote 181 = .ok (.getfield 25, 3) := by decide +kernel
theorem dX2_askVote_184 : decode cX2_askVote 184 = .ok (.iload 4, 2) := by decide +kernel
theorem dX2_askVote_186 : decode cX2_askVote 186 = .ok (.iaload, 1) := by decide +kernel
theorem dX2_askVote_187 : decode cX2_askVote 187 = .ok (.iastore, 1) := by decide +kernel
theorem dX2_askVote_188 : decode cX2_askVote 188 = .ok (.aload_n 0, 1) := by decide +kernel
theorem dX2_askVote_189 : decode cX2_askVote 189 = .ok (.getfield 49, 3) := by decide +kernel
theorem dX2_askVote_192 : decode cX2_askVote 192 = .ok (.iload_n 2, 1) := by decide +kernel
theorem dX2_askVote_193 : decode cX2_askVote 193 = .ok (.aload_n 0, 1) := by decide +kernel
theorem dX2_askVote_194 : decode cX2_askVote 194 = .ok (.getfield 28, 3) := by decide +kernel
theorem dX2_askVote_197 : decode cX2_askVote 197 = .ok (.iload_n 1, 1) := by decide +kernel
theorem dX2_askVote_198 : decode cX2_askVote 198 = .ok (.iaload, 1) := by decide +kernel
theorem dX2_askVote_199 : decode cX2_askVote 199 = .ok (.iastore, 1) := by decide +kernel
theorem dX2_askVote_200 : decode cX2_askVote 200 = .ok (.iload 5, 2) := by decide +kernel
theorem dX2_askVote_202 : decode cX2_askVote 202 = .ok (.ireturn, 1) := by decide +kernel
set_option maxRecDepth 20000 in
theorem ggX2_forgetUpTo_X4_isSlot : GoodIn wsX2_forgetUpTo wsX4_isSlot := goodIn_r _ [4] (by decide +kernel) (by decide +kernel)
set_option maxRecDepth 20000 in
theorem gX2_forgetUpTo_X4_isSlot_n117 : GoodIn wsX2_forgetUpTo (wsX4_isSlot) := ggX2_forgetUpTo_X4_isSlot
set_option maxRecDepth 20000 in
theorem ggX2_forgetUpTo_X2_prefix : GoodIn wsX2_forgetUpTo wsX2_prefix := goodIn_r _ [9, 10, 23, 24, 25, 26, 27, 28, 29, 30, 31, 32, 33, 34, 35, 36, 37, 38] (by decide +kernel) (by decide +kernel)
set_option maxRecDepth 20000 in
theorem gX2_forgetUpTo_X2_prefix : GoodIn wsX2_forgetUpTo (wsV RX2 142 RX2 yX2_prefix wsX2_prefix) := goodIn_app (goodIn_of _ (by decide +kernel)) ggX2_forgetUpTo_X2_prefix
set_option maxRecDepth 20000 in
theorem ggX2_forgetUpTo_X2_votesOf : GoodIn wsX2_forgetUpTo wsX2_votesOf := goodIn_r _ [14, 15, 16, 3, 17, 23, 24, 25, 26, 27, 28, 29, 30, 31, 32, 33, 34, 35, 36, 37, 38] (by decide +kernel) (by decide +kernel)
set_option maxRecDepth 20000 in
theorem gX2_forgetUpTo_X2_votesOf : GoodIn wsX2_forgetUpTo (wsV RX2 114 RX2 yX2_votesOf wsX2_votesOf) := goodIn_app (goodIn_of _ (by decide +kernel)) ggX2_forgetUpTo_X2_votesOf
set_option maxRecDepth 20000 in
theorem ggX2_forgetUpTo_X2_forgetVotes : GoodIn wsX2_forgetUpTo wsX2_forgetVotes := goodIn_r _ [21, 15, 22, 16, 3, 17, 23, 24, 25, 26, 27, 28, 29, 30, 31, 32, 33, 34, 35, 36, 37, 38] (by decide +kernel) (by decide +kernel)
set_option maxRecDepth 20000 in
theorem gX2_forgetUpTo_X2_forgetVotes : GoodIn wsX2_forgetUpTo (wsV RX2 146 RX2 yX2_forgetVotes wsX2_forgetVotes) := goodIn_app (goodIn_of _ (by decide +kernel)) ggX2_forgetUpTo_X2_forgetVotes
theorem dX2_forgetUpTo_0 : decode cX2_forgetUpTo 0 = .ok (.iload_n 1, 1) := by decide +kernel
theorem dX2_forgetUpTo_1 : decode cX2_forgetUpTo 1 = .ok (.invokestatic 117, 3) := by decide +kernel
theorem dX2_forgetUpTo_4 : decode cX2_forgetUpTo 4 = .ok (.ifCond .ne 5, 3) := by decide +kernel
theorem dX2_forgetUpTo_7 : decode cX2_forgetUpTo 7 = .ok (.iconst (-1), 1) := by decide +kernel
theorem dX2_forgetUpTo_8 : decode cX2_forgetUpTo 8 = .ok (.ireturn, 1) := by decide +kernel
theorem dX2_forgetUpTo_9 : decode cX2_forgetUpTo 9 = .ok (.iload_n 1, 1) := by decide +kernel
theorem dX2_forgetUpTo_10 : decode cX2_forgetUpTo 10 = .ok (.aload_n 0, 1) := by decide +kernel
theorem dX2_forgetUpTo_11 : decode cX2_forgetUpTo 11 = .ok (.invokevirtual 142, 3) := by decide +kernel
theorem dX2_forgetUpTo_14 : decode cX2_forgetUpTo 14 = .ok (.if_icmp .le 6, 3) := by decide +kernel
theorem dX2_forgetUpTo_17 : decode cX2_forgetUpTo 17 = .ok (.bipush (-4), 2) := by decide +kernel
theorem dX2_forgetUpTo_19 : decode cX2_forgetUpTo 19 = .ok (.ireturn, 1) := by decide +kernel
theorem dX2_forgetUpTo_20 : decode cX2_forgetUpTo 20 = .ok (.iload_n 1, 1) := by decide +kernel
theorem dX2_forgetUpTo_21 : decode cX2_forgetUpTo 21 = .ok (.aload_n 0, 1) := by decide +kernel
theorem dX2_forgetUpTo_22 : decode cX2_forgetUpTo 22 = .ok (.getfield 52, 3) := by decide +kernel
theorem dX2_forgetUpTo_25 : decode cX2_forgetUpTo 25 = .ok (.if_icmp .gt 6, 3) := by decide +kernel
theorem dX2_forgetUpTo_28 : decode cX2_forgetUpTo 28 = .ok (.bipush (-5), 2) := by decide +kernel
theorem dX2_forgetUpTo_30 : decode cX2_forgetUpTo 30 = .ok (.ireturn, 1) := by decide +kernel
theorem dX2_forgetUpTo_31 : decode cX2_forgetUpTo 31 = .ok (.iconst 0, 1) := by decide +kernel
theorem dX2_forgetUpTo_32 : decode cX2_forgetUpTo 32 = .ok (.istore_n 2, 1) := by decide +kernel
theorem dX2_forgetUpTo_33 : decode cX2_forgetUpTo 33 = .ok (.iconst 0, 1) := by decide +kernel
theorem dX2_forgetUpTo_34 : decode cX2_forgetUpTo 34 = .ok (.istore_n 3, 1) := by decide +kernel
theorem dX2_forgetUpTo_35 : decode cX2_forgetUpTo 35 = .ok (.iload_n 3, 1) := by decide +kernel
theorem dX2_forgetUpTo_36 : decode cX2_forgetUpTo 36 = .ok (.bipush 6, 2) := by decide +kernel
theorem dX2_forgetUpTo_38 : decode cX2_forgetUpTo 38 = .ok (.if_icmp .ge 24, 3) := by decide +kernel
theorem dX2_forgetUpTo_41 : decode cX2_forgetUpTo 41 = .ok (.iload_n 2, 1) := by decide +kernel
theorem dX2_forgetUpTo_42 : decode cX2_forgetUpTo 42 = .ok (.aload_n 0, 1) := by decide +kernel
theorem dX2_forgetUpTo_43 : decode cX2_forgetUpTo 43 = .ok (.iload_n 3, 1) := by decide +kernel
theorem dX2_forgetUpTo_44 : decode cX2_forgetUpTo 44 = .ok (.iload_n 1, 1) := by decide +kernel
theorem dX2_forgetUpTo_45 : decode cX2_forgetUpTo 45 = .ok (.invokevirtual 114, 3) := by decide +kernel
theorem dX2_forgetUpTo_48 : decode cX2_forgetUpTo 48 = .ok (.iadd, 1) := by decide +kernel
theorem dX2_forgetUpTo_49 : decode cX2_forgetUpTo 49 = .ok (.istore_n 2, 1) := by decide +kernel
theorem dX2_forgetUpTo_50 : decode cX2_forgetUpTo 50 = .ok (.aload_n 0, 1) := by decide +kernel
theorem dX2_forgetUpTo_51 : decode cX2_forgetUpTo 51 = .ok (.iload_n 3, 1) := by decide +kernel
theorem dX2_forgetUpTo_52 : decode cX2_forgetUpTo 52 = .ok (.iload_n 1, 1) := by decide +kernel
theorem dX2_forgetUpTo_53 : decode cX2_forgetUpTo 53 = .ok (.invokevirtual 146, 3) := by decide +kernel
theorem dX2_forgetUpTo_56 : decode cX2_forgetUpTo 56 = .ok (.iinc 3 1, 3) := by decide +kernel
theorem dX2_forgetUpTo_59 : decode cX2_forgetUpTo 59 = .ok (.goto (-24), 3) := by decide +kernel
theorem dX2_forgetUpTo_62 : decode cX2_forgetUpTo 62 = .ok (.aload_n 0, 1) := by decide +kernel
theorem dX2_forgetUpTo_63 : decode cX2_forgetUpTo 63 = .ok (.iload_n 1, 1) := by decide +kernel
theorem dX2_forgetUpTo_64 : decode cX2_forgetUpTo 64 = .ok (.putfield 52, 3) := by decide +kernel
theorem dX2_forgetUpTo_67 : decode cX2_forgetUpTo 67 = .ok (.iload_n 2, 1) := by decide +kernel
theorem dX2_forgetUpTo_68 : decode cX2_forgetUpTo 68 = .ok (.ireturn, 1) := by decide +kernel
theorem dX2_prefix_0 : decode cX2_prefix 0 = .ok (.iconst 0, 1) := by decide +kernel
theorem dX2_prefix_1 : decode cX2_prefix 1 = .ok (.istore_n 1, 1) := by decide +kernel
theorem dX2_prefix_2 : decode cX2_prefix 2 = .ok (.iload_n 1, 1) := by decide +kernel
theorem dX2_prefix_3 : decode cX2_prefix 3 = .ok (.bipush 16, 2) := by decide +kernel
theorem dX2_prefix_5 : decode cX2_prefix 5 = .ok (.if_icmp .ge 20, 3) := by decide +kernel
theorem dX2_prefix_8 : decode cX2_prefix 8 = .ok (.aload_n 0, 1) := by decide +kernel
theorem dX2_prefix_9 : decode cX2_prefix 9 = .ok (.getfield 46, 3) := by decide +kernel
theorem dX2_prefix_12 : decode cX2_prefix 12 = .ok (.iload_n 1, 1) := by decide +kernel
theorem dX2_prefix_13 : decode cX2_prefix 13 = .ok (.iconst 1, 1) := by decide +kernel
theorem dX2_prefix_14 : decode cX2_prefix 14 = .ok (.iadd, 1) := by decide +kernel
theorem dX2_prefix_15 : decode cX2_prefix 15 = .ok (.iaload, 1) := by decide +kernel
theorem dX2_prefix_16 : decode cX2_prefix 16 = .ok (.ifCond .eq 9, 3) := by decide +kernel
theorem dX2_prefix_19 : decode cX2_prefix 19 = .ok (.iinc 1 1, 3) := by decide +kernel
theorem dX2_prefix_22 : decode cX2_prefix 22 = .ok (.goto (-20), 3) := by decide +kernel
theorem dX2_prefix_25 : decode cX2_prefix 25 = .ok (.iload_n 1, 1) := by decide +kernel
theorem dX2_prefix_26 : decode cX2_prefix 26 = .ok (.ireturn, 1) := by decide +kernel
theorem dX2_chosenAbove_0 : decode cX2_chosenAbove 0 = .ok (.iconst 0, 1) := by decide +kernel
theorem dX2_chosenAbove_1 : decode cX2_chosenAbove 1 = .ok (.istore_n 2, 1) := by decide +kernel
theorem dX2_chosenAbove_2 : decode cX2_chosenAbove 2 = .ok (.iconst 1, 1) := by decide +kernel
theorem dX2_chosenAbove_3 : decode cX2_chosenAbove 3 = .ok (.istore_n 3, 1) := by decide +kernel
theorem dX2_chosenAbove_4 : decode cX2_chosenAbove 4 = .ok (.iload_n 3, 1) := by decide +kernel
theorem dX2_chosenAbove_5 : decode cX2_chosenAbove 5 = .ok (.bipush 16, 2) := by decide +kernel
theorem dX2_chosenAbove_7 : decode cX2_chosenAbove 7 = .ok (.if_icmp .gt 22, 3) := by decide +kernel
theorem dX2_chosenAbove_10 : decode cX2_chosenAbove 10 = .ok (.aload_n 0, 1) := by decide +kernel
theorem dX2_chosenAbove_11 : decode cX2_chosenAbove 11 = .ok (.getfield 46, 3) := by decide +kernel
theorem dX2_chosenAbove_14 : decode cX2_chosenAbove 14 = .ok (.iload_n 3, 1) := by decide +kernel
theorem dX2_chosenAbove_15 : decode cX2_chosenAbove 15 = .ok (.iaload, 1) := by decide +kernel
theorem dX2_chosenAbove_16 : decode cX2_chosenAbove 16 = .ok (.iload_n 1, 1) := by decide +kernel
theorem dX2_chosenAbove_17 : decode cX2_chosenAbove 17 = .ok (.if_icmp .le 6, 3) := by decide +kernel
theorem dX2_chosenAbove_20 : decode cX2_chosenAbove 20 = .ok (.iinc 2 1, 3) := by decide +kernel
theorem dX2_chosenAbove_23 : decode cX2_chosenAbove 23 = .ok (.iinc 3 1, 3) := by decide +kernel
theorem dX2_chosenAbove_26 : decode cX2_chosenAbove 26 = .ok (.goto (-22), 3) := by decide +kernel
theorem dX2_chosenAbove_29 : decode cX2_chosenAbove 29 = .ok (.iload_n 2, 1) := by decide +kernel
theorem dX2_chosenAbove_30 : decode cX2_chosenAbove 30 = .ok (.ireturn, 1) := by decide +kernel
set_option maxRecDepth 20000 in
theorem ggX2_isOpen_X2_prefix : GoodIn wsX2_isOpen wsX2_prefix := goodIn_r _ [5, 6, 7, 8, 9, 10, 11, 12, 13, 14, 15, 16, 17, 18, 19, 20, 21, 22] (by decide +kernel) (by decide +kernel)
set_option maxRecDepth 20000 in
theorem gX2_isOpen_X2_prefix : GoodIn wsX2_isOpen (wsV RX2 142 RX2 yX2_prefix wsX2_prefix) := goodIn_app (goodIn_of _ (by decide +kernel)) ggX2_isOpen_X2_prefix
theorem dX2_isOpen_0 : decode cX2_isOpen 0 = .ok (.iload_n 1, 1) := by decide +kernel
theorem dX2_isOpen_1 : decode cX2_isOpen 1 = .ok (.iconst 3, 1) := by decide +kernel
theorem dX2_isOpen_2 : decode cX2_isOpen 2 = .ok (.isub, 1) := by decide +kernel
theorem dX2_isOpen_3 : decode cX2_isOpen 3 = .ok (.aload_n 0, 1) := by decide +kernel
theorem dX2_isOpen_4 : decode cX2_isOpen 4 = .ok (.invokevirtual 142, 3) := by decide +kernel
theorem dX2_isOpen_7 : decode cX2_isOpen 7 = .ok (.if_icmp .gt 7, 3) := by decide +kernel
theorem dX2_isOpen_10 : decode cX2_isOpen 10 = .ok (.iconst 1, 1) := by decide +kernel
theorem dX2_isOpen_11 : decode cX2_isOpen 11 = .ok (.goto 4, 3) := by decide +kernel
theorem dX2_isOpen_14 : decode cX2_isOpen 14 = .ok (.iconst 0, 1) := by decide +kernel
theorem dX2_isOpen_15 : decode cX2_isOpen 15 = .ok (.ireturn, 1) := by decide +kernel
theorem dX2_votersOf_0 : decode cX2_votersOf 0 = .ok (.bipush 7, 2) := by decide +kernel
theorem dX2_votersOf_2 : decode cX2_votersOf 2 = .ok (.istore_n 2, 1) := by decide +kernel
theorem dX2_votersOf_3 : decode cX2_votersOf 3 = .ok (.iconst 1, 1) := by decide +kernel
theorem dX2_votersOf_4 : decode cX2_votersOf 4 = .ok (.istore_n 3, 1) := by decide +kernel
theorem dX2_votersOf_5 : decode cX2_votersOf 5 = .ok (.iload_n 3, 1) := by decide +kernel
theorem dX2_votersOf_6 : decode cX2_votersOf 6 = .ok (.bipush 16, 2) := by decide +kernel
theorem dX2_votersOf_8 : decode cX2_votersOf 8 = .ok (.if_icmp .gt 37, 3) := by decide +kernel
theorem dX2_votersOf_11 : decode cX2_votersOf 11 = .ok (.iload_n 3, 1) := by decide +kernel
theorem dX2_votersOf_12 : decode cX2_votersOf 12 = .ok (.iload_n 1, 1) := by decide +kernel
theorem dX2_votersOf_13 : decode cX2_votersOf 13 = .ok (.iconst 3, 1) := by decide +kernel
theorem dX2_votersOf_14 : decode cX2_votersOf 14 = .ok (.isub, 1) := by decide +kernel
theorem dX2_votersOf_15 : decode cX2_votersOf 15 = .ok (.if_icmp .gt 30, 3) := by decide +kernel
theorem dX2_votersOf_18 : decode cX2_votersOf 18 = .ok (.aload_n 0, 1) := by decide +kernel
theorem dX2_votersOf_19 : decode cX2_votersOf 19 = .ok (.getfield 46, 3) := by decide +kernel
theorem dX2_votersOf_22 : decode cX2_votersOf 22 = .ok (.iload_n 3, 1) := by decide +kernel
theorem dX2_votersOf_23 : decode cX2_votersOf 23 = .ok (.iaload, 1) := by decide +kernel
theorem dX2_votersOf_24 : decode cX2_votersOf 24 = .ok (.bipush 100, 2) := by decide +kernel
theorem dX2_votersOf_26 : decode cX2_votersOf 26 = .ok (.if_icmp .le 13, 3) := by decide +kernel
theorem dX2_votersOf_29 : decode cX2_votersOf 29 = .ok (.aload_n 0, 1) := by decide +kernel
theorem dX2_votersOf_30 : decode cX2_votersOf 30 = .ok (.getfield 46, 3) := by decide +kernel
theorem dX2_votersOf_33 : decode cX2_votersOf 33 = .ok (.iload_n 3, 1) := by decide +kernel
theorem dX2_votersOf_34 : decode cX2_votersOf 34 = .ok (.iaload, 1) := by decide +kernel
theorem dX2_votersOf_35 : decode cX2_votersOf 35 = .ok (.bipush 100, 2) := by decide +kernel
theorem dX2_votersOf_37 : decode cX2_votersOf 37 = .ok (.isub, 1) := by decide +kernel
theorem dX2_votersOf_38 : decode cX2_votersOf 38 = .ok (.istore_n 2, 1) := by decide +kernel
theorem dX2_votersOf_39 : decode cX2_votersOf 39 = .ok (.iinc 3 1, 3) := by decide +kernel
theorem dX2_votersOf_42 : decode cX2_votersOf 42 = .ok (.goto (-37), 3) := by decide +kernel
theorem dX2_votersOf_45 : decode cX2_votersOf 45 = .ok (.iload_n 2, 1) := by decide +kernel
theorem dX2_votersOf_46 : decode cX2_votersOf 46 = .ok (.ireturn, 1) := by decide +kernel
set_option maxRecDepth 20000 in
theorem ggX2_secondSize_J6_bitCount_0f7a4 : GoodIn wsX2_secondSize wsJ6_bitCount_0f7a4 := goodIn_r _ [9, 10, 11, 12] (by decide +kernel) (by decide +kernel)
set_option maxRecDepth 20000 in
theorem gX2_secondSize_J6_bitCount_0f7a4 : GoodIn wsX2_secondSize (va_wsS RX2 85 yJ6_bitCount_0f7a4 wsJ6_bitCount_0f7a4) := goodIn_app (goodIn_of _ (by decide +kernel)) ggX2_secondSize_J6_bitCount_0f7a4
theorem dX2_secondSize_0 : decode cX2_secondSize 0 = .ok (.aload_n 0, 1) := by decide +kernel
theorem dX2_secondSize_1 : decode cX2_secondSize 1 = .ok (.getfield 15, 3) := by decide +kernel
theorem dX2_secondSize_4 : decode cX2_secondSize 4 = .ok (.iload_n 1, 1) := by decide +kernel
theorem dX2_secondSize_5 : decode cX2_secondSize 5 = .ok (.invokestatic 85, 3) := by decide +kernel
theorem dX2_secondSize_8 : decode cX2_secondSize 8 = .ok (.invokestatic 65, 3) := by decide +kernel
theorem dX2_secondSize_11 : decode cX2_secondSize 11 = .ok (.ireturn, 1) := by decide +kernel
set_option maxRecDepth 20000 in
theorem ggX2_firstSize_J6_bitCount_0f7a4 : GoodIn wsX2_firstSize wsJ6_bitCount_0f7a4 := goodIn_r _ [4, 5, 6, 7] (by decide +kernel) (by decide +kernel)
set_option maxRecDepth 20000 in
theorem gX2_firstSize_J6_bitCount_0f7a4 : GoodIn wsX2_firstSize (va_wsS RX2 85 yJ6_bitCount_0f7a4 wsJ6_bitCount_0f7a4) := goodIn_app (goodIn_of _ (by decide +kernel)) ggX2_firstSize_J6_bitCount_0f7a4
set_option maxRecDepth 20000 in
theorem ggX2_firstSize_X2_secondSize : GoodIn wsX2_firstSize wsX2_secondSize := goodIn_r _ [12, 13, 14, 15, 16, 17, 1, 2, 3, 4, 5, 6, 7, 18, 19, 20, 21, 22, 23, 24, 25, 26, 27, 28, 29, 30, 31, 32, 33] (by decide +kernel) (by decide +kernel)
set_option maxRecDepth 20000 in
theorem gX2_firstSize_X2_secondSize : GoodIn wsX2_firstSize (wsV RX2 139 RX2 yX2_secondSize wsX2_secondSize) := goodIn_app (goodIn_of _ (by decide +kernel)) ggX2_firstSize_X2_secondSize
theorem dX2_firstSize_0 : decode cX2_firstSize 0 = .ok (.iload_n 1, 1) := by decide +kernel
theorem dX2_firstSize_1 : decode cX2_firstSize 1 = .ok (.invokestatic 85, 3) := by decide +kernel
theorem dX2_firstSize_4 : decode cX2_firstSize 4 = .ok (.iconst 1, 1) := by decide +kernel
theorem dX2_firstSize_5 : decode cX2_firstSize 5 = .ok (.iadd, 1) := by decide +kernel
theorem dX2_firstSize_6 : decode cX2_firstSize 6 = .ok (.aload_n 0, 1) := by decide +kernel
theorem dX2_firstSize_7 : decode cX2_firstSize 7 = .ok (.iload_n 1, 1) := by decide +kernel
theorem dX2_firstSize_8 : decode cX2_firstSize 8 = .ok (.invokevirtual 139, 3) := by decide +kernel
theorem dX2_firstSize_11 : decode cX2_firstSize 11 = .ok (.isub, 1) := by decide +kernel
theorem dX2_firstSize_12 : decode cX2_firstSize 12 = .ok (.ireturn, 1) := by decide +kernel
set_option maxRecDepth 20000 in
theorem ggX2_votersFor_X2_votersOf : GoodIn wsX2_votersFor wsX2_votersOf := goodIn_r _ [6, 7, 13, 14, 15, 16, 17, 18, 19, 20, 21, 22, 23, 24, 25, 26, 27, 28] (by decide +kernel) (by decide +kernel)
set_option maxRecDepth 20000 in
theorem gX2_votersFor_X2_votersOf : GoodIn wsX2_votersFor (wsV RX2 136 RX2 yX2_votersOf wsX2_votersOf) := goodIn_app (goodIn_of _ (by decide +kernel)) ggX2_votersFor_X2_votersOf
set_option maxRecDepth 20000 in
theorem ggX2_votersFor_X4_has : GoodIn wsX2_votersFor wsX4_has := goodIn_r _ [10] (by decide +kernel) (by decide +kernel)
set_option maxRecDepth 20000 in
theorem gX2_votersFor_X4_has_n81 : GoodIn wsX2_votersFor (wsX4_has) := ggX2_votersFor_X4_has
set_option maxRecDepth 20000 in
theorem ggX2_votersFor_X4_cell : GoodIn wsX2_votersFor wsX4_cell := goodIn_r _ [12] (by decide +kernel) (by decide +kernel)
set_option maxRecDepth 20000 in
theorem gX2_votersFor_X4_cell_n104 : GoodIn wsX2_votersFor (wsX4_cell) := ggX2_votersFor_X4_cell
theorem dX2_votersFor_0 : decode cX2_votersFor 0 = .ok (.aload_n 0, 1) := by decide +kernel
theorem dX2_votersFor_1 : decode cX2_votersFor 1 = .ok (.iload_n 1, 1) := by decide +kernel
theorem dX2_votersFor_2 : decode cX2_votersFor 2 = .ok (.invokevirtual 136, 3) := by decide +kernel
theorem dX2_votersFor_5 : decode cX2_votersFor 5 = .ok (.istore_n 3, 1) := by decide +kernel
theorem dX2_votersFor_6 : decode cX2_votersFor 6 = .ok (.iconst 0, 1) := by decide +kernel
theorem dX2_votersFor_7 : decode cX2_votersFor 7 = .ok (.istore 4, 2) := by decide +kernel
theorem dX2_votersFor_9 : decode cX2_votersFor 9 = .ok (.iconst 0, 1) := by decide +kernel
theorem dX2_votersFor_10 : decode cX2_votersFor 10 = .ok (.istore 5, 2) := by decide +kernel
theorem dX2_votersFor_12 : decode cX2_votersFor 12 = .ok (.iload 5, 2) := by decide +kernel
theorem dX2_votersFor_14 : decode cX2_votersFor 14 = .ok (.bipush 6, 2) := by decide +kernel
theorem dX2_votersFor_16 : decode cX2_votersFor 16 = .ok (.if_icmp .ge 42, 3) := by decide +kernel
theorem dX2_votersFor_19 : decode cX2_votersFor 19 = .ok (.iload_n 3, 1) := by decide +kernel
theorem dX2_votersFor_20 : decode cX2_votersFor 20 = .ok (.iload 5, 2) := by decide +kernel
theorem dX2_votersFor_22 : decode cX2_votersFor 22 = .ok (.invokestatic 81, 3) := by decide +kernel
theorem dX2_votersFor_25 : decode cX2_votersFor 25 = .ok (.ifCond .eq 27, 3) := by decide +kernel
theorem dX2_votersFor_28 : decode cX2_votersFor 28 = .ok (.aload_n 0, 1) := by decide +kernel
theorem dX2_votersFor_29 : decode cX2_votersFor 29 = .ok (.getfield 22, 3) := by decide +kernel
theorem dX2_votersFor_32 : decode cX2_votersFor 32 = .ok (.iload 5, 2) := by decide +kernel
theorem dX2_votersFor_34 : decode cX2_votersFor 34 = .ok (.iload_n 1, 1) := by decide +kernel
theorem dX2_votersFor_35 : decode cX2_votersFor 35 = .ok (.invokestatic 104, 3) := by decide +kernel
theorem dX2_votersFor_38 : decode cX2_votersFor 38 = .ok (.iaload, 1) := by decide +kernel
theorem dX2_votersFor_39 : decode cX2_votersFor 39 = .ok (.iload_n 2, 1) := by decide +kernel
theorem dX2_votersFor_40 : decode cX2_votersFor 40 = .ok (.if_icmp .ne 12, 3) := by decide +kernel
theorem dX2_votersFor_43 : decode cX2_votersFor 43 = .ok (.iload 4, 2) := by decide +kernel
theorem dX2_votersFor_45 : decode cX2_votersFor 45 = .ok (.iconst 1, 1) := by decide +kernel
theorem dX2_votersFor_46 : decode cX2_votersFor 46 = .ok (.iload 5, 2) := by decide +kernel
theorem dX2_votersFor_48 : decode cX2_votersFor 48 = .ok (.ishl, 1) := by decide +kernel
theorem dX2_votersFor_49 : decode cX2_votersFor 49 = .ok (.ior, 1) := by decide +kernel
theorem dX2_votersFor_50 : decode cX2_votersFor 50 = .ok (.istore 4, 2) := by decide +kernel
theorem dX2_votersFor_52 : decode cX2_votersFor 52 = .ok (.iinc 5 1, 3) := by decide +kernel
theorem dX2_votersFor_55 : decode cX2_votersFor 55 = .ok (.goto (-43), 3) := by decide +kernel
theorem dX2_votersFor_58 : decode cX2_votersFor 58 = .ok (.iload 4, 2) := by decide +kernel
theorem dX2_votersFor_60 : decode cX2_votersFor 60 = .ok (.ireturn, 1) := by decide +kernel
set_option maxRecDepth 20000 in
theorem ggX2_couldChoose_X2_votersOf : GoodIn wsX2_couldChoose wsX2_votersOf := goodIn_r _ [6, 7, 34, 35, 36, 37, 38, 39, 40, 41, 42, 43, 44, 45, 46, 47, 48, 49] (by decide +kernel) (by decide +kernel)
set_option maxRecDepth 20000 in
theorem gX2_couldChoose_X2_votersOf : GoodIn wsX2_couldChoose (wsV RX2 136 RX2 yX2_votersOf wsX2_votersOf) := goodIn_app (goodIn_of _ (by decide +kernel)) ggX2_couldChoose_X2_votersOf
set_option maxRecDepth 20000 in
theorem ggX2_couldChoose_X2_votersFor : GoodIn wsX2_couldChoose wsX2_votersFor := goodIn_r _ [11, 12, 2, 3, 4, 5, 6, 7, 13, 14, 15, 16, 17, 34, 35, 36, 37, 38, 39, 40, 41, 42, 43, 44, 45, 46, 47, 48, 49] (by decide +kernel) (by decide +kernel)
set_option maxRecDepth 20000 in
theorem gX2_couldChoose_X2_votersFor : GoodIn wsX2_couldChoose (wsV RX2 133 RX2 yX2_votersFor wsX2_votersFor) := goodIn_app (goodIn_of _ (by decide +kernel)) ggX2_couldChoose_X2_votersFor
set_option maxRecDepth 20000 in
theorem ggX2_couldChoose_X4_has : GoodIn wsX2_couldChoose wsX4_has := goodIn_r _ [15] (by decide +kernel) (by decide +kernel)
set_option maxRecDepth 20000 in
theorem gX2_couldChoose_X4_has_n81 : GoodIn wsX2_couldChoose (wsX4_has) := ggX2_couldChoose_X4_has
set_option maxRecDepth 20000 in
theorem ggX2_couldChoose_J6_bitCount_0f7a4 : GoodIn wsX2_couldChoose wsJ6_bitCount_0f7a4 := goodIn_r _ [21, 22, 23, 24] (by decide +kernel) (by decide +kernel)
set_option maxRecDepth 20000 in
theorem gX2_couldChoose_J6_bitCount_0f7a4 : GoodIn wsX2_couldChoose (va_wsS RX2 85 yJ6_bitCount_0f7a4 wsJ6_bitCount_0f7a4) := goodIn_app (goodIn_of _ (by decide +kernel)) ggX2_couldChoose_J6_bitCount_0f7a4
set_option maxRecDepth 20000 in
theorem ggX2_couldChoose_X2_secondSize : GoodIn wsX2_couldChoose wsX2_secondSize := goodIn_r _ [28, 29, 30, 31, 32, 33, 18, 19, 20, 21, 22, 23, 24, 34, 35, 36, 37, 38, 39, 40, 41, 42, 43, 44, 45, 46, 47, 48, 49] (by decide +kernel) (by decide +kernel)
set_option maxRecDepth 20000 in
theorem gX2_couldChoose_X2_secondSize : GoodIn wsX2_couldChoose (wsV RX2 139 RX2 yX2_secondSize wsX2_secondSize) := goodIn_app (goodIn_of _ (by decide +kernel)) ggX2_couldChoose_X2_secondSize
theorem dX2_couldChoose_0 : decode cX2_couldChoose 0 = .ok (.aload_n 0, 1) := by decide +kernel
theorem dX2_couldChoose_1 : decode cX2_couldChoose 1 = .ok (.iload_n 1, 1) := by decide +kernel
theorem dX2_couldChoose_2 : decode cX2_couldChoose 2 = .ok (.invokevirtual 136, 3) := by decide +kernel
theorem dX2_couldChoose_5 : decode cX2_couldChoose 5 = .ok (.istore_n 3, 1) := by decide +kernel
theorem dX2_couldChoose_6 : decode cX2_couldChoose 6 = .ok (.aload_n 0, 1) := by decide +kernel
theorem dX2_couldChoose_7 : decode cX2_couldChoose 7 = .ok (.iload_n 1, 1) := by decide +kernel
theorem dX2_couldChoose_8 : decode cX2_couldChoose 8 = .ok (.iload_n 2, 1) := by decide +kernel
theorem dX2_couldChoose_9 : decode cX2_couldChoose 9 = .ok (.invokevirtual 133, 3) := by decide +kernel
theorem dX2_couldChoose_12 : decode cX2_couldChoose 12 = .ok (.istore 4, 2) := by decide +kernel
theorem dX2_couldChoose_14 : decode cX2_couldChoose 14 = .ok (.iconst 0, 1) := by decide +kernel
theorem dX2_couldChoose_15 : decode cX2_couldChoose 15 = .ok (.istore 5, 2) := by decide +kernel
theorem dX2_couldChoose_17 : decode cX2_couldChoose 17 = .ok (.iload 5, 2) := by decide +kernel
theorem dX2_couldChoose_19 : decode cX2_couldChoose 19 = .ok (.bipush 6, 2) := by decide +kernel
theorem dX2_couldChoose_21 : decode cX2_couldChoose 21 = .ok (.if_icmp .ge 38, 3) := by decide +kernel
theorem dX2_couldChoose_24 : decode cX2_couldChoose 24 = .ok (.iload_n 3, 1) := by decide +kernel
theorem dX2_couldChoose_25 : decode cX2_couldChoose 25 = .ok (.iload 5, 2) := by decide +kernel
theorem dX2_couldChoose_27 : decode cX2_couldChoose 27 = .ok (.invokestatic 81, 3) := by decide +kernel
theorem dX2_couldChoose_30 : decode cX2_couldChoose 30 = .ok (.ifCond .eq 23, 3) := by decide +kernel
theorem dX2_couldChoose_33 : decode cX2_couldChoose 33 = .ok (.aload_n 0, 1) := by decide +kernel
theorem dX2_couldChoose_34 : decode cX2_couldChoose 34 = .ok (.getfield 18, 3) := by decide +kernel
theorem dX2_couldChoose_37 : decode cX2_couldChoose 37 = .ok (.iload 5, 2) := by decide +kernel
theorem dX2_couldChoose_39 : decode cX2_couldChoose 39 = .ok (.iaload, 1) := by decide +kernel
theorem dX2_couldChoose_40 : decode cX2_couldChoose 40 = .ok (.iload_n 2, 1) := by decide +kernel
theorem dX2_couldChoose_41 : decode cX2_couldChoose 41 = .ok (.if_icmp .gt 12, 3) := by decide +kernel
theorem dX2_couldChoose_44 : decode cX2_couldChoose 44 = .ok (.iload 4, 2) := by decide +kernel
theorem dX2_couldChoose_46 : decode cX2_couldChoose 46 = .ok (.iconst 1, 1) := by decide +kernel
theorem dX2_couldChoose_47 : decode cX2_couldChoose 47 = .ok (.iload 5, 2) := by decide +kernel
theorem dX2_couldChoose_49 : decode cX2_couldChoose 49 = .ok (.ishl, 1) := by decide +kernel
theorem dX2_couldChoose_50 : decode cX2_couldChoose 50 = .ok (.ior, 1) := by decide +kernel
theorem dX2_couldChoose_51 : decode cX2_couldChoose 51 = .ok (.istore 4, 2) := by decide +kernel
theorem dX2_couldChoose_53 : decode cX2_couldChoose 53 = .ok (.iinc 5 1, 3) := by decide +kernel
theorem dX2_couldChoose_56 : decode cX2_couldChoose 56 = .ok (.goto (-39), 3) := by decide +kernel
theorem dX2_couldChoose_59 : decode cX2_couldChoose 59 = .ok (.iload 4, 2) := by decide +kernel
theorem dX2_couldChoose_61 : decode cX2_couldChoose 61 = .ok (.invokestatic 85, 3) := by decide +kernel
theorem dX2_couldChoose_64 : decode cX2_couldChoose 64 = .ok (.aload_n 0, 1) := by decide +kernel
theorem dX2_couldChoose_65 : decode cX2_couldChoose 65 = .ok (.iload_n 3, 1) := by decide +kernel
theorem dX2_couldChoose_66 : decode cX2_couldChoose 66 = .ok (.invokevirtual 139, 3) := by decide +kernel
theorem dX2_couldChoose_69 : decode cX2_couldChoose 69 = .ok (.if_icmp .lt 7, 3) := by decide +kernel
theorem dX2_couldChoose_72 : decode cX2_couldChoose 72 = .ok (.iconst 1, 1) := by decide +kernel
theorem dX2_couldChoose_73 : decode cX2_couldChoose 73 = .ok (.goto 4, 3) := by decide +kernel
theorem dX2_couldChoose_76 : decode cX2_couldChoose 76 = .ok (.iconst 0, 1) := by decide +kernel
theorem dX2_couldChoose_77 : decode cX2_couldChoose 77 = .ok (.ireturn, 1) := by decide +kernel
set_option maxRecDepth 20000 in
theorem ggX2_votesOf_X4_cell : GoodIn wsX2_votesOf wsX4_cell := goodIn_r _ [4] (by decide +kernel) (by decide +kernel)
set_option maxRecDepth 20000 in
theorem gX2_votesOf_X4_cell_n104 : GoodIn wsX2_votesOf (wsX4_cell) := ggX2_votesOf_X4_cell
theorem dX2_votesOf_0 : decode cX2_votesOf 0 = .ok (.iconst 0, 1) := by decide +kernel
theorem dX2_votesOf_1 : decode cX2_votesOf 1 = .ok (.istore_n 3, 1) := by decide +kernel
theorem dX2_votesOf_2 : decode cX2_votesOf 2 = .ok (.iconst 1, 1) := by decide +kernel
theorem dX2_votesOf_3 : decode cX2_votesOf 3 = .ok (.istore 4, 2) := by decide +kernel
theorem dX2_votesOf_5 : decode cX2_votesOf 5 = .ok (.iload 4, 2) := by decide +kernel
theorem dX2_votesOf_7 : decode cX2_votesOf 7 = .ok (.bipush 16, 2) := by decide +kernel
theorem dX2_votesOf_9 : decode cX2_votesOf 9 = .ok (.if_icmp .gt 32, 3) := by decide +kernel
theorem dX2_votesOf_12 : decode cX2_votesOf 12 = .ok (.iload 4, 2) := by decide +kernel
theorem dX2_votesOf_14 : decode cX2_votesOf 14 = .ok (.iload_n 2, 1) := by decide +kernel
theorem dX2_votesOf_15 : decode cX2_votesOf 15 = .ok (.if_icmp .gt 26, 3) := by decide +kernel
theorem dX2_votesOf_18 : decode cX2_votesOf 18 = .ok (.aload_n 0, 1) := by decide +kernel
theorem dX2_votesOf_19 : decode cX2_votesOf 19 = .ok (.getfield 22, 3) := by decide +kernel
theorem dX2_votesOf_22 : decode cX2_votesOf 22 = .ok (.iload_n 1, 1) := by decide +kernel
theorem dX2_votesOf_23 : decode cX2_votesOf 23 = .ok (.iload 4, 2) := by decide +kernel
theorem dX2_votesOf_25 : decode cX2_votesOf 25 = .ok (.invokestatic 104, 3) := by decide +kernel
theorem dX2_votesOf_28 : decode cX2_votesOf 28 = .ok (.iaload, 1) := by decide +kernel
theorem dX2_votesOf_29 : decode cX2_votesOf 29 = .ok (.ifCond .eq 6, 3) := by decide +kernel
theorem dX2_votesOf_32 : decode cX2_votesOf 32 = .ok (.iinc 3 1, 3) := by decide +kernel
theorem dX2_votesOf_35 : decode cX2_votesOf 35 = .ok (.iinc 4 1, 3) := by decide +kernel
theorem dX2_votesOf_38 : decode cX2_votesOf 38 = .ok (.goto (-33), 3) := by decide +kernel
theorem dX2_votesOf_41 : decode cX2_votesOf 41 = .ok (.iload_n 3, 1) := by decide +kernel
theorem dX2_votesOf_42 : decode cX2_votesOf 42 = .ok (.ireturn, 1) := by decide +kernel
set_option maxRecDepth 20000 in
theorem ggX2_forgetVotes_X4_cell : GoodIn wsX2_forgetVotes wsX4_cell := goodIn_r _ [5] (by decide +kernel) (by decide +kernel)
set_option maxRecDepth 20000 in
theorem gX2_forgetVotes_X4_cell_n104 : GoodIn wsX2_forgetVotes (wsX4_cell) := ggX2_forgetVotes_X4_cell
theorem dX2_forgetVotes_0 : decode cX2_forgetVotes 0 = .ok (.iconst 1, 1) := by decide +kernel
theorem dX2_forgetVotes_1 : decode cX2_forgetVotes 1 = .ok (.istore_n 3, 1) := by decide +kernel
theorem dX2_forgetVotes_2 : decode cX2_forgetVotes 2 = .ok (.iload_n 3, 1) := by decide +kernel
theorem dX2_forgetVotes_3 : decode cX2_forgetVotes 3 = .ok (.bipush 16, 2) := by decide +kernel
theorem dX2_forgetVotes_5 : decode cX2_forgetVotes 5 = .ok (.if_icmp .gt 36, 3) := by decide +kernel
theorem dX2_forgetVotes_8 : decode cX2_forgetVotes 8 = .ok (.iload_n 3, 1) := by decide +kernel
theorem dX2_forgetVotes_9 : decode cX2_forgetVotes 9 = .ok (.iload_n 2, 1) := by decide +kernel
theorem dX2_forgetVotes_10 : decode cX2_forgetVotes 10 = .ok (.if_icmp .gt 31, 3) := by decide +kernel
theorem dX2_forgetVotes_13 : decode cX2_forgetVotes 13 = .ok (.aload_n 0, 1) := by decide +kernel
theorem dX2_forgetVotes_14 : decode cX2_forgetVotes 14 = .ok (.getfield 22, 3) := by decide +kernel
theorem dX2_forgetVotes_17 : decode cX2_forgetVotes 17 = .ok (.iload_n 1, 1) := by decide +kernel
theorem dX2_forgetVotes_18 : decode cX2_forgetVotes 18 = .ok (.iload_n 3, 1) := by decide +kernel
theorem dX2_forgetVotes_19 : decode cX2_forgetVotes 19 = .ok (.invokestatic 104, 3) := by decide +kernel
theorem dX2_forgetVotes_22 : decode cX2_forgetVotes 22 = .ok (.iconst 0, 1) := by decide +kernel
theorem dX2_forgetVotes_23 : decode cX2_forgetVotes 23 = .ok (.iastore, 1) := by decide +kernel
theorem dX2_forgetVotes_24 : decode cX2_forgetVotes 24 = .ok (.aload_n 0, 1) := by decide +kernel
theorem dX2_forgetVotes_25 : decode cX2_forgetVotes 25 = .ok (.getfield 25, 3) := by decide +kernel
theorem dX2_forgetVotes_28 : decode cX2_forgetVotes 28 = .ok (.iload_n 1, 1) := by decide +kernel
theorem dX2_forgetVotes_29 : decode cX2_forgetVotes 29 = .ok (.iload_n 3, 1) := by decide +kernel
theorem dX2_forgetVotes_30 : decode cX2_forgetVotes 30 = .ok (.invokestatic 104, 3) := by decide +kernel
theorem dX2_forgetVotes_33 : decode cX2_forgetVotes 33 = .ok (.iconst 0, 1) := by decide +kernel
theorem dX2_forgetVotes_34 : decode cX2_forgetVotes 34 = .ok (.iastore, 1) := by decide +kernel
theorem dX2_forgetVotes_35 : decode cX2_forgetVotes 35 = .ok (.iinc 3 1, 3) := by decide +kernel
theorem dX2_forgetVotes_38 : decode cX2_forgetVotes 38 = .ok (.goto (-36), 3) := by decide +kernel
theorem dX2_forgetVotes_41 : decode cX2_forgetVotes 41 = .ok (.return_, 1) := by decide +kernel
theorem dX2_refuse_0 : decode cX2_refuse 0 = .ok (.aload_n 0, 1) := by decide +kernel
theorem dX2_refuse_1 : decode cX2_refuse 1 = .ok (.getfield 31, 3) := by decide +kernel
theorem dX2_refuse_4 : decode cX2_refuse 4 = .ok (.iload_n 1, 1) := by decide +kernel
theorem dX2_refuse_5 : decode cX2_refuse 5 = .ok (.aload_n 0, 1) := by decide +kernel
theorem dX2_refuse_6 : decode cX2_refuse 6 = .ok (.getfield 31, 3) := by decide +kernel
theorem dX2_refuse_9 : decode cX2_refuse 9 = .ok (.iload_n 1, 1) := by decide +kernel
theorem dX2_refuse_10 : decode cX2_refuse 10 = .ok (.iaload, 1) := by decide +kernel
theorem dX2_refuse_11 : decode cX2_refuse 11 = .ok (.aload_n 0, 1) := by decide +kernel
theorem dX2_refuse_12 : decode cX2_refuse 12 = .ok (.getfield 18, 3) := by decide +kernel
theorem dX2_refuse_15 : decode cX2_refuse 15 = .ok (.iload_n 2, 1) := by decide +kernel
theorem dX2_refuse_16 : decode cX2_refuse 16 = .ok (.iaload, 1) := by decide +kernel
theorem dX2_refuse_17 : decode cX2_refuse 17 = .ok (.invokestatic 149, 3) := by decide +kernel
theorem dX2_refuse_20 : decode cX2_refuse 20 = .ok (.iastore, 1) := by decide +kernel
theorem dX2_refuse_21 : decode cX2_refuse 21 = .ok (.bipush 100, 2) := by decide +kernel
theorem dX2_refuse_23 : decode cX2_refuse 23 = .ok (.aload_n 0, 1) := by decide +kernel
theorem dX2_refuse_24 : decode cX2_refuse 24 = .ok (.getfield 18, 3) := by decide +kernel
theorem dX2_refuse_27 : decode cX2_refuse 27 = .ok (.iload_n 2, 1) := by decide +kernel
theorem dX2_refuse_28 : decode cX2_refuse 28 = .ok (.iaload, 1) := by decide +kernel
theorem dX2_refuse_29 : decode cX2_refuse 29 = .ok (.iadd, 1) := by decide +kernel
theorem dX2_refuse_30 : decode cX2_refuse 30 = .ok (.ireturn, 1) := by decide +kernel
set_option maxRecDepth 20000 in
theorem ggX2_tellVotes_X4_cell : GoodIn wsX2_tellVotes wsX4_cell := goodIn_r _ [7] (by decide +kernel) (by decide +kernel)
set_option maxRecDepth 20000 in
theorem gX2_tellVotes_X4_cell_n104 : GoodIn wsX2_tellVotes (wsX4_cell) := ggX2_tellVotes_X4_cell
theorem dX2_tellVotes_0 : decode cX2_tellVotes 0 = .ok (.iload_n 1, 1) := by decide +kernel
theorem dX2_tellVotes_1 : decode cX2_tellVotes 1 = .ok (.bipush 6, 2) := by decide +kernel
theorem dX2_tellVotes_3 : decode cX2_tellVotes 3 = .ok (.imul, 1) := by decide +kernel
theorem dX2_tellVotes_4 : decode cX2_tellVotes 4 = .ok (.iload_n 2, 1) := by decide +kernel
theorem dX2_tellVotes_5 : decode cX2_tellVotes 5 = .ok (.iadd, 1) := by decide +kernel
theorem dX2_tellVotes_6 : decode cX2_tellVotes 6 = .ok (.istore_n 3, 1) := by decide +kernel
theorem dX2_tellVotes_7 : decode cX2_tellVotes 7 = .ok (.iconst 1, 1) := by decide +kernel
theorem dX2_tellVotes_8 : decode cX2_tellVotes 8 = .ok (.istore 4, 2) := by decide +kernel
theorem dX2_tellVotes_10 : decode cX2_tellVotes 10 = .ok (.iload 4, 2) := by decide +kernel
theorem dX2_tellVotes_12 : decode cX2_tellVotes 12 = .ok (.bipush 16, 2) := by decide +kernel
theorem dX2_tellVotes_14 : decode cX2_tellVotes 14 = .ok (.if_icmp .gt 53, 3) := by decide +kernel
theorem dX2_tellVotes_17 : decode cX2_tellVotes 17 = .ok (.aload_n 0, 1) := by decide +kernel
theorem dX2_tellVotes_18 : decode cX2_tellVotes 18 = .ok (.getfield 40, 3) := by decide +kernel
theorem dX2_tellVotes_21 : decode cX2_tellVotes 21 = .ok (.iload_n 3, 1) := by decide +kernel
theorem dX2_tellVotes_22 : decode cX2_tellVotes 22 = .ok (.iload 4, 2) := by decide +kernel
theorem dX2_tellVotes_24 : decode cX2_tellVotes 24 = .ok (.invokestatic 104, 3) := by decide +kernel
theorem dX2_tellVotes_27 : decode cX2_tellVotes 27 = .ok (.aload_n 0, 1) := by decide +kernel
theorem dX2_tellVotes_28 : decode cX2_tellVotes 28 = .ok (.getfield 22, 3) := by decide +kernel
theorem dX2_tellVotes_31 : decode cX2_tellVotes 31 = .ok (.iload_n 2, 1) := by decide +kernel
theorem dX2_tellVotes_32 : decode cX2_tellVotes 32 = .ok (.iload 4, 2) := by decide +kernel
theorem dX2_tellVotes_34 : decode cX2_tellVotes 34 = .ok (.invokestatic 104, 3) := by decide +kernel
theorem dX2_tellVotes_37 : decode cX2_tellVotes 37 = .ok (.iaload, 1) := by decide +kernel
theorem dX2_tellVotes_38 : decode cX2_tellVotes 38 = .ok (.iastore, 1) := by decide +kernel
theorem dX2_tellVotes_39 : decode cX2_tellVotes 39 = .ok (.aload_n 0, 1) := by decide +kernel
theorem dX2_tellVotes_40 : decode cX2_tellVotes 40 = .ok (.getfield 43, 3) := by decide +kernel
theorem dX2_tellVotes_43 : decode cX2_tellVotes 43 = .ok (.iload_n 3, 1) := by decide +kernel
theorem dX2_tellVotes_44 : decode cX2_tellVotes 44 = .ok (.iload 4, 2) := by decide +kernel
theorem dX2_tellVotes_46 : decode cX2_tellVotes 46 = .ok (.invokestatic 104, 3) := by decide +kernel
theorem dX2_tellVotes_49 : decode cX2_tellVotes 49 = .ok (.aload_n 0, 1) := by decide +kernel
theorem dX2_tellVotes_50 : decode cX2_tellVotes 50 = .ok (.getfield 25, 3) := by decide +kernel
theorem dX2_tellVotes_53 : decode cX2_tellVotes 53 = .ok (.iload_n 2, 1) := by decide +kernel
theorem dX2_tellVotes_54 : decode cX2_tellVotes 54 = .ok (.iload 4, 2) := by decide +kernel
theorem dX2_tellVotes_56 : decode cX2_tellVotes 56 = .ok (.invokestatic 104, 3) := by decide +kernel
theorem dX2_tellVotes_59 : decode cX2_tellVotes 59 = .ok (.iaload, 1) := by decide +kernel
theorem dX2_tellVotes_60 : decode cX2_tellVotes 60 = .ok (.iastore, 1) := by decide +kernel
theorem dX2_tellVotes_61 : decode cX2_tellVotes 61 = .ok (.iinc 4 1, 3) := by decide +kernel
theorem dX2_tellVotes_64 : decode cX2_tellVotes 64 = .ok (.goto (-54), 3) := by decide +kernel
theorem dX2_tellVotes_67 : decode cX2_tellVotes 67 = .ok (.return_, 1) := by decide +kernel
theorem dX2_anyBallot_0 : decode cX2_anyBallot 0 = .ok (.iconst 0, 1) := by decide +kernel
theorem dX2_anyBallot_1 : decode cX2_anyBallot 1 = .ok (.istore_n 1, 1) := by decide +kernel
theorem dX2_anyBallot_2 : decode cX2_anyBallot 2 = .ok (.iload_n 1, 1) := by decide +kernel
theorem dX2_anyBallot_3 : decode cX2_anyBallot 3 = .ok (.iconst 3, 1) := by decide +kernel
theorem dX2_anyBallot_4 : decode cX2_anyBallot 4 = .ok (.if_icmp .ge 20, 3) := by decide +kernel
theorem dX2_anyBallot_7 : decode cX2_anyBallot 7 = .ok (.aload_n 0, 1) := by decide +kernel
theorem dX2_anyBallot_8 : decode cX2_anyBallot 8 = .ok (.getfield 28, 3) := by decide +kernel
theorem dX2_anyBallot_11 : decode cX2_anyBallot 11 = .ok (.iload_n 1, 1) := by decide +kernel
theorem dX2_anyBallot_12 : decode cX2_anyBallot 12 = .ok (.iaload, 1) := by decide +kernel
theorem dX2_anyBallot_13 : decode cX2_anyBallot 13 = .ok (.ifCond .eq 5, 3) := by decide +kernel
theorem dX2_anyBallot_16 : decode cX2_anyBallot 16 = .ok (.iconst 1, 1) := by decide +kernel
theorem dX2_anyBallot_17 : decode cX2_anyBallot 17 = .ok (.ireturn, 1) := by decide +kernel
theorem dX2_anyBallot_18 : decode cX2_anyBallot 18 = .ok (.iinc 1 1, 3) := by decide +kernel
theorem dX2_anyBallot_21 : decode cX2_anyBallot 21 = .ok (.goto (-19), 3) := by decide +kernel
theorem dX2_anyBallot_24 : decode cX2_anyBallot 24 = .ok (.iconst 0, 1) := by decide +kernel
theorem dX2_anyBallot_25 : decode cX2_anyBallot 25 = .ok (.ireturn, 1) := by decide +kernel
theorem dX2_nextBallot_0 : decode cX2_nextBallot 0 = .ok (.aload_n 0, 1) := by decide +kernel
theorem dX2_nextBallot_1 : decode cX2_nextBallot 1 = .ok (.getfield 28, 3) := by decide +kernel
theorem dX2_nextBallot_4 : decode cX2_nextBallot 4 = .ok (.iload_n 1, 1) := by decide +kernel
theorem dX2_nextBallot_5 : decode cX2_nextBallot 5 = .ok (.iaload, 1) := by decide +kernel
theorem dX2_nextBallot_6 : decode cX2_nextBallot 6 = .ok (.aload_n 0, 1) := by decide +kernel
theorem dX2_nextBallot_7 : decode cX2_nextBallot 7 = .ok (.getfield 31, 3) := by decide +kernel
theorem dX2_nextBallot_10 : decode cX2_nextBallot 10 = .ok (.iload_n 1, 1) := by decide +kernel
theorem dX2_nextBallot_11 : decode cX2_nextBallot 11 = .ok (.iaload, 1) := by decide +kernel
theorem dX2_nextBallot_12 : decode cX2_nextBallot 12 = .ok (.invokestatic 149, 3) := by decide +kernel
theorem dX2_nextBallot_15 : decode cX2_nextBallot 15 = .ok (.istore_n 2, 1) := by decide +kernel
theorem dX2_nextBallot_16 : decode cX2_nextBallot 16 = .ok (.iload_n 2, 1) := by decide +kernel
theorem dX2_nextBallot_17 : decode cX2_nextBallot 17 = .ok (.iconst 3, 1) := by decide +kernel
theorem dX2_nextBallot_18 : decode cX2_nextBallot 18 = .ok (.iadd, 1) := by decide +kernel
theorem dX2_nextBallot_19 : decode cX2_nextBallot 19 = .ok (.iconst 1, 1) := by decide +kernel
theorem dX2_nextBallot_20 : decode cX2_nextBallot 20 = .ok (.isub, 1) := by decide +kernel
theorem dX2_nextBallot_21 : decode cX2_nextBallot 21 = .ok (.iload_n 1, 1) := by decide +kernel
theorem dX2_nextBallot_22 : decode cX2_nextBallot 22 = .ok (.isub, 1) := by decide +kernel
theorem dX2_nextBallot_23 : decode cX2_nextBallot 23 = .ok (.iconst 3, 1) := by decide +kernel
theorem dX2_nextBallot_24 : decode cX2_nextBallot 24 = .ok (.idiv, 1) := by decide +kernel
theorem dX2_nextBallot_25 : decode cX2_nextBallot 25 = .ok (.istore_n 3, 1) := by decide +kernel
theorem dX2_nextBallot_26 : decode cX2_nextBallot 26 = .ok (.iconst 3, 1) := by decide +kernel
theorem dX2_nextBallot_27 : decode cX2_nextBallot 27 = .ok (.iload_n 3, 1) := by decide +kernel
theorem dX2_nextBallot_28 : decode cX2_nextBallot 28 = .ok (.imul, 1) := by decide +kernel
theorem dX2_nextBallot_29 : decode cX2_nextBallot 29 = .ok (.iload_n 1, 1) := by decide +kernel
theorem dX2_nextBallot_30 : decode cX2_nextBallot 30 = .ok (.iadd, 1) := by decide +kernel
theorem dX2_nextBallot_31 : decode cX2_nextBallot 31 = .ok (.iconst 1, 1) := by decide +kernel
theorem dX2_nextBallot_32 : decode cX2_nextBallot 32 = .ok (.iadd, 1) := by decide +kernel
theorem dX2_nextBallot_33 : decode cX2_nextBallot 33 = .ok (.ireturn, 1) := by decide +kernel
set_option maxRecDepth 20000 in
theorem ggX2_offersOf_X4_cell : GoodIn wsX2_offersOf wsX4_cell := goodIn_r _ [4] (by decide +kernel) (by decide +kernel)
set_option maxRecDepth 20000 in
theorem gX2_offersOf_X4_cell_n104 : GoodIn wsX2_offersOf (wsX4_cell) := ggX2_offersOf_X4_cell
theorem dX2_offersOf_0 : decode cX2_offersOf 0 = .ok (.iconst 0, 1) := by decide +kernel
theorem dX2_offersOf_1 : decode cX2_offersOf 1 = .ok (.istore_n 2, 1) := by decide +kernel
theorem dX2_offersOf_2 : decode cX2_offersOf 2 = .ok (.iconst 1, 1) := by decide +kernel
theorem dX2_offersOf_3 : decode cX2_offersOf 3 = .ok (.istore_n 3, 1) := by decide +kernel
theorem dX2_offersOf_4 : decode cX2_offersOf 4 = .ok (.iload_n 3, 1) := by decide +kernel
theorem dX2_offersOf_5 : decode cX2_offersOf 5 = .ok (.bipush 16, 2) := by decide +kernel
theorem dX2_offersOf_7 : decode cX2_offersOf 7 = .ok (.if_icmp .gt 25, 3) := by decide +kernel
theorem dX2_offersOf_10 : decode cX2_offersOf 10 = .ok (.aload_n 0, 1) := by decide +kernel
theorem dX2_offersOf_11 : decode cX2_offersOf 11 = .ok (.getfield 37, 3) := by decide +kernel
theorem dX2_offersOf_14 : decode cX2_offersOf 14 = .ok (.iload_n 1, 1) := by decide +kernel
theorem dX2_offersOf_15 : decode cX2_offersOf 15 = .ok (.iload_n 3, 1) := by decide +kernel
theorem dX2_offersOf_16 : decode cX2_offersOf 16 = .ok (.invokestatic 104, 3) := by decide +kernel
theorem dX2_offersOf_19 : decode cX2_offersOf 19 = .ok (.iaload, 1) := by decide +kernel
theorem dX2_offersOf_20 : decode cX2_offersOf 20 = .ok (.ifCond .eq 6, 3) := by decide +kernel
theorem dX2_offersOf_23 : decode cX2_offersOf 23 = .ok (.iinc 2 1, 3) := by decide +kernel
theorem dX2_offersOf_26 : decode cX2_offersOf 26 = .ok (.iinc 3 1, 3) := by decide +kernel
theorem dX2_offersOf_29 : decode cX2_offersOf 29 = .ok (.goto (-25), 3) := by decide +kernel
theorem dX2_offersOf_32 : decode cX2_offersOf 32 = .ok (.iload_n 2, 1) := by decide +kernel
theorem dX2_offersOf_33 : decode cX2_offersOf 33 = .ok (.ireturn, 1) := by decide +kernel
set_option maxRecDepth 20000 in
theorem ggX2_promisesMissing_X2_votersOf : GoodIn wsX2_promisesMissing wsX2_votersOf := goodIn_r _ [10, 11, 31, 32, 33, 34, 35, 36, 37, 38, 39, 40, 41, 42, 43, 44, 45, 46] (by decide +kernel) (by decide +kernel)
set_option maxRecDepth 20000 in
theorem gX2_promisesMissing_X2_votersOf : GoodIn wsX2_promisesMissing (wsV RX2 136 RX2 yX2_votersOf wsX2_votersOf) := goodIn_app (goodIn_of _ (by decide +kernel)) ggX2_promisesMissing_X2_votersOf
set_option maxRecDepth 20000 in
theorem ggX2_promisesMissing_X2_firstSize : GoodIn wsX2_promisesMissing wsX2_firstSize := goodIn_r _ [15, 16, 17, 18, 19, 20, 21, 22, 23, 24, 25, 9, 26, 27, 28, 29, 4, 30, 31, 32, 33, 34, 35, 36, 37, 38, 39, 40, 41, 42, 43, 44, 45, 46] (by decide +kernel) (by decide +kernel)
set_option maxRecDepth 20000 in
theorem gX2_promisesMissing_X2_firstSize : GoodIn wsX2_promisesMissing (wsV RX2 152 RX2 yX2_firstSize wsX2_firstSize) := goodIn_app (goodIn_of _ (by decide +kernel)) ggX2_promisesMissing_X2_firstSize
set_option maxRecDepth 20000 in
theorem ggX2_promisesMissing_J6_bitCount_0f7a4 : GoodIn wsX2_promisesMissing wsJ6_bitCount_0f7a4 := goodIn_r _ [19, 20, 21, 22] (by decide +kernel) (by decide +kernel)
set_option maxRecDepth 20000 in
theorem gX2_promisesMissing_J6_bitCount_0f7a4 : GoodIn wsX2_promisesMissing (va_wsS RX2 85 yJ6_bitCount_0f7a4 wsJ6_bitCount_0f7a4) := goodIn_app (goodIn_of _ (by decide +kernel)) ggX2_promisesMissing_J6_bitCount_0f7a4
theorem dX2_promisesMissing_0 : decode cX2_promisesMissing 0 = .ok (.aload_n 0, 1) := by decide +kernel
theorem dX2_promisesMissing_1 : decode cX2_promisesMissing 1 = .ok (.iload_n 2, 1) := by decide +kernel
theorem dX2_promisesMissing_2 : decode cX2_promisesMissing 2 = .ok (.invokevirtual 136, 3) := by decide +kernel
theorem dX2_promisesMissing_5 : decode cX2_promisesMissing 5 = .ok (.istore_n 3, 1) := by decide +kernel
theorem dX2_promisesMissing_6 : decode cX2_promisesMissing 6 = .ok (.iconst 0, 1) := by decide +kernel
theorem dX2_promisesMissing_7 : decode cX2_promisesMissing 7 = .ok (.aload_n 0, 1) := by decide +kernel
theorem dX2_promisesMissing_8 : decode cX2_promisesMissing 8 = .ok (.iload_n 3, 1) := by decide +kernel
theorem dX2_promisesMissing_9 : decode cX2_promisesMissing 9 = .ok (.invokevirtual 152, 3) := by decide +kernel
theorem dX2_promisesMissing_12 : decode cX2_promisesMissing 12 = .ok (.aload_n 0, 1) := by decide +kernel
theorem dX2_promisesMissing_13 : decode cX2_promisesMissing 13 = .ok (.getfield 34, 3) := by decide +kernel
theorem dX2_promisesMissing_16 : decode cX2_promisesMissing 16 = .ok (.iload_n 1, 1) := by decide +kernel
theorem dX2_promisesMissing_17 : decode cX2_promisesMissing 17 = .ok (.iaload, 1) := by decide +kernel
theorem dX2_promisesMissing_18 : decode cX2_promisesMissing 18 = .ok (.iload_n 3, 1) := by decide +kernel
theorem dX2_promisesMissing_19 : decode cX2_promisesMissing 19 = .ok (.iand, 1) := by decide +kernel
theorem dX2_promisesMissing_20 : decode cX2_promisesMissing 20 = .ok (.invokestatic 85, 3) := by decide +kernel
theorem dX2_promisesMissing_23 : decode cX2_promisesMissing 23 = .ok (.isub, 1) := by decide +kernel
theorem dX2_promisesMissing_24 : decode cX2_promisesMissing 24 = .ok (.invokestatic 149, 3) := by decide +kernel
theorem dX2_promisesMissing_27 : decode cX2_promisesMissing 27 = .ok (.ireturn, 1) := by decide +kernel
set_option maxRecDepth 20000 in
theorem ggX2_boundValue_X2_votersOf : GoodIn wsX2_boundValue wsX2_votersOf := goodIn_r _ [8, 9, 15, 16, 17, 18, 19, 20, 21, 22, 23, 24, 25, 26, 27, 28, 29, 30] (by decide +kernel) (by decide +kernel)
set_option maxRecDepth 20000 in
theorem gX2_boundValue_X2_votersOf : GoodIn wsX2_boundValue (wsV RX2 136 RX2 yX2_votersOf wsX2_votersOf) := goodIn_app (goodIn_of _ (by decide +kernel)) ggX2_boundValue_X2_votersOf
set_option maxRecDepth 20000 in
theorem ggX2_boundValue_X4_cell : GoodIn wsX2_boundValue wsX4_cell := goodIn_r _ [12] (by decide +kernel) (by decide +kernel)
set_option maxRecDepth 20000 in
theorem gX2_boundValue_X4_cell_n104 : GoodIn wsX2_boundValue (wsX4_cell) := ggX2_boundValue_X4_cell
set_option maxRecDepth 20000 in
theorem ggX2_boundValue_X4_has : GoodIn wsX2_boundValue wsX4_has := goodIn_r _ [14] (by decide +kernel) (by decide +kernel)
set_option maxRecDepth 20000 in
theorem gX2_boundValue_X4_has_n81 : GoodIn wsX2_boundValue (wsX4_has) := ggX2_boundValue_X4_has
theorem dX2_boundValue_0 : decode cX2_boundValue 0 = .ok (.aload_n 0, 1) := by decide +kernel
theorem dX2_boundValue_1 : decode cX2_boundValue 1 = .ok (.getfield 34, 3) := by decide +kernel
theorem dX2_boundValue_4 : decode cX2_boundValue 4 = .ok (.iload_n 1, 1) := by decide +kernel
theorem dX2_boundValue_5 : decode cX2_boundValue 5 = .ok (.iaload, 1) := by decide +kernel
theorem dX2_boundValue_6 : decode cX2_boundValue 6 = .ok (.aload_n 0, 1) := by decide +kernel
theorem dX2_boundValue_7 : decode cX2_boundValue 7 = .ok (.iload_n 2, 1) := by decide +kernel
theorem dX2_boundValue_8 : decode cX2_boundValue 8 = .ok (.invokevirtual 136, 3) := by decide +kernel
theorem dX2_boundValue_11 : decode cX2_boundValue 11 = .ok (.iand, 1) := by decide +kernel
theorem dX2_boundValue_12 : decode cX2_boundValue 12 = .ok (.istore_n 3, 1) := by decide +kernel
theorem dX2_boundValue_13 : decode cX2_boundValue 13 = .ok (.iconst 0, 1) := by decide +kernel
theorem dX2_boundValue_14 : decode cX2_boundValue 14 = .ok (.istore 4, 2) := by decide +kernel
theorem dX2_boundValue_16 : decode cX2_boundValue 16 = .ok (.iconst 0, 1) := by decide +kernel
theorem dX2_boundValue_17 : decode cX2_boundValue 17 = .ok (.istore 5, 2) := by decide +kernel
theorem dX2_boundValue_19 : decode cX2_boundValue 19 = .ok (.iconst 0, 1) := by decide +kernel
theorem dX2_boundValue_20 : decode cX2_boundValue 20 = .ok (.istore 6, 2) := by decide +kernel
theorem dX2_boundValue_22 : decode cX2_boundValue 22 = .ok (.iload 6, 2) := by decide +kernel
theorem dX2_boundValue_24 : decode cX2_boundValue 24 = .ok (.bipush 6, 2) := by decide +kernel
theorem dX2_boundValue_26 : decode cX2_boundValue 26 = .ok (.if_icmp .ge 61, 3) := by decide +kernel
theorem dX2_boundValue_29 : decode cX2_boundValue 29 = .ok (.iload_n 1, 1) := by decide +kernel
theorem dX2_boundValue_30 : decode cX2_boundValue 30 = .ok (.bipush 6, 2) := by decide +kernel
theorem dX2_boundValue_32 : decode cX2_boundValue 32 = .ok (.imul, 1) := by decide +kernel
theorem dX2_boundValue_33 : decode cX2_boundValue 33 = .ok (.iload 6, 2) := by decide +kernel
theorem dX2_boundValue_35 : decode cX2_boundValue 35 = .ok (.iadd, 1) := by decide +kernel
theorem dX2_boundValue_36 : decode cX2_boundValue 36 = .ok (.iload_n 2, 1) := by decide +kernel
theorem dX2_boundValue_37 : decode cX2_boundValue 37 = .ok (.invokestatic 104, 3) := by decide +kernel
theorem dX2_boundValue_40 : decode cX2_boundValue 40 = .ok (.istore 7, 2) := by decide +kernel
theorem dX2_boundValue_42 : decode cX2_boundValue 42 = .ok (.iload_n 3, 1) := by decide +kernel
theorem dX2_boundValue_43 : decode cX2_boundValue 43 = .ok (.iload 6, 2) := by decide +kernel
theorem dX2_boundValue_45 : decode cX2_boundValue 45 = .ok (.invokestatic 81, 3) := by decide +kernel
theorem dX2_boundValue_48 : decode cX2_boundValue 48 = .ok (.ifCond .eq 33, 3) := by decide +kernel
theorem dX2_boundValue_51 : decode cX2_boundValue 51 = .ok (.aload_n 0, 1) := by decide +kernel
theorem dX2_boundValue_52 : decode cX2_boundValue 52 = .ok (.getfield 40, 3) := by decide +kernel
theorem dX2_boundValue_55 : decode cX2_boundValue 55 = .ok (.iload 7, 2) := by decide +kernel
theorem dX2_boundValue_57 : decode cX2_boundValue 57 = .ok (.iaload, 1) := by decide +kernel
theorem dX2_boundValue_58 : decode cX2_boundValue 58 = .ok (.iload 4, 2) := by decide +kernel
theorem dX2_boundValue_60 : decode cX2_boundValue 60 = .ok (.if_icmp .le 21, 3) := by decide +kernel
theorem dX2_boundValue_63 : decode cX2_boundValue 63 = .ok (.aload_n 0, 1) := by decide +kernel
theorem dX2_boundValue_64 : decode cX2_boundValue 64 = .ok (.getfield 40, 3) := by decide +kernel
theorem dX2_boundValue_67 : decode cX2_boundValue 67 = .ok (.iload 7, 2) := by decide +kernel
theorem dX2_boundValue_69 : decode cX2_boundValue 69 = .ok (.iaload, 1) := by decide +kernel
theorem dX2_boundValue_70 : decode cX2_boundValue 70 = .ok (.istore 4, 2) := by decide +kernel
theorem dX2_boundValue_72 : decode cX2_boundValue 72 = .ok (.aload_n 0, 1) := by decide +kernel
theorem dX2_boundValue_73 : decode cX2_boundValue 73 = .ok (.getfield 43, 3) := by decide +kernel
theorem dX2_boundValue_76 : decode cX2_boundValue 76 = .ok (.iload 7, 2) := by decide +kernel
theorem dX2_boundValue_78 : decode cX2_boundValue 78 = .ok (.iaload, 1) := by decide +kernel
theorem dX2_boundValue_79 : decode cX2_boundValue 79 = .ok (.istore 5, 2) := by decide +kernel
theorem dX2_boundValue_81 : decode cX2_boundValue 81 = .ok (.iinc 6 1, 3) := by decide +kernel
theorem dX2_boundValue_84 : decode cX2_boundValue 84 = .ok (.goto (-62), 3) := by decide +kernel
theorem dX2_boundValue_87 : decode cX2_boundValue 87 = .ok (.iload 5, 2) := by decide +kernel
theorem dX2_boundValue_89 : decode cX2_boundValue 89 = .ok (.ireturn, 1) := by decide +kernel
set_option maxRecDepth 20000 in
theorem ggX2_mayOffer_X2_isOpen : GoodIn wsX2_mayOffer wsX2_isOpen := goodIn_r _ [8, 9, 10, 11, 7, 12, 13, 49, 50, 51, 52, 53, 54, 55, 56, 57, 58, 59, 60, 61, 62, 63, 64] (by decide +kernel) (by decide +kernel)
set_option maxRecDepth 20000 in
theorem gX2_mayOffer_X2_isOpen : GoodIn wsX2_mayOffer (wsV RX2 155 RX2 yX2_isOpen wsX2_isOpen) := goodIn_app (goodIn_of _ (by decide +kernel)) ggX2_mayOffer_X2_isOpen
set_option maxRecDepth 20000 in
theorem ggX2_mayOffer_X2_promisesMissing : GoodIn wsX2_mayOffer wsX2_promisesMissing := goodIn_r _ [17, 18, 19, 20, 21, 22, 23, 24, 25, 7, 26, 13, 27, 28, 29, 30, 31, 32, 33, 34, 35, 36, 37, 38, 39, 40, 41, 42, 43, 44, 45, 49, 50, 51, 52, 53, 54, 55, 56, 57, 58, 59, 60, 61, 62, 63, 64] (by decide +kernel) (by decide +kernel)
set_option maxRecDepth 20000 in
theorem gX2_mayOffer_X2_promisesMissing : GoodIn wsX2_mayOffer (wsV RX2 158 RX2 yX2_promisesMissing wsX2_promisesMissing) := goodIn_app (goodIn_of _ (by decide +kernel)) ggX2_mayOffer_X2_promisesMissing
set_option maxRecDepth 20000 in
theorem ggX2_mayOffer_X4_cell : GoodIn wsX2_mayOffer wsX4_cell := goodIn_r _ [48] (by decide +kernel) (by decide +kernel)
set_option maxRecDepth 20000 in
theorem gX2_mayOffer_X4_cell_n104 : GoodIn wsX2_mayOffer (wsX4_cell) := ggX2_mayOffer_X4_cell
theorem dX2_mayOffer_0 : decode cX2_mayOffer 0 = .ok (.aload_n 0, 1) := by decide +kernel
theorem dX2_mayOffer_1 : decode cX2_mayOffer 1 = .ok (.getfield 28, 3) := by decide +kernel
theorem dX2_mayOffer_4 : decode cX2_mayOffer 4 = .ok (.iload_n 1, 1) := by decide +kernel
theorem dX2_mayOffer_5 : decode cX2_mayOffer 5 = .ok (.iaload, 1) := by decide +kernel
theorem dX2_mayOffer_6 : decode cX2_mayOffer 6 = .ok (.ifCond .eq 45, 3) := by decide +kernel
theorem dX2_mayOffer_9 : decode cX2_mayOffer 9 = .ok (.iload_n 2, 1) := by decide +kernel
theorem dX2_mayOffer_10 : decode cX2_mayOffer 10 = .ok (.aload_n 0, 1) := by decide +kernel
theorem dX2_mayOffer_11 : decode cX2_mayOffer 11 = .ok (.getfield 52, 3) := by decide +kernel
theorem dX2_mayOffer_14 : decode cX2_mayOffer 14 = .ok (.if_icmp .le 37, 3) := by decide +kernel
theorem dX2_mayOffer_17 : decode cX2_mayOffer 17 = .ok (.aload_n 0, 1) := by decide +kernel
theorem dX2_mayOffer_18 : decode cX2_mayOffer 18 = .ok (.iload_n 2, 1) := by decide +kernel
theorem dX2_mayOffer_19 : decode cX2_mayOffer 19 = .ok (.invokevirtual 155, 3) := by decide +kernel
theorem dX2_mayOffer_22 : decode cX2_mayOffer 22 = .ok (.ifCond .eq 29, 3) := by decide +kernel
theorem dX2_mayOffer_25 : decode cX2_mayOffer 25 = .ok (.aload_n 0, 1) := by decide +kernel
theorem dX2_mayOffer_26 : decode cX2_mayOffer 26 = .ok (.iload_n 1, 1) := by decide +kernel
theorem dX2_mayOffer_27 : decode cX2_mayOffer 27 = .ok (.iload_n 2, 1) := by decide +kernel
theorem dX2_mayOffer_28 : decode cX2_mayOffer 28 = .ok (.invokevirtual 158, 3) := by decide +kernel
theorem dX2_mayOffer_31 : decode cX2_mayOffer 31 = .ok (.ifCond .ne 20, 3) := by decide +kernel
theorem dX2_mayOffer_34 : decode cX2_mayOffer 34 = .ok (.aload_n 0, 1) := by decide +kernel
theorem dX2_mayOffer_35 : decode cX2_mayOffer 35 = .ok (.getfield 37, 3) := by decide +kernel
theorem dX2_mayOffer_38 : decode cX2_mayOffer 38 = .ok (.iload_n 1, 1) := by decide +kernel
theorem dX2_mayOffer_39 : decode cX2_mayOffer 39 = .ok (.iload_n 2, 1) := by decide +kernel
theorem dX2_mayOffer_40 : decode cX2_mayOffer 40 = .ok (.invokestatic 104, 3) := by decide +kernel
theorem dX2_mayOffer_43 : decode cX2_mayOffer 43 = .ok (.iaload, 1) := by decide +kernel
theorem dX2_mayOffer_44 : decode cX2_mayOffer 44 = .ok (.ifCond .ne 7, 3) := by decide +kernel
theorem dX2_mayOffer_47 : decode cX2_mayOffer 47 = .ok (.iconst 1, 1) := by decide +kernel
theorem dX2_mayOffer_48 : decode cX2_mayOffer 48 = .ok (.goto 4, 3) := by decide +kernel
theorem dX2_mayOffer_51 : decode cX2_mayOffer 51 = .ok (.iconst 0, 1) := by decide +kernel
theorem dX2_mayOffer_52 : decode cX2_mayOffer 52 = .ok (.ireturn, 1) := by decide +kernel
set_option maxRecDepth 20000 in
theorem ggX2_mayAskVote_X4_cell : GoodIn wsX2_mayAskVote wsX4_cell := goodIn_r _ [6] (by decide +kernel) (by decide +kernel)
set_option maxRecDepth 20000 in
theorem gX2_mayAskVote_X4_cell_n104 : GoodIn wsX2_mayAskVote (wsX4_cell) := ggX2_mayAskVote_X4_cell
set_option maxRecDepth 20000 in
theorem ggX2_mayAskVote_X4_has : GoodIn wsX2_mayAskVote wsX4_has := goodIn_r _ [8] (by decide +kernel) (by decide +kernel)
set_option maxRecDepth 20000 in
theorem gX2_mayAskVote_X4_has_n81 : GoodIn wsX2_mayAskVote (wsX4_has) := ggX2_mayAskVote_X4_has
set_option maxRecDepth 20000 in
theorem ggX2_mayAskVote_X2_votersOf : GoodIn wsX2_mayAskVote wsX2_votersOf := goodIn_r _ [13, 14, 15, 16, 17, 18, 19, 20, 21, 22, 23, 24, 25, 26, 27, 28, 29, 30] (by decide +kernel) (by decide +kernel)
set_option maxRecDepth 20000 in
theorem gX2_mayAskVote_X2_votersOf : GoodIn wsX2_mayAskVote (wsV RX2 136 RX2 yX2_votersOf wsX2_votersOf) := goodIn_app (goodIn_of _ (by decide +kernel)) ggX2_mayAskVote_X2_votersOf
theorem dX2_mayAskVote_0 : decode cX2_mayAskVote 0 = .ok (.aload_n 0, 1) := by decide +kernel
theorem dX2_mayAskVote_1 : decode cX2_mayAskVote 1 = .ok (.getfield 37, 3) := by decide +kernel
theorem dX2_mayAskVote_4 : decode cX2_mayAskVote 4 = .ok (.iload_n 1, 1) := by decide +kernel
theorem dX2_mayAskVote_5 : decode cX2_mayAskVote 5 = .ok (.iload_n 2, 1) := by decide +kernel
theorem dX2_mayAskVote_6 : decode cX2_mayAskVote 6 = .ok (.invokestatic 104, 3) := by decide +kernel
theorem dX2_mayAskVote_9 : decode cX2_mayAskVote 9 = .ok (.iaload, 1) := by decide +kernel
theorem dX2_mayAskVote_10 : decode cX2_mayAskVote 10 = .ok (.ifCond .eq 38, 3) := by decide +kernel
theorem dX2_mayAskVote_13 : decode cX2_mayAskVote 13 = .ok (.iload_n 2, 1) := by decide +kernel
theorem dX2_mayAskVote_14 : decode cX2_mayAskVote 14 = .ok (.aload_n 0, 1) := by decide +kernel
theorem dX2_mayAskVote_15 : decode cX2_mayAskVote 15 = .ok (.getfield 52, 3) := by decide +kernel
theorem dX2_mayAskVote_18 : decode cX2_mayAskVote 18 = .ok (.if_icmp .le 30, 3) := by decide +kernel
theorem dX2_mayAskVote_21 : decode cX2_mayAskVote 21 = .ok (.aload_n 0, 1) := by decide +kernel
theorem dX2_mayAskVote_22 : decode cX2_mayAskVote 22 = .ok (.getfield 9, 3) := by decide +kernel
theorem dX2_mayAskVote_25 : decode cX2_mayAskVote 25 = .ok (.iload_n 3, 1) := by decide +kernel
theorem dX2_mayAskVote_26 : decode cX2_mayAskVote 26 = .ok (.invokestatic 81, 3) := by decide +kernel
theorem dX2_mayAskVote_29 : decode cX2_mayAskVote 29 = .ok (.ifCond .eq 19, 3) := by decide +kernel
theorem dX2_mayAskVote_32 : decode cX2_mayAskVote 32 = .ok (.aload_n 0, 1) := by decide +kernel
theorem dX2_mayAskVote_33 : decode cX2_mayAskVote 33 = .ok (.iload_n 2, 1) := by decide +kernel
theorem dX2_mayAskVote_34 : decode cX2_mayAskVote 34 = .ok (.invokevirtual 136, 3) := by decide +kernel
theorem dX2_mayAskVote_37 : decode cX2_mayAskVote 37 = .ok (.iload_n 3, 1) := by decide +kernel
theorem dX2_mayAskVote_38 : decode cX2_mayAskVote 38 = .ok (.invokestatic 81, 3) := by decide +kernel
theorem dX2_mayAskVote_41 : decode cX2_mayAskVote 41 = .ok (.ifCond .eq 7, 3) := by decide +kernel
theorem dX2_mayAskVote_44 : decode cX2_mayAskVote 44 = .ok (.iconst 1, 1) := by decide +kernel
theorem dX2_mayAskVote_45 : decode cX2_mayAskVote 45 = .ok (.goto 4, 3) := by decide +kernel
theorem dX2_mayAskVote_48 : decode cX2_mayAskVote 48 = .ok (.iconst 0, 1) := by decide +kernel
theorem dX2_mayAskVote_49 : decode cX2_mayAskVote 49 = .ok (.ireturn, 1) := by decide +kernel
theorem dX3_init_0 : decode cX3_init 0 = .ok (.aload_n 0, 1) := by decide +kernel
theorem dX3_init_1 : decode cX3_init 1 = .ok (.invokespecial 3, 3) := by decide +kernel
theorem dX3_init_4 : decode cX3_init 4 = .ok (.aload_n 0, 1) := by decide +kernel
theorem dX3_init_5 : decode cX3_init 5 = .ok (.bipush 60, 2) := by decide +kernel
theorem dX3_init_7 : decode cX3_init 7 = .ok (.newarray .char, 2) := by decide +kernel
theorem dX3_init_9 : decode cX3_init 9 = .ok (.putfield 11, 3) := by decide +kernel
theorem dX3_init_12 : decode cX3_init 12 = .ok (.return_, 1) := by decide +kernel
theorem dX3_append_0 : decode cX3_append 0 = .ok (.aload_n 0, 1) := by decide +kernel
theorem dX3_append_1 : decode cX3_append 1 = .ok (.getfield 15, 3) := by decide +kernel
theorem dX3_append_4 : decode cX3_append 4 = .ok (.bipush 60, 2) := by decide +kernel
theorem dX3_append_6 : decode cX3_append 6 = .ok (.if_icmp .lt 6, 3) := by decide +kernel
theorem dX3_append_9 : decode cX3_append 9 = .ok (.bipush (-3), 2) := by decide +kernel
theorem dX3_append_11 : decode cX3_append 11 = .ok (.ireturn, 1) := by decide +kernel
theorem dX3_append_12 : decode cX3_append 12 = .ok (.aload_n 0, 1) := by decide +kernel
theorem dX3_append_13 : decode cX3_append 13 = .ok (.getfield 11, 3) := by decide +kernel
theorem dX3_append_16 : decode cX3_append 16 = .ok (.aload_n 0, 1) := by decide +kernel
theorem dX3_append_17 : decode cX3_append 17 = .ok (.getfield 15, 3) := by decide +kernel
theorem dX3_append_20 : decode cX3_append 20 = .ok (.iload_n 1, 1) := by decide +kernel
theorem dX3_append_21 : decode cX3_append 21 = .ok (.castore, 1) := by decide +kernel
theorem dX3_append_22 : decode cX3_append 22 = .ok (.aload_n 0, 1) := by decide +kernel
theorem dX3_append_23 : decode cX3_append 23 = .ok (.dup, 1) := by decide +kernel
theorem dX3_append_24 : decode cX3_append 24 = .ok (.getfield 15, 3) := by decide +kernel
theorem dX3_append_27 : decode cX3_append 27 = .ok (.iconst 1, 1) := by decide +kernel
theorem dX3_append_28 : decode cX3_append 28 = .ok (.iadd, 1) := by decide +kernel
theorem dX3_append_29 : decode cX3_append 29 = .ok (.putfield 15, 3) := by decide +kernel
theorem dX3_append_32 : decode cX3_append 32 = .ok (.aload_n 0, 1) := by decide +kernel
theorem dX3_append_33 : decode cX3_append 33 = .ok (.getfield 15, 3) := by decide +kernel
theorem dX3_append_36 : decode cX3_append 36 = .ok (.ireturn, 1) := by decide +kernel
theorem dX3_empty_0 : decode cX3_empty 0 = .ok (.aload_n 0, 1) := by decide +kernel
theorem dX3_empty_1 : decode cX3_empty 1 = .ok (.getfield 15, 3) := by decide +kernel
theorem dX3_empty_4 : decode cX3_empty 4 = .ok (.istore_n 1, 1) := by decide +kernel
theorem dX3_empty_5 : decode cX3_empty 5 = .ok (.aload_n 0, 1) := by decide +kernel
theorem dX3_empty_6 : decode cX3_empty 6 = .ok (.iconst 0, 1) := by decide +kernel
theorem dX3_empty_7 : decode cX3_empty 7 = .ok (.putfield 15, 3) := by decide +kernel
theorem dX3_empty_10 : decode cX3_empty 10 = .ok (.iload_n 1, 1) := by decide +kernel
theorem dX3_empty_11 : decode cX3_empty 11 = .ok (.ireturn, 1) := by decide +kernel
theorem dX3_signAt_0 : decode cX3_signAt 0 = .ok (.iload_n 1, 1) := by decide +kernel
theorem dX3_signAt_1 : decode cX3_signAt 1 = .ok (.ifCond .lt 20, 3) := by decide +kernel
theorem dX3_signAt_4 : decode cX3_signAt 4 = .ok (.iload_n 1, 1) := by decide +kernel
theorem dX3_signAt_5 : decode cX3_signAt 5 = .ok (.aload_n 0, 1) := by decide +kernel
theorem dX3_signAt_6 : decode cX3_signAt 6 = .ok (.getfield 15, 3) := by decide +kernel
theorem dX3_signAt_9 : decode cX3_signAt 9 = .ok (.if_icmp .ge 12, 3) := by decide +kernel
theorem dX3_signAt_12 : decode cX3_signAt 12 = .ok (.aload_n 0, 1) := by decide +kernel
theorem dX3_signAt_13 : decode cX3_signAt 13 = .ok (.getfield 11, 3) := by decide +kernel
theorem dX3_signAt_16 : decode cX3_signAt 16 = .ok (.iload_n 1, 1) := by decide +kernel
theorem dX3_signAt_17 : decode cX3_signAt 17 = .ok (.caload, 1) := by decide +kernel
theorem dX3_signAt_18 : decode cX3_signAt 18 = .ok (.goto 4, 3) := by decide +kernel
theorem dX3_signAt_21 : decode cX3_signAt 21 = .ok (.iconst 0, 1) := by decide +kernel
theorem dX3_signAt_22 : decode cX3_signAt 22 = .ok (.ireturn, 1) := by decide +kernel
end
section
set_option maxRecDepth 20000 in
theorem ggX4_init_X2_init : GoodIn wsX4_init wsX2_init := goodIn_r _ [22, 23, 2, 3, 24, 25, 26, 27, 28, 29, 30, 31, 32, 33, 34, 35, 36, 37, 55, 56, 57, 58, 59, 60, 61, 62, 63, 64, 65, 66, 67, 68, 69, 70] (by decide +kernel) (by decide +kernel)
set_option maxRecDepth 20000 in
theorem gX4_init_X2_init_n9 : GoodIn wsX4_init (wsX2_init) := ggX4_init_X2_init
set_option maxRecDepth 20000 in
theorem ggX4_init_X0_init : GoodIn wsX4_init wsX0_init := goodIn_r _ [40, 41, 2, 3, 42, 43, 5, 6, 21, 22, 23, 24, 25, 26, 27, 28, 29, 30, 31, 32, 33, 34, 35, 36, 37, 81, 82, 83, 55, 56, 57, 58, 59, 60, 61, 62, 63, 64, 65, 66, 67, 68, 69, 70] (by decide +kernel) (by decide +kernel)
set_option maxRecDepth 20000 in
theorem gX4_init_X0_init : GoodIn wsX4_init (wsX0_init) := ggX4_init_X0_init
set_option maxRecDepth 20000 in
theorem ggX4_init_X3_init : GoodIn wsX4_init wsX3_init := goodIn_r _ [45, 46, 2, 3, 47, 48, 84, 85] (by decide +kernel) (by decide +kernel)
set_option maxRecDepth 20000 in
theorem gX4_init_X3_init_n28 : GoodIn wsX4_init (wsX3_init) := ggX4_init_X3_init
set_option maxRecDepth 20000 in
theorem ggX4_init_X1_init : GoodIn wsX4_init wsX1_init := goodIn_r _ [50, 51, 2, 3, 26, 52, 53, 54, 86, 87, 88, 89, 90, 91] (by decide +kernel) (by decide +kernel)
set_option maxRecDepth 20000 in
theorem gX4_init_X1_init_n35 : GoodIn wsX4_init (wsX1_init) := ggX4_init_X1_init
theorem dX4_init_0 : decode cX4_init 0 = .ok (.aload_n 0, 1) := by decide +kernel
theorem dX4_init_1 : decode cX4_init 1 = .ok (.invokespecial 1, 3) := by decide +kernel
theorem dX4_init_4 : decode cX4_init 4 = .ok (.aload_n 0, 1) := by decide +kernel
theorem dX4_init_5 : decode cX4_init 5 = .ok (.new 7, 3) := by decide +kernel
theorem dX4_init_8 : decode cX4_init 8 = .ok (.dup, 1) := by decide +kernel
theorem dX4_init_9 : decode cX4_init 9 = .ok (.invokespecial 9, 3) := by decide +kernel
theorem dX4_init_12 : decode cX4_init 12 = .ok (.putfield 10, 3) := by decide +kernel
theorem dX4_init_15 : decode cX4_init 15 = .ok (.aload_n 0, 1) := by decide +kernel
theorem dX4_init_16 : decode cX4_init 16 = .ok (.new 7, 3) := by decide +kernel
theorem dX4_init_19 : decode cX4_init 19 = .ok (.dup, 1) := by decide +kernel
theorem dX4_init_20 : decode cX4_init 20 = .ok (.invokespecial 9, 3) := by decide +kernel
theorem dX4_init_23 : decode cX4_init 23 = .ok (.putfield 16, 3) := by decide +kernel
theorem dX4_init_26 : decode cX4_init 26 = .ok (.aload_n 0, 1) := by decide +kernel
theorem dX4_init_27 : decode cX4_init 27 = .ok (.new 19, 3) := by decide +kernel
theorem dX4_init_30 : decode cX4_init 30 = .ok (.dup, 1) := by decide +kernel
theorem dX4_init_31 : decode cX4_init 31 = .ok (.invokespecial 21, 3) := by decide +kernel
theorem dX4_init_34 : decode cX4_init 34 = .ok (.putfield 22, 3) := by decide +kernel
theorem dX4_init_37 : decode cX4_init 37 = .ok (.aload_n 0, 1) := by decide +kernel
theorem dX4_init_38 : decode cX4_init 38 = .ok (.new 26, 3) := by decide +kernel
theorem dX4_init_41 : decode cX4_init 41 = .ok (.dup, 1) := by decide +kernel
theorem dX4_init_42 : decode cX4_init 42 = .ok (.invokespecial 28, 3) := by decide +kernel
theorem dX4_init_45 : decode cX4_init 45 = .ok (.putfield 29, 3) := by decide +kernel
theorem dX4_init_48 : decode cX4_init 48 = .ok (.aload_n 0, 1) := by decide +kernel
theorem dX4_init_49 : decode cX4_init 49 = .ok (.new 33, 3) := by decide +kernel
theorem dX4_init_52 : decode cX4_init 52 = .ok (.dup, 1) := by decide +kernel
theorem dX4_init_53 : decode cX4_init 53 = .ok (.invokespecial 35, 3) := by decide +kernel
theorem dX4_init_56 : decode cX4_init 56 = .ok (.putfield 36, 3) := by decide +kernel
theorem dX4_init_59 : decode cX4_init 59 = .ok (.return_, 1) := by decide +kernel
set_option maxRecDepth 20000 in
theorem ggX4_setUp_X0_draft : GoodIn wsX4_setUp wsX0_draft := goodIn_r _ [7, 8, 9, 10, 11, 12, 13, 14, 15, 16, 17, 18, 19, 20, 21, 22, 23, 24, 25, 26, 27, 28, 29, 30, 31, 32, 33, 34, 35, 36, 37, 38, 39, 40, 41, 78, 79, 80, 81, 82, 83, 84, 85, 86, 87, 88, 89, 90, 91, 92, 93, 94, 95, 96] (by decide +kernel) (by decide +kernel)
set_option maxRecDepth 20000 in
theorem gX4_setUp_X0_draft : GoodIn wsX4_setUp (wsV RX4 40 RX0 yX0_draft wsX0_draft) := goodIn_app (goodIn_of _ (by decide +kernel)) ggX4_setUp_X0_draft
set_option maxRecDepth 20000 in
theorem ggX4_setUp_X2_turn : GoodIn wsX4_setUp wsX2_turn := goodIn_r _ [45, 15, 46, 47, 48, 49, 50, 51, 52, 53, 54, 55, 56, 57, 81, 82, 83, 84, 85, 86, 87, 88, 89, 90, 91, 92, 93, 94, 95, 96] (by decide +kernel) (by decide +kernel)
set_option maxRecDepth 20000 in
theorem gX4_setUp_X2_turn : GoodIn wsX4_setUp (wsV RX4 44 RX2 yX2_turn wsX2_turn) := goodIn_app (goodIn_of _ (by decide +kernel)) ggX4_setUp_X2_turn
set_option maxRecDepth 20000 in
theorem ggX4_setUp_X4_settled : GoodIn wsX4_setUp wsX4_settled := goodIn_r _ [61, 1, 62, 63, 64, 6, 65, 9, 66, 67, 35, 36, 37, 68, 69, 70, 71, 72, 73, 74, 75, 76, 77, 78, 79, 80] (by decide +kernel) (by decide +kernel)
set_option maxRecDepth 20000 in
theorem gX4_setUp_X4_settled : GoodIn wsX4_setUp (wsV RX4 48 RX4 yX4_settled wsX4_settled) := goodIn_app (goodIn_of _ (by decide +kernel)) ggX4_setUp_X4_settled
theorem dX4_setUp_0 : decode cX4_setUp 0 = .ok (.aload_n 0, 1) := by decide +kernel
theorem dX4_setUp_1 : decode cX4_setUp 1 = .ok (.getfield 22, 3) := by decide +kernel
theorem dX4_setUp_4 : decode cX4_setUp 4 = .ok (.aload_n 0, 1) := by decide +kernel
theorem dX4_setUp_5 : decode cX4_setUp 5 = .ok (.getfield 10, 3) := by decide +kernel
theorem dX4_setUp_8 : decode cX4_setUp 8 = .ok (.invokevirtual 40, 3) := by decide +kernel
theorem dX4_setUp_11 : decode cX4_setUp 11 = .ok (.aload_n 0, 1) := by decide +kernel
theorem dX4_setUp_12 : decode cX4_setUp 12 = .ok (.aload_n 0, 1) := by decide +kernel
theorem dX4_setUp_13 : decode cX4_setUp 13 = .ok (.getfield 10, 3) := by decide +kernel
theorem dX4_setUp_16 : decode cX4_setUp 16 = .ok (.iload_n 1, 1) := by decide +kernel
theorem dX4_setUp_17 : decode cX4_setUp 17 = .ok (.iload_n 2, 1) := by decide +kernel
theorem dX4_setUp_18 : decode cX4_setUp 18 = .ok (.invokevirtual 44, 3) := by decide +kernel
theorem dX4_setUp_21 : decode cX4_setUp 21 = .ok (.invokevirtual 48, 3) := by decide +kernel
theorem dX4_setUp_24 : decode cX4_setUp 24 = .ok (.ireturn, 1) := by decide +kernel
set_option maxRecDepth 20000 in
theorem ggX4_setSecond_X0_draft : GoodIn wsX4_setSecond wsX0_draft := goodIn_r _ [7, 8, 9, 10, 11, 12, 13, 14, 15, 16, 17, 18, 19, 20, 21, 22, 23, 24, 25, 26, 27, 28, 29, 30, 31, 32, 33, 34, 35, 36, 37, 38, 39, 40, 41, 73, 74, 75, 76, 77, 78, 79, 80, 81, 82, 83, 84, 85, 86, 87, 88, 89, 90, 91] (by decide +kernel) (by decide +kernel)
set_option maxRecDepth 20000 in
theorem gX4_setSecond_X0_draft : GoodIn wsX4_setSecond (wsV RX4 40 RX0 yX0_draft wsX0_draft) := goodIn_app (goodIn_of _ (by decide +kernel)) ggX4_setSecond_X0_draft
set_option maxRecDepth 20000 in
theorem ggX4_setSecond_X2_resizeSecond : GoodIn wsX4_setSecond wsX2_resizeSecond := goodIn_r _ [45, 16, 46, 47, 48, 49, 50, 51, 13, 52, 23, 76, 77, 78, 79, 80, 81, 82, 83, 84, 85, 86, 87, 88, 89, 90, 91] (by decide +kernel) (by decide +kernel)
set_option maxRecDepth 20000 in
theorem gX4_setSecond_X2_resizeSecond : GoodIn wsX4_setSecond (wsV RX4 52 RX2 yX2_resizeSecond wsX2_resizeSecond) := goodIn_app (goodIn_of _ (by decide +kernel)) ggX4_setSecond_X2_resizeSecond
set_option maxRecDepth 20000 in
theorem ggX4_setSecond_X4_settled : GoodIn wsX4_setSecond wsX4_settled := goodIn_r _ [56, 1, 57, 58, 59, 6, 60, 9, 61, 62, 35, 36, 37, 63, 64, 65, 66, 67, 68, 69, 70, 71, 72, 73, 74, 75] (by decide +kernel) (by decide +kernel)
set_option maxRecDepth 20000 in
theorem gX4_setSecond_X4_settled : GoodIn wsX4_setSecond (wsV RX4 48 RX4 yX4_settled wsX4_settled) := goodIn_app (goodIn_of _ (by decide +kernel)) ggX4_setSecond_X4_settled
theorem dX4_setSecond_0 : decode cX4_setSecond 0 = .ok (.aload_n 0, 1) := by decide +kernel
theorem dX4_setSecond_1 : decode cX4_setSecond 1 = .ok (.getfield 22, 3) := by decide +kernel
theorem dX4_setSecond_4 : decode cX4_setSecond 4 = .ok (.aload_n 0, 1) := by decide +kernel
theorem dX4_setSecond_5 : decode cX4_setSecond 5 = .ok (.getfield 10, 3) := by decide +kernel
theorem dX4_setSecond_8 : decode cX4_setSecond 8 = .ok (.invokevirtual 40, 3) := by decide +kernel
theorem dX4_setSecond_11 : decode cX4_setSecond 11 = .ok (.aload_n 0, 1) := by decide +kernel
theorem dX4_setSecond_12 : decode cX4_setSecond 12 = .ok (.aload_n 0, 1) := by decide +kernel
theorem dX4_setSecond_13 : decode cX4_setSecond 13 = .ok (.getfield 10, 3) := by decide +kernel
theorem dX4_setSecond_16 : decode cX4_setSecond 16 = .ok (.iload_n 1, 1) := by decide +kernel
theorem dX4_setSecond_17 : decode cX4_setSecond 17 = .ok (.invokevirtual 52, 3) := by decide +kernel
theorem dX4_setSecond_20 : decode cX4_setSecond 20 = .ok (.invokevirtual 48, 3) := by decide +kernel
theorem dX4_setSecond_23 : decode cX4_setSecond 23 = .ok (.ireturn, 1) := by decide +kernel
set_option maxRecDepth 20000 in
theorem ggX4_prepare_X0_draft : GoodIn wsX4_prepare wsX0_draft := goodIn_r _ [7, 8, 9, 10, 11, 12, 13, 14, 15, 16, 17, 18, 19, 20, 21, 22, 23, 24, 25, 26, 27, 28, 29, 30, 31, 32, 33, 34, 35, 36, 37, 38, 39, 40, 41, 78, 79, 80, 81, 82, 83, 84, 85, 86, 87, 88, 89, 90, 91, 92, 93, 94, 95, 96] (by decide +kernel) (by decide +kernel)
set_option maxRecDepth 20000 in
theorem gX4_prepare_X0_draft : GoodIn wsX4_prepare (wsV RX4 40 RX0 yX0_draft wsX0_draft) := goodIn_app (goodIn_of _ (by decide +kernel)) ggX4_prepare_X0_draft
set_option maxRecDepth 20000 in
theorem ggX4_prepare_X2_startBallot : GoodIn wsX4_prepare wsX2_startBallot := goodIn_r _ [45, 23, 25, 26, 46, 47, 48, 49, 50, 51, 13, 52, 24, 53, 54, 36, 55, 56, 57, 81, 82, 83, 84, 85, 86, 87, 88, 89, 90, 91, 92, 93, 94, 95, 96] (by decide +kernel) (by decide +kernel)
set_option maxRecDepth 20000 in
theorem gX4_prepare_X2_startBallot : GoodIn wsX4_prepare (wsV RX4 55 RX2 yX2_startBallot wsX2_startBallot) := goodIn_app (goodIn_of _ (by decide +kernel)) ggX4_prepare_X2_startBallot
set_option maxRecDepth 20000 in
theorem ggX4_prepare_X4_settled : GoodIn wsX4_prepare wsX4_settled := goodIn_r _ [61, 1, 62, 63, 64, 6, 65, 9, 66, 67, 35, 36, 37, 68, 69, 70, 71, 72, 73, 74, 75, 76, 77, 78, 79, 80] (by decide +kernel) (by decide +kernel)
set_option maxRecDepth 20000 in
theorem gX4_prepare_X4_settled : GoodIn wsX4_prepare (wsV RX4 48 RX4 yX4_settled wsX4_settled) := goodIn_app (goodIn_of _ (by decide +kernel)) ggX4_prepare_X4_settled
theorem dX4_prepare_0 : decode cX4_prepare 0 = .ok (.aload_n 0, 1) := by decide +kernel
theorem dX4_prepare_1 : decode cX4_prepare 1 = .ok (.getfield 22, 3) := by decide +kernel
theorem dX4_prepare_4 : decode cX4_prepare 4 = .ok (.aload_n 0, 1) := by decide +kernel
theorem dX4_prepare_5 : decode cX4_prepare 5 = .ok (.getfield 10, 3) := by decide +kernel
theorem dX4_prepare_8 : decode cX4_prepare 8 = .ok (.invokevirtual 40, 3) := by decide +kernel
theorem dX4_prepare_11 : decode cX4_prepare 11 = .ok (.aload_n 0, 1) := by decide +kernel
theorem dX4_prepare_12 : decode cX4_prepare 12 = .ok (.aload_n 0, 1) := by decide +kernel
theorem dX4_prepare_13 : decode cX4_prepare 13 = .ok (.getfield 10, 3) := by decide +kernel
theorem dX4_prepare_16 : decode cX4_prepare 16 = .ok (.iload_n 1, 1) := by decide +kernel
theorem dX4_prepare_17 : decode cX4_prepare 17 = .ok (.invokevirtual 55, 3) := by decide +kernel
theorem dX4_prepare_20 : decode cX4_prepare 20 = .ok (.invokevirtual 48, 3) := by decide +kernel
theorem dX4_prepare_23 : decode cX4_prepare 23 = .ok (.ireturn, 1) := by decide +kernel
set_option maxRecDepth 20000 in
theorem ggX4_promise_X0_draft : GoodIn wsX4_promise wsX0_draft := goodIn_r _ [7, 8, 9, 10, 11, 12, 13, 14, 15, 16, 17, 18, 19, 20, 21, 22, 23, 24, 25, 26, 27, 28, 29, 30, 31, 32, 33, 34, 35, 36, 37, 38, 39, 40, 41, 90, 91, 92, 93, 94, 95, 96, 97, 98, 99, 100, 101, 102, 103, 104, 105, 106, 107, 108] (by decide +kernel) (by decide +kernel)
set_option maxRecDepth 20000 in
theorem gX4_promise_X0_draft : GoodIn wsX4_promise (wsV RX4 40 RX0 yX0_draft wsX0_draft) := goodIn_app (goodIn_of _ (by decide +kernel)) ggX4_promise_X0_draft
set_option maxRecDepth 20000 in
theorem ggX4_promise_X2_askPromise : GoodIn wsX4_promise wsX2_askPromise := goodIn_r _ [45, 23, 15, 25, 20, 18, 46, 47, 48, 49, 50, 51, 52, 53, 54, 55, 13, 56, 24, 57, 58, 36, 59, 60, 61, 62, 63, 27, 21, 28, 22, 64, 65, 66, 67, 68, 69, 93, 94, 95, 96, 97, 98, 99, 100, 101, 102, 103, 104, 105, 106, 107, 108] (by decide +kernel) (by decide +kernel)
set_option maxRecDepth 20000 in
theorem gX4_promise_X2_askPromise : GoodIn wsX4_promise (wsV RX4 58 RX2 yX2_askPromise wsX2_askPromise) := goodIn_app (goodIn_of _ (by decide +kernel)) ggX4_promise_X2_askPromise
set_option maxRecDepth 20000 in
theorem ggX4_promise_X4_settled : GoodIn wsX4_promise wsX4_settled := goodIn_r _ [73, 1, 74, 75, 76, 6, 77, 9, 78, 79, 35, 36, 37, 80, 81, 82, 83, 84, 85, 86, 87, 88, 89, 90, 91, 92] (by decide +kernel) (by decide +kernel)
set_option maxRecDepth 20000 in
theorem gX4_promise_X4_settled : GoodIn wsX4_promise (wsV RX4 48 RX4 yX4_settled wsX4_settled) := goodIn_app (goodIn_of _ (by decide +kernel)) ggX4_promise_X4_settled
theorem dX4_promise_0 : decode cX4_promise 0 = .ok (.aload_n 0, 1) := by decide +kernel
theorem dX4_promise_1 : decode cX4_promise 1 = .ok (.getfield 22, 3) := by decide +kernel
theorem dX4_promise_4 : decode cX4_promise 4 = .ok (.aload_n 0, 1) := by decide +kernel
theorem dX4_promise_5 : decode cX4_promise 5 = .ok (.getfield 10, 3) := by decide +kernel
theorem dX4_promise_8 : decode cX4_promise 8 = .ok (.invokevirtual 40, 3) := by decide +kernel
theorem dX4_promise_11 : decode cX4_promise 11 = .ok (.aload_n 0, 1) := by decide +kernel
theorem dX4_promise_12 : decode cX4_promise 12 = .ok (.aload_n 0, 1) := by decide +kernel
theorem dX4_promise_13 : decode cX4_promise 13 = .ok (.getfield 10, 3) := by decide +kernel
theorem dX4_promise_16 : decode cX4_promise 16 = .ok (.iload_n 1, 1) := by decide +kernel
theorem dX4_promise_17 : decode cX4_promise 17 = .ok (.iload_n 2, 1) := by decide +kernel
theorem dX4_promise_18 : decode cX4_promise 18 = .ok (.invokevirtual 58, 3) := by decide +kernel
theorem dX4_promise_21 : decode cX4_promise 21 = .ok (.invokevirtual 48, 3) := by decide +kernel
theorem dX4_promise_24 : decode cX4_promise 24 = .ok (.ireturn, 1) := by decide +kernel
set_option maxRecDepth 20000 in
theorem ggX4_propose_X0_draft : GoodIn wsX4_propose wsX0_draft := goodIn_r _ [7, 8, 9, 10, 11, 12, 13, 14, 15, 16, 17, 18, 19, 20, 21, 22, 23, 24, 25, 26, 27, 28, 29, 30, 31, 32, 33, 34, 35, 36, 37, 38, 39, 40, 41, 119, 120, 121, 122, 123, 124, 125, 126, 127, 128, 129, 130, 131, 132, 133, 134, 135, 136, 137] (by decide +kernel) (by decide +kernel)
set_option maxRecDepth 20000 in
theorem gX4_propose_X0_draft : GoodIn wsX4_propose (wsV RX4 40 RX0 yX0_draft wsX0_draft) := goodIn_app (goodIn_of _ (by decide +kernel)) ggX4_propose_X0_draft
set_option maxRecDepth 20000 in
theorem ggX4_propose_X2_offerValue : GoodIn wsX4_propose wsX2_offerValue := goodIn_r _ [45, 26, 46, 47, 48, 49, 50, 51, 52, 53, 54, 55, 13, 56, 23, 17, 57, 58, 59, 60, 61, 62, 63, 64, 29, 65, 66, 67, 68, 25, 69, 70, 36, 71, 72, 73, 74, 75, 76, 77, 78, 79, 80, 81, 82, 83, 84, 85, 86, 87, 88, 89, 90, 16, 34, 35, 37, 91, 92, 93, 94, 95, 96, 27, 28, 97, 98, 122, 123, 124, 125, 126, 127, 128, 129, 130, 131, 132, 133, 134, 135, 136, 137] (by decide +kernel) (by decide +kernel)
set_option maxRecDepth 20000 in
theorem gX4_propose_X2_offerValue : GoodIn wsX4_propose (wsV RX4 62 RX2 yX2_offerValue wsX2_offerValue) := goodIn_app (goodIn_of _ (by decide +kernel)) ggX4_propose_X2_offerValue
set_option maxRecDepth 20000 in
theorem ggX4_propose_X4_settled : GoodIn wsX4_propose wsX4_settled := goodIn_r _ [102, 1, 103, 104, 105, 6, 106, 9, 107, 108, 35, 36, 37, 109, 110, 111, 112, 113, 114, 115, 116, 117, 118, 119, 120, 121] (by decide +kernel) (by decide +kernel)
set_option maxRecDepth 20000 in
theorem gX4_propose_X4_settled : GoodIn wsX4_propose (wsV RX4 48 RX4 yX4_settled wsX4_settled) := goodIn_app (goodIn_of _ (by decide +kernel)) ggX4_propose_X4_settled
theorem dX4_propose_0 : decode cX4_propose 0 = .ok (.aload_n 0, 1) := by decide +kernel
theorem dX4_propose_1 : decode cX4_propose 1 = .ok (.getfield 22, 3) := by decide +kernel
theorem dX4_propose_4 : decode cX4_propose 4 = .ok (.aload_n 0, 1) := by decide +kernel
theorem dX4_propose_5 : decode cX4_propose 5 = .ok (.getfield 10, 3) := by decide +kernel
theorem dX4_propose_8 : decode cX4_propose 8 = .ok (.invokevirtual 40, 3) := by decide +kernel
theorem dX4_propose_11 : decode cX4_propose 11 = .ok (.aload_n 0, 1) := by decide +kernel
theorem dX4_propose_12 : decode cX4_propose 12 = .ok (.aload_n 0, 1) := by decide +kernel
theorem dX4_propose_13 : decode cX4_propose 13 = .ok (.getfield 10, 3) := by decide +kernel
theorem dX4_propose_16 : decode cX4_propose 16 = .ok (.iload_n 1, 1) := by decide +kernel
theorem dX4_propose_17 : decode cX4_propose 17 = .ok (.iload_n 2, 1) := by decide +kernel
theorem dX4_propose_18 : decode cX4_propose 18 = .ok (.iload_n 3, 1) := by decide +kernel
theorem dX4_propose_19 : decode cX4_propose 19 = .ok (.invokevirtual 62, 3) := by decide +kernel
theorem dX4_propose_22 : decode cX4_propose 22 = .ok (.invokevirtual 48, 3) := by decide +kernel
theorem dX4_propose_25 : decode cX4_propose 25 = .ok (.ireturn, 1) := by decide +kernel
set_option maxRecDepth 20000 in
theorem ggX4_vote_X0_draft : GoodIn wsX4_vote wsX0_draft := goodIn_r _ [7, 8, 9, 10, 11, 12, 13, 14, 15, 16, 17, 18, 19, 20, 21, 22, 23, 24, 25, 26, 27, 28, 29, 30, 31, 32, 33, 34, 35, 36, 37, 38, 39, 40, 41, 107, 108, 109, 110, 111, 112, 113, 114, 115, 116, 117, 118, 119, 120, 121, 122, 123, 124, 125] (by decide +kernel) (by decide +kernel)
set_option maxRecDepth 20000 in
theorem gX4_vote_X0_draft : GoodIn wsX4_vote (wsV RX4 40 RX0 yX0_draft wsX0_draft) := goodIn_app (goodIn_of _ (by decide +kernel)) ggX4_vote_X0_draft
set_option maxRecDepth 20000 in
theorem ggX4_vote_X2_askVote : GoodIn wsX4_vote wsX2_askVote := goodIn_r _ [45, 21, 23, 20, 19, 22, 26, 29, 30, 46, 47, 48, 49, 50, 51, 52, 53, 54, 55, 13, 56, 17, 15, 57, 58, 59, 60, 61, 62, 63, 64, 65, 66, 67, 68, 24, 69, 70, 36, 71, 72, 73, 74, 75, 76, 77, 78, 79, 80, 81, 82, 83, 84, 85, 86, 16, 34, 35, 37, 110, 111, 112, 113, 114, 115, 116, 117, 118, 119, 120, 121, 122, 123, 124, 125] (by decide +kernel) (by decide +kernel)
set_option maxRecDepth 20000 in
theorem gX4_vote_X2_askVote : GoodIn wsX4_vote (wsV RX4 66 RX2 yX2_askVote wsX2_askVote) := goodIn_app (goodIn_of _ (by decide +kernel)) ggX4_vote_X2_askVote
set_option maxRecDepth 20000 in
theorem ggX4_vote_X4_settled : GoodIn wsX4_vote wsX4_settled := goodIn_r _ [90, 1, 91, 92, 93, 6, 94, 9, 95, 96, 35, 36, 37, 97, 98, 99, 100, 101, 102, 103, 104, 105, 106, 107, 108, 109] (by decide +kernel) (by decide +kernel)
set_option maxRecDepth 20000 in
theorem gX4_vote_X4_settled : GoodIn wsX4_vote (wsV RX4 48 RX4 yX4_settled wsX4_settled) := goodIn_app (goodIn_of _ (by decide +kernel)) ggX4_vote_X4_settled
theorem dX4_vote_0 : decode cX4_vote 0 = .ok (.aload_n 0, 1) := by decide +kernel
theorem dX4_vote_1 : decode cX4_vote 1 = .ok (.getfield 22, 3) := by decide +kernel
theorem dX4_vote_4 : decode cX4_vote 4 = .ok (.aload_n 0, 1) := by decide +kernel
theorem dX4_vote_5 : decode cX4_vote 5 = .ok (.getfield 10, 3) := by decide +kernel
theorem dX4_vote_8 : decode cX4_vote 8 = .ok (.invokevirtual 40, 3) := by decide +kernel
theorem dX4_vote_11 : decode cX4_vote 11 = .ok (.aload_n 0, 1) := by decide +kernel
theorem dX4_vote_12 : decode cX4_vote 12 = .ok (.aload_n 0, 1) := by decide +kernel
theorem dX4_vote_13 : decode cX4_vote 13 = .ok (.getfield 10, 3) := by decide +kernel
theorem dX4_vote_16 : decode cX4_vote 16 = .ok (.iload_n 1, 1) := by decide +kernel
theorem dX4_vote_17 : decode cX4_vote 17 = .ok (.iload_n 2, 1) := by decide +kernel
theorem dX4_vote_18 : decode cX4_vote 18 = .ok (.iload_n 3, 1) := by decide +kernel
theorem dX4_vote_19 : decode cX4_vote 19 = .ok (.invokevirtual 66, 3) := by decide +kernel
theorem dX4_vote_22 : decode cX4_vote 22 = .ok (.invokevirtual 48, 3) := by decide +kernel
theorem dX4_vote_25 : decode cX4_vote 25 = .ok (.ireturn, 1) := by decide +kernel
set_option maxRecDepth 20000 in
theorem ggX4_trim_X0_draft : GoodIn wsX4_trim wsX0_draft := goodIn_r _ [7, 8, 9, 10, 11, 12, 13, 14, 15, 16, 17, 18, 19, 20, 21, 22, 23, 24, 25, 26, 27, 28, 29, 30, 31, 32, 33, 34, 35, 36, 37, 38, 39, 40, 41, 83, 84, 85, 86, 87, 88, 89, 90, 91, 92, 93, 94, 95, 96, 97, 98, 99, 100, 101] (by decide +kernel) (by decide +kernel)
set_option maxRecDepth 20000 in
theorem gX4_trim_X0_draft : GoodIn wsX4_trim (wsV RX4 40 RX0 yX0_draft wsX0_draft) := goodIn_app (goodIn_of _ (by decide +kernel)) ggX4_trim_X0_draft
set_option maxRecDepth 20000 in
theorem ggX4_trim_X2_forgetUpTo : GoodIn wsX4_trim wsX2_forgetUpTo := goodIn_r _ [45, 17, 46, 47, 48, 49, 50, 51, 13, 52, 29, 53, 54, 55, 56, 21, 57, 58, 59, 60, 61, 62, 22, 86, 87, 88, 89, 90, 91, 92, 93, 94, 95, 96, 97, 98, 99, 100, 101] (by decide +kernel) (by decide +kernel)
set_option maxRecDepth 20000 in
theorem gX4_trim_X2_forgetUpTo : GoodIn wsX4_trim (wsV RX4 69 RX2 yX2_forgetUpTo wsX2_forgetUpTo) := goodIn_app (goodIn_of _ (by decide +kernel)) ggX4_trim_X2_forgetUpTo
set_option maxRecDepth 20000 in
theorem ggX4_trim_X4_settled : GoodIn wsX4_trim wsX4_settled := goodIn_r _ [66, 1, 67, 68, 69, 6, 70, 9, 71, 72, 35, 36, 37, 73, 74, 75, 76, 77, 78, 79, 80, 81, 82, 83, 84, 85] (by decide +kernel) (by decide +kernel)
set_option maxRecDepth 20000 in
theorem gX4_trim_X4_settled : GoodIn wsX4_trim (wsV RX4 48 RX4 yX4_settled wsX4_settled) := goodIn_app (goodIn_of _ (by decide +kernel)) ggX4_trim_X4_settled
theorem dX4_trim_0 : decode cX4_trim 0 = .ok (.aload_n 0, 1) := by decide +kernel
theorem dX4_trim_1 : decode cX4_trim 1 = .ok (.getfield 22, 3) := by decide +kernel
theorem dX4_trim_4 : decode cX4_trim 4 = .ok (.aload_n 0, 1) := by decide +kernel
theorem dX4_trim_5 : decode cX4_trim 5 = .ok (.getfield 10, 3) := by decide +kernel
theorem dX4_trim_8 : decode cX4_trim 8 = .ok (.invokevirtual 40, 3) := by decide +kernel
theorem dX4_trim_11 : decode cX4_trim 11 = .ok (.aload_n 0, 1) := by decide +kernel
theorem dX4_trim_12 : decode cX4_trim 12 = .ok (.aload_n 0, 1) := by decide +kernel
theorem dX4_trim_13 : decode cX4_trim 13 = .ok (.getfield 10, 3) := by decide +kernel
theorem dX4_trim_16 : decode cX4_trim 16 = .ok (.iload_n 1, 1) := by decide +kernel
theorem dX4_trim_17 : decode cX4_trim 17 = .ok (.invokevirtual 69, 3) := by decide +kernel
theorem dX4_trim_20 : decode cX4_trim 20 = .ok (.invokevirtual 48, 3) := by decide +kernel
theorem dX4_trim_23 : decode cX4_trim 23 = .ok (.ireturn, 1) := by decide +kernel
set_option maxRecDepth 20000 in
theorem ggX4_type_X3_append : GoodIn wsX4_type wsX3_append := goodIn_r _ [6, 7, 8, 19, 20] (by decide +kernel) (by decide +kernel)
set_option maxRecDepth 20000 in
theorem gX4_type_X3_append : GoodIn wsX4_type (wsV RX4 72 RX3 yX3_append wsX3_append) := goodIn_app (goodIn_of _ (by decide +kernel)) ggX4_type_X3_append
theorem dX4_type_0 : decode cX4_type 0 = .ok (.aload_n 0, 1) := by decide +kernel
theorem dX4_type_1 : decode cX4_type 1 = .ok (.getfield 29, 3) := by decide +kernel
theorem dX4_type_4 : decode cX4_type 4 = .ok (.iload_n 1, 1) := by decide +kernel
theorem dX4_type_5 : decode cX4_type 5 = .ok (.invokevirtual 72, 3) := by decide +kernel
theorem dX4_type_8 : decode cX4_type 8 = .ok (.ireturn, 1) := by decide +kernel
set_option maxRecDepth 20000 in
theorem ggX4_clearText_X3_empty : GoodIn wsX4_clearText wsX3_empty := goodIn_r _ [6, 7, 18, 19] (by decide +kernel) (by decide +kernel)
set_option maxRecDepth 20000 in
theorem gX4_clearText_X3_empty : GoodIn wsX4_clearText (wsV RX4 76 RX3 yX3_empty wsX3_empty) := goodIn_app (goodIn_of _ (by decide +kernel)) ggX4_clearText_X3_empty
theorem dX4_clearText_0 : decode cX4_clearText 0 = .ok (.aload_n 0, 1) := by decide +kernel
theorem dX4_clearText_1 : decode cX4_clearText 1 = .ok (.getfield 29, 3) := by decide +kernel
theorem dX4_clearText_4 : decode cX4_clearText 4 = .ok (.invokevirtual 76, 3) := by decide +kernel
theorem dX4_clearText_7 : decode cX4_clearText 7 = .ok (.ireturn, 1) := by decide +kernel
set_option maxRecDepth 20000 in
theorem ggX4_perform_X1_read : GoodIn wsX4_perform wsX1_read := goodIn_r _ [10, 11, 12, 13, 14, 15, 16, 9, 17, 18, 19, 20, 21, 22, 23, 24, 25, 26, 27, 28, 29, 30, 31, 32, 33, 34, 35, 36, 37, 38, 39, 40, 41, 42, 43, 44, 45, 46, 47, 48, 49, 50, 51, 52, 53, 54, 55, 56, 57, 58, 59, 60, 61, 62, 63, 64, 65, 66, 67, 68, 69, 70, 71, 72, 73, 74, 75, 76, 77, 78, 79, 80, 81, 82, 83, 84, 85, 86, 87, 88, 89, 90, 91, 92, 93, 94, 95, 96, 97, 98, 99, 100, 101, 102, 103, 104, 105, 106, 107, 285, 286, 287, 288, 289, 290, 291, 292] (by decide +kernel) (by decide +kernel)
set_option maxRecDepth 20000 in
theorem gX4_perform_X1_read : GoodIn wsX4_perform (wsV RX4 80 RX1 yX1_read wsX1_read) := goodIn_app (goodIn_of _ (by decide +kernel)) ggX4_perform_X1_read
set_option maxRecDepth 20000 in
theorem ggX4_perform_X0_draft : GoodIn wsX4_perform wsX0_draft := goodIn_r _ [112, 113, 114, 115, 116, 117, 118, 119, 120, 121, 122, 123, 124, 125, 126, 127, 128, 129, 130, 131, 132, 133, 134, 135, 136, 137, 138, 139, 140, 141, 142, 143, 144, 145, 146, 293, 294, 295, 296, 297, 298, 299, 300, 301, 302, 303, 304, 305, 306, 307, 308, 309, 310, 311] (by decide +kernel) (by decide +kernel)
set_option maxRecDepth 20000 in
theorem gX4_perform_X0_draft : GoodIn wsX4_perform (wsV RX4 40 RX0 yX0_draft wsX0_draft) := goodIn_app (goodIn_of _ (by decide +kernel)) ggX4_perform_X0_draft
set_option maxRecDepth 20000 in
theorem ggX4_perform_X1_carryOut : GoodIn wsX4_perform wsX1_carryOut := goodIn_r _ [150, 12, 96, 18, 151, 152, 153, 118, 154, 128, 130, 131, 155, 156, 157, 158, 159, 160, 161, 129, 162, 163, 141, 164, 165, 166, 167, 168, 169, 170, 120, 125, 123, 171, 172, 173, 174, 175, 176, 177, 178, 179, 180, 181, 182, 132, 126, 133, 127, 183, 184, 185, 186, 187, 188, 189, 190, 191, 192, 193, 194, 195, 196, 197, 198, 122, 199, 200, 201, 202, 203, 204, 205, 206, 134, 207, 208, 209, 210, 211, 212, 213, 214, 215, 216, 217, 218, 219, 220, 221, 222, 223, 224, 225, 226, 227, 228, 229, 121, 139, 140, 142, 230, 231, 232, 233, 234, 235, 236, 237, 124, 135, 238, 239, 240, 241, 242, 243, 244, 245, 246, 247, 248, 249, 285, 286, 287, 288, 289, 290, 296, 297, 298, 299, 300, 301, 302, 303, 304, 305, 306, 307, 308, 309, 310, 311] (by decide +kernel) (by decide +kernel)
set_option maxRecDepth 20000 in
theorem gX4_perform_X1_carryOut : GoodIn wsX4_perform (wsV RX4 88 RX1 yX1_carryOut wsX1_carryOut) := goodIn_app (goodIn_of _ (by decide +kernel)) ggX4_perform_X1_carryOut
set_option maxRecDepth 20000 in
theorem ggX4_perform_X4_isError : GoodIn wsX4_perform wsX4_isError := goodIn_r _ [252] (by decide +kernel) (by decide +kernel)
set_option maxRecDepth 20000 in
theorem gX4_perform_X4_isError : GoodIn wsX4_perform (va_wsS RX4 92 yX4_isError wsX4_isError) := goodIn_app (goodIn_of _ (by decide +kernel)) ggX4_perform_X4_isError
set_option maxRecDepth 20000 in
theorem ggX4_perform_X4_noteRefusal : GoodIn wsX4_perform wsX4_noteRefusal := goodIn_r _ [256, 257, 258, 259, 1, 260, 261, 262, 263, 9, 264, 12, 19, 275, 276, 277, 278, 279, 280, 281, 282, 283, 284, 285, 286, 287, 288, 289, 290] (by decide +kernel) (by decide +kernel)
set_option maxRecDepth 20000 in
theorem gX4_perform_X4_noteRefusal : GoodIn wsX4_perform (wsV RX4 96 RX4 yX4_noteRefusal wsX4_noteRefusal) := goodIn_app (goodIn_of _ (by decide +kernel)) ggX4_perform_X4_noteRefusal
set_option maxRecDepth 20000 in
theorem ggX4_perform_X0_bringBackDraft : GoodIn wsX4_perform wsX0_bringBackDraft := goodIn_r _ [268, 113, 114, 115, 116, 117, 118, 119, 120, 121, 122, 123, 124, 125, 126, 127, 128, 129, 130, 131, 132, 133, 134, 135, 136, 137, 138, 139, 140, 141, 142, 143, 144, 145, 146, 293, 294, 295, 296, 297, 298, 299, 300, 301, 302, 303, 304, 305, 306, 307, 308, 309, 310, 311] (by decide +kernel) (by decide +kernel)
set_option maxRecDepth 20000 in
theorem gX4_perform_X0_bringBackDraft : GoodIn wsX4_perform (wsV RX4 100 RX0 yX0_bringBackDraft wsX0_bringBackDraft) := goodIn_app (goodIn_of _ (by decide +kernel)) ggX4_perform_X0_bringBackDraft
set_option maxRecDepth 20000 in
theorem ggX4_perform_X0_commit : GoodIn wsX4_perform wsX0_commit := goodIn_r _ [272, 114, 273, 274, 140, 141, 142, 293, 294, 295] (by decide +kernel) (by decide +kernel)
set_option maxRecDepth 20000 in
theorem gX4_perform_X0_commit : GoodIn wsX4_perform (wsV RX4 103 RX0 yX0_commit wsX0_commit) := goodIn_app (goodIn_of _ (by decide +kernel)) ggX4_perform_X0_commit
theorem dX4_perform_0 : decode cX4_perform 0 = .ok (.aload_n 0, 1) := by decide +kernel
theorem dX4_perform_1 : decode cX4_perform 1 = .ok (.getfield 36, 3) := by decide +kernel
theorem dX4_perform_4 : decode cX4_perform 4 = .ok (.aload_n 0, 1) := by decide +kernel
theorem dX4_perform_5 : decode cX4_perform 5 = .ok (.getfield 29, 3) := by decide +kernel
theorem dX4_perform_8 : decode cX4_perform 8 = .ok (.invokevirtual 80, 3) := by decide +kernel
theorem dX4_perform_11 : decode cX4_perform 11 = .ok (.istore_n 1, 1) := by decide +kernel
theorem dX4_perform_12 : decode cX4_perform 12 = .ok (.iload_n 1, 1) := by decide +kernel
theorem dX4_perform_13 : decode cX4_perform 13 = .ok (.iconst (-1), 1) := by decide +kernel
theorem dX4_perform_14 : decode cX4_perform 14 = .ok (.if_icmp .eq 8, 3) := by decide +kernel
theorem dX4_perform_17 : decode cX4_perform 17 = .ok (.bipush (-100), 2) := by decide +kernel
theorem dX4_perform_19 : decode cX4_perform 19 = .ok (.iload_n 1, 1) := by decide +kernel
theorem dX4_perform_20 : decode cX4_perform 20 = .ok (.isub, 1) := by decide +kernel
theorem dX4_perform_21 : decode cX4_perform 21 = .ok (.ireturn, 1) := by decide +kernel
theorem dX4_perform_22 : decode cX4_perform 22 = .ok (.aload_n 0, 1) := by decide +kernel
theorem dX4_perform_23 : decode cX4_perform 23 = .ok (.getfield 22, 3) := by decide +kernel
theorem dX4_perform_26 : decode cX4_perform 26 = .ok (.aload_n 0, 1) := by decide +kernel
theorem dX4_perform_27 : decode cX4_perform 27 = .ok (.getfield 10, 3) := by decide +kernel
theorem dX4_perform_30 : decode cX4_perform 30 = .ok (.invokevirtual 40, 3) := by decide +kernel
theorem dX4_perform_33 : decode cX4_perform 33 = .ok (.iconst 0, 1) := by decide +kernel
theorem dX4_perform_34 : decode cX4_perform 34 = .ok (.istore_n 2, 1) := by decide +kernel
theorem dX4_perform_35 : decode cX4_perform 35 = .ok (.iload_n 2, 1) := by decide +kernel
theorem dX4_perform_36 : decode cX4_perform 36 = .ok (.aload_n 0, 1) := by decide +kernel
theorem dX4_perform_37 : decode cX4_perform 37 = .ok (.getfield 36, 3) := by decide +kernel
theorem dX4_perform_40 : decode cX4_perform 40 = .ok (.getfield 84, 3) := by decide +kernel
theorem dX4_perform_43 : decode cX4_perform 43 = .ok (.if_icmp .ge 49, 3) := by decide +kernel
theorem dX4_perform_46 : decode cX4_perform 46 = .ok (.aload_n 0, 1) := by decide +kernel
theorem dX4_perform_47 : decode cX4_perform 47 = .ok (.getfield 36, 3) := by decide +kernel
theorem dX4_perform_50 : decode cX4_perform 50 = .ok (.iload_n 2, 1) := by decide +kernel
theorem dX4_perform_51 : decode cX4_perform 51 = .ok (.aload_n 0, 1) := by decide +kernel
theorem dX4_perform_52 : decode cX4_perform 52 = .ok (.getfield 10, 3) := by decide +kernel
theorem dX4_perform_55 : decode cX4_perform 55 = .ok (.invokevirtual 88, 3) := by decide +kernel
theorem dX4_perform_58 : decode cX4_perform 58 = .ok (.istore_n 3, 1) := by decide +kernel
theorem dX4_perform_59 : decode cX4_perform 59 = .ok (.iload_n 3, 1) := by decide +kernel
theorem dX4_perform_60 : decode cX4_perform 60 = .ok (.invokestatic 92, 3) := by decide +kernel
theorem dX4_perform_63 : decode cX4_perform 63 = .ok (.ifCond .eq 23, 3) := by decide +kernel
theorem dX4_perform_66 : decode cX4_perform 66 = .ok (.aload_n 0, 1) := by decide +kernel
theorem dX4_perform_67 : decode cX4_perform 67 = .ok (.iload_n 2, 1) := by decide +kernel
theorem dX4_perform_68 : decode cX4_perform 68 = .ok (.iload_n 3, 1) := by decide +kernel
theorem dX4_perform_69 : decode cX4_perform 69 = .ok (.invokevirtual 96, 3) := by decide +kernel
theorem dX4_perform_72 : decode cX4_perform 72 = .ok (.aload_n 0, 1) := by decide +kernel
theorem dX4_perform_73 : decode cX4_perform 73 = .ok (.getfield 22, 3) := by decide +kernel
theorem dX4_perform_76 : decode cX4_perform 76 = .ok (.aload_n 0, 1) := by decide +kernel
theorem dX4_perform_77 : decode cX4_perform 77 = .ok (.getfield 10, 3) := by decide +kernel
theorem dX4_perform_80 : decode cX4_perform 80 = .ok (.invokevirtual 100, 3) := by decide +kernel
theorem dX4_perform_83 : decode cX4_perform 83 = .ok (.bipush (-4), 2) := by decide +kernel
theorem dX4_perform_85 : decode cX4_perform 85 = .ok (.ireturn, 1) := by decide +kernel
theorem dX4_perform_86 : decode cX4_perform 86 = .ok (.iinc 2 1, 3) := by decide +kernel
theorem dX4_perform_89 : decode cX4_perform 89 = .ok (.goto (-54), 3) := by decide +kernel
theorem dX4_perform_92 : decode cX4_perform 92 = .ok (.aload_n 0, 1) := by decide +kernel
theorem dX4_perform_93 : decode cX4_perform 93 = .ok (.getfield 22, 3) := by decide +kernel
theorem dX4_perform_96 : decode cX4_perform 96 = .ok (.invokevirtual 103, 3) := by decide +kernel
theorem dX4_perform_99 : decode cX4_perform 99 = .ok (.aload_n 0, 1) := by decide +kernel
theorem dX4_perform_100 : decode cX4_perform 100 = .ok (.getfield 36, 3) := by decide +kernel
theorem dX4_perform_103 : decode cX4_perform 103 = .ok (.getfield 84, 3) := by decide +kernel
theorem dX4_perform_106 : decode cX4_perform 106 = .ok (.ireturn, 1) := by decide +kernel
theorem dX4_refusal_0 : decode cX4_refusal 0 = .ok (.iload_n 1, 1) := by decide +kernel
theorem dX4_refusal_1 : decode cX4_refusal 1 = .ok (.ifCond .lt 8, 3) := by decide +kernel
theorem dX4_refusal_4 : decode cX4_refusal 4 = .ok (.iload_n 1, 1) := by decide +kernel
theorem dX4_refusal_5 : decode cX4_refusal 5 = .ok (.iconst 2, 1) := by decide +kernel
theorem dX4_refusal_6 : decode cX4_refusal 6 = .ok (.if_icmp .le 6, 3) := by decide +kernel
theorem dX4_refusal_9 : decode cX4_refusal 9 = .ok (.bipush (-2), 2) := by decide +kernel
theorem dX4_refusal_11 : decode cX4_refusal 11 = .ok (.ireturn, 1) := by decide +kernel
theorem dX4_refusal_12 : decode cX4_refusal 12 = .ok (.aload_n 0, 1) := by decide +kernel
theorem dX4_refusal_13 : decode cX4_refusal 13 = .ok (.getfield 106, 3) := by decide +kernel
theorem dX4_refusal_16 : decode cX4_refusal 16 = .ok (.ifCond .ne 6, 3) := by decide +kernel
theorem dX4_refusal_19 : decode cX4_refusal 19 = .ok (.bipush (-5), 2) := by decide +kernel
theorem dX4_refusal_21 : decode cX4_refusal 21 = .ok (.ireturn, 1) := by decide +kernel
theorem dX4_refusal_22 : decode cX4_refusal 22 = .ok (.iload_n 1, 1) := by decide +kernel
theorem dX4_refusal_23 : decode cX4_refusal 23 = .ok (.lookupswitch 35 #[(0, 25), (1, 30)], 25) := by decide +kernel
theorem dX4_refusal_48 : decode cX4_refusal 48 = .ok (.aload_n 0, 1) := by decide +kernel
theorem dX4_refusal_49 : decode cX4_refusal 49 = .ok (.getfield 110, 3) := by decide +kernel
theorem dX4_refusal_52 : decode cX4_refusal 52 = .ok (.ireturn, 1) := by decide +kernel
theorem dX4_refusal_53 : decode cX4_refusal 53 = .ok (.aload_n 0, 1) := by decide +kernel
theorem dX4_refusal_54 : decode cX4_refusal 54 = .ok (.getfield 113, 3) := by decide +kernel
theorem dX4_refusal_57 : decode cX4_refusal 57 = .ok (.ireturn, 1) := by decide +kernel
theorem dX4_refusal_58 : decode cX4_refusal 58 = .ok (.aload_n 0, 1) := by decide +kernel
theorem dX4_refusal_59 : decode cX4_refusal 59 = .ok (.getfield 116, 3) := by decide +kernel
theorem dX4_refusal_62 : decode cX4_refusal 62 = .ok (.ireturn, 1) := by decide +kernel
set_option maxRecDepth 20000 in
theorem ggX4_undo_X0_bringBackLatest : GoodIn wsX4_undo wsX0_bringBackLatest := goodIn_r _ [7, 8, 9, 10, 11, 12, 13, 14, 15, 16, 17, 18, 19, 20, 21, 22, 23, 24, 25, 26, 27, 28, 29, 30, 31, 32, 33, 34, 35, 36, 37, 38, 39, 40, 41, 42, 53, 54, 55, 56, 57, 58, 59, 60, 61, 62, 63, 64, 65, 66, 67, 68, 69, 70, 71] (by decide +kernel) (by decide +kernel)
set_option maxRecDepth 20000 in
theorem gX4_undo_X0_bringBackLatest : GoodIn wsX4_undo (wsV RX4 119 RX0 yX0_bringBackLatest wsX0_bringBackLatest) := goodIn_app (goodIn_of _ (by decide +kernel)) ggX4_undo_X0_bringBackLatest
theorem dX4_undo_0 : decode cX4_undo 0 = .ok (.aload_n 0, 1) := by decide +kernel
theorem dX4_undo_1 : decode cX4_undo 1 = .ok (.getfield 22, 3) := by decide +kernel
theorem dX4_undo_4 : decode cX4_undo 4 = .ok (.aload_n 0, 1) := by decide +kernel
theorem dX4_undo_5 : decode cX4_undo 5 = .ok (.getfield 10, 3) := by decide +kernel
theorem dX4_undo_8 : decode cX4_undo 8 = .ok (.invokevirtual 119, 3) := by decide +kernel
theorem dX4_undo_11 : decode cX4_undo 11 = .ok (.ireturn, 1) := by decide +kernel
set_option maxRecDepth 20000 in
theorem ggX4_keep_X2_copy : GoodIn wsX4_keep wsX2_copy := goodIn_r _ [8, 9, 10, 11, 12, 13, 14, 15, 16, 17, 18, 19, 20, 21, 22, 23, 24, 25, 26, 7, 27, 28, 29, 30, 31, 32, 33, 34, 35, 50, 51, 52, 53, 54, 55, 56, 57, 58, 59, 60, 61, 62, 63, 64, 65] (by decide +kernel) (by decide +kernel)
set_option maxRecDepth 20000 in
theorem gX4_keep_X2_copy : GoodIn wsX4_keep (wsV RX4 123 RX2 yX2_copy wsX2_copy) := goodIn_app (goodIn_of _ (by decide +kernel)) ggX4_keep_X2_copy
set_option maxRecDepth 20000 in
theorem ggX4_keep_X2_prefix : GoodIn wsX4_keep wsX2_prefix := goodIn_r _ [39, 23, 50, 51, 52, 53, 54, 55, 56, 57, 58, 59, 60, 61, 62, 63, 64, 65] (by decide +kernel) (by decide +kernel)
set_option maxRecDepth 20000 in
theorem gX4_keep_X2_prefix : GoodIn wsX4_keep (wsV RX4 129 RX2 yX2_prefix wsX2_prefix) := goodIn_app (goodIn_of _ (by decide +kernel)) ggX4_keep_X2_prefix
theorem dX4_keep_0 : decode cX4_keep 0 = .ok (.aload_n 0, 1) := by decide +kernel
theorem dX4_keep_1 : decode cX4_keep 1 = .ok (.getfield 16, 3) := by decide +kernel
theorem dX4_keep_4 : decode cX4_keep 4 = .ok (.aload_n 0, 1) := by decide +kernel
theorem dX4_keep_5 : decode cX4_keep 5 = .ok (.getfield 10, 3) := by decide +kernel
theorem dX4_keep_8 : decode cX4_keep 8 = .ok (.invokevirtual 123, 3) := by decide +kernel
theorem dX4_keep_11 : decode cX4_keep 11 = .ok (.aload_n 0, 1) := by decide +kernel
theorem dX4_keep_12 : decode cX4_keep 12 = .ok (.iconst 1, 1) := by decide +kernel
theorem dX4_keep_13 : decode cX4_keep 13 = .ok (.putfield 126, 3) := by decide +kernel
theorem dX4_keep_16 : decode cX4_keep 16 = .ok (.aload_n 0, 1) := by decide +kernel
theorem dX4_keep_17 : decode cX4_keep 17 = .ok (.getfield 10, 3) := by decide +kernel
theorem dX4_keep_20 : decode cX4_keep 20 = .ok (.invokevirtual 129, 3) := by decide +kernel
theorem dX4_keep_23 : decode cX4_keep 23 = .ok (.ireturn, 1) := by decide +kernel
set_option maxRecDepth 20000 in
theorem ggX4_restore_X0_draft : GoodIn wsX4_restore wsX0_draft := goodIn_r _ [9, 10, 11, 12, 13, 14, 15, 16, 17, 18, 19, 20, 21, 22, 23, 24, 25, 26, 27, 28, 29, 30, 31, 32, 33, 34, 35, 36, 37, 38, 39, 40, 41, 42, 43, 70, 71, 72, 73, 74, 75, 76, 77, 78, 79, 80, 81, 82, 83, 84, 85, 86, 87, 88] (by decide +kernel) (by decide +kernel)
set_option maxRecDepth 20000 in
theorem gX4_restore_X0_draft : GoodIn wsX4_restore (wsV RX4 40 RX0 yX0_draft wsX0_draft) := goodIn_app (goodIn_of _ (by decide +kernel)) ggX4_restore_X0_draft
set_option maxRecDepth 20000 in
theorem ggX4_restore_X2_copy : GoodIn wsX4_restore wsX2_copy := goodIn_r _ [16, 17, 18, 19, 20, 21, 22, 23, 24, 25, 26, 27, 28, 29, 30, 31, 32, 33, 34, 15, 35, 36, 37, 38, 39, 40, 41, 42, 43, 73, 74, 75, 76, 77, 78, 79, 80, 81, 82, 83, 84, 85, 86, 87, 88] (by decide +kernel) (by decide +kernel)
set_option maxRecDepth 20000 in
theorem gX4_restore_X2_copy : GoodIn wsX4_restore (wsV RX4 123 RX2 yX2_copy wsX2_copy) := goodIn_app (goodIn_of _ (by decide +kernel)) ggX4_restore_X2_copy
set_option maxRecDepth 20000 in
theorem ggX4_restore_X2_prefix : GoodIn wsX4_restore wsX2_prefix := goodIn_r _ [48, 31, 73, 74, 75, 76, 77, 78, 79, 80, 81, 82, 83, 84, 85, 86, 87, 88] (by decide +kernel) (by decide +kernel)
set_option maxRecDepth 20000 in
theorem gX4_restore_X2_prefix : GoodIn wsX4_restore (wsV RX4 129 RX2 yX2_prefix wsX2_prefix) := goodIn_app (goodIn_of _ (by decide +kernel)) ggX4_restore_X2_prefix
set_option maxRecDepth 20000 in
theorem ggX4_restore_X4_settled : GoodIn wsX4_restore wsX4_settled := goodIn_r _ [53, 2, 54, 55, 56, 8, 57, 11, 58, 59, 37, 38, 39, 60, 61, 62, 63, 64, 65, 66, 67, 68, 69, 70, 71, 72] (by decide +kernel) (by decide +kernel)
set_option maxRecDepth 20000 in
theorem gX4_restore_X4_settled : GoodIn wsX4_restore (wsV RX4 48 RX4 yX4_settled wsX4_settled) := goodIn_app (goodIn_of _ (by decide +kernel)) ggX4_restore_X4_settled
theorem dX4_restore_0 : decode cX4_restore 0 = .ok (.aload_n 0, 1) := by decide +kernel
theorem dX4_restore_1 : decode cX4_restore 1 = .ok (.getfield 126, 3) := by decide +kernel
theorem dX4_restore_4 : decode cX4_restore 4 = .ok (.ifCond .ne 6, 3) := by decide +kernel
theorem dX4_restore_7 : decode cX4_restore 7 = .ok (.bipush (-5), 2) := by decide +kernel
theorem dX4_restore_9 : decode cX4_restore 9 = .ok (.ireturn, 1) := by decide +kernel
theorem dX4_restore_10 : decode cX4_restore 10 = .ok (.aload_n 0, 1) := by decide +kernel
theorem dX4_restore_11 : decode cX4_restore 11 = .ok (.getfield 22, 3) := by decide +kernel
theorem dX4_restore_14 : decode cX4_restore 14 = .ok (.aload_n 0, 1) := by decide +kernel
theorem dX4_restore_15 : decode cX4_restore 15 = .ok (.getfield 10, 3) := by decide +kernel
theorem dX4_restore_18 : decode cX4_restore 18 = .ok (.invokevirtual 40, 3) := by decide +kernel
theorem dX4_restore_21 : decode cX4_restore 21 = .ok (.aload_n 0, 1) := by decide +kernel
theorem dX4_restore_22 : decode cX4_restore 22 = .ok (.getfield 10, 3) := by decide +kernel
theorem dX4_restore_25 : decode cX4_restore 25 = .ok (.aload_n 0, 1) := by decide +kernel
theorem dX4_restore_26 : decode cX4_restore 26 = .ok (.getfield 16, 3) := by decide +kernel
theorem dX4_restore_29 : decode cX4_restore 29 = .ok (.invokevirtual 123, 3) := by decide +kernel
theorem dX4_restore_32 : decode cX4_restore 32 = .ok (.aload_n 0, 1) := by decide +kernel
theorem dX4_restore_33 : decode cX4_restore 33 = .ok (.aload_n 0, 1) := by decide +kernel
theorem dX4_restore_34 : decode cX4_restore 34 = .ok (.getfield 10, 3) := by decide +kernel
theorem dX4_restore_37 : decode cX4_restore 37 = .ok (.invokevirtual 129, 3) := by decide +kernel
theorem dX4_restore_40 : decode cX4_restore 40 = .ok (.invokevirtual 48, 3) := by decide +kernel
theorem dX4_restore_43 : decode cX4_restore 43 = .ok (.ireturn, 1) := by decide +kernel
set_option maxRecDepth 20000 in
theorem ggX4_acceptor_X4_isAcceptor : GoodIn wsX4_acceptor wsX4_isAcceptor := goodIn_r _ [7] (by decide +kernel) (by decide +kernel)
set_option maxRecDepth 20000 in
theorem gX4_acceptor_X4_isAcceptor : GoodIn wsX4_acceptor (va_wsS RX4 132 yX4_isAcceptor wsX4_isAcceptor) := goodIn_app (goodIn_of _ (by decide +kernel)) ggX4_acceptor_X4_isAcceptor
set_option maxRecDepth 20000 in
theorem ggX4_acceptor_X4_has : GoodIn wsX4_acceptor wsX4_has := goodIn_r _ [10] (by decide +kernel) (by decide +kernel)
set_option maxRecDepth 20000 in
theorem gX4_acceptor_X4_has : GoodIn wsX4_acceptor (va_wsS RX4 138 yX4_has wsX4_has) := goodIn_app (goodIn_of _ (by decide +kernel)) ggX4_acceptor_X4_has
set_option maxRecDepth 20000 in
theorem ggX4_acceptor_X2_votesOf : GoodIn wsX4_acceptor wsX2_votesOf := goodIn_r _ [15, 16, 17, 6, 18, 29, 30, 31, 32, 33, 34, 35, 36, 37, 38, 39, 40, 41, 42, 43, 44] (by decide +kernel) (by decide +kernel)
set_option maxRecDepth 20000 in
theorem gX4_acceptor_X2_votesOf : GoodIn wsX4_acceptor (wsV RX4 146 RX2 yX2_votesOf wsX2_votesOf) := goodIn_app (goodIn_of _ (by decide +kernel)) ggX4_acceptor_X2_votesOf
theorem dX4_acceptor_0 : decode cX4_acceptor 0 = .ok (.iload_n 1, 1) := by decide +kernel
theorem dX4_acceptor_1 : decode cX4_acceptor 1 = .ok (.invokestatic 132, 3) := by decide +kernel
theorem dX4_acceptor_4 : decode cX4_acceptor 4 = .ok (.ifCond .ne 5, 3) := by decide +kernel
theorem dX4_acceptor_7 : decode cX4_acceptor 7 = .ok (.iconst (-1), 1) := by decide +kernel
theorem dX4_acceptor_8 : decode cX4_acceptor 8 = .ok (.ireturn, 1) := by decide +kernel
theorem dX4_acceptor_9 : decode cX4_acceptor 9 = .ok (.iload_n 2, 1) := by decide +kernel
theorem dX4_acceptor_10 : decode cX4_acceptor 10 = .ok (.tableswitch 67 0 2 #[26, 46, 56], 26) := by decide +kernel
theorem dX4_acceptor_36 : decode cX4_acceptor 36 = .ok (.aload_n 0, 1) := by decide +kernel
theorem dX4_acceptor_37 : decode cX4_acceptor 37 = .ok (.getfield 10, 3) := by decide +kernel
theorem dX4_acceptor_40 : decode cX4_acceptor 40 = .ok (.getfield 135, 3) := by decide +kernel
theorem dX4_acceptor_43 : decode cX4_acceptor 43 = .ok (.iload_n 1, 1) := by decide +kernel
theorem dX4_acceptor_44 : decode cX4_acceptor 44 = .ok (.invokestatic 138, 3) := by decide +kernel
theorem dX4_acceptor_47 : decode cX4_acceptor 47 = .ok (.ifCond .eq 7, 3) := by decide +kernel
theorem dX4_acceptor_50 : decode cX4_acceptor 50 = .ok (.iconst 1, 1) := by decide +kernel
theorem dX4_acceptor_51 : decode cX4_acceptor 51 = .ok (.goto 4, 3) := by decide +kernel
theorem dX4_acceptor_54 : decode cX4_acceptor 54 = .ok (.iconst 0, 1) := by decide +kernel
theorem dX4_acceptor_55 : decode cX4_acceptor 55 = .ok (.ireturn, 1) := by decide +kernel
theorem dX4_acceptor_56 : decode cX4_acceptor 56 = .ok (.aload_n 0, 1) := by decide +kernel
theorem dX4_acceptor_57 : decode cX4_acceptor 57 = .ok (.getfield 10, 3) := by decide +kernel
theorem dX4_acceptor_60 : decode cX4_acceptor 60 = .ok (.getfield 142, 3) := by decide +kernel
theorem dX4_acceptor_63 : decode cX4_acceptor 63 = .ok (.iload_n 1, 1) := by decide +kernel
theorem dX4_acceptor_64 : decode cX4_acceptor 64 = .ok (.iaload, 1) := by decide +kernel
theorem dX4_acceptor_65 : decode cX4_acceptor 65 = .ok (.ireturn, 1) := by decide +kernel
theorem dX4_acceptor_66 : decode cX4_acceptor 66 = .ok (.aload_n 0, 1) := by decide +kernel
theorem dX4_acceptor_67 : decode cX4_acceptor 67 = .ok (.getfield 10, 3) := by decide +kernel
theorem dX4_acceptor_70 : decode cX4_acceptor 70 = .ok (.iload_n 1, 1) := by decide +kernel
theorem dX4_acceptor_71 : decode cX4_acceptor 71 = .ok (.bipush 16, 2) := by decide +kernel
theorem dX4_acceptor_73 : decode cX4_acceptor 73 = .ok (.invokevirtual 146, 3) := by decide +kernel
theorem dX4_acceptor_76 : decode cX4_acceptor 76 = .ok (.ireturn, 1) := by decide +kernel
theorem dX4_acceptor_77 : decode cX4_acceptor 77 = .ok (.bipush (-2), 2) := by decide +kernel
theorem dX4_acceptor_79 : decode cX4_acceptor 79 = .ok (.ireturn, 1) := by decide +kernel
set_option maxRecDepth 20000 in
theorem ggX4_voted_X4_isAcceptor : GoodIn wsX4_voted wsX4_isAcceptor := goodIn_r _ [7] (by decide +kernel) (by decide +kernel)
set_option maxRecDepth 20000 in
theorem gX4_voted_X4_isAcceptor : GoodIn wsX4_voted (va_wsS RX4 132 yX4_isAcceptor wsX4_isAcceptor) := goodIn_app (goodIn_of _ (by decide +kernel)) ggX4_voted_X4_isAcceptor
set_option maxRecDepth 20000 in
theorem ggX4_voted_X4_isSlot : GoodIn wsX4_voted wsX4_isSlot := goodIn_r _ [10] (by decide +kernel) (by decide +kernel)
set_option maxRecDepth 20000 in
theorem gX4_voted_X4_isSlot : GoodIn wsX4_voted (va_wsS RX4 149 yX4_isSlot wsX4_isSlot) := goodIn_app (goodIn_of _ (by decide +kernel)) ggX4_voted_X4_isSlot
set_option maxRecDepth 20000 in
theorem ggX4_voted_X4_cell : GoodIn wsX4_voted wsX4_cell := goodIn_r _ [13] (by decide +kernel) (by decide +kernel)
set_option maxRecDepth 20000 in
theorem gX4_voted_X4_cell : GoodIn wsX4_voted (va_wsS RX4 152 yX4_cell wsX4_cell) := goodIn_app (goodIn_of _ (by decide +kernel)) ggX4_voted_X4_cell
theorem dX4_voted_0 : decode cX4_voted 0 = .ok (.iload_n 1, 1) := by decide +kernel
theorem dX4_voted_1 : decode cX4_voted 1 = .ok (.invokestatic 132, 3) := by decide +kernel
theorem dX4_voted_4 : decode cX4_voted 4 = .ok (.ifCond .eq 10, 3) := by decide +kernel
theorem dX4_voted_7 : decode cX4_voted 7 = .ok (.iload_n 2, 1) := by decide +kernel
theorem dX4_voted_8 : decode cX4_voted 8 = .ok (.invokestatic 149, 3) := by decide +kernel
theorem dX4_voted_11 : decode cX4_voted 11 = .ok (.ifCond .ne 5, 3) := by decide +kernel
theorem dX4_voted_14 : decode cX4_voted 14 = .ok (.iconst (-1), 1) := by decide +kernel
theorem dX4_voted_15 : decode cX4_voted 15 = .ok (.ireturn, 1) := by decide +kernel
theorem dX4_voted_16 : decode cX4_voted 16 = .ok (.iload_n 3, 1) := by decide +kernel
theorem dX4_voted_17 : decode cX4_voted 17 = .ok (.ifCond .lt 8, 3) := by decide +kernel
theorem dX4_voted_20 : decode cX4_voted 20 = .ok (.iload_n 3, 1) := by decide +kernel
theorem dX4_voted_21 : decode cX4_voted 21 = .ok (.iconst 1, 1) := by decide +kernel
theorem dX4_voted_22 : decode cX4_voted 22 = .ok (.if_icmp .le 6, 3) := by decide +kernel
theorem dX4_voted_25 : decode cX4_voted 25 = .ok (.bipush (-2), 2) := by decide +kernel
theorem dX4_voted_27 : decode cX4_voted 27 = .ok (.ireturn, 1) := by decide +kernel
theorem dX4_voted_28 : decode cX4_voted 28 = .ok (.iload_n 1, 1) := by decide +kernel
theorem dX4_voted_29 : decode cX4_voted 29 = .ok (.iload_n 2, 1) := by decide +kernel
theorem dX4_voted_30 : decode cX4_voted 30 = .ok (.invokestatic 152, 3) := by decide +kernel
theorem dX4_voted_33 : decode cX4_voted 33 = .ok (.istore 4, 2) := by decide +kernel
theorem dX4_voted_35 : decode cX4_voted 35 = .ok (.aload_n 0, 1) := by decide +kernel
theorem dX4_voted_36 : decode cX4_voted 36 = .ok (.getfield 10, 3) := by decide +kernel
theorem dX4_voted_39 : decode cX4_voted 39 = .ok (.getfield 155, 3) := by decide +kernel
theorem dX4_voted_42 : decode cX4_voted 42 = .ok (.iload 4, 2) := by decide +kernel
theorem dX4_voted_44 : decode cX4_voted 44 = .ok (.iaload, 1) := by decide +kernel
theorem dX4_voted_45 : decode cX4_voted 45 = .ok (.ifCond .ne 6, 3) := by decide +kernel
theorem dX4_voted_48 : decode cX4_voted 48 = .ok (.bipush (-5), 2) := by decide +kernel
theorem dX4_voted_50 : decode cX4_voted 50 = .ok (.ireturn, 1) := by decide +kernel
theorem dX4_voted_51 : decode cX4_voted 51 = .ok (.iload_n 3, 1) := by decide +kernel
theorem dX4_voted_52 : decode cX4_voted 52 = .ok (.ifCond .ne 16, 3) := by decide +kernel
theorem dX4_voted_55 : decode cX4_voted 55 = .ok (.aload_n 0, 1) := by decide +kernel
theorem dX4_voted_56 : decode cX4_voted 56 = .ok (.getfield 10, 3) := by decide +kernel
theorem dX4_voted_59 : decode cX4_voted 59 = .ok (.getfield 155, 3) := by decide +kernel
theorem dX4_voted_62 : decode cX4_voted 62 = .ok (.iload 4, 2) := by decide +kernel
theorem dX4_voted_64 : decode cX4_voted 64 = .ok (.iaload, 1) := by decide +kernel
theorem dX4_voted_65 : decode cX4_voted 65 = .ok (.goto 13, 3) := by decide +kernel
theorem dX4_voted_68 : decode cX4_voted 68 = .ok (.aload_n 0, 1) := by decide +kernel
theorem dX4_voted_69 : decode cX4_voted 69 = .ok (.getfield 10, 3) := by decide +kernel
theorem dX4_voted_72 : decode cX4_voted 72 = .ok (.getfield 158, 3) := by decide +kernel
theorem dX4_voted_75 : decode cX4_voted 75 = .ok (.iload 4, 2) := by decide +kernel
theorem dX4_voted_77 : decode cX4_voted 77 = .ok (.iaload, 1) := by decide +kernel
theorem dX4_voted_78 : decode cX4_voted 78 = .ok (.ireturn, 1) := by decide +kernel
set_option maxRecDepth 20000 in
theorem ggX4_proposer_X4_isProposer : GoodIn wsX4_proposer wsX4_isProposer := goodIn_r _ [8] (by decide +kernel) (by decide +kernel)
set_option maxRecDepth 20000 in
theorem gX4_proposer_X4_isProposer : GoodIn wsX4_proposer (va_wsS RX4 161 yX4_isProposer wsX4_isProposer) := goodIn_app (goodIn_of _ (by decide +kernel)) ggX4_proposer_X4_isProposer
set_option maxRecDepth 20000 in
theorem ggX4_proposer_X2_offersOf : GoodIn wsX4_proposer wsX2_offersOf := goodIn_r _ [13, 14, 15, 7, 16, 27, 28, 29, 30, 31, 32, 33, 34, 35, 36, 37, 38, 39, 40, 41, 42] (by decide +kernel) (by decide +kernel)
set_option maxRecDepth 20000 in
theorem gX4_proposer_X2_offersOf : GoodIn wsX4_proposer (wsV RX4 173 RX2 yX2_offersOf wsX2_offersOf) := goodIn_app (goodIn_of _ (by decide +kernel)) ggX4_proposer_X2_offersOf
theorem dX4_proposer_0 : decode cX4_proposer 0 = .ok (.iload_n 1, 1) := by decide +kernel
theorem dX4_proposer_1 : decode cX4_proposer 1 = .ok (.invokestatic 161, 3) := by decide +kernel
theorem dX4_proposer_4 : decode cX4_proposer 4 = .ok (.ifCond .ne 5, 3) := by decide +kernel
theorem dX4_proposer_7 : decode cX4_proposer 7 = .ok (.iconst (-1), 1) := by decide +kernel
theorem dX4_proposer_8 : decode cX4_proposer 8 = .ok (.ireturn, 1) := by decide +kernel
theorem dX4_proposer_9 : decode cX4_proposer 9 = .ok (.iload_n 2, 1) := by decide +kernel
theorem dX4_proposer_10 : decode cX4_proposer 10 = .ok (.tableswitch 69 0 3 #[30, 40, 50, 60], 30) := by decide +kernel
theorem dX4_proposer_40 : decode cX4_proposer 40 = .ok (.aload_n 0, 1) := by decide +kernel
theorem dX4_proposer_41 : decode cX4_proposer 41 = .ok (.getfield 10, 3) := by decide +kernel
theorem dX4_proposer_44 : decode cX4_proposer 44 = .ok (.getfield 164, 3) := by decide +kernel
theorem dX4_proposer_47 : decode cX4_proposer 47 = .ok (.iload_n 1, 1) := by decide +kernel
theorem dX4_proposer_48 : decode cX4_proposer 48 = .ok (.iaload, 1) := by decide +kernel
theorem dX4_proposer_49 : decode cX4_proposer 49 = .ok (.ireturn, 1) := by decide +kernel
theorem dX4_proposer_50 : decode cX4_proposer 50 = .ok (.aload_n 0, 1) := by decide +kernel
theorem dX4_proposer_51 : decode cX4_proposer 51 = .ok (.getfield 10, 3) := by decide +kernel
theorem dX4_proposer_54 : decode cX4_proposer 54 = .ok (.getfield 167, 3) := by decide +kernel
theorem dX4_proposer_57 : decode cX4_proposer 57 = .ok (.iload_n 1, 1) := by decide +kernel
theorem dX4_proposer_58 : decode cX4_proposer 58 = .ok (.iaload, 1) := by decide +kernel
theorem dX4_proposer_59 : decode cX4_proposer 59 = .ok (.ireturn, 1) := by decide +kernel
theorem dX4_proposer_60 : decode cX4_proposer 60 = .ok (.aload_n 0, 1) := by decide +kernel
theorem dX4_proposer_61 : decode cX4_proposer 61 = .ok (.getfield 10, 3) := by decide +kernel
theorem dX4_proposer_64 : decode cX4_proposer 64 = .ok (.getfield 170, 3) := by decide +kernel
theorem dX4_proposer_67 : decode cX4_proposer 67 = .ok (.iload_n 1, 1) := by decide +kernel
theorem dX4_proposer_68 : decode cX4_proposer 68 = .ok (.iaload, 1) := by decide +kernel
theorem dX4_proposer_69 : decode cX4_proposer 69 = .ok (.ireturn, 1) := by decide +kernel
theorem dX4_proposer_70 : decode cX4_proposer 70 = .ok (.aload_n 0, 1) := by decide +kernel
theorem dX4_proposer_71 : decode cX4_proposer 71 = .ok (.getfield 10, 3) := by decide +kernel
theorem dX4_proposer_74 : decode cX4_proposer 74 = .ok (.iload_n 1, 1) := by decide +kernel
theorem dX4_proposer_75 : decode cX4_proposer 75 = .ok (.invokevirtual 173, 3) := by decide +kernel
theorem dX4_proposer_78 : decode cX4_proposer 78 = .ok (.ireturn, 1) := by decide +kernel
theorem dX4_proposer_79 : decode cX4_proposer 79 = .ok (.bipush (-2), 2) := by decide +kernel
theorem dX4_proposer_81 : decode cX4_proposer 81 = .ok (.ireturn, 1) := by decide +kernel
set_option maxRecDepth 20000 in
theorem ggX4_proposed_X4_isProposer : GoodIn wsX4_proposed wsX4_isProposer := goodIn_r _ [6] (by decide +kernel) (by decide +kernel)
set_option maxRecDepth 20000 in
theorem gX4_proposed_X4_isProposer : GoodIn wsX4_proposed (va_wsS RX4 161 yX4_isProposer wsX4_isProposer) := goodIn_app (goodIn_of _ (by decide +kernel)) ggX4_proposed_X4_isProposer
set_option maxRecDepth 20000 in
theorem ggX4_proposed_X4_isSlot : GoodIn wsX4_proposed wsX4_isSlot := goodIn_r _ [9] (by decide +kernel) (by decide +kernel)
set_option maxRecDepth 20000 in
theorem gX4_proposed_X4_isSlot : GoodIn wsX4_proposed (va_wsS RX4 149 yX4_isSlot wsX4_isSlot) := goodIn_app (goodIn_of _ (by decide +kernel)) ggX4_proposed_X4_isSlot
set_option maxRecDepth 20000 in
theorem ggX4_proposed_X4_cell : GoodIn wsX4_proposed wsX4_cell := goodIn_r _ [12] (by decide +kernel) (by decide +kernel)
set_option maxRecDepth 20000 in
theorem gX4_proposed_X4_cell : GoodIn wsX4_proposed (va_wsS RX4 152 yX4_cell wsX4_cell) := goodIn_app (goodIn_of _ (by decide +kernel)) ggX4_proposed_X4_cell
set_option maxRecDepth 20000 in
theorem ggX4_proposed_X4_orNone : GoodIn wsX4_proposed wsX4_orNone := goodIn_r _ [15] (by decide +kernel) (by decide +kernel)
set_option maxRecDepth 20000 in
theorem gX4_proposed_X4_orNone : GoodIn wsX4_proposed (va_wsS RX4 179 yX4_orNone wsX4_orNone) := goodIn_app (goodIn_of _ (by decide +kernel)) ggX4_proposed_X4_orNone
set_option maxRecDepth 20000 in
theorem ggX4_proposed_X2_isOpen : GoodIn wsX4_proposed wsX2_isOpen := goodIn_r _ [20, 21, 22, 23, 19, 24, 25, 76, 77, 78, 79, 80, 81, 82, 83, 84, 85, 86, 87, 88, 89, 90, 91] (by decide +kernel) (by decide +kernel)
set_option maxRecDepth 20000 in
theorem gX4_proposed_X2_isOpen : GoodIn wsX4_proposed (wsV RX4 182 RX2 yX2_isOpen wsX2_isOpen) := goodIn_app (goodIn_of _ (by decide +kernel)) ggX4_proposed_X2_isOpen
set_option maxRecDepth 20000 in
theorem ggX4_proposed_X2_boundValue : GoodIn wsX4_proposed wsX2_boundValue := goodIn_r _ [29, 30, 31, 32, 33, 34, 35, 19, 36, 25, 11, 5, 12, 37, 38, 76, 77, 78, 79, 80, 81, 82, 83, 84, 85, 86, 87, 88, 89, 90, 91] (by decide +kernel) (by decide +kernel)
set_option maxRecDepth 20000 in
theorem gX4_proposed_X2_boundValue : GoodIn wsX4_proposed (wsV RX4 185 RX2 yX2_boundValue wsX2_boundValue) := goodIn_app (goodIn_of _ (by decide +kernel)) ggX4_proposed_X2_boundValue
set_option maxRecDepth 20000 in
theorem ggX4_proposed_X2_promisesMissing : GoodIn wsX4_proposed wsX2_promisesMissing := goodIn_r _ [42, 30, 43, 44, 45, 46, 33, 34, 35, 19, 36, 25, 47, 48, 49, 50, 51, 52, 53, 54, 55, 56, 57, 58, 59, 60, 61, 62, 63, 64, 65, 76, 77, 78, 79, 80, 81, 82, 83, 84, 85, 86, 87, 88, 89, 90, 91] (by decide +kernel) (by decide +kernel)
set_option maxRecDepth 20000 in
theorem gX4_proposed_X2_promisesMissing : GoodIn wsX4_proposed (wsV RX4 188 RX2 yX2_promisesMissing wsX2_promisesMissing) := goodIn_app (goodIn_of _ (by decide +kernel)) ggX4_proposed_X2_promisesMissing
theorem dX4_proposed_0 : decode cX4_proposed 0 = .ok (.iload_n 1, 1) := by decide +kernel
theorem dX4_proposed_1 : decode cX4_proposed 1 = .ok (.invokestatic 161, 3) := by decide +kernel
theorem dX4_proposed_4 : decode cX4_proposed 4 = .ok (.ifCond .eq 10, 3) := by decide +kernel
theorem dX4_proposed_7 : decode cX4_proposed 7 = .ok (.iload_n 2, 1) := by decide +kernel
theorem dX4_proposed_8 : decode cX4_proposed 8 = .ok (.invokestatic 149, 3) := by decide +kernel
theorem dX4_proposed_11 : decode cX4_proposed 11 = .ok (.ifCond .ne 5, 3) := by decide +kernel
theorem dX4_proposed_14 : decode cX4_proposed 14 = .ok (.iconst (-1), 1) := by decide +kernel
theorem dX4_proposed_15 : decode cX4_proposed 15 = .ok (.ireturn, 1) := by decide +kernel
theorem dX4_proposed_16 : decode cX4_proposed 16 = .ok (.iload_n 3, 1) := by decide +kernel
theorem dX4_proposed_17 : decode cX4_proposed 17 = .ok (.tableswitch 96 0 2 #[27, 44, 70], 27) := by decide +kernel
theorem dX4_proposed_44 : decode cX4_proposed 44 = .ok (.aload_n 0, 1) := by decide +kernel
theorem dX4_proposed_45 : decode cX4_proposed 45 = .ok (.getfield 10, 3) := by decide +kernel
theorem dX4_proposed_48 : decode cX4_proposed 48 = .ok (.getfield 176, 3) := by decide +kernel
theorem dX4_proposed_51 : decode cX4_proposed 51 = .ok (.iload_n 1, 1) := by decide +kernel
theorem dX4_proposed_52 : decode cX4_proposed 52 = .ok (.iload_n 2, 1) := by decide +kernel
theorem dX4_proposed_53 : decode cX4_proposed 53 = .ok (.invokestatic 152, 3) := by decide +kernel
theorem dX4_proposed_56 : decode cX4_proposed 56 = .ok (.iaload, 1) := by decide +kernel
theorem dX4_proposed_57 : decode cX4_proposed 57 = .ok (.invokestatic 179, 3) := by decide +kernel
theorem dX4_proposed_60 : decode cX4_proposed 60 = .ok (.ireturn, 1) := by decide +kernel
theorem dX4_proposed_61 : decode cX4_proposed 61 = .ok (.aload_n 0, 1) := by decide +kernel
theorem dX4_proposed_62 : decode cX4_proposed 62 = .ok (.getfield 10, 3) := by decide +kernel
theorem dX4_proposed_65 : decode cX4_proposed 65 = .ok (.iload_n 2, 1) := by decide +kernel
theorem dX4_proposed_66 : decode cX4_proposed 66 = .ok (.invokevirtual 182, 3) := by decide +kernel
theorem dX4_proposed_69 : decode cX4_proposed 69 = .ok (.ifCond .eq 15, 3) := by decide +kernel
theorem dX4_proposed_72 : decode cX4_proposed 72 = .ok (.aload_n 0, 1) := by decide +kernel
theorem dX4_proposed_73 : decode cX4_proposed 73 = .ok (.getfield 10, 3) := by decide +kernel
theorem dX4_proposed_76 : decode cX4_proposed 76 = .ok (.iload_n 1, 1) := by decide +kernel
theorem dX4_proposed_77 : decode cX4_proposed 77 = .ok (.iload_n 2, 1) := by decide +kernel
theorem dX4_proposed_78 : decode cX4_proposed 78 = .ok (.invokevirtual 185, 3) := by decide +kernel
theorem dX4_proposed_81 : decode cX4_proposed 81 = .ok (.goto 5, 3) := by decide +kernel
theorem dX4_proposed_84 : decode cX4_proposed 84 = .ok (.bipush (-5), 2) := by decide +kernel
theorem dX4_proposed_86 : decode cX4_proposed 86 = .ok (.ireturn, 1) := by decide +kernel
theorem dX4_proposed_87 : decode cX4_proposed 87 = .ok (.aload_n 0, 1) := by decide +kernel
theorem dX4_proposed_88 : decode cX4_proposed 88 = .ok (.getfield 10, 3) := by decide +kernel
theorem dX4_proposed_91 : decode cX4_proposed 91 = .ok (.iload_n 2, 1) := by decide +kernel
theorem dX4_proposed_92 : decode cX4_proposed 92 = .ok (.invokevirtual 182, 3) := by decide +kernel
theorem dX4_proposed_95 : decode cX4_proposed 95 = .ok (.ifCond .eq 15, 3) := by decide +kernel
theorem dX4_proposed_98 : decode cX4_proposed 98 = .ok (.aload_n 0, 1) := by decide +kernel
theorem dX4_proposed_99 : decode cX4_proposed 99 = .ok (.getfield 10, 3) := by decide +kernel
theorem dX4_proposed_102 : decode cX4_proposed 102 = .ok (.iload_n 1, 1) := by decide +kernel
theorem dX4_proposed_103 : decode cX4_proposed 103 = .ok (.iload_n 2, 1) := by decide +kernel
theorem dX4_proposed_104 : decode cX4_proposed 104 = .ok (.invokevirtual 188, 3) := by decide +kernel
theorem dX4_proposed_107 : decode cX4_proposed 107 = .ok (.goto 5, 3) := by decide +kernel
theorem dX4_proposed_110 : decode cX4_proposed 110 = .ok (.bipush (-5), 2) := by decide +kernel
theorem dX4_proposed_112 : decode cX4_proposed 112 = .ok (.ireturn, 1) := by decide +kernel
theorem dX4_proposed_113 : decode cX4_proposed 113 = .ok (.bipush (-2), 2) := by decide +kernel
theorem dX4_proposed_115 : decode cX4_proposed 115 = .ok (.ireturn, 1) := by decide +kernel
set_option maxRecDepth 20000 in
theorem ggX4_slot_X4_isSlot : GoodIn wsX4_slot wsX4_isSlot := goodIn_r _ [8] (by decide +kernel) (by decide +kernel)
set_option maxRecDepth 20000 in
theorem gX4_slot_X4_isSlot : GoodIn wsX4_slot (va_wsS RX4 149 yX4_isSlot wsX4_isSlot) := goodIn_app (goodIn_of _ (by decide +kernel)) ggX4_slot_X4_isSlot
set_option maxRecDepth 20000 in
theorem ggX4_slot_X4_orNone : GoodIn wsX4_slot wsX4_orNone := goodIn_r _ [11] (by decide +kernel) (by decide +kernel)
set_option maxRecDepth 20000 in
theorem gX4_slot_X4_orNone : GoodIn wsX4_slot (va_wsS RX4 179 yX4_orNone wsX4_orNone) := goodIn_app (goodIn_of _ (by decide +kernel)) ggX4_slot_X4_orNone
set_option maxRecDepth 20000 in
theorem ggX4_slot_X2_isOpen : GoodIn wsX4_slot wsX2_isOpen := goodIn_r _ [16, 17, 18, 19, 15, 20, 21, 57, 58, 59, 60, 61, 62, 63, 64, 65, 66, 67, 68, 69, 70, 71, 72] (by decide +kernel) (by decide +kernel)
set_option maxRecDepth 20000 in
theorem gX4_slot_X2_isOpen : GoodIn wsX4_slot (wsV RX4 182 RX2 yX2_isOpen wsX2_isOpen) := goodIn_app (goodIn_of _ (by decide +kernel)) ggX4_slot_X2_isOpen
set_option maxRecDepth 20000 in
theorem ggX4_slot_X2_votersOf : GoodIn wsX4_slot wsX2_votersOf := goodIn_r _ [25, 21, 57, 58, 59, 60, 61, 62, 63, 64, 65, 66, 67, 68, 69, 70, 71, 72] (by decide +kernel) (by decide +kernel)
set_option maxRecDepth 20000 in
theorem gX4_slot_X2_votersOf : GoodIn wsX4_slot (wsV RX4 197 RX2 yX2_votersOf wsX2_votersOf) := goodIn_app (goodIn_of _ (by decide +kernel)) ggX4_slot_X2_votersOf
set_option maxRecDepth 20000 in
theorem ggX4_slot_X2_firstSize : GoodIn wsX4_slot wsX2_firstSize := goodIn_r _ [29, 30, 31, 32, 33, 34, 35, 36, 37, 38, 39, 15, 40, 41, 42, 43, 44, 45, 57, 58, 59, 60, 61, 62, 63, 64, 65, 66, 67, 68, 69, 70, 71, 72] (by decide +kernel) (by decide +kernel)
set_option maxRecDepth 20000 in
theorem gX4_slot_X2_firstSize : GoodIn wsX4_slot (wsV RX4 200 RX2 yX2_firstSize wsX2_firstSize) := goodIn_app (goodIn_of _ (by decide +kernel)) ggX4_slot_X2_firstSize
set_option maxRecDepth 20000 in
theorem ggX4_slot_X2_secondSize : GoodIn wsX4_slot wsX2_secondSize := goodIn_r _ [40, 41, 42, 43, 44, 45, 30, 31, 32, 33, 34, 35, 36, 57, 58, 59, 60, 61, 62, 63, 64, 65, 66, 67, 68, 69, 70, 71, 72] (by decide +kernel) (by decide +kernel)
set_option maxRecDepth 20000 in
theorem gX4_slot_X2_secondSize : GoodIn wsX4_slot (wsV RX4 203 RX2 yX2_secondSize wsX2_secondSize) := goodIn_app (goodIn_of _ (by decide +kernel)) ggX4_slot_X2_secondSize
theorem dX4_slot_0 : decode cX4_slot 0 = .ok (.iload_n 1, 1) := by decide +kernel
theorem dX4_slot_1 : decode cX4_slot 1 = .ok (.invokestatic 149, 3) := by decide +kernel
theorem dX4_slot_4 : decode cX4_slot 4 = .ok (.ifCond .ne 5, 3) := by decide +kernel
theorem dX4_slot_7 : decode cX4_slot 7 = .ok (.iconst (-1), 1) := by decide +kernel
theorem dX4_slot_8 : decode cX4_slot 8 = .ok (.ireturn, 1) := by decide +kernel
theorem dX4_slot_9 : decode cX4_slot 9 = .ok (.iload_n 2, 1) := by decide +kernel
theorem dX4_slot_10 : decode cX4_slot 10 = .ok (.tableswitch 170 0 5 #[38, 51, 64, 89, 121, 153], 38) := by decide +kernel
theorem dX4_slot_48 : decode cX4_slot 48 = .ok (.aload_n 0, 1) := by decide +kernel
theorem dX4_slot_49 : decode cX4_slot 49 = .ok (.getfield 10, 3) := by decide +kernel
theorem dX4_slot_52 : decode cX4_slot 52 = .ok (.getfield 191, 3) := by decide +kernel
theorem dX4_slot_55 : decode cX4_slot 55 = .ok (.iload_n 1, 1) := by decide +kernel
theorem dX4_slot_56 : decode cX4_slot 56 = .ok (.iaload, 1) := by decide +kernel
theorem dX4_slot_57 : decode cX4_slot 57 = .ok (.invokestatic 179, 3) := by decide +kernel
theorem dX4_slot_60 : decode cX4_slot 60 = .ok (.ireturn, 1) := by decide +kernel
theorem dX4_slot_61 : decode cX4_slot 61 = .ok (.aload_n 0, 1) := by decide +kernel
theorem dX4_slot_62 : decode cX4_slot 62 = .ok (.getfield 10, 3) := by decide +kernel
theorem dX4_slot_65 : decode cX4_slot 65 = .ok (.getfield 194, 3) := by decide +kernel
theorem dX4_slot_68 : decode cX4_slot 68 = .ok (.iload_n 1, 1) := by decide +kernel
theorem dX4_slot_69 : decode cX4_slot 69 = .ok (.iaload, 1) := by decide +kernel
theorem dX4_slot_70 : decode cX4_slot 70 = .ok (.invokestatic 179, 3) := by decide +kernel
theorem dX4_slot_73 : decode cX4_slot 73 = .ok (.ireturn, 1) := by decide +kernel
theorem dX4_slot_74 : decode cX4_slot 74 = .ok (.aload_n 0, 1) := by decide +kernel
theorem dX4_slot_75 : decode cX4_slot 75 = .ok (.getfield 10, 3) := by decide +kernel
theorem dX4_slot_78 : decode cX4_slot 78 = .ok (.iload_n 1, 1) := by decide +kernel
theorem dX4_slot_79 : decode cX4_slot 79 = .ok (.invokevirtual 182, 3) := by decide +kernel
theorem dX4_slot_82 : decode cX4_slot 82 = .ok (.ifCond .eq 14, 3) := by decide +kernel
theorem dX4_slot_85 : decode cX4_slot 85 = .ok (.aload_n 0, 1) := by decide +kernel
theorem dX4_slot_86 : decode cX4_slot 86 = .ok (.getfield 10, 3) := by decide +kernel
theorem dX4_slot_89 : decode cX4_slot 89 = .ok (.iload_n 1, 1) := by decide +kernel
theorem dX4_slot_90 : decode cX4_slot 90 = .ok (.invokevirtual 197, 3) := by decide +kernel
theorem dX4_slot_93 : decode cX4_slot 93 = .ok (.goto 5, 3) := by decide +kernel
theorem dX4_slot_96 : decode cX4_slot 96 = .ok (.bipush (-5), 2) := by decide +kernel
theorem dX4_slot_98 : decode cX4_slot 98 = .ok (.ireturn, 1) := by decide +kernel
theorem dX4_slot_99 : decode cX4_slot 99 = .ok (.aload_n 0, 1) := by decide +kernel
theorem dX4_slot_100 : decode cX4_slot 100 = .ok (.getfield 10, 3) := by decide +kernel
theorem dX4_slot_103 : decode cX4_slot 103 = .ok (.iload_n 1, 1) := by decide +kernel
theorem dX4_slot_104 : decode cX4_slot 104 = .ok (.invokevirtual 182, 3) := by decide +kernel
theorem dX4_slot_107 : decode cX4_slot 107 = .ok (.ifCond .eq 21, 3) := by decide +kernel
theorem dX4_slot_110 : decode cX4_slot 110 = .ok (.aload_n 0, 1) := by decide +kernel
theorem dX4_slot_111 : decode cX4_slot 111 = .ok (.getfield 10, 3) := by decide +kernel
theorem dX4_slot_114 : decode cX4_slot 114 = .ok (.aload_n 0, 1) := by decide +kernel
theorem dX4_slot_115 : decode cX4_slot 115 = .ok (.getfield 10, 3) := by decide +kernel
theorem dX4_slot_118 : decode cX4_slot 118 = .ok (.iload_n 1, 1) := by decide +kernel
theorem dX4_slot_119 : decode cX4_slot 119 = .ok (.invokevirtual 197, 3) := by decide +kernel
theorem dX4_slot_122 : decode cX4_slot 122 = .ok (.invokevirtual 200, 3) := by decide +kernel
theorem dX4_slot_125 : decode cX4_slot 125 = .ok (.goto 5, 3) := by decide +kernel
theorem dX4_slot_128 : decode cX4_slot 128 = .ok (.bipush (-5), 2) := by decide +kernel
theorem dX4_slot_130 : decode cX4_slot 130 = .ok (.ireturn, 1) := by decide +kernel
theorem dX4_slot_131 : decode cX4_slot 131 = .ok (.aload_n 0, 1) := by decide +kernel
theorem dX4_slot_132 : decode cX4_slot 132 = .ok (.getfield 10, 3) := by decide +kernel
theorem dX4_slot_135 : decode cX4_slot 135 = .ok (.iload_n 1, 1) := by decide +kernel
theorem dX4_slot_136 : decode cX4_slot 136 = .ok (.invokevirtual 182, 3) := by decide +kernel
theorem dX4_slot_139 : decode cX4_slot 139 = .ok (.ifCond .eq 21, 3) := by decide +kernel
theorem dX4_slot_142 : decode cX4_slot 142 = .ok (.aload_n 0, 1) := by decide +kernel
theorem dX4_slot_143 : decode cX4_slot 143 = .ok (.getfield 10, 3) := by decide +kernel
theorem dX4_slot_146 : decode cX4_slot 146 = .ok (.aload_n 0, 1) := by decide +kernel
theorem dX4_slot_147 : decode cX4_slot 147 = .ok (.getfield 10, 3) := by decide +kernel
theorem dX4_slot_150 : decode cX4_slot 150 = .ok (.iload_n 1, 1) := by decide +kernel
theorem dX4_slot_151 : decode cX4_slot 151 = .ok (.invokevirtual 197, 3) := by decide +kernel
theorem dX4_slot_154 : decode cX4_slot 154 = .ok (.invokevirtual 203, 3) := by decide +kernel
theorem dX4_slot_157 : decode cX4_slot 157 = .ok (.goto 5, 3) := by decide +kernel
theorem dX4_slot_160 : decode cX4_slot 160 = .ok (.bipush (-5), 2) := by decide +kernel
theorem dX4_slot_162 : decode cX4_slot 162 = .ok (.ireturn, 1) := by decide +kernel
theorem dX4_slot_163 : decode cX4_slot 163 = .ok (.iload_n 1, 1) := by decide +kernel
theorem dX4_slot_164 : decode cX4_slot 164 = .ok (.aload_n 0, 1) := by decide +kernel
theorem dX4_slot_165 : decode cX4_slot 165 = .ok (.getfield 10, 3) := by decide +kernel
theorem dX4_slot_168 : decode cX4_slot 168 = .ok (.getfield 206, 3) := by decide +kernel
theorem dX4_slot_171 : decode cX4_slot 171 = .ok (.if_icmp .gt 7, 3) := by decide +kernel
theorem dX4_slot_174 : decode cX4_slot 174 = .ok (.iconst 1, 1) := by decide +kernel
theorem dX4_slot_175 : decode cX4_slot 175 = .ok (.goto 4, 3) := by decide +kernel
theorem dX4_slot_178 : decode cX4_slot 178 = .ok (.iconst 0, 1) := by decide +kernel
theorem dX4_slot_179 : decode cX4_slot 179 = .ok (.ireturn, 1) := by decide +kernel
theorem dX4_slot_180 : decode cX4_slot 180 = .ok (.bipush (-2), 2) := by decide +kernel
theorem dX4_slot_182 : decode cX4_slot 182 = .ok (.ireturn, 1) := by decide +kernel
set_option maxRecDepth 20000 in
theorem ggX4_could_X4_isSlot : GoodIn wsX4_could wsX4_isSlot := goodIn_r _ [6] (by decide +kernel) (by decide +kernel)
set_option maxRecDepth 20000 in
theorem gX4_could_X4_isSlot : GoodIn wsX4_could (va_wsS RX4 149 yX4_isSlot wsX4_isSlot) := goodIn_app (goodIn_of _ (by decide +kernel)) ggX4_could_X4_isSlot
set_option maxRecDepth 20000 in
theorem ggX4_could_X2_isOpen : GoodIn wsX4_could wsX2_isOpen := goodIn_r _ [11, 12, 13, 14, 10, 15, 16, 61, 62, 63, 64, 65, 66, 67, 68, 69, 70, 71, 72, 73, 74, 75, 76] (by decide +kernel) (by decide +kernel)
set_option maxRecDepth 20000 in
theorem gX4_could_X2_isOpen : GoodIn wsX4_could (wsV RX4 182 RX2 yX2_isOpen wsX2_isOpen) := goodIn_app (goodIn_of _ (by decide +kernel)) ggX4_could_X2_isOpen
set_option maxRecDepth 20000 in
theorem ggX4_could_X2_couldChoose : GoodIn wsX4_could wsX2_couldChoose := goodIn_r _ [20, 21, 22, 23, 24, 10, 25, 16, 26, 27, 28, 29, 30, 31, 5, 32, 33, 34, 35, 36, 37, 38, 39, 40, 41, 42, 43, 44, 45, 46, 47, 48, 49, 50, 61, 62, 63, 64, 65, 66, 67, 68, 69, 70, 71, 72, 73, 74, 75, 76] (by decide +kernel) (by decide +kernel)
set_option maxRecDepth 20000 in
theorem gX4_could_X2_couldChoose : GoodIn wsX4_could (wsV RX4 209 RX2 yX2_couldChoose wsX2_couldChoose) := goodIn_app (goodIn_of _ (by decide +kernel)) ggX4_could_X2_couldChoose
theorem dX4_could_0 : decode cX4_could 0 = .ok (.iload_n 1, 1) := by decide +kernel
theorem dX4_could_1 : decode cX4_could 1 = .ok (.invokestatic 149, 3) := by decide +kernel
theorem dX4_could_4 : decode cX4_could 4 = .ok (.ifCond .ne 5, 3) := by decide +kernel
theorem dX4_could_7 : decode cX4_could 7 = .ok (.iconst (-1), 1) := by decide +kernel
theorem dX4_could_8 : decode cX4_could 8 = .ok (.ireturn, 1) := by decide +kernel
theorem dX4_could_9 : decode cX4_could 9 = .ok (.iload_n 2, 1) := by decide +kernel
theorem dX4_could_10 : decode cX4_could 10 = .ok (.iconst 1, 1) := by decide +kernel
theorem dX4_could_11 : decode cX4_could 11 = .ok (.if_icmp .lt 10, 3) := by decide +kernel
theorem dX4_could_14 : decode cX4_could 14 = .ok (.iload_n 2, 1) := by decide +kernel
theorem dX4_could_15 : decode cX4_could 15 = .ok (.sipush 999, 3) := by decide +kernel
theorem dX4_could_18 : decode cX4_could 18 = .ok (.if_icmp .le 6, 3) := by decide +kernel
theorem dX4_could_21 : decode cX4_could 21 = .ok (.bipush (-2), 2) := by decide +kernel
theorem dX4_could_23 : decode cX4_could 23 = .ok (.ireturn, 1) := by decide +kernel
theorem dX4_could_24 : decode cX4_could 24 = .ok (.iload_n 1, 1) := by decide +kernel
theorem dX4_could_25 : decode cX4_could 25 = .ok (.aload_n 0, 1) := by decide +kernel
theorem dX4_could_26 : decode cX4_could 26 = .ok (.getfield 10, 3) := by decide +kernel
theorem dX4_could_29 : decode cX4_could 29 = .ok (.getfield 206, 3) := by decide +kernel
theorem dX4_could_32 : decode cX4_could 32 = .ok (.if_icmp .le 14, 3) := by decide +kernel
theorem dX4_could_35 : decode cX4_could 35 = .ok (.aload_n 0, 1) := by decide +kernel
theorem dX4_could_36 : decode cX4_could 36 = .ok (.getfield 10, 3) := by decide +kernel
theorem dX4_could_39 : decode cX4_could 39 = .ok (.iload_n 1, 1) := by decide +kernel
theorem dX4_could_40 : decode cX4_could 40 = .ok (.invokevirtual 182, 3) := by decide +kernel
theorem dX4_could_43 : decode cX4_could 43 = .ok (.ifCond .ne 6, 3) := by decide +kernel
theorem dX4_could_46 : decode cX4_could 46 = .ok (.bipush (-4), 2) := by decide +kernel
theorem dX4_could_48 : decode cX4_could 48 = .ok (.ireturn, 1) := by decide +kernel
theorem dX4_could_49 : decode cX4_could 49 = .ok (.aload_n 0, 1) := by decide +kernel
theorem dX4_could_50 : decode cX4_could 50 = .ok (.getfield 10, 3) := by decide +kernel
theorem dX4_could_53 : decode cX4_could 53 = .ok (.iload_n 1, 1) := by decide +kernel
theorem dX4_could_54 : decode cX4_could 54 = .ok (.iload_n 2, 1) := by decide +kernel
theorem dX4_could_55 : decode cX4_could 55 = .ok (.invokevirtual 209, 3) := by decide +kernel
theorem dX4_could_58 : decode cX4_could 58 = .ok (.ifCond .eq 7, 3) := by decide +kernel
theorem dX4_could_61 : decode cX4_could 61 = .ok (.iconst 1, 1) := by decide +kernel
theorem dX4_could_62 : decode cX4_could 62 = .ok (.goto 4, 3) := by decide +kernel
theorem dX4_could_65 : decode cX4_could 65 = .ok (.iconst 0, 1) := by decide +kernel
theorem dX4_could_66 : decode cX4_could 66 = .ok (.ireturn, 1) := by decide +kernel
set_option maxRecDepth 20000 in
theorem ggX4_witness_X4_isSize : GoodIn wsX4_witness wsX4_isSize := goodIn_r _ [4] (by decide +kernel) (by decide +kernel)
set_option maxRecDepth 20000 in
theorem gX4_witness_X4_isSize : GoodIn wsX4_witness (va_wsS RX4 212 yX4_isSize wsX4_isSize) := goodIn_app (goodIn_of _ (by decide +kernel)) ggX4_witness_X4_isSize
set_option maxRecDepth 20000 in
theorem ggX4_witness_J6_bitCount_0f7a4 : GoodIn wsX4_witness wsJ6_bitCount_0f7a4 := goodIn_r _ [8, 9, 10, 11] (by decide +kernel) (by decide +kernel)
set_option maxRecDepth 20000 in
theorem gX4_witness_J6_bitCount_0f7a4 : GoodIn wsX4_witness (va_wsS RX4 215 yJ6_bitCount_0f7a4 wsJ6_bitCount_0f7a4) := goodIn_app (goodIn_of _ (by decide +kernel)) ggX4_witness_J6_bitCount_0f7a4
set_option maxRecDepth 20000 in
theorem ggX4_witness_X4_lowest : GoodIn wsX4_witness wsX4_lowest := goodIn_r _ [14, 15, 16, 3, 17] (by decide +kernel) (by decide +kernel)
set_option maxRecDepth 20000 in
theorem gX4_witness_X4_lowest : GoodIn wsX4_witness (va_wsS RX4 220 yX4_lowest wsX4_lowest) := goodIn_app (goodIn_of _ (by decide +kernel)) ggX4_witness_X4_lowest
theorem dX4_witness_0 : decode cX4_witness 0 = .ok (.iload_n 1, 1) := by decide +kernel
theorem dX4_witness_1 : decode cX4_witness 1 = .ok (.iconst 1, 1) := by decide +kernel
theorem dX4_witness_2 : decode cX4_witness 2 = .ok (.if_icmp .lt 13, 3) := by decide +kernel
theorem dX4_witness_5 : decode cX4_witness 5 = .ok (.iload_n 1, 1) := by decide +kernel
theorem dX4_witness_6 : decode cX4_witness 6 = .ok (.bipush 63, 2) := by decide +kernel
theorem dX4_witness_8 : decode cX4_witness 8 = .ok (.if_icmp .gt 7, 3) := by decide +kernel
theorem dX4_witness_11 : decode cX4_witness 11 = .ok (.iconst 1, 1) := by decide +kernel
theorem dX4_witness_12 : decode cX4_witness 12 = .ok (.goto 4, 3) := by decide +kernel
theorem dX4_witness_15 : decode cX4_witness 15 = .ok (.iconst 0, 1) := by decide +kernel
theorem dX4_witness_16 : decode cX4_witness 16 = .ok (.istore 5, 2) := by decide +kernel
theorem dX4_witness_18 : decode cX4_witness 18 = .ok (.iload 5, 2) := by decide +kernel
theorem dX4_witness_20 : decode cX4_witness 20 = .ok (.ifCond .eq 28, 3) := by decide +kernel
theorem dX4_witness_23 : decode cX4_witness 23 = .ok (.iload_n 2, 1) := by decide +kernel
theorem dX4_witness_24 : decode cX4_witness 24 = .ok (.invokestatic 212, 3) := by decide +kernel
theorem dX4_witness_27 : decode cX4_witness 27 = .ok (.ifCond .eq 21, 3) := by decide +kernel
theorem dX4_witness_30 : decode cX4_witness 30 = .ok (.iload_n 3, 1) := by decide +kernel
theorem dX4_witness_31 : decode cX4_witness 31 = .ok (.invokestatic 212, 3) := by decide +kernel
theorem dX4_witness_34 : decode cX4_witness 34 = .ok (.ifCond .eq 14, 3) := by decide +kernel
theorem dX4_witness_37 : decode cX4_witness 37 = .ok (.iload 4, 2) := by decide +kernel
theorem dX4_witness_39 : decode cX4_witness 39 = .ok (.ifCond .lt 9, 3) := by decide +kernel
theorem dX4_witness_42 : decode cX4_witness 42 = .ok (.iload 4, 2) := by decide +kernel
theorem dX4_witness_44 : decode cX4_witness 44 = .ok (.iconst 1, 1) := by decide +kernel
theorem dX4_witness_45 : decode cX4_witness 45 = .ok (.if_icmp .le 6, 3) := by decide +kernel
theorem dX4_witness_48 : decode cX4_witness 48 = .ok (.bipush (-2), 2) := by decide +kernel
theorem dX4_witness_50 : decode cX4_witness 50 = .ok (.ireturn, 1) := by decide +kernel
theorem dX4_witness_51 : decode cX4_witness 51 = .ok (.iload_n 2, 1) := by decide +kernel
theorem dX4_witness_52 : decode cX4_witness 52 = .ok (.iload_n 3, 1) := by decide +kernel
theorem dX4_witness_53 : decode cX4_witness 53 = .ok (.iadd, 1) := by decide +kernel
theorem dX4_witness_54 : decode cX4_witness 54 = .ok (.iload_n 1, 1) := by decide +kernel
theorem dX4_witness_55 : decode cX4_witness 55 = .ok (.invokestatic 215, 3) := by decide +kernel
theorem dX4_witness_58 : decode cX4_witness 58 = .ok (.if_icmp .le 6, 3) := by decide +kernel
theorem dX4_witness_61 : decode cX4_witness 61 = .ok (.bipush (-5), 2) := by decide +kernel
theorem dX4_witness_63 : decode cX4_witness 63 = .ok (.ireturn, 1) := by decide +kernel
theorem dX4_witness_64 : decode cX4_witness 64 = .ok (.iload_n 1, 1) := by decide +kernel
theorem dX4_witness_65 : decode cX4_witness 65 = .ok (.iload_n 2, 1) := by decide +kernel
theorem dX4_witness_66 : decode cX4_witness 66 = .ok (.invokestatic 220, 3) := by decide +kernel
theorem dX4_witness_69 : decode cX4_witness 69 = .ok (.istore 6, 2) := by decide +kernel
theorem dX4_witness_71 : decode cX4_witness 71 = .ok (.iload 4, 2) := by decide +kernel
theorem dX4_witness_73 : decode cX4_witness 73 = .ok (.ifCond .ne 8, 3) := by decide +kernel
theorem dX4_witness_76 : decode cX4_witness 76 = .ok (.iload 6, 2) := by decide +kernel
theorem dX4_witness_78 : decode cX4_witness 78 = .ok (.goto 13, 3) := by decide +kernel
theorem dX4_witness_81 : decode cX4_witness 81 = .ok (.iload_n 1, 1) := by decide +kernel
theorem dX4_witness_82 : decode cX4_witness 82 = .ok (.iload 6, 2) := by decide +kernel
theorem dX4_witness_84 : decode cX4_witness 84 = .ok (.iconst (-1), 1) := by decide +kernel
theorem dX4_witness_85 : decode cX4_witness 85 = .ok (.ixor, 1) := by decide +kernel
theorem dX4_witness_86 : decode cX4_witness 86 = .ok (.iand, 1) := by decide +kernel
theorem dX4_witness_87 : decode cX4_witness 87 = .ok (.iload_n 3, 1) := by decide +kernel
theorem dX4_witness_88 : decode cX4_witness 88 = .ok (.invokestatic 220, 3) := by decide +kernel
theorem dX4_witness_91 : decode cX4_witness 91 = .ok (.ireturn, 1) := by decide +kernel
set_option maxRecDepth 20000 in
theorem ggX4_count_X2_prefix : GoodIn wsX4_count wsX2_prefix := goodIn_r _ [19, 20, 35, 36, 37, 38, 39, 40, 41, 42, 43, 44, 45, 46, 47, 48, 49, 50] (by decide +kernel) (by decide +kernel)
set_option maxRecDepth 20000 in
theorem gX4_count_X2_prefix : GoodIn wsX4_count (wsV RX4 129 RX2 yX2_prefix wsX2_prefix) := goodIn_app (goodIn_of _ (by decide +kernel)) ggX4_count_X2_prefix
set_option maxRecDepth 20000 in
theorem ggX4_count_X2_chosenAbove : GoodIn wsX4_count wsX2_chosenAbove := goodIn_r _ [24, 20, 35, 36, 37, 38, 39, 40, 41, 42, 43, 44, 45, 46, 47, 48, 49, 50] (by decide +kernel) (by decide +kernel)
set_option maxRecDepth 20000 in
theorem gX4_count_X2_chosenAbove : GoodIn wsX4_count (wsV RX4 223 RX2 yX2_chosenAbove wsX2_chosenAbove) := goodIn_app (goodIn_of _ (by decide +kernel)) ggX4_count_X2_chosenAbove
theorem dX4_count_0 : decode cX4_count 0 = .ok (.iload_n 1, 1) := by decide +kernel
theorem dX4_count_1 : decode cX4_count 1 = .ok (.tableswitch 157 0 10 #[59, 67, 76, 84, 92, 100, 115, 123, 131, 141, 149], 59) := by decide +kernel
theorem dX4_count_60 : decode cX4_count 60 = .ok (.aload_n 0, 1) := by decide +kernel
theorem dX4_count_61 : decode cX4_count 61 = .ok (.getfield 10, 3) := by decide +kernel
theorem dX4_count_64 : decode cX4_count 64 = .ok (.invokevirtual 129, 3) := by decide +kernel
theorem dX4_count_67 : decode cX4_count 67 = .ok (.ireturn, 1) := by decide +kernel
theorem dX4_count_68 : decode cX4_count 68 = .ok (.aload_n 0, 1) := by decide +kernel
theorem dX4_count_69 : decode cX4_count 69 = .ok (.getfield 10, 3) := by decide +kernel
theorem dX4_count_72 : decode cX4_count 72 = .ok (.iconst 0, 1) := by decide +kernel
theorem dX4_count_73 : decode cX4_count 73 = .ok (.invokevirtual 223, 3) := by decide +kernel
theorem dX4_count_76 : decode cX4_count 76 = .ok (.ireturn, 1) := by decide +kernel
theorem dX4_count_77 : decode cX4_count 77 = .ok (.aload_n 0, 1) := by decide +kernel
theorem dX4_count_78 : decode cX4_count 78 = .ok (.getfield 10, 3) := by decide +kernel
theorem dX4_count_81 : decode cX4_count 81 = .ok (.getfield 206, 3) := by decide +kernel
theorem dX4_count_84 : decode cX4_count 84 = .ok (.ireturn, 1) := by decide +kernel
theorem dX4_count_85 : decode cX4_count 85 = .ok (.aload_n 0, 1) := by decide +kernel
theorem dX4_count_86 : decode cX4_count 86 = .ok (.getfield 10, 3) := by decide +kernel
theorem dX4_count_89 : decode cX4_count 89 = .ok (.getfield 226, 3) := by decide +kernel
theorem dX4_count_92 : decode cX4_count 92 = .ok (.ireturn, 1) := by decide +kernel
theorem dX4_count_93 : decode cX4_count 93 = .ok (.aload_n 0, 1) := by decide +kernel
theorem dX4_count_94 : decode cX4_count 94 = .ok (.getfield 10, 3) := by decide +kernel
theorem dX4_count_97 : decode cX4_count 97 = .ok (.getfield 135, 3) := by decide +kernel
theorem dX4_count_100 : decode cX4_count 100 = .ok (.ireturn, 1) := by decide +kernel
theorem dX4_count_101 : decode cX4_count 101 = .ok (.bipush 16, 2) := by decide +kernel
theorem dX4_count_103 : decode cX4_count 103 = .ok (.aload_n 0, 1) := by decide +kernel
theorem dX4_count_104 : decode cX4_count 104 = .ok (.getfield 10, 3) := by decide +kernel
theorem dX4_count_107 : decode cX4_count 107 = .ok (.invokevirtual 129, 3) := by decide +kernel
theorem dX4_count_110 : decode cX4_count 110 = .ok (.iconst 3, 1) := by decide +kernel
theorem dX4_count_111 : decode cX4_count 111 = .ok (.iadd, 1) := by decide +kernel
theorem dX4_count_112 : decode cX4_count 112 = .ok (.invokestatic 229, 3) := by decide +kernel
theorem dX4_count_115 : decode cX4_count 115 = .ok (.ireturn, 1) := by decide +kernel
theorem dX4_count_116 : decode cX4_count 116 = .ok (.aload_n 0, 1) := by decide +kernel
theorem dX4_count_117 : decode cX4_count 117 = .ok (.getfield 10, 3) := by decide +kernel
theorem dX4_count_120 : decode cX4_count 120 = .ok (.getfield 234, 3) := by decide +kernel
theorem dX4_count_123 : decode cX4_count 123 = .ok (.ireturn, 1) := by decide +kernel
theorem dX4_count_124 : decode cX4_count 124 = .ok (.aload_n 0, 1) := by decide +kernel
theorem dX4_count_125 : decode cX4_count 125 = .ok (.getfield 10, 3) := by decide +kernel
theorem dX4_count_128 : decode cX4_count 128 = .ok (.getfield 237, 3) := by decide +kernel
theorem dX4_count_131 : decode cX4_count 131 = .ok (.ireturn, 1) := by decide +kernel
theorem dX4_count_132 : decode cX4_count 132 = .ok (.aload_n 0, 1) := by decide +kernel
theorem dX4_count_133 : decode cX4_count 133 = .ok (.getfield 10, 3) := by decide +kernel
theorem dX4_count_136 : decode cX4_count 136 = .ok (.bipush 100, 2) := by decide +kernel
theorem dX4_count_138 : decode cX4_count 138 = .ok (.invokevirtual 223, 3) := by decide +kernel
theorem dX4_count_141 : decode cX4_count 141 = .ok (.ireturn, 1) := by decide +kernel
theorem dX4_count_142 : decode cX4_count 142 = .ok (.aload_n 0, 1) := by decide +kernel
theorem dX4_count_143 : decode cX4_count 143 = .ok (.getfield 22, 3) := by decide +kernel
theorem dX4_count_146 : decode cX4_count 146 = .ok (.getfield 240, 3) := by decide +kernel
theorem dX4_count_149 : decode cX4_count 149 = .ok (.ireturn, 1) := by decide +kernel
theorem dX4_count_150 : decode cX4_count 150 = .ok (.aload_n 0, 1) := by decide +kernel
theorem dX4_count_151 : decode cX4_count 151 = .ok (.getfield 29, 3) := by decide +kernel
theorem dX4_count_154 : decode cX4_count 154 = .ok (.getfield 241, 3) := by decide +kernel
theorem dX4_count_157 : decode cX4_count 157 = .ok (.ireturn, 1) := by decide +kernel
theorem dX4_count_158 : decode cX4_count 158 = .ok (.bipush (-2), 2) := by decide +kernel
theorem dX4_count_160 : decode cX4_count 160 = .ok (.ireturn, 1) := by decide +kernel
set_option maxRecDepth 20000 in
theorem ggX4_settled_X0_commit : GoodIn wsX4_settled wsX0_commit := goodIn_r _ [6, 7, 8, 9, 10, 11, 12, 23, 24, 25] (by decide +kernel) (by decide +kernel)
set_option maxRecDepth 20000 in
theorem gX4_settled_X0_commit : GoodIn wsX4_settled (wsV RX4 103 RX0 yX0_commit wsX0_commit) := goodIn_app (goodIn_of _ (by decide +kernel)) ggX4_settled_X0_commit
theorem dX4_settled_0 : decode cX4_settled 0 = .ok (.iload_n 1, 1) := by decide +kernel
theorem dX4_settled_1 : decode cX4_settled 1 = .ok (.ifCond .lt 10, 3) := by decide +kernel
theorem dX4_settled_4 : decode cX4_settled 4 = .ok (.aload_n 0, 1) := by decide +kernel
theorem dX4_settled_5 : decode cX4_settled 5 = .ok (.getfield 22, 3) := by decide +kernel
theorem dX4_settled_8 : decode cX4_settled 8 = .ok (.invokevirtual 103, 3) := by decide +kernel
theorem dX4_settled_11 : decode cX4_settled 11 = .ok (.iload_n 1, 1) := by decide +kernel
theorem dX4_settled_12 : decode cX4_settled 12 = .ok (.ireturn, 1) := by decide +kernel
set_option maxRecDepth 20000 in
theorem ggX4_noteRefusal_X1_placeOf : GoodIn wsX4_noteRefusal wsX1_placeOf := goodIn_r _ [10, 11, 12, 23, 24, 25, 26, 27, 28] (by decide +kernel) (by decide +kernel)
set_option maxRecDepth 20000 in
theorem gX4_noteRefusal_X1_placeOf : GoodIn wsX4_noteRefusal (wsV RX4 244 RX1 yX1_placeOf wsX1_placeOf) := goodIn_app (goodIn_of _ (by decide +kernel)) ggX4_noteRefusal_X1_placeOf
theorem dX4_noteRefusal_0 : decode cX4_noteRefusal 0 = .ok (.aload_n 0, 1) := by decide +kernel
theorem dX4_noteRefusal_1 : decode cX4_noteRefusal 1 = .ok (.iconst 1, 1) := by decide +kernel
theorem dX4_noteRefusal_2 : decode cX4_noteRefusal 2 = .ok (.putfield 106, 3) := by decide +kernel
theorem dX4_noteRefusal_5 : decode cX4_noteRefusal 5 = .ok (.aload_n 0, 1) := by decide +kernel
theorem dX4_noteRefusal_6 : decode cX4_noteRefusal 6 = .ok (.iload_n 1, 1) := by decide +kernel
theorem dX4_noteRefusal_7 : decode cX4_noteRefusal 7 = .ok (.putfield 110, 3) := by decide +kernel
theorem dX4_noteRefusal_10 : decode cX4_noteRefusal 10 = .ok (.aload_n 0, 1) := by decide +kernel
theorem dX4_noteRefusal_11 : decode cX4_noteRefusal 11 = .ok (.iload_n 2, 1) := by decide +kernel
theorem dX4_noteRefusal_12 : decode cX4_noteRefusal 12 = .ok (.putfield 113, 3) := by decide +kernel
theorem dX4_noteRefusal_15 : decode cX4_noteRefusal 15 = .ok (.aload_n 0, 1) := by decide +kernel
theorem dX4_noteRefusal_16 : decode cX4_noteRefusal 16 = .ok (.aload_n 0, 1) := by decide +kernel
theorem dX4_noteRefusal_17 : decode cX4_noteRefusal 17 = .ok (.getfield 36, 3) := by decide +kernel
theorem dX4_noteRefusal_20 : decode cX4_noteRefusal 20 = .ok (.iload_n 1, 1) := by decide +kernel
theorem dX4_noteRefusal_21 : decode cX4_noteRefusal 21 = .ok (.invokevirtual 244, 3) := by decide +kernel
theorem dX4_noteRefusal_24 : decode cX4_noteRefusal 24 = .ok (.putfield 116, 3) := by decide +kernel
theorem dX4_noteRefusal_27 : decode cX4_noteRefusal 27 = .ok (.return_, 1) := by decide +kernel
theorem dX4_isError_0 : decode cX4_isError 0 = .ok (.iload_n 0, 1) := by decide +kernel
theorem dX4_isError_1 : decode cX4_isError 1 = .ok (.ifCond .ge 13, 3) := by decide +kernel
theorem dX4_isError_4 : decode cX4_isError 4 = .ok (.iload_n 0, 1) := by decide +kernel
theorem dX4_isError_5 : decode cX4_isError 5 = .ok (.bipush (-5), 2) := by decide +kernel
theorem dX4_isError_7 : decode cX4_isError 7 = .ok (.if_icmp .eq 7, 3) := by decide +kernel
theorem dX4_isError_10 : decode cX4_isError 10 = .ok (.iconst 1, 1) := by decide +kernel
theorem dX4_isError_11 : decode cX4_isError 11 = .ok (.goto 4, 3) := by decide +kernel
theorem dX4_isError_14 : decode cX4_isError 14 = .ok (.iconst 0, 1) := by decide +kernel
theorem dX4_isError_15 : decode cX4_isError 15 = .ok (.ireturn, 1) := by decide +kernel
theorem dX4_isAcceptor_0 : decode cX4_isAcceptor 0 = .ok (.iload_n 0, 1) := by decide +kernel
theorem dX4_isAcceptor_1 : decode cX4_isAcceptor 1 = .ok (.ifCond .lt 13, 3) := by decide +kernel
theorem dX4_isAcceptor_4 : decode cX4_isAcceptor 4 = .ok (.iload_n 0, 1) := by decide +kernel
theorem dX4_isAcceptor_5 : decode cX4_isAcceptor 5 = .ok (.bipush 6, 2) := by decide +kernel
theorem dX4_isAcceptor_7 : decode cX4_isAcceptor 7 = .ok (.if_icmp .ge 7, 3) := by decide +kernel
theorem dX4_isAcceptor_10 : decode cX4_isAcceptor 10 = .ok (.iconst 1, 1) := by decide +kernel
theorem dX4_isAcceptor_11 : decode cX4_isAcceptor 11 = .ok (.goto 4, 3) := by decide +kernel
theorem dX4_isAcceptor_14 : decode cX4_isAcceptor 14 = .ok (.iconst 0, 1) := by decide +kernel
theorem dX4_isAcceptor_15 : decode cX4_isAcceptor 15 = .ok (.ireturn, 1) := by decide +kernel
theorem dX4_isProposer_0 : decode cX4_isProposer 0 = .ok (.iload_n 0, 1) := by decide +kernel
theorem dX4_isProposer_1 : decode cX4_isProposer 1 = .ok (.ifCond .lt 12, 3) := by decide +kernel
theorem dX4_isProposer_4 : decode cX4_isProposer 4 = .ok (.iload_n 0, 1) := by decide +kernel
theorem dX4_isProposer_5 : decode cX4_isProposer 5 = .ok (.iconst 3, 1) := by decide +kernel
theorem dX4_isProposer_6 : decode cX4_isProposer 6 = .ok (.if_icmp .ge 7, 3) := by decide +kernel
theorem dX4_isProposer_9 : decode cX4_isProposer 9 = .ok (.iconst 1, 1) := by decide +kernel
theorem dX4_isProposer_10 : decode cX4_isProposer 10 = .ok (.goto 4, 3) := by decide +kernel
theorem dX4_isProposer_13 : decode cX4_isProposer 13 = .ok (.iconst 0, 1) := by decide +kernel
theorem dX4_isProposer_14 : decode cX4_isProposer 14 = .ok (.ireturn, 1) := by decide +kernel
theorem dX4_isSlot_0 : decode cX4_isSlot 0 = .ok (.iload_n 0, 1) := by decide +kernel
theorem dX4_isSlot_1 : decode cX4_isSlot 1 = .ok (.iconst 1, 1) := by decide +kernel
theorem dX4_isSlot_2 : decode cX4_isSlot 2 = .ok (.if_icmp .lt 13, 3) := by decide +kernel
theorem dX4_isSlot_5 : decode cX4_isSlot 5 = .ok (.iload_n 0, 1) := by decide +kernel
theorem dX4_isSlot_6 : decode cX4_isSlot 6 = .ok (.bipush 16, 2) := by decide +kernel
theorem dX4_isSlot_8 : decode cX4_isSlot 8 = .ok (.if_icmp .gt 7, 3) := by decide +kernel
theorem dX4_isSlot_11 : decode cX4_isSlot 11 = .ok (.iconst 1, 1) := by decide +kernel
theorem dX4_isSlot_12 : decode cX4_isSlot 12 = .ok (.goto 4, 3) := by decide +kernel
theorem dX4_isSlot_15 : decode cX4_isSlot 15 = .ok (.iconst 0, 1) := by decide +kernel
theorem dX4_isSlot_16 : decode cX4_isSlot 16 = .ok (.ireturn, 1) := by decide +kernel
theorem dX4_isSize_0 : decode cX4_isSize 0 = .ok (.iload_n 0, 1) := by decide +kernel
theorem dX4_isSize_1 : decode cX4_isSize 1 = .ok (.iconst 1, 1) := by decide +kernel
theorem dX4_isSize_2 : decode cX4_isSize 2 = .ok (.if_icmp .lt 13, 3) := by decide +kernel
theorem dX4_isSize_5 : decode cX4_isSize 5 = .ok (.iload_n 0, 1) := by decide +kernel
theorem dX4_isSize_6 : decode cX4_isSize 6 = .ok (.bipush 6, 2) := by decide +kernel
theorem dX4_isSize_8 : decode cX4_isSize 8 = .ok (.if_icmp .gt 7, 3) := by decide +kernel
theorem dX4_isSize_11 : decode cX4_isSize 11 = .ok (.iconst 1, 1) := by decide +kernel
theorem dX4_isSize_12 : decode cX4_isSize 12 = .ok (.goto 4, 3) := by decide +kernel
theorem dX4_isSize_15 : decode cX4_isSize 15 = .ok (.iconst 0, 1) := by decide +kernel
theorem dX4_isSize_16 : decode cX4_isSize 16 = .ok (.ireturn, 1) := by decide +kernel
theorem dX4_isValue_0 : decode cX4_isValue 0 = .ok (.iload_n 0, 1) := by decide +kernel
theorem dX4_isValue_1 : decode cX4_isValue 1 = .ok (.iconst 1, 1) := by decide +kernel
theorem dX4_isValue_2 : decode cX4_isValue 2 = .ok (.if_icmp .lt 13, 3) := by decide +kernel
theorem dX4_isValue_5 : decode cX4_isValue 5 = .ok (.iload_n 0, 1) := by decide +kernel
theorem dX4_isValue_6 : decode cX4_isValue 6 = .ok (.bipush 99, 2) := by decide +kernel
theorem dX4_isValue_8 : decode cX4_isValue 8 = .ok (.if_icmp .gt 7, 3) := by decide +kernel
theorem dX4_isValue_11 : decode cX4_isValue 11 = .ok (.iconst 1, 1) := by decide +kernel
theorem dX4_isValue_12 : decode cX4_isValue 12 = .ok (.goto 4, 3) := by decide +kernel
theorem dX4_isValue_15 : decode cX4_isValue 15 = .ok (.iconst 0, 1) := by decide +kernel
theorem dX4_isValue_16 : decode cX4_isValue 16 = .ok (.istore_n 1, 1) := by decide +kernel
theorem dX4_isValue_17 : decode cX4_isValue 17 = .ok (.iload_n 0, 1) := by decide +kernel
theorem dX4_isValue_18 : decode cX4_isValue 18 = .ok (.bipush 100, 2) := by decide +kernel
theorem dX4_isValue_20 : decode cX4_isValue 20 = .ok (.if_icmp .le 14, 3) := by decide +kernel
theorem dX4_isValue_23 : decode cX4_isValue 23 = .ok (.iload_n 0, 1) := by decide +kernel
theorem dX4_isValue_24 : decode cX4_isValue 24 = .ok (.sipush 163, 3) := by decide +kernel
theorem dX4_isValue_27 : decode cX4_isValue 27 = .ok (.if_icmp .gt 7, 3) := by decide +kernel
theorem dX4_isValue_30 : decode cX4_isValue 30 = .ok (.iconst 1, 1) := by decide +kernel
theorem dX4_isValue_31 : decode cX4_isValue 31 = .ok (.goto 4, 3) := by decide +kernel
theorem dX4_isValue_34 : decode cX4_isValue 34 = .ok (.iconst 0, 1) := by decide +kernel
theorem dX4_isValue_35 : decode cX4_isValue 35 = .ok (.istore_n 2, 1) := by decide +kernel
theorem dX4_isValue_36 : decode cX4_isValue 36 = .ok (.iload_n 1, 1) := by decide +kernel
theorem dX4_isValue_37 : decode cX4_isValue 37 = .ok (.ifCond .ne 7, 3) := by decide +kernel
theorem dX4_isValue_40 : decode cX4_isValue 40 = .ok (.iload_n 2, 1) := by decide +kernel
theorem dX4_isValue_41 : decode cX4_isValue 41 = .ok (.ifCond .eq 7, 3) := by decide +kernel
theorem dX4_isValue_44 : decode cX4_isValue 44 = .ok (.iconst 1, 1) := by decide +kernel
theorem dX4_isValue_45 : decode cX4_isValue 45 = .ok (.goto 4, 3) := by decide +kernel
theorem dX4_isValue_48 : decode cX4_isValue 48 = .ok (.iconst 0, 1) := by decide +kernel
theorem dX4_isValue_49 : decode cX4_isValue 49 = .ok (.ireturn, 1) := by decide +kernel
theorem dX4_has_0 : decode cX4_has 0 = .ok (.iload_n 0, 1) := by decide +kernel
theorem dX4_has_1 : decode cX4_has 1 = .ok (.iload_n 1, 1) := by decide +kernel
theorem dX4_has_2 : decode cX4_has 2 = .ok (.ishr, 1) := by decide +kernel
theorem dX4_has_3 : decode cX4_has 3 = .ok (.iconst 1, 1) := by decide +kernel
theorem dX4_has_4 : decode cX4_has 4 = .ok (.iand, 1) := by decide +kernel
theorem dX4_has_5 : decode cX4_has 5 = .ok (.iconst 1, 1) := by decide +kernel
theorem dX4_has_6 : decode cX4_has 6 = .ok (.if_icmp .ne 7, 3) := by decide +kernel
theorem dX4_has_9 : decode cX4_has 9 = .ok (.iconst 1, 1) := by decide +kernel
theorem dX4_has_10 : decode cX4_has 10 = .ok (.goto 4, 3) := by decide +kernel
theorem dX4_has_13 : decode cX4_has 13 = .ok (.iconst 0, 1) := by decide +kernel
theorem dX4_has_14 : decode cX4_has 14 = .ok (.ireturn, 1) := by decide +kernel
theorem dX4_orNone_0 : decode cX4_orNone 0 = .ok (.iload_n 0, 1) := by decide +kernel
theorem dX4_orNone_1 : decode cX4_orNone 1 = .ok (.ifCond .ne 8, 3) := by decide +kernel
theorem dX4_orNone_4 : decode cX4_orNone 4 = .ok (.bipush (-5), 2) := by decide +kernel
theorem dX4_orNone_6 : decode cX4_orNone 6 = .ok (.goto 4, 3) := by decide +kernel
theorem dX4_orNone_9 : decode cX4_orNone 9 = .ok (.iload_n 0, 1) := by decide +kernel
theorem dX4_orNone_10 : decode cX4_orNone 10 = .ok (.ireturn, 1) := by decide +kernel
theorem dX4_cell_0 : decode cX4_cell 0 = .ok (.iload_n 0, 1) := by decide +kernel
theorem dX4_cell_1 : decode cX4_cell 1 = .ok (.bipush 16, 2) := by decide +kernel
theorem dX4_cell_3 : decode cX4_cell 3 = .ok (.imul, 1) := by decide +kernel
theorem dX4_cell_4 : decode cX4_cell 4 = .ok (.iload_n 1, 1) := by decide +kernel
theorem dX4_cell_5 : decode cX4_cell 5 = .ok (.iadd, 1) := by decide +kernel
theorem dX4_cell_6 : decode cX4_cell 6 = .ok (.iconst 1, 1) := by decide +kernel
theorem dX4_cell_7 : decode cX4_cell 7 = .ok (.isub, 1) := by decide +kernel
theorem dX4_cell_8 : decode cX4_cell 8 = .ok (.ireturn, 1) := by decide +kernel
set_option maxRecDepth 20000 in
theorem ggX4_lowest_X4_has : GoodIn wsX4_lowest wsX4_has := goodIn_r _ [4] (by decide +kernel) (by decide +kernel)
set_option maxRecDepth 20000 in
theorem gX4_lowest_X4_has : GoodIn wsX4_lowest (va_wsS RX4 138 yX4_has wsX4_has) := goodIn_app (goodIn_of _ (by decide +kernel)) ggX4_lowest_X4_has
theorem dX4_lowest_0 : decode cX4_lowest 0 = .ok (.iconst 0, 1) := by decide +kernel
theorem dX4_lowest_1 : decode cX4_lowest 1 = .ok (.istore_n 2, 1) := by decide +kernel
theorem dX4_lowest_2 : decode cX4_lowest 2 = .ok (.iload_n 1, 1) := by decide +kernel
theorem dX4_lowest_3 : decode cX4_lowest 3 = .ok (.istore_n 3, 1) := by decide +kernel
theorem dX4_lowest_4 : decode cX4_lowest 4 = .ok (.iconst 0, 1) := by decide +kernel
theorem dX4_lowest_5 : decode cX4_lowest 5 = .ok (.istore 4, 2) := by decide +kernel
theorem dX4_lowest_7 : decode cX4_lowest 7 = .ok (.iload 4, 2) := by decide +kernel
theorem dX4_lowest_9 : decode cX4_lowest 9 = .ok (.bipush 6, 2) := by decide +kernel
theorem dX4_lowest_11 : decode cX4_lowest 11 = .ok (.if_icmp .ge 32, 3) := by decide +kernel
theorem dX4_lowest_14 : decode cX4_lowest 14 = .ok (.iload_n 3, 1) := by decide +kernel
theorem dX4_lowest_15 : decode cX4_lowest 15 = .ok (.ifCond .le 28, 3) := by decide +kernel
theorem dX4_lowest_18 : decode cX4_lowest 18 = .ok (.iload_n 0, 1) := by decide +kernel
theorem dX4_lowest_19 : decode cX4_lowest 19 = .ok (.iload 4, 2) := by decide +kernel
theorem dX4_lowest_21 : decode cX4_lowest 21 = .ok (.invokestatic 138, 3) := by decide +kernel
theorem dX4_lowest_24 : decode cX4_lowest 24 = .ok (.ifCond .eq 13, 3) := by decide +kernel
theorem dX4_lowest_27 : decode cX4_lowest 27 = .ok (.iload_n 2, 1) := by decide +kernel
theorem dX4_lowest_28 : decode cX4_lowest 28 = .ok (.iconst 1, 1) := by decide +kernel
theorem dX4_lowest_29 : decode cX4_lowest 29 = .ok (.iload 4, 2) := by decide +kernel
theorem dX4_lowest_31 : decode cX4_lowest 31 = .ok (.ishl, 1) := by decide +kernel
theorem dX4_lowest_32 : decode cX4_lowest 32 = .ok (.ior, 1) := by decide +kernel
theorem dX4_lowest_33 : decode cX4_lowest 33 = .ok (.istore_n 2, 1) := by decide +kernel
theorem dX4_lowest_34 : decode cX4_lowest 34 = .ok (.iinc 3 (-1), 3) := by decide +kernel
theorem dX4_lowest_37 : decode cX4_lowest 37 = .ok (.iinc 4 1, 3) := by decide +kernel
theorem dX4_lowest_40 : decode cX4_lowest 40 = .ok (.goto (-33), 3) := by decide +kernel
theorem dX4_lowest_43 : decode cX4_lowest 43 = .ok (.iload_n 2, 1) := by decide +kernel
theorem dX4_lowest_44 : decode cX4_lowest 44 = .ok (.ireturn, 1) := by decide +kernel
end
section
theorem dX5_init_0 : decode cX5_init 0 = .ok (.aload_n 0, 1) := by decide +kernel
theorem dX5_init_1 : decode cX5_init 1 = .ok (.invokespecial 1, 3) := by decide +kernel
theorem dX5_init_4 : decode cX5_init 4 = .ok (.aload_n 0, 1) := by decide +kernel
theorem dX5_init_5 : decode cX5_init 5 = .ok (.sipush 873, 3) := by decide +kernel
theorem dX5_init_8 : decode cX5_init 8 = .ok (.newarray .int, 2) := by decide +kernel
theorem dX5_init_10 : decode cX5_init 10 = .ok (.putfield 7, 3) := by decide +kernel
theorem dX5_init_13 : decode cX5_init 13 = .ok (.aload_n 0, 1) := by decide +kernel
theorem dX5_init_14 : decode cX5_init 14 = .ok (.sipush 3492, 3) := by decide +kernel
theorem dX5_init_17 : decode cX5_init 17 = .ok (.newarray .int, 2) := by decide +kernel
theorem dX5_init_19 : decode cX5_init 19 = .ok (.putfield 13, 3) := by decide +kernel
theorem dX5_init_22 : decode cX5_init 22 = .ok (.aload_n 0, 1) := by decide +kernel
theorem dX5_init_23 : decode cX5_init 23 = .ok (.sipush 873, 3) := by decide +kernel
theorem dX5_init_26 : decode cX5_init 26 = .ok (.newarray .int, 2) := by decide +kernel
theorem dX5_init_28 : decode cX5_init 28 = .ok (.putfield 16, 3) := by decide +kernel
theorem dX5_init_31 : decode cX5_init 31 = .ok (.aload_n 0, 1) := by decide +kernel
theorem dX5_init_32 : decode cX5_init 32 = .ok (.bipush 60, 2) := by decide +kernel
theorem dX5_init_34 : decode cX5_init 34 = .ok (.newarray .char, 2) := by decide +kernel
theorem dX5_init_36 : decode cX5_init 36 = .ok (.putfield 19, 3) := by decide +kernel
theorem dX5_init_39 : decode cX5_init 39 = .ok (.aload_n 0, 1) := by decide +kernel
theorem dX5_init_40 : decode cX5_init 40 = .ok (.sipush 155, 3) := by decide +kernel
theorem dX5_init_43 : decode cX5_init 43 = .ok (.newarray .int, 2) := by decide +kernel
theorem dX5_init_45 : decode cX5_init 45 = .ok (.putfield 23, 3) := by decide +kernel
theorem dX5_init_48 : decode cX5_init 48 = .ok (.aload_n 0, 1) := by decide +kernel
theorem dX5_init_49 : decode cX5_init 49 = .ok (.iconst (-1), 1) := by decide +kernel
theorem dX5_init_50 : decode cX5_init 50 = .ok (.putfield 26, 3) := by decide +kernel
theorem dX5_init_53 : decode cX5_init 53 = .ok (.aload_n 0, 1) := by decide +kernel
theorem dX5_init_54 : decode cX5_init 54 = .ok (.sipush 873, 3) := by decide +kernel
theorem dX5_init_57 : decode cX5_init 57 = .ok (.newarray .int, 2) := by decide +kernel
theorem dX5_init_59 : decode cX5_init 59 = .ok (.putfield 30, 3) := by decide +kernel
theorem dX5_init_62 : decode cX5_init 62 = .ok (.iconst 0, 1) := by decide +kernel
theorem dX5_init_63 : decode cX5_init 63 = .ok (.istore_n 1, 1) := by decide +kernel
theorem dX5_init_64 : decode cX5_init 64 = .ok (.iload_n 1, 1) := by decide +kernel
theorem dX5_init_65 : decode cX5_init 65 = .ok (.bipush 6, 2) := by decide +kernel
theorem dX5_init_67 : decode cX5_init 67 = .ok (.if_icmp .ge 18, 3) := by decide +kernel
theorem dX5_init_70 : decode cX5_init 70 = .ok (.aload_n 0, 1) := by decide +kernel
theorem dX5_init_71 : decode cX5_init 71 = .ok (.getfield 7, 3) := by decide +kernel
theorem dX5_init_74 : decode cX5_init 74 = .ok (.iconst 0, 1) := by decide +kernel
theorem dX5_init_75 : decode cX5_init 75 = .ok (.iload_n 1, 1) := by decide +kernel
theorem dX5_init_76 : decode cX5_init 76 = .ok (.iadd, 1) := by decide +kernel
theorem dX5_init_77 : decode cX5_init 77 = .ok (.iconst 1, 1) := by decide +kernel
theorem dX5_init_78 : decode cX5_init 78 = .ok (.iastore, 1) := by decide +kernel
theorem dX5_init_79 : decode cX5_init 79 = .ok (.iinc 1 1, 3) := by decide +kernel
theorem dX5_init_82 : decode cX5_init 82 = .ok (.goto (-18), 3) := by decide +kernel
theorem dX5_init_85 : decode cX5_init 85 = .ok (.aload_n 0, 1) := by decide +kernel
theorem dX5_init_86 : decode cX5_init 86 = .ok (.getfield 7, 3) := by decide +kernel
theorem dX5_init_89 : decode cX5_init 89 = .ok (.sipush 870, 3) := by decide +kernel
theorem dX5_init_92 : decode cX5_init 92 = .ok (.iconst 2, 1) := by decide +kernel
theorem dX5_init_93 : decode cX5_init 93 = .ok (.iastore, 1) := by decide +kernel
theorem dX5_init_94 : decode cX5_init 94 = .ok (.return_, 1) := by decide +kernel
theorem dX5_in_0 : decode cX5_in 0 = .ok (.iload_n 0, 1) := by decide +kernel
theorem dX5_in_1 : decode cX5_in 1 = .ok (.iload_n 1, 1) := by decide +kernel
theorem dX5_in_2 : decode cX5_in 2 = .ok (.if_icmp .lt 12, 3) := by decide +kernel
theorem dX5_in_5 : decode cX5_in 5 = .ok (.iload_n 0, 1) := by decide +kernel
theorem dX5_in_6 : decode cX5_in 6 = .ok (.iload_n 2, 1) := by decide +kernel
theorem dX5_in_7 : decode cX5_in 7 = .ok (.if_icmp .gt 7, 3) := by decide +kernel
theorem dX5_in_10 : decode cX5_in 10 = .ok (.iconst 1, 1) := by decide +kernel
theorem dX5_in_11 : decode cX5_in 11 = .ok (.goto 4, 3) := by decide +kernel
theorem dX5_in_14 : decode cX5_in 14 = .ok (.iconst 0, 1) := by decide +kernel
theorem dX5_in_15 : decode cX5_in 15 = .ok (.ireturn, 1) := by decide +kernel
set_option maxRecDepth 20000 in
theorem ggX5_noAcceptor_X5_in : GoodIn wsX5_noAcceptor wsX5_in := goodIn_r _ [4] (by decide +kernel) (by decide +kernel)
set_option maxRecDepth 20000 in
theorem gX5_noAcceptor_X5_in : GoodIn wsX5_noAcceptor (va_wsS RX5 33 yX5_in wsX5_in) := goodIn_app (goodIn_of _ (by decide +kernel)) ggX5_noAcceptor_X5_in
theorem dX5_noAcceptor_0 : decode cX5_noAcceptor 0 = .ok (.iload_n 0, 1) := by decide +kernel
theorem dX5_noAcceptor_1 : decode cX5_noAcceptor 1 = .ok (.iconst 0, 1) := by decide +kernel
theorem dX5_noAcceptor_2 : decode cX5_noAcceptor 2 = .ok (.iconst 5, 1) := by decide +kernel
theorem dX5_noAcceptor_3 : decode cX5_noAcceptor 3 = .ok (.invokestatic 33, 3) := by decide +kernel
theorem dX5_noAcceptor_6 : decode cX5_noAcceptor 6 = .ok (.ifCond .ne 7, 3) := by decide +kernel
theorem dX5_noAcceptor_9 : decode cX5_noAcceptor 9 = .ok (.iconst 1, 1) := by decide +kernel
theorem dX5_noAcceptor_10 : decode cX5_noAcceptor 10 = .ok (.goto 4, 3) := by decide +kernel
theorem dX5_noAcceptor_13 : decode cX5_noAcceptor 13 = .ok (.iconst 0, 1) := by decide +kernel
theorem dX5_noAcceptor_14 : decode cX5_noAcceptor 14 = .ok (.ireturn, 1) := by decide +kernel
set_option maxRecDepth 20000 in
theorem ggX5_noProposer_X5_in : GoodIn wsX5_noProposer wsX5_in := goodIn_r _ [4] (by decide +kernel) (by decide +kernel)
set_option maxRecDepth 20000 in
theorem gX5_noProposer_X5_in : GoodIn wsX5_noProposer (va_wsS RX5 33 yX5_in wsX5_in) := goodIn_app (goodIn_of _ (by decide +kernel)) ggX5_noProposer_X5_in
theorem dX5_noProposer_0 : decode cX5_noProposer 0 = .ok (.iload_n 0, 1) := by decide +kernel
theorem dX5_noProposer_1 : decode cX5_noProposer 1 = .ok (.iconst 0, 1) := by decide +kernel
theorem dX5_noProposer_2 : decode cX5_noProposer 2 = .ok (.iconst 2, 1) := by decide +kernel
theorem dX5_noProposer_3 : decode cX5_noProposer 3 = .ok (.invokestatic 33, 3) := by decide +kernel
theorem dX5_noProposer_6 : decode cX5_noProposer 6 = .ok (.ifCond .ne 7, 3) := by decide +kernel
theorem dX5_noProposer_9 : decode cX5_noProposer 9 = .ok (.iconst 1, 1) := by decide +kernel
theorem dX5_noProposer_10 : decode cX5_noProposer 10 = .ok (.goto 4, 3) := by decide +kernel
theorem dX5_noProposer_13 : decode cX5_noProposer 13 = .ok (.iconst 0, 1) := by decide +kernel
theorem dX5_noProposer_14 : decode cX5_noProposer 14 = .ok (.ireturn, 1) := by decide +kernel
set_option maxRecDepth 20000 in
theorem ggX5_noSlot_X5_in : GoodIn wsX5_noSlot wsX5_in := goodIn_r _ [4] (by decide +kernel) (by decide +kernel)
set_option maxRecDepth 20000 in
theorem gX5_noSlot_X5_in : GoodIn wsX5_noSlot (va_wsS RX5 33 yX5_in wsX5_in) := goodIn_app (goodIn_of _ (by decide +kernel)) ggX5_noSlot_X5_in
theorem dX5_noSlot_0 : decode cX5_noSlot 0 = .ok (.iload_n 0, 1) := by decide +kernel
theorem dX5_noSlot_1 : decode cX5_noSlot 1 = .ok (.iconst 1, 1) := by decide +kernel
theorem dX5_noSlot_2 : decode cX5_noSlot 2 = .ok (.bipush 16, 2) := by decide +kernel
theorem dX5_noSlot_4 : decode cX5_noSlot 4 = .ok (.invokestatic 33, 3) := by decide +kernel
theorem dX5_noSlot_7 : decode cX5_noSlot 7 = .ok (.ifCond .ne 7, 3) := by decide +kernel
theorem dX5_noSlot_10 : decode cX5_noSlot 10 = .ok (.iconst 1, 1) := by decide +kernel
theorem dX5_noSlot_11 : decode cX5_noSlot 11 = .ok (.goto 4, 3) := by decide +kernel
theorem dX5_noSlot_14 : decode cX5_noSlot 14 = .ok (.iconst 0, 1) := by decide +kernel
theorem dX5_noSlot_15 : decode cX5_noSlot 15 = .ok (.ireturn, 1) := by decide +kernel
theorem dX5_isIn_0 : decode cX5_isIn 0 = .ok (.iload_n 0, 1) := by decide +kernel
theorem dX5_isIn_1 : decode cX5_isIn 1 = .ok (.iload_n 1, 1) := by decide +kernel
theorem dX5_isIn_2 : decode cX5_isIn 2 = .ok (.ishr, 1) := by decide +kernel
theorem dX5_isIn_3 : decode cX5_isIn 3 = .ok (.iconst 1, 1) := by decide +kernel
theorem dX5_isIn_4 : decode cX5_isIn 4 = .ok (.iand, 1) := by decide +kernel
theorem dX5_isIn_5 : decode cX5_isIn 5 = .ok (.iconst 1, 1) := by decide +kernel
theorem dX5_isIn_6 : decode cX5_isIn 6 = .ok (.if_icmp .ne 7, 3) := by decide +kernel
theorem dX5_isIn_9 : decode cX5_isIn 9 = .ok (.iconst 1, 1) := by decide +kernel
theorem dX5_isIn_10 : decode cX5_isIn 10 = .ok (.goto 4, 3) := by decide +kernel
theorem dX5_isIn_13 : decode cX5_isIn 13 = .ok (.iconst 0, 1) := by decide +kernel
theorem dX5_isIn_14 : decode cX5_isIn 14 = .ok (.ireturn, 1) := by decide +kernel
theorem dX5_bits_0 : decode cX5_bits 0 = .ok (.iconst 0, 1) := by decide +kernel
theorem dX5_bits_1 : decode cX5_bits 1 = .ok (.istore_n 1, 1) := by decide +kernel
theorem dX5_bits_2 : decode cX5_bits 2 = .ok (.iconst 0, 1) := by decide +kernel
theorem dX5_bits_3 : decode cX5_bits 3 = .ok (.istore_n 2, 1) := by decide +kernel
theorem dX5_bits_4 : decode cX5_bits 4 = .ok (.iload_n 2, 1) := by decide +kernel
theorem dX5_bits_5 : decode cX5_bits 5 = .ok (.bipush 6, 2) := by decide +kernel
theorem dX5_bits_7 : decode cX5_bits 7 = .ok (.if_icmp .ge 17, 3) := by decide +kernel
theorem dX5_bits_10 : decode cX5_bits 10 = .ok (.iload_n 1, 1) := by decide +kernel
theorem dX5_bits_11 : decode cX5_bits 11 = .ok (.iload_n 0, 1) := by decide +kernel
theorem dX5_bits_12 : decode cX5_bits 12 = .ok (.iload_n 2, 1) := by decide +kernel
theorem dX5_bits_13 : decode cX5_bits 13 = .ok (.ishr, 1) := by decide +kernel
theorem dX5_bits_14 : decode cX5_bits 14 = .ok (.iconst 1, 1) := by decide +kernel
theorem dX5_bits_15 : decode cX5_bits 15 = .ok (.iand, 1) := by decide +kernel
theorem dX5_bits_16 : decode cX5_bits 16 = .ok (.iadd, 1) := by decide +kernel
theorem dX5_bits_17 : decode cX5_bits 17 = .ok (.istore_n 1, 1) := by decide +kernel
theorem dX5_bits_18 : decode cX5_bits 18 = .ok (.iinc 2 1, 3) := by decide +kernel
theorem dX5_bits_21 : decode cX5_bits 21 = .ok (.goto (-17), 3) := by decide +kernel
theorem dX5_bits_24 : decode cX5_bits 24 = .ok (.iload_n 1, 1) := by decide +kernel
theorem dX5_bits_25 : decode cX5_bits 25 = .ok (.ireturn, 1) := by decide +kernel
theorem dX5_voteAt_0 : decode cX5_voteAt 0 = .ok (.bipush 12, 2) := by decide +kernel
theorem dX5_voteAt_2 : decode cX5_voteAt 2 = .ok (.iconst 2, 1) := by decide +kernel
theorem dX5_voteAt_3 : decode cX5_voteAt 3 = .ok (.bipush 16, 2) := by decide +kernel
theorem dX5_voteAt_5 : decode cX5_voteAt 5 = .ok (.iload_n 0, 1) := by decide +kernel
theorem dX5_voteAt_6 : decode cX5_voteAt 6 = .ok (.imul, 1) := by decide +kernel
theorem dX5_voteAt_7 : decode cX5_voteAt 7 = .ok (.iload_n 1, 1) := by decide +kernel
theorem dX5_voteAt_8 : decode cX5_voteAt 8 = .ok (.iadd, 1) := by decide +kernel
theorem dX5_voteAt_9 : decode cX5_voteAt 9 = .ok (.iconst 1, 1) := by decide +kernel
theorem dX5_voteAt_10 : decode cX5_voteAt 10 = .ok (.isub, 1) := by decide +kernel
theorem dX5_voteAt_11 : decode cX5_voteAt 11 = .ok (.imul, 1) := by decide +kernel
theorem dX5_voteAt_12 : decode cX5_voteAt 12 = .ok (.iadd, 1) := by decide +kernel
theorem dX5_voteAt_13 : decode cX5_voteAt 13 = .ok (.ireturn, 1) := by decide +kernel
theorem dX5_toldAt_0 : decode cX5_toldAt 0 = .ok (.sipush 213, 3) := by decide +kernel
theorem dX5_toldAt_3 : decode cX5_toldAt 3 = .ok (.iconst 2, 1) := by decide +kernel
theorem dX5_toldAt_4 : decode cX5_toldAt 4 = .ok (.bipush 16, 2) := by decide +kernel
theorem dX5_toldAt_6 : decode cX5_toldAt 6 = .ok (.bipush 6, 2) := by decide +kernel
theorem dX5_toldAt_8 : decode cX5_toldAt 8 = .ok (.iload_n 0, 1) := by decide +kernel
theorem dX5_toldAt_9 : decode cX5_toldAt 9 = .ok (.imul, 1) := by decide +kernel
theorem dX5_toldAt_10 : decode cX5_toldAt 10 = .ok (.iload_n 1, 1) := by decide +kernel
theorem dX5_toldAt_11 : decode cX5_toldAt 11 = .ok (.iadd, 1) := by decide +kernel
theorem dX5_toldAt_12 : decode cX5_toldAt 12 = .ok (.imul, 1) := by decide +kernel
theorem dX5_toldAt_13 : decode cX5_toldAt 13 = .ok (.iload_n 2, 1) := by decide +kernel
theorem dX5_toldAt_14 : decode cX5_toldAt 14 = .ok (.iadd, 1) := by decide +kernel
theorem dX5_toldAt_15 : decode cX5_toldAt 15 = .ok (.iconst 1, 1) := by decide +kernel
theorem dX5_toldAt_16 : decode cX5_toldAt 16 = .ok (.isub, 1) := by decide +kernel
theorem dX5_toldAt_17 : decode cX5_toldAt 17 = .ok (.imul, 1) := by decide +kernel
theorem dX5_toldAt_18 : decode cX5_toldAt 18 = .ok (.iadd, 1) := by decide +kernel
theorem dX5_toldAt_19 : decode cX5_toldAt 19 = .ok (.ireturn, 1) := by decide +kernel
theorem dX5_proposedAt_0 : decode cX5_proposedAt 0 = .ok (.sipush 789, 3) := by decide +kernel
theorem dX5_proposedAt_3 : decode cX5_proposedAt 3 = .ok (.bipush 16, 2) := by decide +kernel
theorem dX5_proposedAt_5 : decode cX5_proposedAt 5 = .ok (.iload_n 0, 1) := by decide +kernel
theorem dX5_proposedAt_6 : decode cX5_proposedAt 6 = .ok (.imul, 1) := by decide +kernel
theorem dX5_proposedAt_7 : decode cX5_proposedAt 7 = .ok (.iadd, 1) := by decide +kernel
theorem dX5_proposedAt_8 : decode cX5_proposedAt 8 = .ok (.iload_n 1, 1) := by decide +kernel
theorem dX5_proposedAt_9 : decode cX5_proposedAt 9 = .ok (.iadd, 1) := by decide +kernel
theorem dX5_proposedAt_10 : decode cX5_proposedAt 10 = .ok (.iconst 1, 1) := by decide +kernel
theorem dX5_proposedAt_11 : decode cX5_proposedAt 11 = .ok (.isub, 1) := by decide +kernel
theorem dX5_proposedAt_12 : decode cX5_proposedAt 12 = .ok (.ireturn, 1) := by decide +kernel
theorem dX5_chosen_0 : decode cX5_chosen 0 = .ok (.aload_n 0, 1) := by decide +kernel
theorem dX5_chosen_1 : decode cX5_chosen 1 = .ok (.getfield 7, 3) := by decide +kernel
theorem dX5_chosen_4 : decode cX5_chosen 4 = .ok (.sipush 837, 3) := by decide +kernel
theorem dX5_chosen_7 : decode cX5_chosen 7 = .ok (.iload_n 1, 1) := by decide +kernel
theorem dX5_chosen_8 : decode cX5_chosen 8 = .ok (.iadd, 1) := by decide +kernel
theorem dX5_chosen_9 : decode cX5_chosen 9 = .ok (.iconst 1, 1) := by decide +kernel
theorem dX5_chosen_10 : decode cX5_chosen 10 = .ok (.isub, 1) := by decide +kernel
theorem dX5_chosen_11 : decode cX5_chosen 11 = .ok (.iaload, 1) := by decide +kernel
theorem dX5_chosen_12 : decode cX5_chosen 12 = .ok (.ireturn, 1) := by decide +kernel
theorem dX5_record_0 : decode cX5_record 0 = .ok (.aload_n 0, 1) := by decide +kernel
theorem dX5_record_1 : decode cX5_record 1 = .ok (.getfield 37, 3) := by decide +kernel
theorem dX5_record_4 : decode cX5_record 4 = .ok (.ifCond .eq 4, 3) := by decide +kernel
theorem dX5_record_7 : decode cX5_record 7 = .ok (.return_, 1) := by decide +kernel
theorem dX5_record_8 : decode cX5_record 8 = .ok (.aload_n 0, 1) := by decide +kernel
theorem dX5_record_9 : decode cX5_record 9 = .ok (.getfield 41, 3) := by decide +kernel
theorem dX5_record_12 : decode cX5_record 12 = .ok (.iconst 4, 1) := by decide +kernel
theorem dX5_record_13 : decode cX5_record 13 = .ok (.if_icmp .ne 44, 3) := by decide +kernel
theorem dX5_record_16 : decode cX5_record 16 = .ok (.iconst 0, 1) := by decide +kernel
theorem dX5_record_17 : decode cX5_record 17 = .ok (.istore_n 1, 1) := by decide +kernel
theorem dX5_record_18 : decode cX5_record 18 = .ok (.iload_n 1, 1) := by decide +kernel
theorem dX5_record_19 : decode cX5_record 19 = .ok (.sipush 2619, 3) := by decide +kernel
theorem dX5_record_22 : decode cX5_record 22 = .ok (.if_icmp .ge 25, 3) := by decide +kernel
theorem dX5_record_25 : decode cX5_record 25 = .ok (.aload_n 0, 1) := by decide +kernel
theorem dX5_record_26 : decode cX5_record 26 = .ok (.getfield 13, 3) := by decide +kernel
theorem dX5_record_29 : decode cX5_record 29 = .ok (.iload_n 1, 1) := by decide +kernel
theorem dX5_record_30 : decode cX5_record 30 = .ok (.aload_n 0, 1) := by decide +kernel
theorem dX5_record_31 : decode cX5_record 31 = .ok (.getfield 13, 3) := by decide +kernel
theorem dX5_record_34 : decode cX5_record 34 = .ok (.iload_n 1, 1) := by decide +kernel
theorem dX5_record_35 : decode cX5_record 35 = .ok (.sipush 873, 3) := by decide +kernel
theorem dX5_record_38 : decode cX5_record 38 = .ok (.iadd, 1) := by decide +kernel
theorem dX5_record_39 : decode cX5_record 39 = .ok (.iaload, 1) := by decide +kernel
theorem dX5_record_40 : decode cX5_record 40 = .ok (.iastore, 1) := by decide +kernel
theorem dX5_record_41 : decode cX5_record 41 = .ok (.iinc 1 1, 3) := by decide +kernel
theorem dX5_record_44 : decode cX5_record 44 = .ok (.goto (-26), 3) := by decide +kernel
theorem dX5_record_47 : decode cX5_record 47 = .ok (.aload_n 0, 1) := by decide +kernel
theorem dX5_record_48 : decode cX5_record 48 = .ok (.dup, 1) := by decide +kernel
theorem dX5_record_49 : decode cX5_record 49 = .ok (.getfield 41, 3) := by decide +kernel
theorem dX5_record_52 : decode cX5_record 52 = .ok (.iconst 1, 1) := by decide +kernel
theorem dX5_record_53 : decode cX5_record 53 = .ok (.isub, 1) := by decide +kernel
theorem dX5_record_54 : decode cX5_record 54 = .ok (.putfield 41, 3) := by decide +kernel
theorem dX5_record_57 : decode cX5_record 57 = .ok (.iconst 0, 1) := by decide +kernel
theorem dX5_record_58 : decode cX5_record 58 = .ok (.istore_n 1, 1) := by decide +kernel
theorem dX5_record_59 : decode cX5_record 59 = .ok (.iload_n 1, 1) := by decide +kernel
theorem dX5_record_60 : decode cX5_record 60 = .ok (.sipush 873, 3) := by decide +kernel
theorem dX5_record_63 : decode cX5_record 63 = .ok (.if_icmp .ge 30, 3) := by decide +kernel
theorem dX5_record_66 : decode cX5_record 66 = .ok (.aload_n 0, 1) := by decide +kernel
theorem dX5_record_67 : decode cX5_record 67 = .ok (.getfield 13, 3) := by decide +kernel
theorem dX5_record_70 : decode cX5_record 70 = .ok (.sipush 873, 3) := by decide +kernel
theorem dX5_record_73 : decode cX5_record 73 = .ok (.aload_n 0, 1) := by decide +kernel
theorem dX5_record_74 : decode cX5_record 74 = .ok (.getfield 41, 3) := by decide +kernel
theorem dX5_record_77 : decode cX5_record 77 = .ok (.imul, 1) := by decide +kernel
theorem dX5_record_78 : decode cX5_record 78 = .ok (.iload_n 1, 1) := by decide +kernel
theorem dX5_record_79 : decode cX5_record 79 = .ok (.iadd, 1) := by decide +kernel
theorem dX5_record_80 : decode cX5_record 80 = .ok (.aload_n 0, 1) := by decide +kernel
theorem dX5_record_81 : decode cX5_record 81 = .ok (.getfield 7, 3) := by decide +kernel
theorem dX5_record_84 : decode cX5_record 84 = .ok (.iload_n 1, 1) := by decide +kernel
theorem dX5_record_85 : decode cX5_record 85 = .ok (.iaload, 1) := by decide +kernel
theorem dX5_record_86 : decode cX5_record 86 = .ok (.iastore, 1) := by decide +kernel
theorem dX5_record_87 : decode cX5_record 87 = .ok (.iinc 1 1, 3) := by decide +kernel
theorem dX5_record_90 : decode cX5_record 90 = .ok (.goto (-31), 3) := by decide +kernel
theorem dX5_record_93 : decode cX5_record 93 = .ok (.aload_n 0, 1) := by decide +kernel
theorem dX5_record_94 : decode cX5_record 94 = .ok (.dup, 1) := by decide +kernel
theorem dX5_record_95 : decode cX5_record 95 = .ok (.getfield 41, 3) := by decide +kernel
theorem dX5_record_98 : decode cX5_record 98 = .ok (.iconst 1, 1) := by decide +kernel
theorem dX5_record_99 : decode cX5_record 99 = .ok (.iadd, 1) := by decide +kernel
theorem dX5_record_100 : decode cX5_record 100 = .ok (.putfield 41, 3) := by decide +kernel
theorem dX5_record_103 : decode cX5_record 103 = .ok (.return_, 1) := by decide +kernel
set_option maxRecDepth 20000 in
theorem ggX5_prefix_X5_chosen : GoodIn wsX5_prefix wsX5_chosen := goodIn_r _ [5, 6, 7, 8, 9, 10, 11, 12, 13, 14, 15, 16, 17, 18, 19, 20, 21] (by decide +kernel) (by decide +kernel)
set_option maxRecDepth 20000 in
theorem gX5_prefix_X5_chosen : GoodIn wsX5_prefix (wsV RX5 44 RX5 yX5_chosen wsX5_chosen) := goodIn_app (goodIn_of _ (by decide +kernel)) ggX5_prefix_X5_chosen
theorem dX5_prefix_0 : decode cX5_prefix 0 = .ok (.iconst 0, 1) := by decide +kernel
theorem dX5_prefix_1 : decode cX5_prefix 1 = .ok (.istore_n 1, 1) := by decide +kernel
theorem dX5_prefix_2 : decode cX5_prefix 2 = .ok (.iload_n 1, 1) := by decide +kernel
theorem dX5_prefix_3 : decode cX5_prefix 3 = .ok (.bipush 16, 2) := by decide +kernel
theorem dX5_prefix_5 : decode cX5_prefix 5 = .ok (.if_icmp .ge 19, 3) := by decide +kernel
theorem dX5_prefix_8 : decode cX5_prefix 8 = .ok (.aload_n 0, 1) := by decide +kernel
theorem dX5_prefix_9 : decode cX5_prefix 9 = .ok (.iload_n 1, 1) := by decide +kernel
theorem dX5_prefix_10 : decode cX5_prefix 10 = .ok (.iconst 1, 1) := by decide +kernel
theorem dX5_prefix_11 : decode cX5_prefix 11 = .ok (.iadd, 1) := by decide +kernel
theorem dX5_prefix_12 : decode cX5_prefix 12 = .ok (.invokevirtual 44, 3) := by decide +kernel
theorem dX5_prefix_15 : decode cX5_prefix 15 = .ok (.ifCond .le 9, 3) := by decide +kernel
theorem dX5_prefix_18 : decode cX5_prefix 18 = .ok (.iinc 1 1, 3) := by decide +kernel
theorem dX5_prefix_21 : decode cX5_prefix 21 = .ok (.goto (-19), 3) := by decide +kernel
theorem dX5_prefix_24 : decode cX5_prefix 24 = .ok (.iload_n 1, 1) := by decide +kernel
theorem dX5_prefix_25 : decode cX5_prefix 25 = .ok (.ireturn, 1) := by decide +kernel
set_option maxRecDepth 20000 in
theorem ggX5_isOpen_X5_prefix : GoodIn wsX5_isOpen wsX5_prefix := goodIn_r _ [5, 6, 7, 8, 4, 9, 10, 11, 12, 13, 14, 15, 16, 17, 18, 19, 20, 21, 22, 23, 24, 25] (by decide +kernel) (by decide +kernel)
set_option maxRecDepth 20000 in
theorem gX5_isOpen_X5_prefix : GoodIn wsX5_isOpen (wsV RX5 48 RX5 yX5_prefix wsX5_prefix) := goodIn_app (goodIn_of _ (by decide +kernel)) ggX5_isOpen_X5_prefix
theorem dX5_isOpen_0 : decode cX5_isOpen 0 = .ok (.aload_n 0, 1) := by decide +kernel
theorem dX5_isOpen_1 : decode cX5_isOpen 1 = .ok (.invokevirtual 48, 3) := by decide +kernel
theorem dX5_isOpen_4 : decode cX5_isOpen 4 = .ok (.iload_n 1, 1) := by decide +kernel
theorem dX5_isOpen_5 : decode cX5_isOpen 5 = .ok (.iconst 3, 1) := by decide +kernel
theorem dX5_isOpen_6 : decode cX5_isOpen 6 = .ok (.isub, 1) := by decide +kernel
theorem dX5_isOpen_7 : decode cX5_isOpen 7 = .ok (.if_icmp .lt 7, 3) := by decide +kernel
theorem dX5_isOpen_10 : decode cX5_isOpen 10 = .ok (.iconst 1, 1) := by decide +kernel
theorem dX5_isOpen_11 : decode cX5_isOpen 11 = .ok (.goto 4, 3) := by decide +kernel
theorem dX5_isOpen_14 : decode cX5_isOpen 14 = .ok (.iconst 0, 1) := by decide +kernel
theorem dX5_isOpen_15 : decode cX5_isOpen 15 = .ok (.ireturn, 1) := by decide +kernel
theorem dX5_isTrimmed_0 : decode cX5_isTrimmed 0 = .ok (.iload_n 1, 1) := by decide +kernel
theorem dX5_isTrimmed_1 : decode cX5_isTrimmed 1 = .ok (.aload_n 0, 1) := by decide +kernel
theorem dX5_isTrimmed_2 : decode cX5_isTrimmed 2 = .ok (.getfield 7, 3) := by decide +kernel
theorem dX5_isTrimmed_5 : decode cX5_isTrimmed 5 = .ok (.sipush 869, 3) := by decide +kernel
theorem dX5_isTrimmed_8 : decode cX5_isTrimmed 8 = .ok (.iaload, 1) := by decide +kernel
theorem dX5_isTrimmed_9 : decode cX5_isTrimmed 9 = .ok (.if_icmp .gt 7, 3) := by decide +kernel
theorem dX5_isTrimmed_12 : decode cX5_isTrimmed 12 = .ok (.iconst 1, 1) := by decide +kernel
theorem dX5_isTrimmed_13 : decode cX5_isTrimmed 13 = .ok (.goto 4, 3) := by decide +kernel
theorem dX5_isTrimmed_16 : decode cX5_isTrimmed 16 = .ok (.iconst 0, 1) := by decide +kernel
theorem dX5_isTrimmed_17 : decode cX5_isTrimmed 17 = .ok (.ireturn, 1) := by decide +kernel
set_option maxRecDepth 20000 in
theorem ggX5_voters_X5_chosen : GoodIn wsX5_voters wsX5_chosen := goodIn_r _ [5, 6, 7, 8, 9, 10, 11, 12, 13, 14, 15, 16, 17, 18, 19, 20, 21] (by decide +kernel) (by decide +kernel)
set_option maxRecDepth 20000 in
theorem gX5_voters_X5_chosen : GoodIn wsX5_voters (wsV RX5 44 RX5 yX5_chosen wsX5_chosen) := goodIn_app (goodIn_of _ (by decide +kernel)) ggX5_voters_X5_chosen
theorem dX5_voters_0 : decode cX5_voters 0 = .ok (.iload_n 1, 1) := by decide +kernel
theorem dX5_voters_1 : decode cX5_voters 1 = .ok (.iconst 3, 1) := by decide +kernel
theorem dX5_voters_2 : decode cX5_voters 2 = .ok (.isub, 1) := by decide +kernel
theorem dX5_voters_3 : decode cX5_voters 3 = .ok (.istore_n 2, 1) := by decide +kernel
theorem dX5_voters_4 : decode cX5_voters 4 = .ok (.iload_n 2, 1) := by decide +kernel
theorem dX5_voters_5 : decode cX5_voters 5 = .ok (.ifCond .le 28, 3) := by decide +kernel
theorem dX5_voters_8 : decode cX5_voters 8 = .ok (.aload_n 0, 1) := by decide +kernel
theorem dX5_voters_9 : decode cX5_voters 9 = .ok (.iload_n 2, 1) := by decide +kernel
theorem dX5_voters_10 : decode cX5_voters 10 = .ok (.invokevirtual 44, 3) := by decide +kernel
theorem dX5_voters_13 : decode cX5_voters 13 = .ok (.bipush 100, 2) := by decide +kernel
theorem dX5_voters_15 : decode cX5_voters 15 = .ok (.if_icmp .le 12, 3) := by decide +kernel
theorem dX5_voters_18 : decode cX5_voters 18 = .ok (.aload_n 0, 1) := by decide +kernel
theorem dX5_voters_19 : decode cX5_voters 19 = .ok (.iload_n 2, 1) := by decide +kernel
theorem dX5_voters_20 : decode cX5_voters 20 = .ok (.invokevirtual 44, 3) := by decide +kernel
theorem dX5_voters_23 : decode cX5_voters 23 = .ok (.bipush 100, 2) := by decide +kernel
theorem dX5_voters_25 : decode cX5_voters 25 = .ok (.isub, 1) := by decide +kernel
theorem dX5_voters_26 : decode cX5_voters 26 = .ok (.ireturn, 1) := by decide +kernel
theorem dX5_voters_27 : decode cX5_voters 27 = .ok (.iinc 2 (-1), 3) := by decide +kernel
theorem dX5_voters_30 : decode cX5_voters 30 = .ok (.goto (-26), 3) := by decide +kernel
theorem dX5_voters_33 : decode cX5_voters 33 = .ok (.bipush 7, 2) := by decide +kernel
theorem dX5_voters_35 : decode cX5_voters 35 = .ok (.ireturn, 1) := by decide +kernel
set_option maxRecDepth 20000 in
theorem ggX5_secondSize_X5_voters : GoodIn wsX5_secondSize wsX5_voters := goodIn_r _ [6, 7, 8, 9, 5, 10, 1, 14, 15, 16, 17, 18, 19, 20, 21, 22, 23, 24, 25, 26, 27, 28] (by decide +kernel) (by decide +kernel)
set_option maxRecDepth 20000 in
theorem gX5_secondSize_X5_voters : GoodIn wsX5_secondSize (wsV RX5 52 RX5 yX5_voters wsX5_voters) := goodIn_app (goodIn_of _ (by decide +kernel)) ggX5_secondSize_X5_voters
set_option maxRecDepth 20000 in
theorem ggX5_secondSize_X5_bits : GoodIn wsX5_secondSize wsX5_bits := goodIn_r _ [13] (by decide +kernel) (by decide +kernel)
set_option maxRecDepth 20000 in
theorem gX5_secondSize_X5_bits : GoodIn wsX5_secondSize (va_wsS RX5 55 yX5_bits wsX5_bits) := goodIn_app (goodIn_of _ (by decide +kernel)) ggX5_secondSize_X5_bits
theorem dX5_secondSize_0 : decode cX5_secondSize 0 = .ok (.aload_n 0, 1) := by decide +kernel
theorem dX5_secondSize_1 : decode cX5_secondSize 1 = .ok (.iload_n 1, 1) := by decide +kernel
theorem dX5_secondSize_2 : decode cX5_secondSize 2 = .ok (.invokevirtual 52, 3) := by decide +kernel
theorem dX5_secondSize_5 : decode cX5_secondSize 5 = .ok (.invokestatic 55, 3) := by decide +kernel
theorem dX5_secondSize_8 : decode cX5_secondSize 8 = .ok (.istore_n 2, 1) := by decide +kernel
theorem dX5_secondSize_9 : decode cX5_secondSize 9 = .ok (.aload_n 0, 1) := by decide +kernel
theorem dX5_secondSize_10 : decode cX5_secondSize 10 = .ok (.getfield 7, 3) := by decide +kernel
theorem dX5_secondSize_13 : decode cX5_secondSize 13 = .ok (.sipush 870, 3) := by decide +kernel
theorem dX5_secondSize_16 : decode cX5_secondSize 16 = .ok (.iaload, 1) := by decide +kernel
theorem dX5_secondSize_17 : decode cX5_secondSize 17 = .ok (.iload_n 2, 1) := by decide +kernel
theorem dX5_secondSize_18 : decode cX5_secondSize 18 = .ok (.if_icmp .ge 14, 3) := by decide +kernel
theorem dX5_secondSize_21 : decode cX5_secondSize 21 = .ok (.aload_n 0, 1) := by decide +kernel
theorem dX5_secondSize_22 : decode cX5_secondSize 22 = .ok (.getfield 7, 3) := by decide +kernel
theorem dX5_secondSize_25 : decode cX5_secondSize 25 = .ok (.sipush 870, 3) := by decide +kernel
theorem dX5_secondSize_28 : decode cX5_secondSize 28 = .ok (.iaload, 1) := by decide +kernel
theorem dX5_secondSize_29 : decode cX5_secondSize 29 = .ok (.goto 4, 3) := by decide +kernel
theorem dX5_secondSize_32 : decode cX5_secondSize 32 = .ok (.iload_n 2, 1) := by decide +kernel
theorem dX5_secondSize_33 : decode cX5_secondSize 33 = .ok (.ireturn, 1) := by decide +kernel
set_option maxRecDepth 20000 in
theorem ggX5_firstSize_X5_voters : GoodIn wsX5_firstSize wsX5_voters := goodIn_r _ [5, 6, 7, 8, 4, 9, 10, 18, 19, 20, 21, 22, 23, 24, 25, 26, 27, 28, 29, 30, 31, 32] (by decide +kernel) (by decide +kernel)
set_option maxRecDepth 20000 in
theorem gX5_firstSize_X5_voters : GoodIn wsX5_firstSize (wsV RX5 52 RX5 yX5_voters wsX5_voters) := goodIn_app (goodIn_of _ (by decide +kernel)) ggX5_firstSize_X5_voters
set_option maxRecDepth 20000 in
theorem ggX5_firstSize_X5_bits : GoodIn wsX5_firstSize wsX5_bits := goodIn_r _ [13] (by decide +kernel) (by decide +kernel)
set_option maxRecDepth 20000 in
theorem gX5_firstSize_X5_bits : GoodIn wsX5_firstSize (va_wsS RX5 55 yX5_bits wsX5_bits) := goodIn_app (goodIn_of _ (by decide +kernel)) ggX5_firstSize_X5_bits
set_option maxRecDepth 20000 in
theorem ggX5_firstSize_X5_secondSize : GoodIn wsX5_firstSize wsX5_secondSize := goodIn_r _ [17, 10, 1, 2, 3, 4, 5, 6, 7, 8, 9, 11, 12, 13, 18, 19, 20, 21, 22, 23, 24, 25, 26, 27, 28, 29, 30, 31, 32] (by decide +kernel) (by decide +kernel)
set_option maxRecDepth 20000 in
theorem gX5_firstSize_X5_secondSize : GoodIn wsX5_firstSize (wsV RX5 58 RX5 yX5_secondSize wsX5_secondSize) := goodIn_app (goodIn_of _ (by decide +kernel)) ggX5_firstSize_X5_secondSize
theorem dX5_firstSize_0 : decode cX5_firstSize 0 = .ok (.aload_n 0, 1) := by decide +kernel
theorem dX5_firstSize_1 : decode cX5_firstSize 1 = .ok (.iload_n 1, 1) := by decide +kernel
theorem dX5_firstSize_2 : decode cX5_firstSize 2 = .ok (.invokevirtual 52, 3) := by decide +kernel
theorem dX5_firstSize_5 : decode cX5_firstSize 5 = .ok (.invokestatic 55, 3) := by decide +kernel
theorem dX5_firstSize_8 : decode cX5_firstSize 8 = .ok (.iconst 1, 1) := by decide +kernel
theorem dX5_firstSize_9 : decode cX5_firstSize 9 = .ok (.iadd, 1) := by decide +kernel
theorem dX5_firstSize_10 : decode cX5_firstSize 10 = .ok (.aload_n 0, 1) := by decide +kernel
theorem dX5_firstSize_11 : decode cX5_firstSize 11 = .ok (.iload_n 1, 1) := by decide +kernel
theorem dX5_firstSize_12 : decode cX5_firstSize 12 = .ok (.invokevirtual 58, 3) := by decide +kernel
theorem dX5_firstSize_15 : decode cX5_firstSize 15 = .ok (.isub, 1) := by decide +kernel
theorem dX5_firstSize_16 : decode cX5_firstSize 16 = .ok (.ireturn, 1) := by decide +kernel
theorem dX5_ups_0 : decode cX5_ups 0 = .ok (.iconst 0, 1) := by decide +kernel
theorem dX5_ups_1 : decode cX5_ups 1 = .ok (.istore_n 1, 1) := by decide +kernel
theorem dX5_ups_2 : decode cX5_ups 2 = .ok (.iconst 0, 1) := by decide +kernel
theorem dX5_ups_3 : decode cX5_ups 3 = .ok (.istore_n 2, 1) := by decide +kernel
theorem dX5_ups_4 : decode cX5_ups 4 = .ok (.iload_n 2, 1) := by decide +kernel
theorem dX5_ups_5 : decode cX5_ups 5 = .ok (.bipush 6, 2) := by decide +kernel
theorem dX5_ups_7 : decode cX5_ups 7 = .ok (.if_icmp .ge 22, 3) := by decide +kernel
theorem dX5_ups_10 : decode cX5_ups 10 = .ok (.iload_n 1, 1) := by decide +kernel
theorem dX5_ups_11 : decode cX5_ups 11 = .ok (.aload_n 0, 1) := by decide +kernel
theorem dX5_ups_12 : decode cX5_ups 12 = .ok (.getfield 7, 3) := by decide +kernel
theorem dX5_ups_15 : decode cX5_ups 15 = .ok (.iconst 0, 1) := by decide +kernel
theorem dX5_ups_16 : decode cX5_ups 16 = .ok (.iload_n 2, 1) := by decide +kernel
theorem dX5_ups_17 : decode cX5_ups 17 = .ok (.iadd, 1) := by decide +kernel
theorem dX5_ups_18 : decode cX5_ups 18 = .ok (.iaload, 1) := by decide +kernel
theorem dX5_ups_19 : decode cX5_ups 19 = .ok (.iload_n 2, 1) := by decide +kernel
theorem dX5_ups_20 : decode cX5_ups 20 = .ok (.ishl, 1) := by decide +kernel
theorem dX5_ups_21 : decode cX5_ups 21 = .ok (.ior, 1) := by decide +kernel
theorem dX5_ups_22 : decode cX5_ups 22 = .ok (.istore_n 1, 1) := by decide +kernel
theorem dX5_ups_23 : decode cX5_ups 23 = .ok (.iinc 2 1, 3) := by decide +kernel
theorem dX5_ups_26 : decode cX5_ups 26 = .ok (.goto (-22), 3) := by decide +kernel
theorem dX5_ups_29 : decode cX5_ups 29 = .ok (.iload_n 1, 1) := by decide +kernel
theorem dX5_ups_30 : decode cX5_ups 30 = .ok (.ireturn, 1) := by decide +kernel
set_option maxRecDepth 20000 in
theorem ggX5_setUp_X5_noAcceptor : GoodIn wsX5_setUp wsX5_noAcceptor := goodIn_r _ [5, 6, 7, 4, 8] (by decide +kernel) (by decide +kernel)
set_option maxRecDepth 20000 in
theorem gX5_setUp_X5_noAcceptor : GoodIn wsX5_setUp (va_wsS RX5 61 yX5_noAcceptor wsX5_noAcceptor) := goodIn_app (goodIn_of _ (by decide +kernel)) ggX5_setUp_X5_noAcceptor
set_option maxRecDepth 20000 in
theorem ggX5_setUp_X5_record : GoodIn wsX5_setUp wsX5_record := goodIn_r _ [12, 13, 14, 15, 1, 23, 24, 25, 26, 27, 28, 29, 30, 31, 32, 33, 34, 35, 36, 37] (by decide +kernel) (by decide +kernel)
set_option maxRecDepth 20000 in
theorem gX5_setUp_X5_record : GoodIn wsX5_setUp (wsV RX5 65 RX5 yX5_record wsX5_record) := goodIn_app (goodIn_of _ (by decide +kernel)) ggX5_setUp_X5_record
set_option maxRecDepth 20000 in
theorem ggX5_setUp_X5_ups : GoodIn wsX5_setUp wsX5_ups := goodIn_r _ [19, 1, 23, 24, 25, 26, 27, 28, 29, 30, 31, 32, 33, 34, 35, 36, 37] (by decide +kernel) (by decide +kernel)
set_option maxRecDepth 20000 in
theorem gX5_setUp_X5_ups : GoodIn wsX5_setUp (wsV RX5 68 RX5 yX5_ups wsX5_ups) := goodIn_app (goodIn_of _ (by decide +kernel)) ggX5_setUp_X5_ups
set_option maxRecDepth 20000 in
theorem ggX5_setUp_X5_bits : GoodIn wsX5_setUp wsX5_bits := goodIn_r _ [22] (by decide +kernel) (by decide +kernel)
set_option maxRecDepth 20000 in
theorem gX5_setUp_X5_bits : GoodIn wsX5_setUp (va_wsS RX5 55 yX5_bits wsX5_bits) := goodIn_app (goodIn_of _ (by decide +kernel)) ggX5_setUp_X5_bits
theorem dX5_setUp_0 : decode cX5_setUp 0 = .ok (.iload_n 1, 1) := by decide +kernel
theorem dX5_setUp_1 : decode cX5_setUp 1 = .ok (.invokestatic 61, 3) := by decide +kernel
theorem dX5_setUp_4 : decode cX5_setUp 4 = .ok (.ifCond .eq 5, 3) := by decide +kernel
theorem dX5_setUp_7 : decode cX5_setUp 7 = .ok (.iconst (-1), 1) := by decide +kernel
theorem dX5_setUp_8 : decode cX5_setUp 8 = .ok (.ireturn, 1) := by decide +kernel
theorem dX5_setUp_9 : decode cX5_setUp 9 = .ok (.aload_n 0, 1) := by decide +kernel
theorem dX5_setUp_10 : decode cX5_setUp 10 = .ok (.getfield 7, 3) := by decide +kernel
theorem dX5_setUp_13 : decode cX5_setUp 13 = .ok (.iconst 0, 1) := by decide +kernel
theorem dX5_setUp_14 : decode cX5_setUp 14 = .ok (.iload_n 1, 1) := by decide +kernel
theorem dX5_setUp_15 : decode cX5_setUp 15 = .ok (.iadd, 1) := by decide +kernel
theorem dX5_setUp_16 : decode cX5_setUp 16 = .ok (.iaload, 1) := by decide +kernel
theorem dX5_setUp_17 : decode cX5_setUp 17 = .ok (.iconst 1, 1) := by decide +kernel
theorem dX5_setUp_18 : decode cX5_setUp 18 = .ok (.if_icmp .ne 7, 3) := by decide +kernel
theorem dX5_setUp_21 : decode cX5_setUp 21 = .ok (.iconst 1, 1) := by decide +kernel
theorem dX5_setUp_22 : decode cX5_setUp 22 = .ok (.goto 4, 3) := by decide +kernel
theorem dX5_setUp_25 : decode cX5_setUp 25 = .ok (.iconst 0, 1) := by decide +kernel
theorem dX5_setUp_26 : decode cX5_setUp 26 = .ok (.iload_n 2, 1) := by decide +kernel
theorem dX5_setUp_27 : decode cX5_setUp 27 = .ok (.if_icmp .ne 6, 3) := by decide +kernel
theorem dX5_setUp_30 : decode cX5_setUp 30 = .ok (.bipush (-5), 2) := by decide +kernel
theorem dX5_setUp_32 : decode cX5_setUp 32 = .ok (.ireturn, 1) := by decide +kernel
theorem dX5_setUp_33 : decode cX5_setUp 33 = .ok (.aload_n 0, 1) := by decide +kernel
theorem dX5_setUp_34 : decode cX5_setUp 34 = .ok (.invokevirtual 65, 3) := by decide +kernel
theorem dX5_setUp_37 : decode cX5_setUp 37 = .ok (.aload_n 0, 1) := by decide +kernel
theorem dX5_setUp_38 : decode cX5_setUp 38 = .ok (.getfield 7, 3) := by decide +kernel
theorem dX5_setUp_41 : decode cX5_setUp 41 = .ok (.iconst 0, 1) := by decide +kernel
theorem dX5_setUp_42 : decode cX5_setUp 42 = .ok (.iload_n 1, 1) := by decide +kernel
theorem dX5_setUp_43 : decode cX5_setUp 43 = .ok (.iadd, 1) := by decide +kernel
theorem dX5_setUp_44 : decode cX5_setUp 44 = .ok (.iload_n 2, 1) := by decide +kernel
theorem dX5_setUp_45 : decode cX5_setUp 45 = .ok (.ifCond .eq 7, 3) := by decide +kernel
theorem dX5_setUp_48 : decode cX5_setUp 48 = .ok (.iconst 1, 1) := by decide +kernel
theorem dX5_setUp_49 : decode cX5_setUp 49 = .ok (.goto 4, 3) := by decide +kernel
theorem dX5_setUp_52 : decode cX5_setUp 52 = .ok (.iconst 0, 1) := by decide +kernel
theorem dX5_setUp_53 : decode cX5_setUp 53 = .ok (.iastore, 1) := by decide +kernel
theorem dX5_setUp_54 : decode cX5_setUp 54 = .ok (.aload_n 0, 1) := by decide +kernel
theorem dX5_setUp_55 : decode cX5_setUp 55 = .ok (.invokevirtual 68, 3) := by decide +kernel
theorem dX5_setUp_58 : decode cX5_setUp 58 = .ok (.invokestatic 55, 3) := by decide +kernel
theorem dX5_setUp_61 : decode cX5_setUp 61 = .ok (.ireturn, 1) := by decide +kernel
set_option maxRecDepth 20000 in
theorem ggX5_setSecond_X5_in : GoodIn wsX5_setSecond wsX5_in := goodIn_r _ [5] (by decide +kernel) (by decide +kernel)
set_option maxRecDepth 20000 in
theorem gX5_setSecond_X5_in : GoodIn wsX5_setSecond (va_wsS RX5 33 yX5_in wsX5_in) := goodIn_app (goodIn_of _ (by decide +kernel)) ggX5_setSecond_X5_in
set_option maxRecDepth 20000 in
theorem ggX5_setSecond_X5_record : GoodIn wsX5_setSecond wsX5_record := goodIn_r _ [9, 10, 11, 12, 1, 13, 14, 15, 16, 17, 18, 19, 20, 21, 22, 23, 24, 25, 26, 27] (by decide +kernel) (by decide +kernel)
set_option maxRecDepth 20000 in
theorem gX5_setSecond_X5_record : GoodIn wsX5_setSecond (wsV RX5 65 RX5 yX5_record wsX5_record) := goodIn_app (goodIn_of _ (by decide +kernel)) ggX5_setSecond_X5_record
theorem dX5_setSecond_0 : decode cX5_setSecond 0 = .ok (.iload_n 1, 1) := by decide +kernel
theorem dX5_setSecond_1 : decode cX5_setSecond 1 = .ok (.iconst 1, 1) := by decide +kernel
theorem dX5_setSecond_2 : decode cX5_setSecond 2 = .ok (.bipush 6, 2) := by decide +kernel
theorem dX5_setSecond_4 : decode cX5_setSecond 4 = .ok (.invokestatic 33, 3) := by decide +kernel
theorem dX5_setSecond_7 : decode cX5_setSecond 7 = .ok (.ifCond .ne 6, 3) := by decide +kernel
theorem dX5_setSecond_10 : decode cX5_setSecond 10 = .ok (.bipush (-2), 2) := by decide +kernel
theorem dX5_setSecond_12 : decode cX5_setSecond 12 = .ok (.ireturn, 1) := by decide +kernel
theorem dX5_setSecond_13 : decode cX5_setSecond 13 = .ok (.iconst 0, 1) := by decide +kernel
theorem dX5_setSecond_14 : decode cX5_setSecond 14 = .ok (.istore_n 2, 1) := by decide +kernel
theorem dX5_setSecond_15 : decode cX5_setSecond 15 = .ok (.iload_n 2, 1) := by decide +kernel
theorem dX5_setSecond_16 : decode cX5_setSecond 16 = .ok (.iconst 3, 1) := by decide +kernel
theorem dX5_setSecond_17 : decode cX5_setSecond 17 = .ok (.if_icmp .ge 25, 3) := by decide +kernel
theorem dX5_setSecond_20 : decode cX5_setSecond 20 = .ok (.aload_n 0, 1) := by decide +kernel
theorem dX5_setSecond_21 : decode cX5_setSecond 21 = .ok (.getfield 7, 3) := by decide +kernel
theorem dX5_setSecond_24 : decode cX5_setSecond 24 = .ok (.sipush 204, 3) := by decide +kernel
theorem dX5_setSecond_27 : decode cX5_setSecond 27 = .ok (.iload_n 2, 1) := by decide +kernel
theorem dX5_setSecond_28 : decode cX5_setSecond 28 = .ok (.iadd, 1) := by decide +kernel
theorem dX5_setSecond_29 : decode cX5_setSecond 29 = .ok (.iaload, 1) := by decide +kernel
theorem dX5_setSecond_30 : decode cX5_setSecond 30 = .ok (.ifCond .le 6, 3) := by decide +kernel
theorem dX5_setSecond_33 : decode cX5_setSecond 33 = .ok (.bipush (-4), 2) := by decide +kernel
theorem dX5_setSecond_35 : decode cX5_setSecond 35 = .ok (.ireturn, 1) := by decide +kernel
theorem dX5_setSecond_36 : decode cX5_setSecond 36 = .ok (.iinc 2 1, 3) := by decide +kernel
theorem dX5_setSecond_39 : decode cX5_setSecond 39 = .ok (.goto (-24), 3) := by decide +kernel
theorem dX5_setSecond_42 : decode cX5_setSecond 42 = .ok (.aload_n 0, 1) := by decide +kernel
theorem dX5_setSecond_43 : decode cX5_setSecond 43 = .ok (.getfield 7, 3) := by decide +kernel
theorem dX5_setSecond_46 : decode cX5_setSecond 46 = .ok (.sipush 870, 3) := by decide +kernel
theorem dX5_setSecond_49 : decode cX5_setSecond 49 = .ok (.iaload, 1) := by decide +kernel
theorem dX5_setSecond_50 : decode cX5_setSecond 50 = .ok (.istore_n 2, 1) := by decide +kernel
theorem dX5_setSecond_51 : decode cX5_setSecond 51 = .ok (.iload_n 2, 1) := by decide +kernel
theorem dX5_setSecond_52 : decode cX5_setSecond 52 = .ok (.iload_n 1, 1) := by decide +kernel
theorem dX5_setSecond_53 : decode cX5_setSecond 53 = .ok (.if_icmp .ne 6, 3) := by decide +kernel
theorem dX5_setSecond_56 : decode cX5_setSecond 56 = .ok (.bipush (-5), 2) := by decide +kernel
theorem dX5_setSecond_58 : decode cX5_setSecond 58 = .ok (.ireturn, 1) := by decide +kernel
theorem dX5_setSecond_59 : decode cX5_setSecond 59 = .ok (.aload_n 0, 1) := by decide +kernel
theorem dX5_setSecond_60 : decode cX5_setSecond 60 = .ok (.invokevirtual 65, 3) := by decide +kernel
theorem dX5_setSecond_63 : decode cX5_setSecond 63 = .ok (.aload_n 0, 1) := by decide +kernel
theorem dX5_setSecond_64 : decode cX5_setSecond 64 = .ok (.getfield 7, 3) := by decide +kernel
theorem dX5_setSecond_67 : decode cX5_setSecond 67 = .ok (.sipush 870, 3) := by decide +kernel
theorem dX5_setSecond_70 : decode cX5_setSecond 70 = .ok (.iload_n 1, 1) := by decide +kernel
theorem dX5_setSecond_71 : decode cX5_setSecond 71 = .ok (.iastore, 1) := by decide +kernel
theorem dX5_setSecond_72 : decode cX5_setSecond 72 = .ok (.iload_n 2, 1) := by decide +kernel
theorem dX5_setSecond_73 : decode cX5_setSecond 73 = .ok (.ireturn, 1) := by decide +kernel
set_option maxRecDepth 20000 in
theorem ggX5_prepare_X5_noProposer : GoodIn wsX5_prepare wsX5_noProposer := goodIn_r _ [5, 6, 7, 4, 8] (by decide +kernel) (by decide +kernel)
set_option maxRecDepth 20000 in
theorem gX5_prepare_X5_noProposer : GoodIn wsX5_prepare (va_wsS RX5 71 yX5_noProposer wsX5_noProposer) := goodIn_app (goodIn_of _ (by decide +kernel)) ggX5_prepare_X5_noProposer
set_option maxRecDepth 20000 in
theorem ggX5_prepare_X5_record : GoodIn wsX5_prepare wsX5_record := goodIn_r _ [12, 13, 14, 15, 1, 22, 23, 24, 25, 26, 27, 28, 29, 30, 31, 32, 33, 34, 35, 36] (by decide +kernel) (by decide +kernel)
set_option maxRecDepth 20000 in
theorem gX5_prepare_X5_record : GoodIn wsX5_prepare (wsV RX5 65 RX5 yX5_record wsX5_record) := goodIn_app (goodIn_of _ (by decide +kernel)) ggX5_prepare_X5_record
set_option maxRecDepth 20000 in
theorem ggX5_prepare_X5_proposedAt : GoodIn wsX5_prepare wsX5_proposedAt := goodIn_r _ [18] (by decide +kernel) (by decide +kernel)
set_option maxRecDepth 20000 in
theorem gX5_prepare_X5_proposedAt : GoodIn wsX5_prepare (va_wsS RX5 74 yX5_proposedAt wsX5_proposedAt) := goodIn_app (goodIn_of _ (by decide +kernel)) ggX5_prepare_X5_proposedAt
set_option maxRecDepth 20000 in
theorem ggX5_prepare_X5_toldAt : GoodIn wsX5_prepare wsX5_toldAt := goodIn_r _ [21] (by decide +kernel) (by decide +kernel)
set_option maxRecDepth 20000 in
theorem gX5_prepare_X5_toldAt : GoodIn wsX5_prepare (va_wsS RX5 78 yX5_toldAt wsX5_toldAt) := goodIn_app (goodIn_of _ (by decide +kernel)) ggX5_prepare_X5_toldAt
theorem dX5_prepare_0 : decode cX5_prepare 0 = .ok (.iload_n 1, 1) := by decide +kernel
theorem dX5_prepare_1 : decode cX5_prepare 1 = .ok (.invokestatic 71, 3) := by decide +kernel
theorem dX5_prepare_4 : decode cX5_prepare 4 = .ok (.ifCond .eq 5, 3) := by decide +kernel
theorem dX5_prepare_7 : decode cX5_prepare 7 = .ok (.iconst (-1), 1) := by decide +kernel
theorem dX5_prepare_8 : decode cX5_prepare 8 = .ok (.ireturn, 1) := by decide +kernel
theorem dX5_prepare_9 : decode cX5_prepare 9 = .ok (.aload_n 0, 1) := by decide +kernel
theorem dX5_prepare_10 : decode cX5_prepare 10 = .ok (.getfield 7, 3) := by decide +kernel
theorem dX5_prepare_13 : decode cX5_prepare 13 = .ok (.sipush 204, 3) := by decide +kernel
theorem dX5_prepare_16 : decode cX5_prepare 16 = .ok (.iload_n 1, 1) := by decide +kernel
theorem dX5_prepare_17 : decode cX5_prepare 17 = .ok (.iadd, 1) := by decide +kernel
theorem dX5_prepare_18 : decode cX5_prepare 18 = .ok (.iaload, 1) := by decide +kernel
theorem dX5_prepare_19 : decode cX5_prepare 19 = .ok (.aload_n 0, 1) := by decide +kernel
theorem dX5_prepare_20 : decode cX5_prepare 20 = .ok (.getfield 7, 3) := by decide +kernel
theorem dX5_prepare_23 : decode cX5_prepare 23 = .ok (.sipush 207, 3) := by decide +kernel
theorem dX5_prepare_26 : decode cX5_prepare 26 = .ok (.iload_n 1, 1) := by decide +kernel
theorem dX5_prepare_27 : decode cX5_prepare 27 = .ok (.iadd, 1) := by decide +kernel
theorem dX5_prepare_28 : decode cX5_prepare 28 = .ok (.iaload, 1) := by decide +kernel
theorem dX5_prepare_29 : decode cX5_prepare 29 = .ok (.if_icmp .le 16, 3) := by decide +kernel
theorem dX5_prepare_32 : decode cX5_prepare 32 = .ok (.aload_n 0, 1) := by decide +kernel
theorem dX5_prepare_33 : decode cX5_prepare 33 = .ok (.getfield 7, 3) := by decide +kernel
theorem dX5_prepare_36 : decode cX5_prepare 36 = .ok (.sipush 204, 3) := by decide +kernel
theorem dX5_prepare_39 : decode cX5_prepare 39 = .ok (.iload_n 1, 1) := by decide +kernel
theorem dX5_prepare_40 : decode cX5_prepare 40 = .ok (.iadd, 1) := by decide +kernel
theorem dX5_prepare_41 : decode cX5_prepare 41 = .ok (.iaload, 1) := by decide +kernel
theorem dX5_prepare_42 : decode cX5_prepare 42 = .ok (.goto 13, 3) := by decide +kernel
theorem dX5_prepare_45 : decode cX5_prepare 45 = .ok (.aload_n 0, 1) := by decide +kernel
theorem dX5_prepare_46 : decode cX5_prepare 46 = .ok (.getfield 7, 3) := by decide +kernel
theorem dX5_prepare_49 : decode cX5_prepare 49 = .ok (.sipush 207, 3) := by decide +kernel
theorem dX5_prepare_52 : decode cX5_prepare 52 = .ok (.iload_n 1, 1) := by decide +kernel
theorem dX5_prepare_53 : decode cX5_prepare 53 = .ok (.iadd, 1) := by decide +kernel
theorem dX5_prepare_54 : decode cX5_prepare 54 = .ok (.iaload, 1) := by decide +kernel
theorem dX5_prepare_55 : decode cX5_prepare 55 = .ok (.istore_n 2, 1) := by decide +kernel
theorem dX5_prepare_56 : decode cX5_prepare 56 = .ok (.iload_n 1, 1) := by decide +kernel
theorem dX5_prepare_57 : decode cX5_prepare 57 = .ok (.iconst 1, 1) := by decide +kernel
theorem dX5_prepare_58 : decode cX5_prepare 58 = .ok (.iadd, 1) := by decide +kernel
theorem dX5_prepare_59 : decode cX5_prepare 59 = .ok (.istore_n 3, 1) := by decide +kernel
theorem dX5_prepare_60 : decode cX5_prepare 60 = .ok (.iload_n 3, 1) := by decide +kernel
theorem dX5_prepare_61 : decode cX5_prepare 61 = .ok (.iload_n 2, 1) := by decide +kernel
theorem dX5_prepare_62 : decode cX5_prepare 62 = .ok (.if_icmp .gt 9, 3) := by decide +kernel
theorem dX5_prepare_65 : decode cX5_prepare 65 = .ok (.iinc 3 3, 3) := by decide +kernel
theorem dX5_prepare_68 : decode cX5_prepare 68 = .ok (.goto (-8), 3) := by decide +kernel
theorem dX5_prepare_71 : decode cX5_prepare 71 = .ok (.iload_n 3, 1) := by decide +kernel
theorem dX5_prepare_72 : decode cX5_prepare 72 = .ok (.sipush 999, 3) := by decide +kernel
theorem dX5_prepare_75 : decode cX5_prepare 75 = .ok (.if_icmp .le 6, 3) := by decide +kernel
theorem dX5_prepare_78 : decode cX5_prepare 78 = .ok (.bipush (-3), 2) := by decide +kernel
theorem dX5_prepare_80 : decode cX5_prepare 80 = .ok (.ireturn, 1) := by decide +kernel
theorem dX5_prepare_81 : decode cX5_prepare 81 = .ok (.aload_n 0, 1) := by decide +kernel
theorem dX5_prepare_82 : decode cX5_prepare 82 = .ok (.invokevirtual 65, 3) := by decide +kernel
theorem dX5_prepare_85 : decode cX5_prepare 85 = .ok (.aload_n 0, 1) := by decide +kernel
theorem dX5_prepare_86 : decode cX5_prepare 86 = .ok (.getfield 7, 3) := by decide +kernel
theorem dX5_prepare_89 : decode cX5_prepare 89 = .ok (.sipush 204, 3) := by decide +kernel
theorem dX5_prepare_92 : decode cX5_prepare 92 = .ok (.iload_n 1, 1) := by decide +kernel
theorem dX5_prepare_93 : decode cX5_prepare 93 = .ok (.iadd, 1) := by decide +kernel
theorem dX5_prepare_94 : decode cX5_prepare 94 = .ok (.iload_n 3, 1) := by decide +kernel
theorem dX5_prepare_95 : decode cX5_prepare 95 = .ok (.iastore, 1) := by decide +kernel
theorem dX5_prepare_96 : decode cX5_prepare 96 = .ok (.aload_n 0, 1) := by decide +kernel
theorem dX5_prepare_97 : decode cX5_prepare 97 = .ok (.getfield 7, 3) := by decide +kernel
theorem dX5_prepare_100 : decode cX5_prepare 100 = .ok (.sipush 210, 3) := by decide +kernel
theorem dX5_prepare_103 : decode cX5_prepare 103 = .ok (.iload_n 1, 1) := by decide +kernel
theorem dX5_prepare_104 : decode cX5_prepare 104 = .ok (.iadd, 1) := by decide +kernel
theorem dX5_prepare_105 : decode cX5_prepare 105 = .ok (.iconst 0, 1) := by decide +kernel
theorem dX5_prepare_106 : decode cX5_prepare 106 = .ok (.iastore, 1) := by decide +kernel
theorem dX5_prepare_107 : decode cX5_prepare 107 = .ok (.iconst 1, 1) := by decide +kernel
theorem dX5_prepare_108 : decode cX5_prepare 108 = .ok (.istore 4, 2) := by decide +kernel
theorem dX5_prepare_110 : decode cX5_prepare 110 = .ok (.iload 4, 2) := by decide +kernel
theorem dX5_prepare_112 : decode cX5_prepare 112 = .ok (.bipush 16, 2) := by decide +kernel
theorem dX5_prepare_114 : decode cX5_prepare 114 = .ok (.if_icmp .gt 67, 3) := by decide +kernel
theorem dX5_prepare_117 : decode cX5_prepare 117 = .ok (.aload_n 0, 1) := by decide +kernel
theorem dX5_prepare_118 : decode cX5_prepare 118 = .ok (.getfield 7, 3) := by decide +kernel
theorem dX5_prepare_121 : decode cX5_prepare 121 = .ok (.iload_n 1, 1) := by decide +kernel
theorem dX5_prepare_122 : decode cX5_prepare 122 = .ok (.iload 4, 2) := by decide +kernel
theorem dX5_prepare_124 : decode cX5_prepare 124 = .ok (.invokestatic 74, 3) := by decide +kernel
theorem dX5_prepare_127 : decode cX5_prepare 127 = .ok (.iconst 0, 1) := by decide +kernel
theorem dX5_prepare_128 : decode cX5_prepare 128 = .ok (.iastore, 1) := by decide +kernel
theorem dX5_prepare_129 : decode cX5_prepare 129 = .ok (.iconst 0, 1) := by decide +kernel
theorem dX5_prepare_130 : decode cX5_prepare 130 = .ok (.istore 5, 2) := by decide +kernel
theorem dX5_prepare_132 : decode cX5_prepare 132 = .ok (.iload 5, 2) := by decide +kernel
theorem dX5_prepare_134 : decode cX5_prepare 134 = .ok (.bipush 6, 2) := by decide +kernel
theorem dX5_prepare_136 : decode cX5_prepare 136 = .ok (.if_icmp .ge 39, 3) := by decide +kernel
theorem dX5_prepare_139 : decode cX5_prepare 139 = .ok (.aload_n 0, 1) := by decide +kernel
theorem dX5_prepare_140 : decode cX5_prepare 140 = .ok (.getfield 7, 3) := by decide +kernel
theorem dX5_prepare_143 : decode cX5_prepare 143 = .ok (.iload_n 1, 1) := by decide +kernel
theorem dX5_prepare_144 : decode cX5_prepare 144 = .ok (.iload 5, 2) := by decide +kernel
theorem dX5_prepare_146 : decode cX5_prepare 146 = .ok (.iload 4, 2) := by decide +kernel
theorem dX5_prepare_148 : decode cX5_prepare 148 = .ok (.invokestatic 78, 3) := by decide +kernel
theorem dX5_prepare_151 : decode cX5_prepare 151 = .ok (.iconst 0, 1) := by decide +kernel
theorem dX5_prepare_152 : decode cX5_prepare 152 = .ok (.iastore, 1) := by decide +kernel
theorem dX5_prepare_153 : decode cX5_prepare 153 = .ok (.aload_n 0, 1) := by decide +kernel
theorem dX5_prepare_154 : decode cX5_prepare 154 = .ok (.getfield 7, 3) := by decide +kernel
theorem dX5_prepare_157 : decode cX5_prepare 157 = .ok (.iload_n 1, 1) := by decide +kernel
theorem dX5_prepare_158 : decode cX5_prepare 158 = .ok (.iload 5, 2) := by decide +kernel
theorem dX5_prepare_160 : decode cX5_prepare 160 = .ok (.iload 4, 2) := by decide +kernel
theorem dX5_prepare_162 : decode cX5_prepare 162 = .ok (.invokestatic 78, 3) := by decide +kernel
theorem dX5_prepare_165 : decode cX5_prepare 165 = .ok (.iconst 1, 1) := by decide +kernel
theorem dX5_prepare_166 : decode cX5_prepare 166 = .ok (.iadd, 1) := by decide +kernel
theorem dX5_prepare_167 : decode cX5_prepare 167 = .ok (.iconst 0, 1) := by decide +kernel
theorem dX5_prepare_168 : decode cX5_prepare 168 = .ok (.iastore, 1) := by decide +kernel
theorem dX5_prepare_169 : decode cX5_prepare 169 = .ok (.iinc 5 1, 3) := by decide +kernel
theorem dX5_prepare_172 : decode cX5_prepare 172 = .ok (.goto (-40), 3) := by decide +kernel
theorem dX5_prepare_175 : decode cX5_prepare 175 = .ok (.iinc 4 1, 3) := by decide +kernel
theorem dX5_prepare_178 : decode cX5_prepare 178 = .ok (.goto (-68), 3) := by decide +kernel
theorem dX5_prepare_181 : decode cX5_prepare 181 = .ok (.iload_n 3, 1) := by decide +kernel
theorem dX5_prepare_182 : decode cX5_prepare 182 = .ok (.ireturn, 1) := by decide +kernel
theorem dX5_refuses_0 : decode cX5_refuses 0 = .ok (.aload_n 0, 1) := by decide +kernel
theorem dX5_refuses_1 : decode cX5_refuses 1 = .ok (.getfield 7, 3) := by decide +kernel
theorem dX5_refuses_4 : decode cX5_refuses 4 = .ok (.bipush 6, 2) := by decide +kernel
theorem dX5_refuses_6 : decode cX5_refuses 6 = .ok (.iload_n 2, 1) := by decide +kernel
theorem dX5_refuses_7 : decode cX5_refuses 7 = .ok (.iadd, 1) := by decide +kernel
theorem dX5_refuses_8 : decode cX5_refuses 8 = .ok (.iaload, 1) := by decide +kernel
theorem dX5_refuses_9 : decode cX5_refuses 9 = .ok (.istore 4, 2) := by decide +kernel
theorem dX5_refuses_11 : decode cX5_refuses 11 = .ok (.aload_n 0, 1) := by decide +kernel
theorem dX5_refuses_12 : decode cX5_refuses 12 = .ok (.getfield 7, 3) := by decide +kernel
theorem dX5_refuses_15 : decode cX5_refuses 15 = .ok (.sipush 207, 3) := by decide +kernel
theorem dX5_refuses_18 : decode cX5_refuses 18 = .ok (.iload_n 1, 1) := by decide +kernel
theorem dX5_refuses_19 : decode cX5_refuses 19 = .ok (.iadd, 1) := by decide +kernel
theorem dX5_refuses_20 : decode cX5_refuses 20 = .ok (.iload 4, 2) := by decide +kernel
theorem dX5_refuses_22 : decode cX5_refuses 22 = .ok (.aload_n 0, 1) := by decide +kernel
theorem dX5_refuses_23 : decode cX5_refuses 23 = .ok (.getfield 7, 3) := by decide +kernel
theorem dX5_refuses_26 : decode cX5_refuses 26 = .ok (.sipush 207, 3) := by decide +kernel
theorem dX5_refuses_29 : decode cX5_refuses 29 = .ok (.iload_n 1, 1) := by decide +kernel
theorem dX5_refuses_30 : decode cX5_refuses 30 = .ok (.iadd, 1) := by decide +kernel
theorem dX5_refuses_31 : decode cX5_refuses 31 = .ok (.iaload, 1) := by decide +kernel
theorem dX5_refuses_32 : decode cX5_refuses 32 = .ok (.if_icmp .le 8, 3) := by decide +kernel
theorem dX5_refuses_35 : decode cX5_refuses 35 = .ok (.iload 4, 2) := by decide +kernel
theorem dX5_refuses_37 : decode cX5_refuses 37 = .ok (.goto 13, 3) := by decide +kernel
theorem dX5_refuses_40 : decode cX5_refuses 40 = .ok (.aload_n 0, 1) := by decide +kernel
theorem dX5_refuses_41 : decode cX5_refuses 41 = .ok (.getfield 7, 3) := by decide +kernel
theorem dX5_refuses_44 : decode cX5_refuses 44 = .ok (.sipush 207, 3) := by decide +kernel
theorem dX5_refuses_47 : decode cX5_refuses 47 = .ok (.iload_n 1, 1) := by decide +kernel
theorem dX5_refuses_48 : decode cX5_refuses 48 = .ok (.iadd, 1) := by decide +kernel
theorem dX5_refuses_49 : decode cX5_refuses 49 = .ok (.iaload, 1) := by decide +kernel
theorem dX5_refuses_50 : decode cX5_refuses 50 = .ok (.iastore, 1) := by decide +kernel
theorem dX5_refuses_51 : decode cX5_refuses 51 = .ok (.aload_n 0, 1) := by decide +kernel
theorem dX5_refuses_52 : decode cX5_refuses 52 = .ok (.getfield 7, 3) := by decide +kernel
theorem dX5_refuses_55 : decode cX5_refuses 55 = .ok (.iload_n 3, 1) := by decide +kernel
theorem dX5_refuses_56 : decode cX5_refuses 56 = .ok (.dup2, 1) := by decide +kernel
theorem dX5_refuses_57 : decode cX5_refuses 57 = .ok (.iaload, 1) := by decide +kernel
theorem dX5_refuses_58 : decode cX5_refuses 58 = .ok (.iconst 1, 1) := by decide +kernel
theorem dX5_refuses_59 : decode cX5_refuses 59 = .ok (.iadd, 1) := by decide +kernel
theorem dX5_refuses_60 : decode cX5_refuses 60 = .ok (.iastore, 1) := by decide +kernel
theorem dX5_refuses_61 : decode cX5_refuses 61 = .ok (.bipush 100, 2) := by decide +kernel
theorem dX5_refuses_63 : decode cX5_refuses 63 = .ok (.iload 4, 2) := by decide +kernel
theorem dX5_refuses_65 : decode cX5_refuses 65 = .ok (.iadd, 1) := by decide +kernel
theorem dX5_refuses_66 : decode cX5_refuses 66 = .ok (.ireturn, 1) := by decide +kernel
set_option maxRecDepth 20000 in
theorem ggX5_promise_X5_noProposer : GoodIn wsX5_promise wsX5_noProposer := goodIn_r _ [5, 6, 7, 4, 8] (by decide +kernel) (by decide +kernel)
set_option maxRecDepth 20000 in
theorem gX5_promise_X5_noProposer : GoodIn wsX5_promise (va_wsS RX5 71 yX5_noProposer wsX5_noProposer) := goodIn_app (goodIn_of _ (by decide +kernel)) ggX5_promise_X5_noProposer
set_option maxRecDepth 20000 in
theorem ggX5_promise_X5_noAcceptor : GoodIn wsX5_promise wsX5_noAcceptor := goodIn_r _ [11, 6, 7, 4, 8] (by decide +kernel) (by decide +kernel)
set_option maxRecDepth 20000 in
theorem gX5_promise_X5_noAcceptor : GoodIn wsX5_promise (va_wsS RX5 61 yX5_noAcceptor wsX5_noAcceptor) := goodIn_app (goodIn_of _ (by decide +kernel)) ggX5_promise_X5_noAcceptor
set_option maxRecDepth 20000 in
theorem ggX5_promise_X5_isIn : GoodIn wsX5_promise wsX5_isIn := goodIn_r _ [14] (by decide +kernel) (by decide +kernel)
set_option maxRecDepth 20000 in
theorem gX5_promise_X5_isIn : GoodIn wsX5_promise (va_wsS RX5 82 yX5_isIn wsX5_isIn) := goodIn_app (goodIn_of _ (by decide +kernel)) ggX5_promise_X5_isIn
set_option maxRecDepth 20000 in
theorem ggX5_promise_X5_record : GoodIn wsX5_promise wsX5_record := goodIn_r _ [18, 19, 20, 21, 1, 32, 33, 34, 35, 36, 37, 38, 39, 40, 41, 42, 43, 44, 45, 46] (by decide +kernel) (by decide +kernel)
set_option maxRecDepth 20000 in
theorem gX5_promise_X5_record : GoodIn wsX5_promise (wsV RX5 65 RX5 yX5_record wsX5_record) := goodIn_app (goodIn_of _ (by decide +kernel)) ggX5_promise_X5_record
set_option maxRecDepth 20000 in
theorem ggX5_promise_X5_refuses : GoodIn wsX5_promise wsX5_refuses := goodIn_r _ [25, 1, 32, 33, 34, 35, 36, 37, 38, 39, 40, 41, 42, 43, 44, 45, 46] (by decide +kernel) (by decide +kernel)
set_option maxRecDepth 20000 in
theorem gX5_promise_X5_refuses : GoodIn wsX5_promise (wsV RX5 86 RX5 yX5_refuses wsX5_refuses) := goodIn_app (goodIn_of _ (by decide +kernel)) ggX5_promise_X5_refuses
set_option maxRecDepth 20000 in
theorem ggX5_promise_X5_voteAt : GoodIn wsX5_promise wsX5_voteAt := goodIn_r _ [28] (by decide +kernel) (by decide +kernel)
set_option maxRecDepth 20000 in
theorem gX5_promise_X5_voteAt : GoodIn wsX5_promise (va_wsS RX5 89 yX5_voteAt wsX5_voteAt) := goodIn_app (goodIn_of _ (by decide +kernel)) ggX5_promise_X5_voteAt
set_option maxRecDepth 20000 in
theorem ggX5_promise_X5_toldAt : GoodIn wsX5_promise wsX5_toldAt := goodIn_r _ [31] (by decide +kernel) (by decide +kernel)
set_option maxRecDepth 20000 in
theorem gX5_promise_X5_toldAt : GoodIn wsX5_promise (va_wsS RX5 78 yX5_toldAt wsX5_toldAt) := goodIn_app (goodIn_of _ (by decide +kernel)) ggX5_promise_X5_toldAt
theorem dX5_promise_0 : decode cX5_promise 0 = .ok (.iload_n 1, 1) := by decide +kernel
theorem dX5_promise_1 : decode cX5_promise 1 = .ok (.invokestatic 71, 3) := by decide +kernel
theorem dX5_promise_4 : decode cX5_promise 4 = .ok (.ifCond .ne 10, 3) := by decide +kernel
theorem dX5_promise_7 : decode cX5_promise 7 = .ok (.iload_n 2, 1) := by decide +kernel
theorem dX5_promise_8 : decode cX5_promise 8 = .ok (.invokestatic 61, 3) := by decide +kernel
theorem dX5_promise_11 : decode cX5_promise 11 = .ok (.ifCond .eq 5, 3) := by decide +kernel
theorem dX5_promise_14 : decode cX5_promise 14 = .ok (.iconst (-1), 1) := by decide +kernel
theorem dX5_promise_15 : decode cX5_promise 15 = .ok (.ireturn, 1) := by decide +kernel
theorem dX5_promise_16 : decode cX5_promise 16 = .ok (.aload_n 0, 1) := by decide +kernel
theorem dX5_promise_17 : decode cX5_promise 17 = .ok (.getfield 7, 3) := by decide +kernel
theorem dX5_promise_20 : decode cX5_promise 20 = .ok (.sipush 204, 3) := by decide +kernel
theorem dX5_promise_23 : decode cX5_promise 23 = .ok (.iload_n 1, 1) := by decide +kernel
theorem dX5_promise_24 : decode cX5_promise 24 = .ok (.iadd, 1) := by decide +kernel
theorem dX5_promise_25 : decode cX5_promise 25 = .ok (.iaload, 1) := by decide +kernel
theorem dX5_promise_26 : decode cX5_promise 26 = .ok (.istore_n 3, 1) := by decide +kernel
theorem dX5_promise_27 : decode cX5_promise 27 = .ok (.iload_n 3, 1) := by decide +kernel
theorem dX5_promise_28 : decode cX5_promise 28 = .ok (.ifCond .eq 14, 3) := by decide +kernel
theorem dX5_promise_31 : decode cX5_promise 31 = .ok (.aload_n 0, 1) := by decide +kernel
theorem dX5_promise_32 : decode cX5_promise 32 = .ok (.getfield 7, 3) := by decide +kernel
theorem dX5_promise_35 : decode cX5_promise 35 = .ok (.iconst 0, 1) := by decide +kernel
theorem dX5_promise_36 : decode cX5_promise 36 = .ok (.iload_n 2, 1) := by decide +kernel
theorem dX5_promise_37 : decode cX5_promise 37 = .ok (.iadd, 1) := by decide +kernel
theorem dX5_promise_38 : decode cX5_promise 38 = .ok (.iaload, 1) := by decide +kernel
theorem dX5_promise_39 : decode cX5_promise 39 = .ok (.ifCond .ne 6, 3) := by decide +kernel
theorem dX5_promise_42 : decode cX5_promise 42 = .ok (.bipush (-4), 2) := by decide +kernel
theorem dX5_promise_44 : decode cX5_promise 44 = .ok (.ireturn, 1) := by decide +kernel
theorem dX5_promise_45 : decode cX5_promise 45 = .ok (.aload_n 0, 1) := by decide +kernel
theorem dX5_promise_46 : decode cX5_promise 46 = .ok (.getfield 7, 3) := by decide +kernel
theorem dX5_promise_49 : decode cX5_promise 49 = .ok (.sipush 210, 3) := by decide +kernel
theorem dX5_promise_52 : decode cX5_promise 52 = .ok (.iload_n 1, 1) := by decide +kernel
theorem dX5_promise_53 : decode cX5_promise 53 = .ok (.iadd, 1) := by decide +kernel
theorem dX5_promise_54 : decode cX5_promise 54 = .ok (.iaload, 1) := by decide +kernel
theorem dX5_promise_55 : decode cX5_promise 55 = .ok (.iload_n 2, 1) := by decide +kernel
theorem dX5_promise_56 : decode cX5_promise 56 = .ok (.invokestatic 82, 3) := by decide +kernel
theorem dX5_promise_59 : decode cX5_promise 59 = .ok (.ifCond .eq 6, 3) := by decide +kernel
theorem dX5_promise_62 : decode cX5_promise 62 = .ok (.bipush (-5), 2) := by decide +kernel
theorem dX5_promise_64 : decode cX5_promise 64 = .ok (.ireturn, 1) := by decide +kernel
theorem dX5_promise_65 : decode cX5_promise 65 = .ok (.aload_n 0, 1) := by decide +kernel
theorem dX5_promise_66 : decode cX5_promise 66 = .ok (.invokevirtual 65, 3) := by decide +kernel
theorem dX5_promise_69 : decode cX5_promise 69 = .ok (.iload_n 3, 1) := by decide +kernel
theorem dX5_promise_70 : decode cX5_promise 70 = .ok (.aload_n 0, 1) := by decide +kernel
theorem dX5_promise_71 : decode cX5_promise 71 = .ok (.getfield 7, 3) := by decide +kernel
theorem dX5_promise_74 : decode cX5_promise 74 = .ok (.bipush 6, 2) := by decide +kernel
theorem dX5_promise_76 : decode cX5_promise 76 = .ok (.iload_n 2, 1) := by decide +kernel
theorem dX5_promise_77 : decode cX5_promise 77 = .ok (.iadd, 1) := by decide +kernel
theorem dX5_promise_78 : decode cX5_promise 78 = .ok (.iaload, 1) := by decide +kernel
theorem dX5_promise_79 : decode cX5_promise 79 = .ok (.if_icmp .gt 13, 3) := by decide +kernel
theorem dX5_promise_82 : decode cX5_promise 82 = .ok (.aload_n 0, 1) := by decide +kernel
theorem dX5_promise_83 : decode cX5_promise 83 = .ok (.iload_n 1, 1) := by decide +kernel
theorem dX5_promise_84 : decode cX5_promise 84 = .ok (.iload_n 2, 1) := by decide +kernel
theorem dX5_promise_85 : decode cX5_promise 85 = .ok (.sipush 871, 3) := by decide +kernel
theorem dX5_promise_88 : decode cX5_promise 88 = .ok (.invokevirtual 86, 3) := by decide +kernel
theorem dX5_promise_91 : decode cX5_promise 91 = .ok (.ireturn, 1) := by decide +kernel
theorem dX5_promise_92 : decode cX5_promise 92 = .ok (.aload_n 0, 1) := by decide +kernel
theorem dX5_promise_93 : decode cX5_promise 93 = .ok (.getfield 7, 3) := by decide +kernel
theorem dX5_promise_96 : decode cX5_promise 96 = .ok (.bipush 6, 2) := by decide +kernel
theorem dX5_promise_98 : decode cX5_promise 98 = .ok (.iload_n 2, 1) := by decide +kernel
theorem dX5_promise_99 : decode cX5_promise 99 = .ok (.iadd, 1) := by decide +kernel
theorem dX5_promise_100 : decode cX5_promise 100 = .ok (.iload_n 3, 1) := by decide +kernel
theorem dX5_promise_101 : decode cX5_promise 101 = .ok (.iastore, 1) := by decide +kernel
theorem dX5_promise_102 : decode cX5_promise 102 = .ok (.aload_n 0, 1) := by decide +kernel
theorem dX5_promise_103 : decode cX5_promise 103 = .ok (.getfield 7, 3) := by decide +kernel
theorem dX5_promise_106 : decode cX5_promise 106 = .ok (.sipush 210, 3) := by decide +kernel
theorem dX5_promise_109 : decode cX5_promise 109 = .ok (.iload_n 1, 1) := by decide +kernel
theorem dX5_promise_110 : decode cX5_promise 110 = .ok (.iadd, 1) := by decide +kernel
theorem dX5_promise_111 : decode cX5_promise 111 = .ok (.dup2, 1) := by decide +kernel
theorem dX5_promise_112 : decode cX5_promise 112 = .ok (.iaload, 1) := by decide +kernel
theorem dX5_promise_113 : decode cX5_promise 113 = .ok (.iconst 1, 1) := by decide +kernel
theorem dX5_promise_114 : decode cX5_promise 114 = .ok (.iload_n 2, 1) := by decide +kernel
theorem dX5_promise_115 : decode cX5_promise 115 = .ok (.ishl, 1) := by decide +kernel
theorem dX5_promise_116 : decode cX5_promise 116 = .ok (.ior, 1) := by decide +kernel
theorem dX5_promise_117 : decode cX5_promise 117 = .ok (.iastore, 1) := by decide +kernel
theorem dX5_promise_118 : decode cX5_promise 118 = .ok (.iconst 0, 1) := by decide +kernel
theorem dX5_promise_119 : decode cX5_promise 119 = .ok (.istore 4, 2) := by decide +kernel
theorem dX5_promise_121 : decode cX5_promise 121 = .ok (.iconst 1, 1) := by decide +kernel
theorem dX5_promise_122 : decode cX5_promise 122 = .ok (.istore 5, 2) := by decide +kernel
theorem dX5_promise_124 : decode cX5_promise 124 = .ok (.iload 5, 2) := by decide +kernel
theorem dX5_promise_126 : decode cX5_promise 126 = .ok (.bipush 16, 2) := by decide +kernel
theorem dX5_promise_128 : decode cX5_promise 128 = .ok (.if_icmp .gt 78, 3) := by decide +kernel
theorem dX5_promise_131 : decode cX5_promise 131 = .ok (.iload_n 2, 1) := by decide +kernel
theorem dX5_promise_132 : decode cX5_promise 132 = .ok (.iload 5, 2) := by decide +kernel
theorem dX5_promise_134 : decode cX5_promise 134 = .ok (.invokestatic 89, 3) := by decide +kernel
theorem dX5_promise_137 : decode cX5_promise 137 = .ok (.istore 6, 2) := by decide +kernel
theorem dX5_promise_139 : decode cX5_promise 139 = .ok (.iload_n 1, 1) := by decide +kernel
theorem dX5_promise_140 : decode cX5_promise 140 = .ok (.iload_n 2, 1) := by decide +kernel
theorem dX5_promise_141 : decode cX5_promise 141 = .ok (.iload 5, 2) := by decide +kernel
theorem dX5_promise_143 : decode cX5_promise 143 = .ok (.invokestatic 78, 3) := by decide +kernel
theorem dX5_promise_146 : decode cX5_promise 146 = .ok (.istore 7, 2) := by decide +kernel
theorem dX5_promise_148 : decode cX5_promise 148 = .ok (.aload_n 0, 1) := by decide +kernel
theorem dX5_promise_149 : decode cX5_promise 149 = .ok (.getfield 7, 3) := by decide +kernel
theorem dX5_promise_152 : decode cX5_promise 152 = .ok (.iload 7, 2) := by decide +kernel
theorem dX5_promise_154 : decode cX5_promise 154 = .ok (.aload_n 0, 1) := by decide +kernel
theorem dX5_promise_155 : decode cX5_promise 155 = .ok (.getfield 7, 3) := by decide +kernel
theorem dX5_promise_158 : decode cX5_promise 158 = .ok (.iload 6, 2) := by decide +kernel
theorem dX5_promise_160 : decode cX5_promise 160 = .ok (.iaload, 1) := by decide +kernel
theorem dX5_promise_161 : decode cX5_promise 161 = .ok (.iastore, 1) := by decide +kernel
theorem dX5_promise_162 : decode cX5_promise 162 = .ok (.aload_n 0, 1) := by decide +kernel
theorem dX5_promise_163 : decode cX5_promise 163 = .ok (.getfield 7, 3) := by decide +kernel
theorem dX5_promise_166 : decode cX5_promise 166 = .ok (.iload 7, 2) := by decide +kernel
theorem dX5_promise_168 : decode cX5_promise 168 = .ok (.iconst 1, 1) := by decide +kernel
theorem dX5_promise_169 : decode cX5_promise 169 = .ok (.iadd, 1) := by decide +kernel
theorem dX5_promise_170 : decode cX5_promise 170 = .ok (.aload_n 0, 1) := by decide +kernel
theorem dX5_promise_171 : decode cX5_promise 171 = .ok (.getfield 7, 3) := by decide +kernel
theorem dX5_promise_174 : decode cX5_promise 174 = .ok (.iload 6, 2) := by decide +kernel
theorem dX5_promise_176 : decode cX5_promise 176 = .ok (.iconst 1, 1) := by decide +kernel
theorem dX5_promise_177 : decode cX5_promise 177 = .ok (.iadd, 1) := by decide +kernel
theorem dX5_promise_178 : decode cX5_promise 178 = .ok (.iaload, 1) := by decide +kernel
theorem dX5_promise_179 : decode cX5_promise 179 = .ok (.iastore, 1) := by decide +kernel
theorem dX5_promise_180 : decode cX5_promise 180 = .ok (.iload 4, 2) := by decide +kernel
theorem dX5_promise_182 : decode cX5_promise 182 = .ok (.aload_n 0, 1) := by decide +kernel
theorem dX5_promise_183 : decode cX5_promise 183 = .ok (.getfield 7, 3) := by decide +kernel
theorem dX5_promise_186 : decode cX5_promise 186 = .ok (.iload 6, 2) := by decide +kernel
theorem dX5_promise_188 : decode cX5_promise 188 = .ok (.iaload, 1) := by decide +kernel
theorem dX5_promise_189 : decode cX5_promise 189 = .ok (.ifCond .le 7, 3) := by decide +kernel
theorem dX5_promise_192 : decode cX5_promise 192 = .ok (.iconst 1, 1) := by decide +kernel
theorem dX5_promise_193 : decode cX5_promise 193 = .ok (.goto 4, 3) := by decide +kernel
theorem dX5_promise_196 : decode cX5_promise 196 = .ok (.iconst 0, 1) := by decide +kernel
theorem dX5_promise_197 : decode cX5_promise 197 = .ok (.iadd, 1) := by decide +kernel
theorem dX5_promise_198 : decode cX5_promise 198 = .ok (.istore 4, 2) := by decide +kernel
theorem dX5_promise_200 : decode cX5_promise 200 = .ok (.iinc 5 1, 3) := by decide +kernel
theorem dX5_promise_203 : decode cX5_promise 203 = .ok (.goto (-79), 3) := by decide +kernel
theorem dX5_promise_206 : decode cX5_promise 206 = .ok (.iload 4, 2) := by decide +kernel
theorem dX5_promise_208 : decode cX5_promise 208 = .ok (.ireturn, 1) := by decide +kernel
set_option maxRecDepth 20000 in
theorem ggX5_bound_X5_voters : GoodIn wsX5_bound wsX5_voters := goodIn_r _ [6, 7, 8, 9, 5, 10, 1, 17, 18, 19, 20, 21, 22, 23, 24, 25, 26, 27, 28, 29, 30, 31] (by decide +kernel) (by decide +kernel)
set_option maxRecDepth 20000 in
theorem gX5_bound_X5_voters : GoodIn wsX5_bound (wsV RX5 52 RX5 yX5_voters wsX5_voters) := goodIn_app (goodIn_of _ (by decide +kernel)) ggX5_bound_X5_voters
set_option maxRecDepth 20000 in
theorem ggX5_bound_X5_toldAt : GoodIn wsX5_bound wsX5_toldAt := goodIn_r _ [13] (by decide +kernel) (by decide +kernel)
set_option maxRecDepth 20000 in
theorem gX5_bound_X5_toldAt : GoodIn wsX5_bound (va_wsS RX5 78 yX5_toldAt wsX5_toldAt) := goodIn_app (goodIn_of _ (by decide +kernel)) ggX5_bound_X5_toldAt
set_option maxRecDepth 20000 in
theorem ggX5_bound_X5_isIn : GoodIn wsX5_bound wsX5_isIn := goodIn_r _ [16] (by decide +kernel) (by decide +kernel)
set_option maxRecDepth 20000 in
theorem gX5_bound_X5_isIn : GoodIn wsX5_bound (va_wsS RX5 82 yX5_isIn wsX5_isIn) := goodIn_app (goodIn_of _ (by decide +kernel)) ggX5_bound_X5_isIn
theorem dX5_bound_0 : decode cX5_bound 0 = .ok (.aload_n 0, 1) := by decide +kernel
theorem dX5_bound_1 : decode cX5_bound 1 = .ok (.iload_n 2, 1) := by decide +kernel
theorem dX5_bound_2 : decode cX5_bound 2 = .ok (.invokevirtual 52, 3) := by decide +kernel
theorem dX5_bound_5 : decode cX5_bound 5 = .ok (.aload_n 0, 1) := by decide +kernel
theorem dX5_bound_6 : decode cX5_bound 6 = .ok (.getfield 7, 3) := by decide +kernel
theorem dX5_bound_9 : decode cX5_bound 9 = .ok (.sipush 210, 3) := by decide +kernel
theorem dX5_bound_12 : decode cX5_bound 12 = .ok (.iload_n 1, 1) := by decide +kernel
theorem dX5_bound_13 : decode cX5_bound 13 = .ok (.iadd, 1) := by decide +kernel
theorem dX5_bound_14 : decode cX5_bound 14 = .ok (.iaload, 1) := by decide +kernel
theorem dX5_bound_15 : decode cX5_bound 15 = .ok (.iand, 1) := by decide +kernel
theorem dX5_bound_16 : decode cX5_bound 16 = .ok (.istore_n 3, 1) := by decide +kernel
theorem dX5_bound_17 : decode cX5_bound 17 = .ok (.iconst 0, 1) := by decide +kernel
theorem dX5_bound_18 : decode cX5_bound 18 = .ok (.istore 4, 2) := by decide +kernel
theorem dX5_bound_20 : decode cX5_bound 20 = .ok (.iconst 0, 1) := by decide +kernel
theorem dX5_bound_21 : decode cX5_bound 21 = .ok (.istore 5, 2) := by decide +kernel
theorem dX5_bound_23 : decode cX5_bound 23 = .ok (.iconst 0, 1) := by decide +kernel
theorem dX5_bound_24 : decode cX5_bound 24 = .ok (.istore 6, 2) := by decide +kernel
theorem dX5_bound_26 : decode cX5_bound 26 = .ok (.iload 6, 2) := by decide +kernel
theorem dX5_bound_28 : decode cX5_bound 28 = .ok (.bipush 6, 2) := by decide +kernel
theorem dX5_bound_30 : decode cX5_bound 30 = .ok (.if_icmp .ge 59, 3) := by decide +kernel
theorem dX5_bound_33 : decode cX5_bound 33 = .ok (.iload_n 1, 1) := by decide +kernel
theorem dX5_bound_34 : decode cX5_bound 34 = .ok (.iload 6, 2) := by decide +kernel
theorem dX5_bound_36 : decode cX5_bound 36 = .ok (.iload_n 2, 1) := by decide +kernel
theorem dX5_bound_37 : decode cX5_bound 37 = .ok (.invokestatic 78, 3) := by decide +kernel
theorem dX5_bound_40 : decode cX5_bound 40 = .ok (.istore 7, 2) := by decide +kernel
theorem dX5_bound_42 : decode cX5_bound 42 = .ok (.iload_n 3, 1) := by decide +kernel
theorem dX5_bound_43 : decode cX5_bound 43 = .ok (.iload 6, 2) := by decide +kernel
theorem dX5_bound_45 : decode cX5_bound 45 = .ok (.invokestatic 82, 3) := by decide +kernel
theorem dX5_bound_48 : decode cX5_bound 48 = .ok (.ifCond .eq 35, 3) := by decide +kernel
theorem dX5_bound_51 : decode cX5_bound 51 = .ok (.aload_n 0, 1) := by decide +kernel
theorem dX5_bound_52 : decode cX5_bound 52 = .ok (.getfield 7, 3) := by decide +kernel
theorem dX5_bound_55 : decode cX5_bound 55 = .ok (.iload 7, 2) := by decide +kernel
theorem dX5_bound_57 : decode cX5_bound 57 = .ok (.iaload, 1) := by decide +kernel
theorem dX5_bound_58 : decode cX5_bound 58 = .ok (.iload 4, 2) := by decide +kernel
theorem dX5_bound_60 : decode cX5_bound 60 = .ok (.if_icmp .le 23, 3) := by decide +kernel
theorem dX5_bound_63 : decode cX5_bound 63 = .ok (.aload_n 0, 1) := by decide +kernel
theorem dX5_bound_64 : decode cX5_bound 64 = .ok (.getfield 7, 3) := by decide +kernel
theorem dX5_bound_67 : decode cX5_bound 67 = .ok (.iload 7, 2) := by decide +kernel
theorem dX5_bound_69 : decode cX5_bound 69 = .ok (.iaload, 1) := by decide +kernel
theorem dX5_bound_70 : decode cX5_bound 70 = .ok (.istore 4, 2) := by decide +kernel
theorem dX5_bound_72 : decode cX5_bound 72 = .ok (.aload_n 0, 1) := by decide +kernel
theorem dX5_bound_73 : decode cX5_bound 73 = .ok (.getfield 7, 3) := by decide +kernel
theorem dX5_bound_76 : decode cX5_bound 76 = .ok (.iload 7, 2) := by decide +kernel
theorem dX5_bound_78 : decode cX5_bound 78 = .ok (.iconst 1, 1) := by decide +kernel
theorem dX5_bound_79 : decode cX5_bound 79 = .ok (.iadd, 1) := by decide +kernel
theorem dX5_bound_80 : decode cX5_bound 80 = .ok (.iaload, 1) := by decide +kernel
theorem dX5_bound_81 : decode cX5_bound 81 = .ok (.istore 5, 2) := by decide +kernel
theorem dX5_bound_83 : decode cX5_bound 83 = .ok (.iinc 6 1, 3) := by decide +kernel
theorem dX5_bound_86 : decode cX5_bound 86 = .ok (.goto (-60), 3) := by decide +kernel
theorem dX5_bound_89 : decode cX5_bound 89 = .ok (.iload 5, 2) := by decide +kernel
theorem dX5_bound_91 : decode cX5_bound 91 = .ok (.ireturn, 1) := by decide +kernel
set_option maxRecDepth 20000 in
theorem ggX5_lacking_X5_firstSize : GoodIn wsX5_lacking wsX5_firstSize := goodIn_r _ [6, 7, 8, 9, 5, 10, 11, 12, 13, 14, 1, 15, 16, 17, 18, 19, 20, 21, 22, 23, 24, 25, 26, 27, 28, 29, 30, 31, 32, 33, 34, 35, 36] (by decide +kernel) (by decide +kernel)
set_option maxRecDepth 20000 in
theorem gX5_lacking_X5_firstSize : GoodIn wsX5_lacking (wsV RX5 92 RX5 yX5_firstSize wsX5_firstSize) := goodIn_app (goodIn_of _ (by decide +kernel)) ggX5_lacking_X5_firstSize
set_option maxRecDepth 20000 in
theorem ggX5_lacking_X5_voters : GoodIn wsX5_lacking wsX5_voters := goodIn_r _ [10, 11, 12, 13, 5, 14, 1, 22, 23, 24, 25, 26, 27, 28, 29, 30, 31, 32, 33, 34, 35, 36] (by decide +kernel) (by decide +kernel)
set_option maxRecDepth 20000 in
theorem gX5_lacking_X5_voters : GoodIn wsX5_lacking (wsV RX5 52 RX5 yX5_voters wsX5_voters) := goodIn_app (goodIn_of _ (by decide +kernel)) ggX5_lacking_X5_voters
set_option maxRecDepth 20000 in
theorem ggX5_lacking_X5_bits : GoodIn wsX5_lacking wsX5_bits := goodIn_r _ [17] (by decide +kernel) (by decide +kernel)
set_option maxRecDepth 20000 in
theorem gX5_lacking_X5_bits : GoodIn wsX5_lacking (va_wsS RX5 55 yX5_bits wsX5_bits) := goodIn_app (goodIn_of _ (by decide +kernel)) ggX5_lacking_X5_bits
theorem dX5_lacking_0 : decode cX5_lacking 0 = .ok (.aload_n 0, 1) := by decide +kernel
theorem dX5_lacking_1 : decode cX5_lacking 1 = .ok (.iload_n 2, 1) := by decide +kernel
theorem dX5_lacking_2 : decode cX5_lacking 2 = .ok (.invokevirtual 92, 3) := by decide +kernel
theorem dX5_lacking_5 : decode cX5_lacking 5 = .ok (.aload_n 0, 1) := by decide +kernel
theorem dX5_lacking_6 : decode cX5_lacking 6 = .ok (.iload_n 2, 1) := by decide +kernel
theorem dX5_lacking_7 : decode cX5_lacking 7 = .ok (.invokevirtual 52, 3) := by decide +kernel
theorem dX5_lacking_10 : decode cX5_lacking 10 = .ok (.aload_n 0, 1) := by decide +kernel
theorem dX5_lacking_11 : decode cX5_lacking 11 = .ok (.getfield 7, 3) := by decide +kernel
theorem dX5_lacking_14 : decode cX5_lacking 14 = .ok (.sipush 210, 3) := by decide +kernel
theorem dX5_lacking_17 : decode cX5_lacking 17 = .ok (.iload_n 1, 1) := by decide +kernel
theorem dX5_lacking_18 : decode cX5_lacking 18 = .ok (.iadd, 1) := by decide +kernel
theorem dX5_lacking_19 : decode cX5_lacking 19 = .ok (.iaload, 1) := by decide +kernel
theorem dX5_lacking_20 : decode cX5_lacking 20 = .ok (.iand, 1) := by decide +kernel
theorem dX5_lacking_21 : decode cX5_lacking 21 = .ok (.invokestatic 55, 3) := by decide +kernel
theorem dX5_lacking_24 : decode cX5_lacking 24 = .ok (.isub, 1) := by decide +kernel
theorem dX5_lacking_25 : decode cX5_lacking 25 = .ok (.istore_n 3, 1) := by decide +kernel
theorem dX5_lacking_26 : decode cX5_lacking 26 = .ok (.iload_n 3, 1) := by decide +kernel
theorem dX5_lacking_27 : decode cX5_lacking 27 = .ok (.ifCond .le 7, 3) := by decide +kernel
theorem dX5_lacking_30 : decode cX5_lacking 30 = .ok (.iload_n 3, 1) := by decide +kernel
theorem dX5_lacking_31 : decode cX5_lacking 31 = .ok (.goto 4, 3) := by decide +kernel
theorem dX5_lacking_34 : decode cX5_lacking 34 = .ok (.iconst 0, 1) := by decide +kernel
theorem dX5_lacking_35 : decode cX5_lacking 35 = .ok (.ireturn, 1) := by decide +kernel
set_option maxRecDepth 20000 in
theorem ggX5_propose_X5_noProposer : GoodIn wsX5_propose wsX5_noProposer := goodIn_r _ [5, 6, 7, 4, 8] (by decide +kernel) (by decide +kernel)
set_option maxRecDepth 20000 in
theorem gX5_propose_X5_noProposer : GoodIn wsX5_propose (va_wsS RX5 71 yX5_noProposer wsX5_noProposer) := goodIn_app (goodIn_of _ (by decide +kernel)) ggX5_propose_X5_noProposer
set_option maxRecDepth 20000 in
theorem ggX5_propose_X5_noSlot : GoodIn wsX5_propose wsX5_noSlot := goodIn_r _ [11, 6, 7, 4, 8] (by decide +kernel) (by decide +kernel)
set_option maxRecDepth 20000 in
theorem gX5_propose_X5_noSlot : GoodIn wsX5_propose (va_wsS RX5 95 yX5_noSlot wsX5_noSlot) := goodIn_app (goodIn_of _ (by decide +kernel)) ggX5_propose_X5_noSlot
set_option maxRecDepth 20000 in
theorem ggX5_propose_X5_in : GoodIn wsX5_propose wsX5_in := goodIn_r _ [8] (by decide +kernel) (by decide +kernel)
set_option maxRecDepth 20000 in
theorem gX5_propose_X5_in : GoodIn wsX5_propose (va_wsS RX5 33 yX5_in wsX5_in) := goodIn_app (goodIn_of _ (by decide +kernel)) ggX5_propose_X5_in
set_option maxRecDepth 20000 in
theorem ggX5_propose_X5_isTrimmed : GoodIn wsX5_propose wsX5_isTrimmed := goodIn_r _ [15, 1, 67, 68, 69, 70, 71, 72, 73, 74, 75, 76, 77, 78, 79, 80, 81] (by decide +kernel) (by decide +kernel)
set_option maxRecDepth 20000 in
theorem gX5_propose_X5_isTrimmed : GoodIn wsX5_propose (wsV RX5 98 RX5 yX5_isTrimmed wsX5_isTrimmed) := goodIn_app (goodIn_of _ (by decide +kernel)) ggX5_propose_X5_isTrimmed
set_option maxRecDepth 20000 in
theorem ggX5_propose_X5_isOpen : GoodIn wsX5_propose wsX5_isOpen := goodIn_r _ [19, 20, 21, 22, 4, 23, 24, 25, 26, 27, 1, 67, 68, 69, 70, 71, 72, 73, 74, 75, 76, 77, 78, 79, 80, 81] (by decide +kernel) (by decide +kernel)
set_option maxRecDepth 20000 in
theorem gX5_propose_X5_isOpen : GoodIn wsX5_propose (wsV RX5 101 RX5 yX5_isOpen wsX5_isOpen) := goodIn_app (goodIn_of _ (by decide +kernel)) ggX5_propose_X5_isOpen
set_option maxRecDepth 20000 in
theorem ggX5_propose_X5_lacking : GoodIn wsX5_propose wsX5_lacking := goodIn_r _ [31, 1, 32, 33, 34, 4, 35, 36, 37, 38, 39, 24, 25, 26, 27, 40, 41, 42, 43, 44, 45, 46, 67, 68, 69, 70, 71, 72, 73, 74, 75, 76, 77, 78, 79, 80, 81] (by decide +kernel) (by decide +kernel)
set_option maxRecDepth 20000 in
theorem gX5_propose_X5_lacking : GoodIn wsX5_propose (wsV RX5 104 RX5 yX5_lacking wsX5_lacking) := goodIn_app (goodIn_of _ (by decide +kernel)) ggX5_propose_X5_lacking
set_option maxRecDepth 20000 in
theorem ggX5_propose_X5_proposedAt : GoodIn wsX5_propose wsX5_proposedAt := goodIn_r _ [49] (by decide +kernel) (by decide +kernel)
set_option maxRecDepth 20000 in
theorem gX5_propose_X5_proposedAt : GoodIn wsX5_propose (va_wsS RX5 74 yX5_proposedAt wsX5_proposedAt) := goodIn_app (goodIn_of _ (by decide +kernel)) ggX5_propose_X5_proposedAt
set_option maxRecDepth 20000 in
theorem ggX5_propose_X5_record : GoodIn wsX5_propose wsX5_record := goodIn_r _ [53, 54, 55, 56, 1, 67, 68, 69, 70, 71, 72, 73, 74, 75, 76, 77, 78, 79, 80, 81] (by decide +kernel) (by decide +kernel)
set_option maxRecDepth 20000 in
theorem gX5_propose_X5_record : GoodIn wsX5_propose (wsV RX5 65 RX5 yX5_record wsX5_record) := goodIn_app (goodIn_of _ (by decide +kernel)) ggX5_propose_X5_record
set_option maxRecDepth 20000 in
theorem ggX5_propose_X5_bound : GoodIn wsX5_propose wsX5_bound := goodIn_r _ [60, 1, 36, 37, 38, 4, 39, 24, 25, 26, 27, 61, 62, 63, 64, 65, 66, 67, 68, 69, 70, 71, 72, 73, 74, 75, 76, 77, 78, 79, 80, 81] (by decide +kernel) (by decide +kernel)
set_option maxRecDepth 20000 in
theorem gX5_propose_X5_bound : GoodIn wsX5_propose (wsV RX5 107 RX5 yX5_bound wsX5_bound) := goodIn_app (goodIn_of _ (by decide +kernel)) ggX5_propose_X5_bound
theorem dX5_propose_0 : decode cX5_propose 0 = .ok (.iload_n 1, 1) := by decide +kernel
theorem dX5_propose_1 : decode cX5_propose 1 = .ok (.invokestatic 71, 3) := by decide +kernel
theorem dX5_propose_4 : decode cX5_propose 4 = .ok (.ifCond .ne 10, 3) := by decide +kernel
theorem dX5_propose_7 : decode cX5_propose 7 = .ok (.iload_n 2, 1) := by decide +kernel
theorem dX5_propose_8 : decode cX5_propose 8 = .ok (.invokestatic 95, 3) := by decide +kernel
theorem dX5_propose_11 : decode cX5_propose 11 = .ok (.ifCond .eq 5, 3) := by decide +kernel
theorem dX5_propose_14 : decode cX5_propose 14 = .ok (.iconst (-1), 1) := by decide +kernel
theorem dX5_propose_15 : decode cX5_propose 15 = .ok (.ireturn, 1) := by decide +kernel
theorem dX5_propose_16 : decode cX5_propose 16 = .ok (.iload_n 3, 1) := by decide +kernel
theorem dX5_propose_17 : decode cX5_propose 17 = .ok (.iconst 1, 1) := by decide +kernel
theorem dX5_propose_18 : decode cX5_propose 18 = .ok (.bipush 99, 2) := by decide +kernel
theorem dX5_propose_20 : decode cX5_propose 20 = .ok (.invokestatic 33, 3) := by decide +kernel
theorem dX5_propose_23 : decode cX5_propose 23 = .ok (.ifCond .ne 18, 3) := by decide +kernel
theorem dX5_propose_26 : decode cX5_propose 26 = .ok (.iload_n 3, 1) := by decide +kernel
theorem dX5_propose_27 : decode cX5_propose 27 = .ok (.bipush 101, 2) := by decide +kernel
theorem dX5_propose_29 : decode cX5_propose 29 = .ok (.sipush 163, 3) := by decide +kernel
theorem dX5_propose_32 : decode cX5_propose 32 = .ok (.invokestatic 33, 3) := by decide +kernel
theorem dX5_propose_35 : decode cX5_propose 35 = .ok (.ifCond .ne 6, 3) := by decide +kernel
theorem dX5_propose_38 : decode cX5_propose 38 = .ok (.bipush (-2), 2) := by decide +kernel
theorem dX5_propose_40 : decode cX5_propose 40 = .ok (.ireturn, 1) := by decide +kernel
theorem dX5_propose_41 : decode cX5_propose 41 = .ok (.aload_n 0, 1) := by decide +kernel
theorem dX5_propose_42 : decode cX5_propose 42 = .ok (.getfield 7, 3) := by decide +kernel
theorem dX5_propose_45 : decode cX5_propose 45 = .ok (.sipush 204, 3) := by decide +kernel
theorem dX5_propose_48 : decode cX5_propose 48 = .ok (.iload_n 1, 1) := by decide +kernel
theorem dX5_propose_49 : decode cX5_propose 49 = .ok (.iadd, 1) := by decide +kernel
theorem dX5_propose_50 : decode cX5_propose 50 = .ok (.iaload, 1) := by decide +kernel
theorem dX5_propose_51 : decode cX5_propose 51 = .ok (.ifCond .eq 41, 3) := by decide +kernel
theorem dX5_propose_54 : decode cX5_propose 54 = .ok (.aload_n 0, 1) := by decide +kernel
theorem dX5_propose_55 : decode cX5_propose 55 = .ok (.iload_n 2, 1) := by decide +kernel
theorem dX5_propose_56 : decode cX5_propose 56 = .ok (.invokevirtual 98, 3) := by decide +kernel
theorem dX5_propose_59 : decode cX5_propose 59 = .ok (.ifCond .ne 33, 3) := by decide +kernel
theorem dX5_propose_62 : decode cX5_propose 62 = .ok (.aload_n 0, 1) := by decide +kernel
theorem dX5_propose_63 : decode cX5_propose 63 = .ok (.iload_n 2, 1) := by decide +kernel
theorem dX5_propose_64 : decode cX5_propose 64 = .ok (.invokevirtual 101, 3) := by decide +kernel
theorem dX5_propose_67 : decode cX5_propose 67 = .ok (.ifCond .eq 25, 3) := by decide +kernel
theorem dX5_propose_70 : decode cX5_propose 70 = .ok (.aload_n 0, 1) := by decide +kernel
theorem dX5_propose_71 : decode cX5_propose 71 = .ok (.iload_n 1, 1) := by decide +kernel
theorem dX5_propose_72 : decode cX5_propose 72 = .ok (.iload_n 2, 1) := by decide +kernel
theorem dX5_propose_73 : decode cX5_propose 73 = .ok (.invokevirtual 104, 3) := by decide +kernel
theorem dX5_propose_76 : decode cX5_propose 76 = .ok (.ifCond .gt 16, 3) := by decide +kernel
theorem dX5_propose_79 : decode cX5_propose 79 = .ok (.aload_n 0, 1) := by decide +kernel
theorem dX5_propose_80 : decode cX5_propose 80 = .ok (.getfield 7, 3) := by decide +kernel
theorem dX5_propose_83 : decode cX5_propose 83 = .ok (.iload_n 1, 1) := by decide +kernel
theorem dX5_propose_84 : decode cX5_propose 84 = .ok (.iload_n 2, 1) := by decide +kernel
theorem dX5_propose_85 : decode cX5_propose 85 = .ok (.invokestatic 74, 3) := by decide +kernel
theorem dX5_propose_88 : decode cX5_propose 88 = .ok (.iaload, 1) := by decide +kernel
theorem dX5_propose_89 : decode cX5_propose 89 = .ok (.ifCond .le 6, 3) := by decide +kernel
theorem dX5_propose_92 : decode cX5_propose 92 = .ok (.bipush (-4), 2) := by decide +kernel
theorem dX5_propose_94 : decode cX5_propose 94 = .ok (.ireturn, 1) := by decide +kernel
theorem dX5_propose_95 : decode cX5_propose 95 = .ok (.aload_n 0, 1) := by decide +kernel
theorem dX5_propose_96 : decode cX5_propose 96 = .ok (.invokevirtual 65, 3) := by decide +kernel
theorem dX5_propose_99 : decode cX5_propose 99 = .ok (.aload_n 0, 1) := by decide +kernel
theorem dX5_propose_100 : decode cX5_propose 100 = .ok (.iload_n 1, 1) := by decide +kernel
theorem dX5_propose_101 : decode cX5_propose 101 = .ok (.iload_n 2, 1) := by decide +kernel
theorem dX5_propose_102 : decode cX5_propose 102 = .ok (.invokevirtual 107, 3) := by decide +kernel
theorem dX5_propose_105 : decode cX5_propose 105 = .ok (.istore 4, 2) := by decide +kernel
theorem dX5_propose_107 : decode cX5_propose 107 = .ok (.aload_n 0, 1) := by decide +kernel
theorem dX5_propose_108 : decode cX5_propose 108 = .ok (.getfield 7, 3) := by decide +kernel
theorem dX5_propose_111 : decode cX5_propose 111 = .ok (.iload_n 1, 1) := by decide +kernel
theorem dX5_propose_112 : decode cX5_propose 112 = .ok (.iload_n 2, 1) := by decide +kernel
theorem dX5_propose_113 : decode cX5_propose 113 = .ok (.invokestatic 74, 3) := by decide +kernel
theorem dX5_propose_116 : decode cX5_propose 116 = .ok (.iload 4, 2) := by decide +kernel
theorem dX5_propose_118 : decode cX5_propose 118 = .ok (.ifCond .le 8, 3) := by decide +kernel
theorem dX5_propose_121 : decode cX5_propose 121 = .ok (.iload 4, 2) := by decide +kernel
theorem dX5_propose_123 : decode cX5_propose 123 = .ok (.goto 4, 3) := by decide +kernel
theorem dX5_propose_126 : decode cX5_propose 126 = .ok (.iload_n 3, 1) := by decide +kernel
theorem dX5_propose_127 : decode cX5_propose 127 = .ok (.iastore, 1) := by decide +kernel
theorem dX5_propose_128 : decode cX5_propose 128 = .ok (.aload_n 0, 1) := by decide +kernel
theorem dX5_propose_129 : decode cX5_propose 129 = .ok (.getfield 7, 3) := by decide +kernel
theorem dX5_propose_132 : decode cX5_propose 132 = .ok (.iload_n 1, 1) := by decide +kernel
theorem dX5_propose_133 : decode cX5_propose 133 = .ok (.iload_n 2, 1) := by decide +kernel
theorem dX5_propose_134 : decode cX5_propose 134 = .ok (.invokestatic 74, 3) := by decide +kernel
theorem dX5_propose_137 : decode cX5_propose 137 = .ok (.iaload, 1) := by decide +kernel
theorem dX5_propose_138 : decode cX5_propose 138 = .ok (.ireturn, 1) := by decide +kernel
set_option maxRecDepth 20000 in
theorem ggX5_vote_X5_noProposer : GoodIn wsX5_vote wsX5_noProposer := goodIn_r _ [5, 6, 7, 4, 8] (by decide +kernel) (by decide +kernel)
set_option maxRecDepth 20000 in
theorem gX5_vote_X5_noProposer : GoodIn wsX5_vote (va_wsS RX5 71 yX5_noProposer wsX5_noProposer) := goodIn_app (goodIn_of _ (by decide +kernel)) ggX5_vote_X5_noProposer
set_option maxRecDepth 20000 in
theorem ggX5_vote_X5_noSlot : GoodIn wsX5_vote wsX5_noSlot := goodIn_r _ [11, 6, 7, 4, 8] (by decide +kernel) (by decide +kernel)
set_option maxRecDepth 20000 in
theorem gX5_vote_X5_noSlot : GoodIn wsX5_vote (va_wsS RX5 95 yX5_noSlot wsX5_noSlot) := goodIn_app (goodIn_of _ (by decide +kernel)) ggX5_vote_X5_noSlot
set_option maxRecDepth 20000 in
theorem ggX5_vote_X5_noAcceptor : GoodIn wsX5_vote wsX5_noAcceptor := goodIn_r _ [14, 6, 7, 4, 8] (by decide +kernel) (by decide +kernel)
set_option maxRecDepth 20000 in
theorem gX5_vote_X5_noAcceptor : GoodIn wsX5_vote (va_wsS RX5 61 yX5_noAcceptor wsX5_noAcceptor) := goodIn_app (goodIn_of _ (by decide +kernel)) ggX5_vote_X5_noAcceptor
set_option maxRecDepth 20000 in
theorem ggX5_vote_X5_proposedAt : GoodIn wsX5_vote wsX5_proposedAt := goodIn_r _ [17] (by decide +kernel) (by decide +kernel)
set_option maxRecDepth 20000 in
theorem gX5_vote_X5_proposedAt : GoodIn wsX5_vote (va_wsS RX5 74 yX5_proposedAt wsX5_proposedAt) := goodIn_app (goodIn_of _ (by decide +kernel)) ggX5_vote_X5_proposedAt
set_option maxRecDepth 20000 in
theorem ggX5_vote_X5_isTrimmed : GoodIn wsX5_vote wsX5_isTrimmed := goodIn_r _ [21, 1, 54, 55, 56, 57, 58, 59, 60, 61, 62, 63, 64, 65, 66, 67, 68] (by decide +kernel) (by decide +kernel)
set_option maxRecDepth 20000 in
theorem gX5_vote_X5_isTrimmed : GoodIn wsX5_vote (wsV RX5 98 RX5 yX5_isTrimmed wsX5_isTrimmed) := goodIn_app (goodIn_of _ (by decide +kernel)) ggX5_vote_X5_isTrimmed
set_option maxRecDepth 20000 in
theorem ggX5_vote_X5_voters : GoodIn wsX5_vote wsX5_voters := goodIn_r _ [25, 26, 27, 28, 4, 29, 1, 54, 55, 56, 57, 58, 59, 60, 61, 62, 63, 64, 65, 66, 67, 68] (by decide +kernel) (by decide +kernel)
set_option maxRecDepth 20000 in
theorem gX5_vote_X5_voters : GoodIn wsX5_vote (wsV RX5 52 RX5 yX5_voters wsX5_voters) := goodIn_app (goodIn_of _ (by decide +kernel)) ggX5_vote_X5_voters
set_option maxRecDepth 20000 in
theorem ggX5_vote_X5_isIn : GoodIn wsX5_vote wsX5_isIn := goodIn_r _ [32] (by decide +kernel) (by decide +kernel)
set_option maxRecDepth 20000 in
theorem gX5_vote_X5_isIn : GoodIn wsX5_vote (va_wsS RX5 82 yX5_isIn wsX5_isIn) := goodIn_app (goodIn_of _ (by decide +kernel)) ggX5_vote_X5_isIn
set_option maxRecDepth 20000 in
theorem ggX5_vote_X5_voteAt : GoodIn wsX5_vote wsX5_voteAt := goodIn_r _ [35] (by decide +kernel) (by decide +kernel)
set_option maxRecDepth 20000 in
theorem gX5_vote_X5_voteAt : GoodIn wsX5_vote (va_wsS RX5 89 yX5_voteAt wsX5_voteAt) := goodIn_app (goodIn_of _ (by decide +kernel)) ggX5_vote_X5_voteAt
set_option maxRecDepth 20000 in
theorem ggX5_vote_X5_record : GoodIn wsX5_vote wsX5_record := goodIn_r _ [39, 40, 41, 42, 1, 54, 55, 56, 57, 58, 59, 60, 61, 62, 63, 64, 65, 66, 67, 68] (by decide +kernel) (by decide +kernel)
set_option maxRecDepth 20000 in
theorem gX5_vote_X5_record : GoodIn wsX5_vote (wsV RX5 65 RX5 yX5_record wsX5_record) := goodIn_app (goodIn_of _ (by decide +kernel)) ggX5_vote_X5_record
set_option maxRecDepth 20000 in
theorem ggX5_vote_X5_refuses : GoodIn wsX5_vote wsX5_refuses := goodIn_r _ [46, 1, 54, 55, 56, 57, 58, 59, 60, 61, 62, 63, 64, 65, 66, 67, 68] (by decide +kernel) (by decide +kernel)
set_option maxRecDepth 20000 in
theorem gX5_vote_X5_refuses : GoodIn wsX5_vote (wsV RX5 86 RX5 yX5_refuses wsX5_refuses) := goodIn_app (goodIn_of _ (by decide +kernel)) ggX5_vote_X5_refuses
set_option maxRecDepth 20000 in
theorem ggX5_vote_X5_secondSize : GoodIn wsX5_vote wsX5_secondSize := goodIn_r _ [50, 1, 22, 23, 24, 4, 25, 26, 27, 28, 29, 51, 52, 53, 54, 55, 56, 57, 58, 59, 60, 61, 62, 63, 64, 65, 66, 67, 68] (by decide +kernel) (by decide +kernel)
set_option maxRecDepth 20000 in
theorem gX5_vote_X5_secondSize : GoodIn wsX5_vote (wsV RX5 58 RX5 yX5_secondSize wsX5_secondSize) := goodIn_app (goodIn_of _ (by decide +kernel)) ggX5_vote_X5_secondSize
set_option maxRecDepth 20000 in
theorem ggX5_vote_X5_chosen : GoodIn wsX5_vote wsX5_chosen := goodIn_r _ [29, 1, 54, 55, 56, 57, 58, 59, 60, 61, 62, 63, 64, 65, 66, 67, 68] (by decide +kernel) (by decide +kernel)
set_option maxRecDepth 20000 in
theorem gX5_vote_X5_chosen : GoodIn wsX5_vote (wsV RX5 44 RX5 yX5_chosen wsX5_chosen) := goodIn_app (goodIn_of _ (by decide +kernel)) ggX5_vote_X5_chosen
theorem dX5_vote_0 : decode cX5_vote 0 = .ok (.iload_n 1, 1) := by decide +kernel
theorem dX5_vote_1 : decode cX5_vote 1 = .ok (.invokestatic 71, 3) := by decide +kernel
theorem dX5_vote_4 : decode cX5_vote 4 = .ok (.ifCond .ne 17, 3) := by decide +kernel
theorem dX5_vote_7 : decode cX5_vote 7 = .ok (.iload_n 2, 1) := by decide +kernel
theorem dX5_vote_8 : decode cX5_vote 8 = .ok (.invokestatic 95, 3) := by decide +kernel
theorem dX5_vote_11 : decode cX5_vote 11 = .ok (.ifCond .ne 10, 3) := by decide +kernel
theorem dX5_vote_14 : decode cX5_vote 14 = .ok (.iload_n 3, 1) := by decide +kernel
theorem dX5_vote_15 : decode cX5_vote 15 = .ok (.invokestatic 61, 3) := by decide +kernel
theorem dX5_vote_18 : decode cX5_vote 18 = .ok (.ifCond .eq 5, 3) := by decide +kernel
theorem dX5_vote_21 : decode cX5_vote 21 = .ok (.iconst (-1), 1) := by decide +kernel
theorem dX5_vote_22 : decode cX5_vote 22 = .ok (.ireturn, 1) := by decide +kernel
theorem dX5_vote_23 : decode cX5_vote 23 = .ok (.aload_n 0, 1) := by decide +kernel
theorem dX5_vote_24 : decode cX5_vote 24 = .ok (.getfield 7, 3) := by decide +kernel
theorem dX5_vote_27 : decode cX5_vote 27 = .ok (.iload_n 1, 1) := by decide +kernel
theorem dX5_vote_28 : decode cX5_vote 28 = .ok (.iload_n 2, 1) := by decide +kernel
theorem dX5_vote_29 : decode cX5_vote 29 = .ok (.invokestatic 74, 3) := by decide +kernel
theorem dX5_vote_32 : decode cX5_vote 32 = .ok (.iaload, 1) := by decide +kernel
theorem dX5_vote_33 : decode cX5_vote 33 = .ok (.istore 4, 2) := by decide +kernel
theorem dX5_vote_35 : decode cX5_vote 35 = .ok (.iload 4, 2) := by decide +kernel
theorem dX5_vote_37 : decode cX5_vote 37 = .ok (.ifCond .eq 34, 3) := by decide +kernel
theorem dX5_vote_40 : decode cX5_vote 40 = .ok (.aload_n 0, 1) := by decide +kernel
theorem dX5_vote_41 : decode cX5_vote 41 = .ok (.iload_n 2, 1) := by decide +kernel
theorem dX5_vote_42 : decode cX5_vote 42 = .ok (.invokevirtual 98, 3) := by decide +kernel
theorem dX5_vote_45 : decode cX5_vote 45 = .ok (.ifCond .ne 26, 3) := by decide +kernel
theorem dX5_vote_48 : decode cX5_vote 48 = .ok (.aload_n 0, 1) := by decide +kernel
theorem dX5_vote_49 : decode cX5_vote 49 = .ok (.getfield 7, 3) := by decide +kernel
theorem dX5_vote_52 : decode cX5_vote 52 = .ok (.iconst 0, 1) := by decide +kernel
theorem dX5_vote_53 : decode cX5_vote 53 = .ok (.iload_n 3, 1) := by decide +kernel
theorem dX5_vote_54 : decode cX5_vote 54 = .ok (.iadd, 1) := by decide +kernel
theorem dX5_vote_55 : decode cX5_vote 55 = .ok (.iaload, 1) := by decide +kernel
theorem dX5_vote_56 : decode cX5_vote 56 = .ok (.ifCond .eq 15, 3) := by decide +kernel
theorem dX5_vote_59 : decode cX5_vote 59 = .ok (.aload_n 0, 1) := by decide +kernel
theorem dX5_vote_60 : decode cX5_vote 60 = .ok (.iload_n 2, 1) := by decide +kernel
theorem dX5_vote_61 : decode cX5_vote 61 = .ok (.invokevirtual 52, 3) := by decide +kernel
theorem dX5_vote_64 : decode cX5_vote 64 = .ok (.iload_n 3, 1) := by decide +kernel
theorem dX5_vote_65 : decode cX5_vote 65 = .ok (.invokestatic 82, 3) := by decide +kernel
theorem dX5_vote_68 : decode cX5_vote 68 = .ok (.ifCond .ne 6, 3) := by decide +kernel
theorem dX5_vote_71 : decode cX5_vote 71 = .ok (.bipush (-4), 2) := by decide +kernel
theorem dX5_vote_73 : decode cX5_vote 73 = .ok (.ireturn, 1) := by decide +kernel
theorem dX5_vote_74 : decode cX5_vote 74 = .ok (.aload_n 0, 1) := by decide +kernel
theorem dX5_vote_75 : decode cX5_vote 75 = .ok (.getfield 7, 3) := by decide +kernel
theorem dX5_vote_78 : decode cX5_vote 78 = .ok (.sipush 204, 3) := by decide +kernel
theorem dX5_vote_81 : decode cX5_vote 81 = .ok (.iload_n 1, 1) := by decide +kernel
theorem dX5_vote_82 : decode cX5_vote 82 = .ok (.iadd, 1) := by decide +kernel
theorem dX5_vote_83 : decode cX5_vote 83 = .ok (.iaload, 1) := by decide +kernel
theorem dX5_vote_84 : decode cX5_vote 84 = .ok (.istore 5, 2) := by decide +kernel
theorem dX5_vote_86 : decode cX5_vote 86 = .ok (.iload_n 3, 1) := by decide +kernel
theorem dX5_vote_87 : decode cX5_vote 87 = .ok (.iload_n 2, 1) := by decide +kernel
theorem dX5_vote_88 : decode cX5_vote 88 = .ok (.invokestatic 89, 3) := by decide +kernel
theorem dX5_vote_91 : decode cX5_vote 91 = .ok (.istore 6, 2) := by decide +kernel
theorem dX5_vote_93 : decode cX5_vote 93 = .ok (.aload_n 0, 1) := by decide +kernel
theorem dX5_vote_94 : decode cX5_vote 94 = .ok (.getfield 7, 3) := by decide +kernel
theorem dX5_vote_97 : decode cX5_vote 97 = .ok (.iload 6, 2) := by decide +kernel
theorem dX5_vote_99 : decode cX5_vote 99 = .ok (.iaload, 1) := by decide +kernel
theorem dX5_vote_100 : decode cX5_vote 100 = .ok (.iload 5, 2) := by decide +kernel
theorem dX5_vote_102 : decode cX5_vote 102 = .ok (.if_icmp .ne 6, 3) := by decide +kernel
theorem dX5_vote_105 : decode cX5_vote 105 = .ok (.bipush (-5), 2) := by decide +kernel
theorem dX5_vote_107 : decode cX5_vote 107 = .ok (.ireturn, 1) := by decide +kernel
theorem dX5_vote_108 : decode cX5_vote 108 = .ok (.aload_n 0, 1) := by decide +kernel
theorem dX5_vote_109 : decode cX5_vote 109 = .ok (.invokevirtual 65, 3) := by decide +kernel
theorem dX5_vote_112 : decode cX5_vote 112 = .ok (.iload 5, 2) := by decide +kernel
theorem dX5_vote_114 : decode cX5_vote 114 = .ok (.aload_n 0, 1) := by decide +kernel
theorem dX5_vote_115 : decode cX5_vote 115 = .ok (.getfield 7, 3) := by decide +kernel
theorem dX5_vote_118 : decode cX5_vote 118 = .ok (.bipush 6, 2) := by decide +kernel
theorem dX5_vote_120 : decode cX5_vote 120 = .ok (.iload_n 3, 1) := by decide +kernel
theorem dX5_vote_121 : decode cX5_vote 121 = .ok (.iadd, 1) := by decide +kernel
theorem dX5_vote_122 : decode cX5_vote 122 = .ok (.iaload, 1) := by decide +kernel
theorem dX5_vote_123 : decode cX5_vote 123 = .ok (.if_icmp .ge 13, 3) := by decide +kernel
theorem dX5_vote_126 : decode cX5_vote 126 = .ok (.aload_n 0, 1) := by decide +kernel
theorem dX5_vote_127 : decode cX5_vote 127 = .ok (.iload_n 1, 1) := by decide +kernel
theorem dX5_vote_128 : decode cX5_vote 128 = .ok (.iload_n 3, 1) := by decide +kernel
theorem dX5_vote_129 : decode cX5_vote 129 = .ok (.sipush 872, 3) := by decide +kernel
theorem dX5_vote_132 : decode cX5_vote 132 = .ok (.invokevirtual 86, 3) := by decide +kernel
theorem dX5_vote_135 : decode cX5_vote 135 = .ok (.ireturn, 1) := by decide +kernel
theorem dX5_vote_136 : decode cX5_vote 136 = .ok (.aload_n 0, 1) := by decide +kernel
theorem dX5_vote_137 : decode cX5_vote 137 = .ok (.getfield 7, 3) := by decide +kernel
theorem dX5_vote_140 : decode cX5_vote 140 = .ok (.bipush 6, 2) := by decide +kernel
theorem dX5_vote_142 : decode cX5_vote 142 = .ok (.iload_n 3, 1) := by decide +kernel
theorem dX5_vote_143 : decode cX5_vote 143 = .ok (.iadd, 1) := by decide +kernel
theorem dX5_vote_144 : decode cX5_vote 144 = .ok (.iload 5, 2) := by decide +kernel
theorem dX5_vote_146 : decode cX5_vote 146 = .ok (.iastore, 1) := by decide +kernel
theorem dX5_vote_147 : decode cX5_vote 147 = .ok (.aload_n 0, 1) := by decide +kernel
theorem dX5_vote_148 : decode cX5_vote 148 = .ok (.getfield 7, 3) := by decide +kernel
theorem dX5_vote_151 : decode cX5_vote 151 = .ok (.iload 6, 2) := by decide +kernel
theorem dX5_vote_153 : decode cX5_vote 153 = .ok (.iload 5, 2) := by decide +kernel
theorem dX5_vote_155 : decode cX5_vote 155 = .ok (.iastore, 1) := by decide +kernel
theorem dX5_vote_156 : decode cX5_vote 156 = .ok (.aload_n 0, 1) := by decide +kernel
theorem dX5_vote_157 : decode cX5_vote 157 = .ok (.getfield 7, 3) := by decide +kernel
theorem dX5_vote_160 : decode cX5_vote 160 = .ok (.iload 6, 2) := by decide +kernel
theorem dX5_vote_162 : decode cX5_vote 162 = .ok (.iconst 1, 1) := by decide +kernel
theorem dX5_vote_163 : decode cX5_vote 163 = .ok (.iadd, 1) := by decide +kernel
theorem dX5_vote_164 : decode cX5_vote 164 = .ok (.iload 4, 2) := by decide +kernel
theorem dX5_vote_166 : decode cX5_vote 166 = .ok (.iastore, 1) := by decide +kernel
theorem dX5_vote_167 : decode cX5_vote 167 = .ok (.iconst 0, 1) := by decide +kernel
theorem dX5_vote_168 : decode cX5_vote 168 = .ok (.istore 7, 2) := by decide +kernel
theorem dX5_vote_170 : decode cX5_vote 170 = .ok (.iconst 0, 1) := by decide +kernel
theorem dX5_vote_171 : decode cX5_vote 171 = .ok (.istore 8, 2) := by decide +kernel
theorem dX5_vote_173 : decode cX5_vote 173 = .ok (.iload 8, 2) := by decide +kernel
theorem dX5_vote_175 : decode cX5_vote 175 = .ok (.bipush 6, 2) := by decide +kernel
theorem dX5_vote_177 : decode cX5_vote 177 = .ok (.if_icmp .ge 48, 3) := by decide +kernel
theorem dX5_vote_180 : decode cX5_vote 180 = .ok (.iload 7, 2) := by decide +kernel
theorem dX5_vote_182 : decode cX5_vote 182 = .ok (.aload_n 0, 1) := by decide +kernel
theorem dX5_vote_183 : decode cX5_vote 183 = .ok (.iload_n 2, 1) := by decide +kernel
theorem dX5_vote_184 : decode cX5_vote 184 = .ok (.invokevirtual 52, 3) := by decide +kernel
theorem dX5_vote_187 : decode cX5_vote 187 = .ok (.iload 8, 2) := by decide +kernel
theorem dX5_vote_189 : decode cX5_vote 189 = .ok (.invokestatic 82, 3) := by decide +kernel
theorem dX5_vote_192 : decode cX5_vote 192 = .ok (.ifCond .eq 23, 3) := by decide +kernel
theorem dX5_vote_195 : decode cX5_vote 195 = .ok (.aload_n 0, 1) := by decide +kernel
theorem dX5_vote_196 : decode cX5_vote 196 = .ok (.getfield 7, 3) := by decide +kernel
theorem dX5_vote_199 : decode cX5_vote 199 = .ok (.iload 8, 2) := by decide +kernel
theorem dX5_vote_201 : decode cX5_vote 201 = .ok (.iload_n 2, 1) := by decide +kernel
theorem dX5_vote_202 : decode cX5_vote 202 = .ok (.invokestatic 89, 3) := by decide +kernel
theorem dX5_vote_205 : decode cX5_vote 205 = .ok (.iaload, 1) := by decide +kernel
theorem dX5_vote_206 : decode cX5_vote 206 = .ok (.iload 5, 2) := by decide +kernel
theorem dX5_vote_208 : decode cX5_vote 208 = .ok (.if_icmp .ne 7, 3) := by decide +kernel
theorem dX5_vote_211 : decode cX5_vote 211 = .ok (.iconst 1, 1) := by decide +kernel
theorem dX5_vote_212 : decode cX5_vote 212 = .ok (.goto 4, 3) := by decide +kernel
theorem dX5_vote_215 : decode cX5_vote 215 = .ok (.iconst 0, 1) := by decide +kernel
theorem dX5_vote_216 : decode cX5_vote 216 = .ok (.iadd, 1) := by decide +kernel
theorem dX5_vote_217 : decode cX5_vote 217 = .ok (.istore 7, 2) := by decide +kernel
theorem dX5_vote_219 : decode cX5_vote 219 = .ok (.iinc 8 1, 3) := by decide +kernel
theorem dX5_vote_222 : decode cX5_vote 222 = .ok (.goto (-49), 3) := by decide +kernel
theorem dX5_vote_225 : decode cX5_vote 225 = .ok (.iload 7, 2) := by decide +kernel
theorem dX5_vote_227 : decode cX5_vote 227 = .ok (.aload_n 0, 1) := by decide +kernel
theorem dX5_vote_228 : decode cX5_vote 228 = .ok (.iload_n 2, 1) := by decide +kernel
theorem dX5_vote_229 : decode cX5_vote 229 = .ok (.invokevirtual 58, 3) := by decide +kernel
theorem dX5_vote_232 : decode cX5_vote 232 = .ok (.if_icmp .lt 39, 3) := by decide +kernel
theorem dX5_vote_235 : decode cX5_vote 235 = .ok (.aload_n 0, 1) := by decide +kernel
theorem dX5_vote_236 : decode cX5_vote 236 = .ok (.iload_n 2, 1) := by decide +kernel
theorem dX5_vote_237 : decode cX5_vote 237 = .ok (.invokevirtual 44, 3) := by decide +kernel
theorem dX5_vote_240 : decode cX5_vote 240 = .ok (.ifCond .ne 31, 3) := by decide +kernel
theorem dX5_vote_243 : decode cX5_vote 243 = .ok (.aload_n 0, 1) := by decide +kernel
theorem dX5_vote_244 : decode cX5_vote 244 = .ok (.getfield 7, 3) := by decide +kernel
theorem dX5_vote_247 : decode cX5_vote 247 = .ok (.sipush 837, 3) := by decide +kernel
theorem dX5_vote_250 : decode cX5_vote 250 = .ok (.iload_n 2, 1) := by decide +kernel
theorem dX5_vote_251 : decode cX5_vote 251 = .ok (.iadd, 1) := by decide +kernel
theorem dX5_vote_252 : decode cX5_vote 252 = .ok (.iconst 1, 1) := by decide +kernel
theorem dX5_vote_253 : decode cX5_vote 253 = .ok (.isub, 1) := by decide +kernel
theorem dX5_vote_254 : decode cX5_vote 254 = .ok (.iload 4, 2) := by decide +kernel
theorem dX5_vote_256 : decode cX5_vote 256 = .ok (.iastore, 1) := by decide +kernel
theorem dX5_vote_257 : decode cX5_vote 257 = .ok (.aload_n 0, 1) := by decide +kernel
theorem dX5_vote_258 : decode cX5_vote 258 = .ok (.getfield 7, 3) := by decide +kernel
theorem dX5_vote_261 : decode cX5_vote 261 = .ok (.sipush 853, 3) := by decide +kernel
theorem dX5_vote_264 : decode cX5_vote 264 = .ok (.iload_n 2, 1) := by decide +kernel
theorem dX5_vote_265 : decode cX5_vote 265 = .ok (.iadd, 1) := by decide +kernel
theorem dX5_vote_266 : decode cX5_vote 266 = .ok (.iconst 1, 1) := by decide +kernel
theorem dX5_vote_267 : decode cX5_vote 267 = .ok (.isub, 1) := by decide +kernel
theorem dX5_vote_268 : decode cX5_vote 268 = .ok (.iload 5, 2) := by decide +kernel
theorem dX5_vote_270 : decode cX5_vote 270 = .ok (.iastore, 1) := by decide +kernel
theorem dX5_vote_271 : decode cX5_vote 271 = .ok (.iload 7, 2) := by decide +kernel
theorem dX5_vote_273 : decode cX5_vote 273 = .ok (.ireturn, 1) := by decide +kernel
set_option maxRecDepth 20000 in
theorem ggX5_trim_X5_noSlot : GoodIn wsX5_trim wsX5_noSlot := goodIn_r _ [5, 6, 7, 4, 8] (by decide +kernel) (by decide +kernel)
set_option maxRecDepth 20000 in
theorem gX5_trim_X5_noSlot : GoodIn wsX5_trim (va_wsS RX5 95 yX5_noSlot wsX5_noSlot) := goodIn_app (goodIn_of _ (by decide +kernel)) ggX5_trim_X5_noSlot
set_option maxRecDepth 20000 in
theorem ggX5_trim_X5_prefix : GoodIn wsX5_trim wsX5_prefix := goodIn_r _ [12, 13, 14, 15, 4, 16, 1, 31, 32, 33, 34, 35, 36, 37, 38, 39, 40, 41, 42, 43, 44, 45] (by decide +kernel) (by decide +kernel)
set_option maxRecDepth 20000 in
theorem gX5_trim_X5_prefix : GoodIn wsX5_trim (wsV RX5 48 RX5 yX5_prefix wsX5_prefix) := goodIn_app (goodIn_of _ (by decide +kernel)) ggX5_trim_X5_prefix
set_option maxRecDepth 20000 in
theorem ggX5_trim_X5_isTrimmed : GoodIn wsX5_trim wsX5_isTrimmed := goodIn_r _ [20, 1, 31, 32, 33, 34, 35, 36, 37, 38, 39, 40, 41, 42, 43, 44, 45] (by decide +kernel) (by decide +kernel)
set_option maxRecDepth 20000 in
theorem gX5_trim_X5_isTrimmed : GoodIn wsX5_trim (wsV RX5 98 RX5 yX5_isTrimmed wsX5_isTrimmed) := goodIn_app (goodIn_of _ (by decide +kernel)) ggX5_trim_X5_isTrimmed
set_option maxRecDepth 20000 in
theorem ggX5_trim_X5_record : GoodIn wsX5_trim wsX5_record := goodIn_r _ [24, 25, 26, 27, 1, 31, 32, 33, 34, 35, 36, 37, 38, 39, 40, 41, 42, 43, 44, 45] (by decide +kernel) (by decide +kernel)
set_option maxRecDepth 20000 in
theorem gX5_trim_X5_record : GoodIn wsX5_trim (wsV RX5 65 RX5 yX5_record wsX5_record) := goodIn_app (goodIn_of _ (by decide +kernel)) ggX5_trim_X5_record
set_option maxRecDepth 20000 in
theorem ggX5_trim_X5_voteAt : GoodIn wsX5_trim wsX5_voteAt := goodIn_r _ [30] (by decide +kernel) (by decide +kernel)
set_option maxRecDepth 20000 in
theorem gX5_trim_X5_voteAt : GoodIn wsX5_trim (va_wsS RX5 89 yX5_voteAt wsX5_voteAt) := goodIn_app (goodIn_of _ (by decide +kernel)) ggX5_trim_X5_voteAt
theorem dX5_trim_0 : decode cX5_trim 0 = .ok (.iload_n 1, 1) := by decide +kernel
theorem dX5_trim_1 : decode cX5_trim 1 = .ok (.invokestatic 95, 3) := by decide +kernel
theorem dX5_trim_4 : decode cX5_trim 4 = .ok (.ifCond .eq 5, 3) := by decide +kernel
theorem dX5_trim_7 : decode cX5_trim 7 = .ok (.iconst (-1), 1) := by decide +kernel
theorem dX5_trim_8 : decode cX5_trim 8 = .ok (.ireturn, 1) := by decide +kernel
theorem dX5_trim_9 : decode cX5_trim 9 = .ok (.iload_n 1, 1) := by decide +kernel
theorem dX5_trim_10 : decode cX5_trim 10 = .ok (.aload_n 0, 1) := by decide +kernel
theorem dX5_trim_11 : decode cX5_trim 11 = .ok (.invokevirtual 48, 3) := by decide +kernel
theorem dX5_trim_14 : decode cX5_trim 14 = .ok (.if_icmp .le 6, 3) := by decide +kernel
theorem dX5_trim_17 : decode cX5_trim 17 = .ok (.bipush (-4), 2) := by decide +kernel
theorem dX5_trim_19 : decode cX5_trim 19 = .ok (.ireturn, 1) := by decide +kernel
theorem dX5_trim_20 : decode cX5_trim 20 = .ok (.aload_n 0, 1) := by decide +kernel
theorem dX5_trim_21 : decode cX5_trim 21 = .ok (.iload_n 1, 1) := by decide +kernel
theorem dX5_trim_22 : decode cX5_trim 22 = .ok (.invokevirtual 98, 3) := by decide +kernel
theorem dX5_trim_25 : decode cX5_trim 25 = .ok (.ifCond .eq 6, 3) := by decide +kernel
theorem dX5_trim_28 : decode cX5_trim 28 = .ok (.bipush (-5), 2) := by decide +kernel
theorem dX5_trim_30 : decode cX5_trim 30 = .ok (.ireturn, 1) := by decide +kernel
theorem dX5_trim_31 : decode cX5_trim 31 = .ok (.aload_n 0, 1) := by decide +kernel
theorem dX5_trim_32 : decode cX5_trim 32 = .ok (.invokevirtual 65, 3) := by decide +kernel
theorem dX5_trim_35 : decode cX5_trim 35 = .ok (.aload_n 0, 1) := by decide +kernel
theorem dX5_trim_36 : decode cX5_trim 36 = .ok (.getfield 7, 3) := by decide +kernel
theorem dX5_trim_39 : decode cX5_trim 39 = .ok (.sipush 869, 3) := by decide +kernel
theorem dX5_trim_42 : decode cX5_trim 42 = .ok (.iload_n 1, 1) := by decide +kernel
theorem dX5_trim_43 : decode cX5_trim 43 = .ok (.iastore, 1) := by decide +kernel
theorem dX5_trim_44 : decode cX5_trim 44 = .ok (.iconst 0, 1) := by decide +kernel
theorem dX5_trim_45 : decode cX5_trim 45 = .ok (.istore_n 2, 1) := by decide +kernel
theorem dX5_trim_46 : decode cX5_trim 46 = .ok (.iconst 0, 1) := by decide +kernel
theorem dX5_trim_47 : decode cX5_trim 47 = .ok (.istore_n 3, 1) := by decide +kernel
theorem dX5_trim_48 : decode cX5_trim 48 = .ok (.iload_n 3, 1) := by decide +kernel
theorem dX5_trim_49 : decode cX5_trim 49 = .ok (.bipush 6, 2) := by decide +kernel
theorem dX5_trim_51 : decode cX5_trim 51 = .ok (.if_icmp .ge 72, 3) := by decide +kernel
theorem dX5_trim_54 : decode cX5_trim 54 = .ok (.iconst 1, 1) := by decide +kernel
theorem dX5_trim_55 : decode cX5_trim 55 = .ok (.istore 4, 2) := by decide +kernel
theorem dX5_trim_57 : decode cX5_trim 57 = .ok (.iload 4, 2) := by decide +kernel
theorem dX5_trim_59 : decode cX5_trim 59 = .ok (.iload_n 1, 1) := by decide +kernel
theorem dX5_trim_60 : decode cX5_trim 60 = .ok (.if_icmp .gt 57, 3) := by decide +kernel
theorem dX5_trim_63 : decode cX5_trim 63 = .ok (.iload_n 2, 1) := by decide +kernel
theorem dX5_trim_64 : decode cX5_trim 64 = .ok (.aload_n 0, 1) := by decide +kernel
theorem dX5_trim_65 : decode cX5_trim 65 = .ok (.getfield 7, 3) := by decide +kernel
theorem dX5_trim_68 : decode cX5_trim 68 = .ok (.iload_n 3, 1) := by decide +kernel
theorem dX5_trim_69 : decode cX5_trim 69 = .ok (.iload 4, 2) := by decide +kernel
theorem dX5_trim_71 : decode cX5_trim 71 = .ok (.invokestatic 89, 3) := by decide +kernel
theorem dX5_trim_74 : decode cX5_trim 74 = .ok (.iaload, 1) := by decide +kernel
theorem dX5_trim_75 : decode cX5_trim 75 = .ok (.ifCond .le 7, 3) := by decide +kernel
theorem dX5_trim_78 : decode cX5_trim 78 = .ok (.iconst 1, 1) := by decide +kernel
theorem dX5_trim_79 : decode cX5_trim 79 = .ok (.goto 4, 3) := by decide +kernel
theorem dX5_trim_82 : decode cX5_trim 82 = .ok (.iconst 0, 1) := by decide +kernel
theorem dX5_trim_83 : decode cX5_trim 83 = .ok (.iadd, 1) := by decide +kernel
theorem dX5_trim_84 : decode cX5_trim 84 = .ok (.istore_n 2, 1) := by decide +kernel
theorem dX5_trim_85 : decode cX5_trim 85 = .ok (.aload_n 0, 1) := by decide +kernel
theorem dX5_trim_86 : decode cX5_trim 86 = .ok (.getfield 7, 3) := by decide +kernel
theorem dX5_trim_89 : decode cX5_trim 89 = .ok (.iload_n 3, 1) := by decide +kernel
theorem dX5_trim_90 : decode cX5_trim 90 = .ok (.iload 4, 2) := by decide +kernel
theorem dX5_trim_92 : decode cX5_trim 92 = .ok (.invokestatic 89, 3) := by decide +kernel
theorem dX5_trim_95 : decode cX5_trim 95 = .ok (.iconst 0, 1) := by decide +kernel
theorem dX5_trim_96 : decode cX5_trim 96 = .ok (.iastore, 1) := by decide +kernel
theorem dX5_trim_97 : decode cX5_trim 97 = .ok (.aload_n 0, 1) := by decide +kernel
theorem dX5_trim_98 : decode cX5_trim 98 = .ok (.getfield 7, 3) := by decide +kernel
theorem dX5_trim_101 : decode cX5_trim 101 = .ok (.iload_n 3, 1) := by decide +kernel
theorem dX5_trim_102 : decode cX5_trim 102 = .ok (.iload 4, 2) := by decide +kernel
theorem dX5_trim_104 : decode cX5_trim 104 = .ok (.invokestatic 89, 3) := by decide +kernel
theorem dX5_trim_107 : decode cX5_trim 107 = .ok (.iconst 1, 1) := by decide +kernel
theorem dX5_trim_108 : decode cX5_trim 108 = .ok (.iadd, 1) := by decide +kernel
theorem dX5_trim_109 : decode cX5_trim 109 = .ok (.iconst 0, 1) := by decide +kernel
theorem dX5_trim_110 : decode cX5_trim 110 = .ok (.iastore, 1) := by decide +kernel
theorem dX5_trim_111 : decode cX5_trim 111 = .ok (.iinc 4 1, 3) := by decide +kernel
theorem dX5_trim_114 : decode cX5_trim 114 = .ok (.goto (-57), 3) := by decide +kernel
theorem dX5_trim_117 : decode cX5_trim 117 = .ok (.iinc 3 1, 3) := by decide +kernel
theorem dX5_trim_120 : decode cX5_trim 120 = .ok (.goto (-72), 3) := by decide +kernel
theorem dX5_trim_123 : decode cX5_trim 123 = .ok (.iload_n 2, 1) := by decide +kernel
theorem dX5_trim_124 : decode cX5_trim 124 = .ok (.ireturn, 1) := by decide +kernel
theorem dX5_type_0 : decode cX5_type 0 = .ok (.aload_n 0, 1) := by decide +kernel
theorem dX5_type_1 : decode cX5_type 1 = .ok (.getfield 110, 3) := by decide +kernel
theorem dX5_type_4 : decode cX5_type 4 = .ok (.bipush 60, 2) := by decide +kernel
theorem dX5_type_6 : decode cX5_type 6 = .ok (.if_icmp .ne 6, 3) := by decide +kernel
theorem dX5_type_9 : decode cX5_type 9 = .ok (.bipush (-3), 2) := by decide +kernel
theorem dX5_type_11 : decode cX5_type 11 = .ok (.ireturn, 1) := by decide +kernel
theorem dX5_type_12 : decode cX5_type 12 = .ok (.aload_n 0, 1) := by decide +kernel
theorem dX5_type_13 : decode cX5_type 13 = .ok (.getfield 19, 3) := by decide +kernel
theorem dX5_type_16 : decode cX5_type 16 = .ok (.aload_n 0, 1) := by decide +kernel
theorem dX5_type_17 : decode cX5_type 17 = .ok (.getfield 110, 3) := by decide +kernel
theorem dX5_type_20 : decode cX5_type 20 = .ok (.iload_n 1, 1) := by decide +kernel
theorem dX5_type_21 : decode cX5_type 21 = .ok (.castore, 1) := by decide +kernel
theorem dX5_type_22 : decode cX5_type 22 = .ok (.aload_n 0, 1) := by decide +kernel
theorem dX5_type_23 : decode cX5_type 23 = .ok (.dup, 1) := by decide +kernel
theorem dX5_type_24 : decode cX5_type 24 = .ok (.getfield 110, 3) := by decide +kernel
theorem dX5_type_27 : decode cX5_type 27 = .ok (.iconst 1, 1) := by decide +kernel
theorem dX5_type_28 : decode cX5_type 28 = .ok (.iadd, 1) := by decide +kernel
theorem dX5_type_29 : decode cX5_type 29 = .ok (.putfield 110, 3) := by decide +kernel
theorem dX5_type_32 : decode cX5_type 32 = .ok (.aload_n 0, 1) := by decide +kernel
theorem dX5_type_33 : decode cX5_type 33 = .ok (.getfield 110, 3) := by decide +kernel
theorem dX5_type_36 : decode cX5_type 36 = .ok (.ireturn, 1) := by decide +kernel
theorem dX5_clearText_0 : decode cX5_clearText 0 = .ok (.aload_n 0, 1) := by decide +kernel
theorem dX5_clearText_1 : decode cX5_clearText 1 = .ok (.getfield 110, 3) := by decide +kernel
theorem dX5_clearText_4 : decode cX5_clearText 4 = .ok (.istore_n 1, 1) := by decide +kernel
theorem dX5_clearText_5 : decode cX5_clearText 5 = .ok (.aload_n 0, 1) := by decide +kernel
theorem dX5_clearText_6 : decode cX5_clearText 6 = .ok (.iconst 0, 1) := by decide +kernel
theorem dX5_clearText_7 : decode cX5_clearText 7 = .ok (.putfield 110, 3) := by decide +kernel
theorem dX5_clearText_10 : decode cX5_clearText 10 = .ok (.iload_n 1, 1) := by decide +kernel
theorem dX5_clearText_11 : decode cX5_clearText 11 = .ok (.ireturn, 1) := by decide +kernel
set_option maxRecDepth 20000 in
theorem ggX5_isBetween_X5_in : GoodIn wsX5_isBetween wsX5_in := goodIn_r _ [7] (by decide +kernel) (by decide +kernel)
set_option maxRecDepth 20000 in
theorem gX5_isBetween_X5_in : GoodIn wsX5_isBetween (va_wsS RX5 33 yX5_in wsX5_in) := goodIn_app (goodIn_of _ (by decide +kernel)) ggX5_isBetween_X5_in
theorem dX5_isBetween_0 : decode cX5_isBetween 0 = .ok (.aload_n 0, 1) := by decide +kernel
theorem dX5_isBetween_1 : decode cX5_isBetween 1 = .ok (.getfield 113, 3) := by decide +kernel
theorem dX5_isBetween_4 : decode cX5_isBetween 4 = .ok (.aload_n 0, 1) := by decide +kernel
theorem dX5_isBetween_5 : decode cX5_isBetween 5 = .ok (.getfield 110, 3) := by decide +kernel
theorem dX5_isBetween_8 : decode cX5_isBetween 8 = .ok (.if_icmp .ge 24, 3) := by decide +kernel
theorem dX5_isBetween_11 : decode cX5_isBetween 11 = .ok (.aload_n 0, 1) := by decide +kernel
theorem dX5_isBetween_12 : decode cX5_isBetween 12 = .ok (.getfield 19, 3) := by decide +kernel
theorem dX5_isBetween_15 : decode cX5_isBetween 15 = .ok (.aload_n 0, 1) := by decide +kernel
theorem dX5_isBetween_16 : decode cX5_isBetween 16 = .ok (.getfield 113, 3) := by decide +kernel
theorem dX5_isBetween_19 : decode cX5_isBetween 19 = .ok (.caload, 1) := by decide +kernel
theorem dX5_isBetween_20 : decode cX5_isBetween 20 = .ok (.iload_n 1, 1) := by decide +kernel
theorem dX5_isBetween_21 : decode cX5_isBetween 21 = .ok (.iload_n 2, 1) := by decide +kernel
theorem dX5_isBetween_22 : decode cX5_isBetween 22 = .ok (.invokestatic 33, 3) := by decide +kernel
theorem dX5_isBetween_25 : decode cX5_isBetween 25 = .ok (.ifCond .eq 7, 3) := by decide +kernel
theorem dX5_isBetween_28 : decode cX5_isBetween 28 = .ok (.iconst 1, 1) := by decide +kernel
theorem dX5_isBetween_29 : decode cX5_isBetween 29 = .ok (.goto 4, 3) := by decide +kernel
theorem dX5_isBetween_32 : decode cX5_isBetween 32 = .ok (.iconst 0, 1) := by decide +kernel
theorem dX5_isBetween_33 : decode cX5_isBetween 33 = .ok (.ireturn, 1) := by decide +kernel
set_option maxRecDepth 20000 in
theorem ggX5_takes_X5_isBetween : GoodIn wsX5_takes wsX5_isBetween := goodIn_r _ [9, 1, 10, 2, 11, 12, 8, 13, 14, 15, 16, 17, 18, 19, 20, 21, 22, 23, 24, 25, 26, 27, 28] (by decide +kernel) (by decide +kernel)
set_option maxRecDepth 20000 in
theorem gX5_takes_X5_isBetween : GoodIn wsX5_takes (wsV RX5 116 RX5 yX5_isBetween wsX5_isBetween) := goodIn_app (goodIn_of _ (by decide +kernel)) ggX5_takes_X5_isBetween
theorem dX5_takes_0 : decode cX5_takes 0 = .ok (.iload_n 1, 1) := by decide +kernel
theorem dX5_takes_1 : decode cX5_takes 1 = .ok (.iconst 1, 1) := by decide +kernel
theorem dX5_takes_2 : decode cX5_takes 2 = .ok (.if_icmp .le 26, 3) := by decide +kernel
theorem dX5_takes_5 : decode cX5_takes 5 = .ok (.aload_n 0, 1) := by decide +kernel
theorem dX5_takes_6 : decode cX5_takes 6 = .ok (.bipush 44, 2) := by decide +kernel
theorem dX5_takes_8 : decode cX5_takes 8 = .ok (.bipush 44, 2) := by decide +kernel
theorem dX5_takes_10 : decode cX5_takes 10 = .ok (.invokevirtual 116, 3) := by decide +kernel
theorem dX5_takes_13 : decode cX5_takes 13 = .ok (.ifCond .ne 5, 3) := by decide +kernel
theorem dX5_takes_16 : decode cX5_takes 16 = .ok (.iconst 0, 1) := by decide +kernel
theorem dX5_takes_17 : decode cX5_takes 17 = .ok (.ireturn, 1) := by decide +kernel
theorem dX5_takes_18 : decode cX5_takes 18 = .ok (.aload_n 0, 1) := by decide +kernel
theorem dX5_takes_19 : decode cX5_takes 19 = .ok (.dup, 1) := by decide +kernel
theorem dX5_takes_20 : decode cX5_takes 20 = .ok (.getfield 113, 3) := by decide +kernel
theorem dX5_takes_23 : decode cX5_takes 23 = .ok (.iconst 1, 1) := by decide +kernel
theorem dX5_takes_24 : decode cX5_takes 24 = .ok (.iadd, 1) := by decide +kernel
theorem dX5_takes_25 : decode cX5_takes 25 = .ok (.putfield 113, 3) := by decide +kernel
theorem dX5_takes_28 : decode cX5_takes 28 = .ok (.iload_n 2, 1) := by decide +kernel
theorem dX5_takes_29 : decode cX5_takes 29 = .ok (.ifCond .le 19, 3) := by decide +kernel
theorem dX5_takes_32 : decode cX5_takes 32 = .ok (.aload_n 0, 1) := by decide +kernel
theorem dX5_takes_33 : decode cX5_takes 33 = .ok (.bipush 48, 2) := by decide +kernel
theorem dX5_takes_35 : decode cX5_takes 35 = .ok (.bipush 48, 2) := by decide +kernel
theorem dX5_takes_37 : decode cX5_takes 37 = .ok (.iload_n 2, 1) := by decide +kernel
theorem dX5_takes_38 : decode cX5_takes 38 = .ok (.iadd, 1) := by decide +kernel
theorem dX5_takes_39 : decode cX5_takes 39 = .ok (.invokevirtual 116, 3) := by decide +kernel
theorem dX5_takes_42 : decode cX5_takes 42 = .ok (.ifCond .ne 19, 3) := by decide +kernel
theorem dX5_takes_45 : decode cX5_takes 45 = .ok (.goto 14, 3) := by decide +kernel
theorem dX5_takes_48 : decode cX5_takes 48 = .ok (.aload_n 0, 1) := by decide +kernel
theorem dX5_takes_49 : decode cX5_takes 49 = .ok (.bipush 49, 2) := by decide +kernel
theorem dX5_takes_51 : decode cX5_takes 51 = .ok (.bipush 57, 2) := by decide +kernel
theorem dX5_takes_53 : decode cX5_takes 53 = .ok (.invokevirtual 116, 3) := by decide +kernel
theorem dX5_takes_56 : decode cX5_takes 56 = .ok (.ifCond .ne 5, 3) := by decide +kernel
theorem dX5_takes_59 : decode cX5_takes 59 = .ok (.iconst 0, 1) := by decide +kernel
theorem dX5_takes_60 : decode cX5_takes 60 = .ok (.ireturn, 1) := by decide +kernel
theorem dX5_takes_61 : decode cX5_takes 61 = .ok (.aload_n 0, 1) := by decide +kernel
theorem dX5_takes_62 : decode cX5_takes 62 = .ok (.getfield 19, 3) := by decide +kernel
theorem dX5_takes_65 : decode cX5_takes 65 = .ok (.aload_n 0, 1) := by decide +kernel
theorem dX5_takes_66 : decode cX5_takes 66 = .ok (.getfield 113, 3) := by decide +kernel
theorem dX5_takes_69 : decode cX5_takes 69 = .ok (.caload, 1) := by decide +kernel
theorem dX5_takes_70 : decode cX5_takes 70 = .ok (.bipush 48, 2) := by decide +kernel
theorem dX5_takes_72 : decode cX5_takes 72 = .ok (.isub, 1) := by decide +kernel
theorem dX5_takes_73 : decode cX5_takes 73 = .ok (.istore_n 3, 1) := by decide +kernel
theorem dX5_takes_74 : decode cX5_takes 74 = .ok (.aload_n 0, 1) := by decide +kernel
theorem dX5_takes_75 : decode cX5_takes 75 = .ok (.dup, 1) := by decide +kernel
theorem dX5_takes_76 : decode cX5_takes 76 = .ok (.getfield 113, 3) := by decide +kernel
theorem dX5_takes_79 : decode cX5_takes 79 = .ok (.iconst 1, 1) := by decide +kernel
theorem dX5_takes_80 : decode cX5_takes 80 = .ok (.iadd, 1) := by decide +kernel
theorem dX5_takes_81 : decode cX5_takes 81 = .ok (.putfield 113, 3) := by decide +kernel
theorem dX5_takes_84 : decode cX5_takes 84 = .ok (.iconst 0, 1) := by decide +kernel
theorem dX5_takes_85 : decode cX5_takes 85 = .ok (.istore 4, 2) := by decide +kernel
theorem dX5_takes_87 : decode cX5_takes 87 = .ok (.iload 4, 2) := by decide +kernel
theorem dX5_takes_89 : decode cX5_takes 89 = .ok (.iconst 2, 1) := by decide +kernel
theorem dX5_takes_90 : decode cX5_takes 90 = .ok (.if_icmp .ge 52, 3) := by decide +kernel
theorem dX5_takes_93 : decode cX5_takes 93 = .ok (.iload_n 2, 1) := by decide +kernel
theorem dX5_takes_94 : decode cX5_takes 94 = .ok (.ifCond .ne 48, 3) := by decide +kernel
theorem dX5_takes_97 : decode cX5_takes 97 = .ok (.aload_n 0, 1) := by decide +kernel
theorem dX5_takes_98 : decode cX5_takes 98 = .ok (.bipush 48, 2) := by decide +kernel
theorem dX5_takes_100 : decode cX5_takes 100 = .ok (.bipush 57, 2) := by decide +kernel
theorem dX5_takes_102 : decode cX5_takes 102 = .ok (.invokevirtual 116, 3) := by decide +kernel
theorem dX5_takes_105 : decode cX5_takes 105 = .ok (.ifCond .eq 37, 3) := by decide +kernel
theorem dX5_takes_108 : decode cX5_takes 108 = .ok (.bipush 10, 2) := by decide +kernel
theorem dX5_takes_110 : decode cX5_takes 110 = .ok (.iload_n 3, 1) := by decide +kernel
theorem dX5_takes_111 : decode cX5_takes 111 = .ok (.imul, 1) := by decide +kernel
theorem dX5_takes_112 : decode cX5_takes 112 = .ok (.aload_n 0, 1) := by decide +kernel
theorem dX5_takes_113 : decode cX5_takes 113 = .ok (.getfield 19, 3) := by decide +kernel
theorem dX5_takes_116 : decode cX5_takes 116 = .ok (.aload_n 0, 1) := by decide +kernel
theorem dX5_takes_117 : decode cX5_takes 117 = .ok (.getfield 113, 3) := by decide +kernel
theorem dX5_takes_120 : decode cX5_takes 120 = .ok (.caload, 1) := by decide +kernel
theorem dX5_takes_121 : decode cX5_takes 121 = .ok (.iadd, 1) := by decide +kernel
theorem dX5_takes_122 : decode cX5_takes 122 = .ok (.bipush 48, 2) := by decide +kernel
theorem dX5_takes_124 : decode cX5_takes 124 = .ok (.isub, 1) := by decide +kernel
theorem dX5_takes_125 : decode cX5_takes 125 = .ok (.istore_n 3, 1) := by decide +kernel
theorem dX5_takes_126 : decode cX5_takes 126 = .ok (.aload_n 0, 1) := by decide +kernel
theorem dX5_takes_127 : decode cX5_takes 127 = .ok (.dup, 1) := by decide +kernel
theorem dX5_takes_128 : decode cX5_takes 128 = .ok (.getfield 113, 3) := by decide +kernel
theorem dX5_takes_131 : decode cX5_takes 131 = .ok (.iconst 1, 1) := by decide +kernel
theorem dX5_takes_132 : decode cX5_takes 132 = .ok (.iadd, 1) := by decide +kernel
theorem dX5_takes_133 : decode cX5_takes 133 = .ok (.putfield 113, 3) := by decide +kernel
theorem dX5_takes_136 : decode cX5_takes 136 = .ok (.iinc 4 1, 3) := by decide +kernel
theorem dX5_takes_139 : decode cX5_takes 139 = .ok (.goto (-52), 3) := by decide +kernel
theorem dX5_takes_142 : decode cX5_takes 142 = .ok (.aload_n 0, 1) := by decide +kernel
theorem dX5_takes_143 : decode cX5_takes 143 = .ok (.getfield 23, 3) := by decide +kernel
theorem dX5_takes_146 : decode cX5_takes 146 = .ok (.iconst 5, 1) := by decide +kernel
theorem dX5_takes_147 : decode cX5_takes 147 = .ok (.aload_n 0, 1) := by decide +kernel
theorem dX5_takes_148 : decode cX5_takes 148 = .ok (.getfield 119, 3) := by decide +kernel
theorem dX5_takes_151 : decode cX5_takes 151 = .ok (.imul, 1) := by decide +kernel
theorem dX5_takes_152 : decode cX5_takes 152 = .ok (.iload_n 1, 1) := by decide +kernel
theorem dX5_takes_153 : decode cX5_takes 153 = .ok (.iadd, 1) := by decide +kernel
theorem dX5_takes_154 : decode cX5_takes 154 = .ok (.iload_n 3, 1) := by decide +kernel
theorem dX5_takes_155 : decode cX5_takes 155 = .ok (.iastore, 1) := by decide +kernel
theorem dX5_takes_156 : decode cX5_takes 156 = .ok (.iconst 1, 1) := by decide +kernel
theorem dX5_takes_157 : decode cX5_takes 157 = .ok (.ireturn, 1) := by decide +kernel
set_option maxRecDepth 20000 in
theorem ggX5_takesOrder_X5_takes : GoodIn wsX5_takesOrder wsX5_takes := goodIn_r _ [10, 1, 3, 4, 5, 11, 12, 13, 9, 14, 2, 15, 16, 17, 18, 19, 20, 21, 22, 23, 24, 25, 26, 27, 28, 29, 30, 31, 32] (by decide +kernel) (by decide +kernel)
set_option maxRecDepth 20000 in
theorem gX5_takesOrder_X5_takes : GoodIn wsX5_takesOrder (wsV RX5 122 RX5 yX5_takes wsX5_takes) := goodIn_app (goodIn_of _ (by decide +kernel)) ggX5_takesOrder_X5_takes
theorem dX5_takesOrder_0 : decode cX5_takesOrder 0 = .ok (.aload_n 0, 1) := by decide +kernel
theorem dX5_takesOrder_1 : decode cX5_takesOrder 1 = .ok (.getfield 113, 3) := by decide +kernel
theorem dX5_takesOrder_4 : decode cX5_takesOrder 4 = .ok (.aload_n 0, 1) := by decide +kernel
theorem dX5_takesOrder_5 : decode cX5_takesOrder 5 = .ok (.getfield 110, 3) := by decide +kernel
theorem dX5_takesOrder_8 : decode cX5_takesOrder 8 = .ok (.if_icmp .ne 5, 3) := by decide +kernel
theorem dX5_takesOrder_11 : decode cX5_takesOrder 11 = .ok (.iconst 0, 1) := by decide +kernel
theorem dX5_takesOrder_12 : decode cX5_takesOrder 12 = .ok (.ireturn, 1) := by decide +kernel
theorem dX5_takesOrder_13 : decode cX5_takesOrder 13 = .ok (.aload_n 0, 1) := by decide +kernel
theorem dX5_takesOrder_14 : decode cX5_takesOrder 14 = .ok (.getfield 19, 3) := by decide +kernel
theorem dX5_takesOrder_17 : decode cX5_takesOrder 17 = .ok (.aload_n 0, 1) := by decide +kernel
theorem dX5_takesOrder_18 : decode cX5_takesOrder 18 = .ok (.getfield 113, 3) := by decide +kernel
theorem dX5_takesOrder_21 : decode cX5_takesOrder 21 = .ok (.caload, 1) := by decide +kernel
theorem dX5_takesOrder_22 : decode cX5_takesOrder 22 = .ok (.istore_n 1, 1) := by decide +kernel
theorem dX5_takesOrder_23 : decode cX5_takesOrder 23 = .ok (.aload_n 0, 1) := by decide +kernel
theorem dX5_takesOrder_24 : decode cX5_takesOrder 24 = .ok (.getfield 23, 3) := by decide +kernel
theorem dX5_takesOrder_27 : decode cX5_takesOrder 27 = .ok (.iconst 5, 1) := by decide +kernel
theorem dX5_takesOrder_28 : decode cX5_takesOrder 28 = .ok (.aload_n 0, 1) := by decide +kernel
theorem dX5_takesOrder_29 : decode cX5_takesOrder 29 = .ok (.getfield 119, 3) := by decide +kernel
theorem dX5_takesOrder_32 : decode cX5_takesOrder 32 = .ok (.imul, 1) := by decide +kernel
theorem dX5_takesOrder_33 : decode cX5_takesOrder 33 = .ok (.iload_n 1, 1) := by decide +kernel
theorem dX5_takesOrder_34 : decode cX5_takesOrder 34 = .ok (.iastore, 1) := by decide +kernel
theorem dX5_takesOrder_35 : decode cX5_takesOrder 35 = .ok (.aload_n 0, 1) := by decide +kernel
theorem dX5_takesOrder_36 : decode cX5_takesOrder 36 = .ok (.getfield 23, 3) := by decide +kernel
theorem dX5_takesOrder_39 : decode cX5_takesOrder 39 = .ok (.iconst 5, 1) := by decide +kernel
theorem dX5_takesOrder_40 : decode cX5_takesOrder 40 = .ok (.aload_n 0, 1) := by decide +kernel
theorem dX5_takesOrder_41 : decode cX5_takesOrder 41 = .ok (.getfield 119, 3) := by decide +kernel
theorem dX5_takesOrder_44 : decode cX5_takesOrder 44 = .ok (.imul, 1) := by decide +kernel
theorem dX5_takesOrder_45 : decode cX5_takesOrder 45 = .ok (.iconst 4, 1) := by decide +kernel
theorem dX5_takesOrder_46 : decode cX5_takesOrder 46 = .ok (.iadd, 1) := by decide +kernel
theorem dX5_takesOrder_47 : decode cX5_takesOrder 47 = .ok (.aload_n 0, 1) := by decide +kernel
theorem dX5_takesOrder_48 : decode cX5_takesOrder 48 = .ok (.getfield 113, 3) := by decide +kernel
theorem dX5_takesOrder_51 : decode cX5_takesOrder 51 = .ok (.iastore, 1) := by decide +kernel
theorem dX5_takesOrder_52 : decode cX5_takesOrder 52 = .ok (.iload_n 1, 1) := by decide +kernel
theorem dX5_takesOrder_53 : decode cX5_takesOrder 53 = .ok (.bipush 110, 2) := by decide +kernel
theorem dX5_takesOrder_55 : decode cX5_takesOrder 55 = .ok (.if_icmp .eq 33, 3) := by decide +kernel
theorem dX5_takesOrder_58 : decode cX5_takesOrder 58 = .ok (.iload_n 1, 1) := by decide +kernel
theorem dX5_takesOrder_59 : decode cX5_takesOrder 59 = .ok (.bipush 121, 2) := by decide +kernel
theorem dX5_takesOrder_61 : decode cX5_takesOrder 61 = .ok (.if_icmp .eq 27, 3) := by decide +kernel
theorem dX5_takesOrder_64 : decode cX5_takesOrder 64 = .ok (.iload_n 1, 1) := by decide +kernel
theorem dX5_takesOrder_65 : decode cX5_takesOrder 65 = .ok (.bipush 118, 2) := by decide +kernel
theorem dX5_takesOrder_67 : decode cX5_takesOrder 67 = .ok (.if_icmp .eq 21, 3) := by decide +kernel
theorem dX5_takesOrder_70 : decode cX5_takesOrder 70 = .ok (.iload_n 1, 1) := by decide +kernel
theorem dX5_takesOrder_71 : decode cX5_takesOrder 71 = .ok (.bipush 97, 2) := by decide +kernel
theorem dX5_takesOrder_73 : decode cX5_takesOrder 73 = .ok (.if_icmp .eq 15, 3) := by decide +kernel
theorem dX5_takesOrder_76 : decode cX5_takesOrder 76 = .ok (.iload_n 1, 1) := by decide +kernel
theorem dX5_takesOrder_77 : decode cX5_takesOrder 77 = .ok (.bipush 100, 2) := by decide +kernel
theorem dX5_takesOrder_79 : decode cX5_takesOrder 79 = .ok (.if_icmp .eq 9, 3) := by decide +kernel
theorem dX5_takesOrder_82 : decode cX5_takesOrder 82 = .ok (.iload_n 1, 1) := by decide +kernel
theorem dX5_takesOrder_83 : decode cX5_takesOrder 83 = .ok (.bipush 117, 2) := by decide +kernel
theorem dX5_takesOrder_85 : decode cX5_takesOrder 85 = .ok (.if_icmp .ne 7, 3) := by decide +kernel
theorem dX5_takesOrder_88 : decode cX5_takesOrder 88 = .ok (.iconst 1, 1) := by decide +kernel
theorem dX5_takesOrder_89 : decode cX5_takesOrder 89 = .ok (.goto 4, 3) := by decide +kernel
theorem dX5_takesOrder_92 : decode cX5_takesOrder 92 = .ok (.iconst 0, 1) := by decide +kernel
theorem dX5_takesOrder_93 : decode cX5_takesOrder 93 = .ok (.istore_n 2, 1) := by decide +kernel
theorem dX5_takesOrder_94 : decode cX5_takesOrder 94 = .ok (.aload_n 0, 1) := by decide +kernel
theorem dX5_takesOrder_95 : decode cX5_takesOrder 95 = .ok (.dup, 1) := by decide +kernel
theorem dX5_takesOrder_96 : decode cX5_takesOrder 96 = .ok (.getfield 113, 3) := by decide +kernel
theorem dX5_takesOrder_99 : decode cX5_takesOrder 99 = .ok (.iload_n 2, 1) := by decide +kernel
theorem dX5_takesOrder_100 : decode cX5_takesOrder 100 = .ok (.ifCond .eq 7, 3) := by decide +kernel
theorem dX5_takesOrder_103 : decode cX5_takesOrder 103 = .ok (.iconst 1, 1) := by decide +kernel
theorem dX5_takesOrder_104 : decode cX5_takesOrder 104 = .ok (.goto 4, 3) := by decide +kernel
theorem dX5_takesOrder_107 : decode cX5_takesOrder 107 = .ok (.iconst 0, 1) := by decide +kernel
theorem dX5_takesOrder_108 : decode cX5_takesOrder 108 = .ok (.iadd, 1) := by decide +kernel
theorem dX5_takesOrder_109 : decode cX5_takesOrder 109 = .ok (.putfield 113, 3) := by decide +kernel
theorem dX5_takesOrder_112 : decode cX5_takesOrder 112 = .ok (.iload_n 2, 1) := by decide +kernel
theorem dX5_takesOrder_113 : decode cX5_takesOrder 113 = .ok (.ifCond .eq 28, 3) := by decide +kernel
theorem dX5_takesOrder_116 : decode cX5_takesOrder 116 = .ok (.aload_n 0, 1) := by decide +kernel
theorem dX5_takesOrder_117 : decode cX5_takesOrder 117 = .ok (.iconst 1, 1) := by decide +kernel
theorem dX5_takesOrder_118 : decode cX5_takesOrder 118 = .ok (.iload_n 1, 1) := by decide +kernel
theorem dX5_takesOrder_119 : decode cX5_takesOrder 119 = .ok (.bipush 100, 2) := by decide +kernel
theorem dX5_takesOrder_121 : decode cX5_takesOrder 121 = .ok (.if_icmp .eq 9, 3) := by decide +kernel
theorem dX5_takesOrder_124 : decode cX5_takesOrder 124 = .ok (.iload_n 1, 1) := by decide +kernel
theorem dX5_takesOrder_125 : decode cX5_takesOrder 125 = .ok (.bipush 117, 2) := by decide +kernel
theorem dX5_takesOrder_127 : decode cX5_takesOrder 127 = .ok (.if_icmp .ne 7, 3) := by decide +kernel
theorem dX5_takesOrder_130 : decode cX5_takesOrder 130 = .ok (.iconst 5, 1) := by decide +kernel
theorem dX5_takesOrder_131 : decode cX5_takesOrder 131 = .ok (.goto 4, 3) := by decide +kernel
theorem dX5_takesOrder_134 : decode cX5_takesOrder 134 = .ok (.iconst 2, 1) := by decide +kernel
theorem dX5_takesOrder_135 : decode cX5_takesOrder 135 = .ok (.invokevirtual 122, 3) := by decide +kernel
theorem dX5_takesOrder_138 : decode cX5_takesOrder 138 = .ok (.ifCond .ne 5, 3) := by decide +kernel
theorem dX5_takesOrder_141 : decode cX5_takesOrder 141 = .ok (.iconst 0, 1) := by decide +kernel
theorem dX5_takesOrder_142 : decode cX5_takesOrder 142 = .ok (.ireturn, 1) := by decide +kernel
theorem dX5_takesOrder_143 : decode cX5_takesOrder 143 = .ok (.iload_n 1, 1) := by decide +kernel
theorem dX5_takesOrder_144 : decode cX5_takesOrder 144 = .ok (.bipush 121, 2) := by decide +kernel
theorem dX5_takesOrder_146 : decode cX5_takesOrder 146 = .ok (.if_icmp .ne 10, 3) := by decide +kernel
theorem dX5_takesOrder_149 : decode cX5_takesOrder 149 = .ok (.aload_n 0, 1) := by decide +kernel
theorem dX5_takesOrder_150 : decode cX5_takesOrder 150 = .ok (.iconst 2, 1) := by decide +kernel
theorem dX5_takesOrder_151 : decode cX5_takesOrder 151 = .ok (.iconst 5, 1) := by decide +kernel
theorem dX5_takesOrder_152 : decode cX5_takesOrder 152 = .ok (.invokevirtual 122, 3) := by decide +kernel
theorem dX5_takesOrder_155 : decode cX5_takesOrder 155 = .ok (.ireturn, 1) := by decide +kernel
theorem dX5_takesOrder_156 : decode cX5_takesOrder 156 = .ok (.iload_n 1, 1) := by decide +kernel
theorem dX5_takesOrder_157 : decode cX5_takesOrder 157 = .ok (.bipush 118, 2) := by decide +kernel
theorem dX5_takesOrder_159 : decode cX5_takesOrder 159 = .ok (.if_icmp .eq 9, 3) := by decide +kernel
theorem dX5_takesOrder_162 : decode cX5_takesOrder 162 = .ok (.iload_n 1, 1) := by decide +kernel
theorem dX5_takesOrder_163 : decode cX5_takesOrder 163 = .ok (.bipush 97, 2) := by decide +kernel
theorem dX5_takesOrder_165 : decode cX5_takesOrder 165 = .ok (.if_icmp .ne 31, 3) := by decide +kernel
theorem dX5_takesOrder_168 : decode cX5_takesOrder 168 = .ok (.aload_n 0, 1) := by decide +kernel
theorem dX5_takesOrder_169 : decode cX5_takesOrder 169 = .ok (.iconst 2, 1) := by decide +kernel
theorem dX5_takesOrder_170 : decode cX5_takesOrder 170 = .ok (.iconst 0, 1) := by decide +kernel
theorem dX5_takesOrder_171 : decode cX5_takesOrder 171 = .ok (.invokevirtual 122, 3) := by decide +kernel
theorem dX5_takesOrder_174 : decode cX5_takesOrder 174 = .ok (.ifCond .eq 26, 3) := by decide +kernel
theorem dX5_takesOrder_177 : decode cX5_takesOrder 177 = .ok (.aload_n 0, 1) := by decide +kernel
theorem dX5_takesOrder_178 : decode cX5_takesOrder 178 = .ok (.iconst 3, 1) := by decide +kernel
theorem dX5_takesOrder_179 : decode cX5_takesOrder 179 = .ok (.iload_n 1, 1) := by decide +kernel
theorem dX5_takesOrder_180 : decode cX5_takesOrder 180 = .ok (.bipush 118, 2) := by decide +kernel
theorem dX5_takesOrder_182 : decode cX5_takesOrder 182 = .ok (.if_icmp .ne 7, 3) := by decide +kernel
theorem dX5_takesOrder_185 : decode cX5_takesOrder 185 = .ok (.iconst 0, 1) := by decide +kernel
theorem dX5_takesOrder_186 : decode cX5_takesOrder 186 = .ok (.goto 4, 3) := by decide +kernel
theorem dX5_takesOrder_189 : decode cX5_takesOrder 189 = .ok (.iconst 5, 1) := by decide +kernel
theorem dX5_takesOrder_190 : decode cX5_takesOrder 190 = .ok (.invokevirtual 122, 3) := by decide +kernel
theorem dX5_takesOrder_193 : decode cX5_takesOrder 193 = .ok (.ifCond .eq 7, 3) := by decide +kernel
theorem dX5_takesOrder_196 : decode cX5_takesOrder 196 = .ok (.iconst 1, 1) := by decide +kernel
theorem dX5_takesOrder_197 : decode cX5_takesOrder 197 = .ok (.goto 4, 3) := by decide +kernel
theorem dX5_takesOrder_200 : decode cX5_takesOrder 200 = .ok (.iconst 0, 1) := by decide +kernel
theorem dX5_takesOrder_201 : decode cX5_takesOrder 201 = .ok (.ireturn, 1) := by decide +kernel
set_option maxRecDepth 20000 in
theorem ggX5_isRead_X5_takesOrder : GoodIn wsX5_isRead wsX5_takesOrder := goodIn_r _ [9, 1, 3, 4, 10, 2, 11, 12, 13, 8, 14, 15, 16, 17, 18, 19, 20, 21, 22, 23, 24, 25, 26, 27, 28, 29, 30, 31, 32, 33, 34, 35, 36] (by decide +kernel) (by decide +kernel)
set_option maxRecDepth 20000 in
theorem gX5_isRead_X5_takesOrder : GoodIn wsX5_isRead (wsV RX5 125 RX5 yX5_takesOrder wsX5_takesOrder) := goodIn_app (goodIn_of _ (by decide +kernel)) ggX5_isRead_X5_takesOrder
theorem dX5_isRead_0 : decode cX5_isRead 0 = .ok (.aload_n 0, 1) := by decide +kernel
theorem dX5_isRead_1 : decode cX5_isRead 1 = .ok (.iconst 0, 1) := by decide +kernel
theorem dX5_isRead_2 : decode cX5_isRead 2 = .ok (.putfield 113, 3) := by decide +kernel
theorem dX5_isRead_5 : decode cX5_isRead 5 = .ok (.aload_n 0, 1) := by decide +kernel
theorem dX5_isRead_6 : decode cX5_isRead 6 = .ok (.iconst 0, 1) := by decide +kernel
theorem dX5_isRead_7 : decode cX5_isRead 7 = .ok (.putfield 119, 3) := by decide +kernel
theorem dX5_isRead_10 : decode cX5_isRead 10 = .ok (.iconst 1, 1) := by decide +kernel
theorem dX5_isRead_11 : decode cX5_isRead 11 = .ok (.istore_n 1, 1) := by decide +kernel
theorem dX5_isRead_12 : decode cX5_isRead 12 = .ok (.iload_n 1, 1) := by decide +kernel
theorem dX5_isRead_13 : decode cX5_isRead 13 = .ok (.ifCond .eq 80, 3) := by decide +kernel
theorem dX5_isRead_16 : decode cX5_isRead 16 = .ok (.aload_n 0, 1) := by decide +kernel
theorem dX5_isRead_17 : decode cX5_isRead 17 = .ok (.invokevirtual 125, 3) := by decide +kernel
theorem dX5_isRead_20 : decode cX5_isRead 20 = .ok (.ifCond .ne 5, 3) := by decide +kernel
theorem dX5_isRead_23 : decode cX5_isRead 23 = .ok (.iconst 0, 1) := by decide +kernel
theorem dX5_isRead_24 : decode cX5_isRead 24 = .ok (.ireturn, 1) := by decide +kernel
theorem dX5_isRead_25 : decode cX5_isRead 25 = .ok (.aload_n 0, 1) := by decide +kernel
theorem dX5_isRead_26 : decode cX5_isRead 26 = .ok (.dup, 1) := by decide +kernel
theorem dX5_isRead_27 : decode cX5_isRead 27 = .ok (.getfield 119, 3) := by decide +kernel
theorem dX5_isRead_30 : decode cX5_isRead 30 = .ok (.iconst 1, 1) := by decide +kernel
theorem dX5_isRead_31 : decode cX5_isRead 31 = .ok (.iadd, 1) := by decide +kernel
theorem dX5_isRead_32 : decode cX5_isRead 32 = .ok (.putfield 119, 3) := by decide +kernel
theorem dX5_isRead_35 : decode cX5_isRead 35 = .ok (.aload_n 0, 1) := by decide +kernel
theorem dX5_isRead_36 : decode cX5_isRead 36 = .ok (.getfield 113, 3) := by decide +kernel
theorem dX5_isRead_39 : decode cX5_isRead 39 = .ok (.aload_n 0, 1) := by decide +kernel
theorem dX5_isRead_40 : decode cX5_isRead 40 = .ok (.getfield 110, 3) := by decide +kernel
theorem dX5_isRead_43 : decode cX5_isRead 43 = .ok (.if_icmp .ge 7, 3) := by decide +kernel
theorem dX5_isRead_46 : decode cX5_isRead 46 = .ok (.iconst 1, 1) := by decide +kernel
theorem dX5_isRead_47 : decode cX5_isRead 47 = .ok (.goto 4, 3) := by decide +kernel
theorem dX5_isRead_50 : decode cX5_isRead 50 = .ok (.iconst 0, 1) := by decide +kernel
theorem dX5_isRead_51 : decode cX5_isRead 51 = .ok (.istore_n 1, 1) := by decide +kernel
theorem dX5_isRead_52 : decode cX5_isRead 52 = .ok (.iload_n 1, 1) := by decide +kernel
theorem dX5_isRead_53 : decode cX5_isRead 53 = .ok (.ifCond .eq 19, 3) := by decide +kernel
theorem dX5_isRead_56 : decode cX5_isRead 56 = .ok (.aload_n 0, 1) := by decide +kernel
theorem dX5_isRead_57 : decode cX5_isRead 57 = .ok (.getfield 19, 3) := by decide +kernel
theorem dX5_isRead_60 : decode cX5_isRead 60 = .ok (.aload_n 0, 1) := by decide +kernel
theorem dX5_isRead_61 : decode cX5_isRead 61 = .ok (.getfield 113, 3) := by decide +kernel
theorem dX5_isRead_64 : decode cX5_isRead 64 = .ok (.caload, 1) := by decide +kernel
theorem dX5_isRead_65 : decode cX5_isRead 65 = .ok (.bipush 59, 2) := by decide +kernel
theorem dX5_isRead_67 : decode cX5_isRead 67 = .ok (.if_icmp .eq 5, 3) := by decide +kernel
theorem dX5_isRead_70 : decode cX5_isRead 70 = .ok (.iconst 0, 1) := by decide +kernel
theorem dX5_isRead_71 : decode cX5_isRead 71 = .ok (.ireturn, 1) := by decide +kernel
theorem dX5_isRead_72 : decode cX5_isRead 72 = .ok (.aload_n 0, 1) := by decide +kernel
theorem dX5_isRead_73 : decode cX5_isRead 73 = .ok (.dup, 1) := by decide +kernel
theorem dX5_isRead_74 : decode cX5_isRead 74 = .ok (.getfield 113, 3) := by decide +kernel
theorem dX5_isRead_77 : decode cX5_isRead 77 = .ok (.iload_n 1, 1) := by decide +kernel
theorem dX5_isRead_78 : decode cX5_isRead 78 = .ok (.ifCond .eq 7, 3) := by decide +kernel
theorem dX5_isRead_81 : decode cX5_isRead 81 = .ok (.iconst 1, 1) := by decide +kernel
theorem dX5_isRead_82 : decode cX5_isRead 82 = .ok (.goto 4, 3) := by decide +kernel
theorem dX5_isRead_85 : decode cX5_isRead 85 = .ok (.iconst 0, 1) := by decide +kernel
theorem dX5_isRead_86 : decode cX5_isRead 86 = .ok (.iadd, 1) := by decide +kernel
theorem dX5_isRead_87 : decode cX5_isRead 87 = .ok (.putfield 113, 3) := by decide +kernel
theorem dX5_isRead_90 : decode cX5_isRead 90 = .ok (.goto (-78), 3) := by decide +kernel
theorem dX5_isRead_93 : decode cX5_isRead 93 = .ok (.iconst 1, 1) := by decide +kernel
theorem dX5_isRead_94 : decode cX5_isRead 94 = .ok (.ireturn, 1) := by decide +kernel
set_option maxRecDepth 20000 in
theorem ggX5_does_X5_prepare : GoodIn wsX5_does wsX5_prepare := goodIn_r _ [6, 7, 8, 9, 5, 10, 11, 12, 13, 14, 15, 16, 17, 18, 19, 20, 21, 22, 23, 24, 25, 26, 102, 103, 104, 105, 106, 107, 108, 109, 110, 111, 112, 113, 114, 115, 116] (by decide +kernel) (by decide +kernel)
set_option maxRecDepth 20000 in
theorem gX5_does_X5_prepare : GoodIn wsX5_does (wsV RX5 129 RX5 yX5_prepare wsX5_prepare) := goodIn_app (goodIn_of _ (by decide +kernel)) ggX5_does_X5_prepare
set_option maxRecDepth 20000 in
theorem ggX5_does_X5_promise : GoodIn wsX5_does wsX5_promise := goodIn_r _ [30, 7, 8, 9, 5, 10, 11, 12, 13, 31, 32, 33, 34, 35, 36, 14, 15, 16, 17, 18, 19, 20, 37, 38, 39, 40, 41, 42, 43, 24, 25, 26, 102, 103, 104, 105, 106, 107, 108, 109, 110, 111, 112, 113, 114, 115, 116] (by decide +kernel) (by decide +kernel)
set_option maxRecDepth 20000 in
theorem gX5_does_X5_promise : GoodIn wsX5_does (wsV RX5 132 RX5 yX5_promise wsX5_promise) := goodIn_app (goodIn_of _ (by decide +kernel)) ggX5_does_X5_promise
set_option maxRecDepth 20000 in
theorem ggX5_does_X5_propose : GoodIn wsX5_does wsX5_propose := goodIn_r _ [47, 7, 8, 9, 5, 10, 11, 12, 13, 48, 49, 50, 51, 52, 53, 54, 55, 56, 57, 58, 59, 60, 61, 62, 63, 64, 65, 66, 67, 68, 69, 70, 71, 72, 73, 74, 75, 76, 77, 78, 79, 80, 81, 82, 83, 84, 85, 21, 22, 23, 14, 15, 16, 17, 18, 19, 20, 86, 87, 88, 89, 24, 25, 26, 34, 35, 36, 102, 103, 104, 105, 106, 107, 108, 109, 110, 111, 112, 113, 114, 115, 116] (by decide +kernel) (by decide +kernel)
set_option maxRecDepth 20000 in
theorem gX5_does_X5_propose : GoodIn wsX5_does (wsV RX5 135 RX5 yX5_propose wsX5_propose) := goodIn_app (goodIn_of _ (by decide +kernel)) ggX5_does_X5_propose
set_option maxRecDepth 20000 in
theorem ggX5_does_X5_vote : GoodIn wsX5_does wsX5_vote := goodIn_r _ [93, 7, 8, 9, 5, 10, 11, 12, 13, 48, 49, 50, 31, 32, 33, 21, 22, 23, 51, 52, 53, 54, 75, 76, 77, 78, 63, 64, 65, 66, 34, 35, 36, 41, 42, 43, 14, 15, 16, 17, 18, 19, 20, 37, 38, 39, 40, 82, 83, 84, 85, 79, 80, 81, 102, 103, 104, 105, 106, 107, 108, 109, 110, 111, 112, 113, 114, 115, 116] (by decide +kernel) (by decide +kernel)
set_option maxRecDepth 20000 in
theorem gX5_does_X5_vote : GoodIn wsX5_does (wsV RX5 138 RX5 yX5_vote wsX5_vote) := goodIn_app (goodIn_of _ (by decide +kernel)) ggX5_does_X5_vote
set_option maxRecDepth 20000 in
theorem ggX5_does_X5_setUp : GoodIn wsX5_does wsX5_setUp := goodIn_r _ [97, 7, 31, 32, 5, 33, 11, 12, 13, 14, 15, 16, 17, 18, 19, 20, 98, 99, 100, 101, 79, 80, 81, 102, 103, 104, 105, 106, 107, 108, 109, 110, 111, 112, 113, 114, 115, 116] (by decide +kernel) (by decide +kernel)
set_option maxRecDepth 20000 in
theorem gX5_does_X5_setUp : GoodIn wsX5_does (wsV RX5 141 RX5 yX5_setUp wsX5_setUp) := goodIn_app (goodIn_of _ (by decide +kernel)) ggX5_does_X5_setUp
theorem dX5_does_0 : decode cX5_does 0 = .ok (.aload_n 0, 1) := by decide +kernel
theorem dX5_does_1 : decode cX5_does 1 = .ok (.getfield 23, 3) := by decide +kernel
theorem dX5_does_4 : decode cX5_does 4 = .ok (.iconst 5, 1) := by decide +kernel
theorem dX5_does_5 : decode cX5_does 5 = .ok (.iload_n 1, 1) := by decide +kernel
theorem dX5_does_6 : decode cX5_does 6 = .ok (.imul, 1) := by decide +kernel
theorem dX5_does_7 : decode cX5_does 7 = .ok (.iconst 1, 1) := by decide +kernel
theorem dX5_does_8 : decode cX5_does 8 = .ok (.iadd, 1) := by decide +kernel
theorem dX5_does_9 : decode cX5_does 9 = .ok (.iaload, 1) := by decide +kernel
theorem dX5_does_10 : decode cX5_does 10 = .ok (.istore_n 2, 1) := by decide +kernel
theorem dX5_does_11 : decode cX5_does 11 = .ok (.aload_n 0, 1) := by decide +kernel
theorem dX5_does_12 : decode cX5_does 12 = .ok (.getfield 23, 3) := by decide +kernel
theorem dX5_does_15 : decode cX5_does 15 = .ok (.iconst 5, 1) := by decide +kernel
theorem dX5_does_16 : decode cX5_does 16 = .ok (.iload_n 1, 1) := by decide +kernel
theorem dX5_does_17 : decode cX5_does 17 = .ok (.imul, 1) := by decide +kernel
theorem dX5_does_18 : decode cX5_does 18 = .ok (.iconst 2, 1) := by decide +kernel
theorem dX5_does_19 : decode cX5_does 19 = .ok (.iadd, 1) := by decide +kernel
theorem dX5_does_20 : decode cX5_does 20 = .ok (.iaload, 1) := by decide +kernel
theorem dX5_does_21 : decode cX5_does 21 = .ok (.istore_n 3, 1) := by decide +kernel
theorem dX5_does_22 : decode cX5_does 22 = .ok (.aload_n 0, 1) := by decide +kernel
theorem dX5_does_23 : decode cX5_does 23 = .ok (.getfield 23, 3) := by decide +kernel
theorem dX5_does_26 : decode cX5_does 26 = .ok (.iconst 5, 1) := by decide +kernel
theorem dX5_does_27 : decode cX5_does 27 = .ok (.iload_n 1, 1) := by decide +kernel
theorem dX5_does_28 : decode cX5_does 28 = .ok (.imul, 1) := by decide +kernel
theorem dX5_does_29 : decode cX5_does 29 = .ok (.iconst 3, 1) := by decide +kernel
theorem dX5_does_30 : decode cX5_does 30 = .ok (.iadd, 1) := by decide +kernel
theorem dX5_does_31 : decode cX5_does 31 = .ok (.iaload, 1) := by decide +kernel
theorem dX5_does_32 : decode cX5_does 32 = .ok (.istore 4, 2) := by decide +kernel
theorem dX5_does_34 : decode cX5_does 34 = .ok (.aload_n 0, 1) := by decide +kernel
theorem dX5_does_35 : decode cX5_does 35 = .ok (.getfield 23, 3) := by decide +kernel
theorem dX5_does_38 : decode cX5_does 38 = .ok (.iconst 5, 1) := by decide +kernel
theorem dX5_does_39 : decode cX5_does 39 = .ok (.iload_n 1, 1) := by decide +kernel
theorem dX5_does_40 : decode cX5_does 40 = .ok (.imul, 1) := by decide +kernel
theorem dX5_does_41 : decode cX5_does 41 = .ok (.iaload, 1) := by decide +kernel
theorem dX5_does_42 : decode cX5_does 42 = .ok (.lookupswitch 73 #[(97, 64), (110, 42), (118, 55), (121, 48)], 42) := by decide +kernel
theorem dX5_does_84 : decode cX5_does 84 = .ok (.aload_n 0, 1) := by decide +kernel
theorem dX5_does_85 : decode cX5_does 85 = .ok (.iload_n 2, 1) := by decide +kernel
theorem dX5_does_86 : decode cX5_does 86 = .ok (.invokevirtual 129, 3) := by decide +kernel
theorem dX5_does_89 : decode cX5_does 89 = .ok (.ireturn, 1) := by decide +kernel
theorem dX5_does_90 : decode cX5_does 90 = .ok (.aload_n 0, 1) := by decide +kernel
theorem dX5_does_91 : decode cX5_does 91 = .ok (.iload_n 2, 1) := by decide +kernel
theorem dX5_does_92 : decode cX5_does 92 = .ok (.iload_n 3, 1) := by decide +kernel
theorem dX5_does_93 : decode cX5_does 93 = .ok (.invokevirtual 132, 3) := by decide +kernel
theorem dX5_does_96 : decode cX5_does 96 = .ok (.ireturn, 1) := by decide +kernel
theorem dX5_does_97 : decode cX5_does 97 = .ok (.aload_n 0, 1) := by decide +kernel
theorem dX5_does_98 : decode cX5_does 98 = .ok (.iload_n 2, 1) := by decide +kernel
theorem dX5_does_99 : decode cX5_does 99 = .ok (.iload_n 3, 1) := by decide +kernel
theorem dX5_does_100 : decode cX5_does 100 = .ok (.iload 4, 2) := by decide +kernel
theorem dX5_does_102 : decode cX5_does 102 = .ok (.invokevirtual 135, 3) := by decide +kernel
theorem dX5_does_105 : decode cX5_does 105 = .ok (.ireturn, 1) := by decide +kernel
theorem dX5_does_106 : decode cX5_does 106 = .ok (.aload_n 0, 1) := by decide +kernel
theorem dX5_does_107 : decode cX5_does 107 = .ok (.iload_n 2, 1) := by decide +kernel
theorem dX5_does_108 : decode cX5_does 108 = .ok (.iload_n 3, 1) := by decide +kernel
theorem dX5_does_109 : decode cX5_does 109 = .ok (.iload 4, 2) := by decide +kernel
theorem dX5_does_111 : decode cX5_does 111 = .ok (.invokevirtual 138, 3) := by decide +kernel
theorem dX5_does_114 : decode cX5_does 114 = .ok (.ireturn, 1) := by decide +kernel
theorem dX5_does_115 : decode cX5_does 115 = .ok (.aload_n 0, 1) := by decide +kernel
theorem dX5_does_116 : decode cX5_does 116 = .ok (.iload_n 2, 1) := by decide +kernel
theorem dX5_does_117 : decode cX5_does 117 = .ok (.aload_n 0, 1) := by decide +kernel
theorem dX5_does_118 : decode cX5_does 118 = .ok (.getfield 23, 3) := by decide +kernel
theorem dX5_does_121 : decode cX5_does 121 = .ok (.iconst 5, 1) := by decide +kernel
theorem dX5_does_122 : decode cX5_does 122 = .ok (.iload_n 1, 1) := by decide +kernel
theorem dX5_does_123 : decode cX5_does 123 = .ok (.imul, 1) := by decide +kernel
theorem dX5_does_124 : decode cX5_does 124 = .ok (.iaload, 1) := by decide +kernel
theorem dX5_does_125 : decode cX5_does 125 = .ok (.bipush 117, 2) := by decide +kernel
theorem dX5_does_127 : decode cX5_does 127 = .ok (.if_icmp .ne 7, 3) := by decide +kernel
theorem dX5_does_130 : decode cX5_does 130 = .ok (.iconst 1, 1) := by decide +kernel
theorem dX5_does_131 : decode cX5_does 131 = .ok (.goto 4, 3) := by decide +kernel
theorem dX5_does_134 : decode cX5_does 134 = .ok (.iconst 0, 1) := by decide +kernel
theorem dX5_does_135 : decode cX5_does 135 = .ok (.invokevirtual 141, 3) := by decide +kernel
theorem dX5_does_138 : decode cX5_does 138 = .ok (.ireturn, 1) := by decide +kernel
theorem dX5_copies_0 : decode cX5_copies 0 = .ok (.iconst 0, 1) := by decide +kernel
theorem dX5_copies_1 : decode cX5_copies 1 = .ok (.istore_n 3, 1) := by decide +kernel
theorem dX5_copies_2 : decode cX5_copies 2 = .ok (.iload_n 3, 1) := by decide +kernel
theorem dX5_copies_3 : decode cX5_copies 3 = .ok (.sipush 873, 3) := by decide +kernel
theorem dX5_copies_6 : decode cX5_copies 6 = .ok (.if_icmp .ge 15, 3) := by decide +kernel
theorem dX5_copies_9 : decode cX5_copies 9 = .ok (.aload_n 2, 1) := by decide +kernel
theorem dX5_copies_10 : decode cX5_copies 10 = .ok (.iload_n 3, 1) := by decide +kernel
theorem dX5_copies_11 : decode cX5_copies 11 = .ok (.aload_n 1, 1) := by decide +kernel
theorem dX5_copies_12 : decode cX5_copies 12 = .ok (.iload_n 3, 1) := by decide +kernel
theorem dX5_copies_13 : decode cX5_copies 13 = .ok (.iaload, 1) := by decide +kernel
theorem dX5_copies_14 : decode cX5_copies 14 = .ok (.iastore, 1) := by decide +kernel
theorem dX5_copies_15 : decode cX5_copies 15 = .ok (.iinc 3 1, 3) := by decide +kernel
theorem dX5_copies_18 : decode cX5_copies 18 = .ok (.goto (-16), 3) := by decide +kernel
theorem dX5_copies_21 : decode cX5_copies 21 = .ok (.return_, 1) := by decide +kernel
set_option maxRecDepth 20000 in
theorem ggX5_perform_X5_isRead : GoodIn wsX5_perform wsX5_isRead := goodIn_r _ [14, 1, 5, 15, 16, 17, 18, 19, 13, 20, 8, 21, 22, 23, 24, 25, 26, 27, 28, 29, 30, 31, 134, 135, 136, 137, 138, 139, 140, 141, 142, 143, 144, 145, 146, 147, 148] (by decide +kernel) (by decide +kernel)
set_option maxRecDepth 20000 in
theorem gX5_perform_X5_isRead : GoodIn wsX5_perform (wsV RX5 145 RX5 yX5_isRead wsX5_isRead) := goodIn_app (goodIn_of _ (by decide +kernel)) ggX5_perform_X5_isRead
set_option maxRecDepth 20000 in
theorem ggX5_perform_X5_copies : GoodIn wsX5_perform wsX5_copies := goodIn_r _ [35] (by decide +kernel) (by decide +kernel)
set_option maxRecDepth 20000 in
theorem gX5_perform_X5_copies : GoodIn wsX5_perform (wsV RX5 148 RX5 yX5_copies wsX5_copies) := goodIn_app (goodIn_of _ (by decide +kernel)) ggX5_perform_X5_copies
set_option maxRecDepth 20000 in
theorem ggX5_perform_X5_does : GoodIn wsX5_perform wsX5_does := goodIn_r _ [39, 8, 40, 41, 42, 13, 43, 2, 44, 45, 46, 29, 30, 31, 47, 48, 49, 50, 4, 51, 52, 53, 54, 55, 56, 57, 58, 59, 60, 61, 62, 63, 64, 65, 66, 67, 68, 69, 70, 71, 72, 73, 74, 75, 76, 77, 78, 79, 80, 81, 82, 83, 84, 85, 86, 87, 88, 89, 90, 91, 92, 93, 94, 95, 96, 97, 98, 99, 100, 101, 102, 103, 104, 105, 106, 107, 108, 109, 110, 111, 112, 113, 114, 115, 116, 117, 118, 119, 120, 121, 122, 123, 124, 125, 126, 127, 128, 129, 130, 131, 132, 133, 134, 135, 136, 137, 138, 139, 140, 141, 142, 143, 144, 145, 146, 147, 148] (by decide +kernel) (by decide +kernel)
set_option maxRecDepth 20000 in
theorem gX5_perform_X5_does : GoodIn wsX5_perform (wsV RX5 152 RX5 yX5_does wsX5_does) := goodIn_app (goodIn_of _ (by decide +kernel)) ggX5_perform_X5_does
set_option maxRecDepth 20000 in
theorem ggX5_perform_X5_record : GoodIn wsX5_perform wsX5_record := goodIn_r _ [50, 4, 51, 52, 2, 134, 135, 136, 137, 138, 139, 140, 141, 142, 143, 144, 145, 146, 147, 148] (by decide +kernel) (by decide +kernel)
set_option maxRecDepth 20000 in
theorem gX5_perform_X5_record : GoodIn wsX5_perform (wsV RX5 65 RX5 yX5_record wsX5_record) := goodIn_app (goodIn_of _ (by decide +kernel)) ggX5_perform_X5_record
theorem dX5_perform_0 : decode cX5_perform 0 = .ok (.aload_n 0, 1) := by decide +kernel
theorem dX5_perform_1 : decode cX5_perform 1 = .ok (.invokevirtual 145, 3) := by decide +kernel
theorem dX5_perform_4 : decode cX5_perform 4 = .ok (.ifCond .ne 11, 3) := by decide +kernel
theorem dX5_perform_7 : decode cX5_perform 7 = .ok (.bipush (-100), 2) := by decide +kernel
theorem dX5_perform_9 : decode cX5_perform 9 = .ok (.aload_n 0, 1) := by decide +kernel
theorem dX5_perform_10 : decode cX5_perform 10 = .ok (.getfield 113, 3) := by decide +kernel
theorem dX5_perform_13 : decode cX5_perform 13 = .ok (.isub, 1) := by decide +kernel
theorem dX5_perform_14 : decode cX5_perform 14 = .ok (.ireturn, 1) := by decide +kernel
theorem dX5_perform_15 : decode cX5_perform 15 = .ok (.aload_n 0, 1) := by decide +kernel
theorem dX5_perform_16 : decode cX5_perform 16 = .ok (.aload_n 0, 1) := by decide +kernel
theorem dX5_perform_17 : decode cX5_perform 17 = .ok (.getfield 7, 3) := by decide +kernel
theorem dX5_perform_20 : decode cX5_perform 20 = .ok (.aload_n 0, 1) := by decide +kernel
theorem dX5_perform_21 : decode cX5_perform 21 = .ok (.getfield 30, 3) := by decide +kernel
theorem dX5_perform_24 : decode cX5_perform 24 = .ok (.invokevirtual 148, 3) := by decide +kernel
theorem dX5_perform_27 : decode cX5_perform 27 = .ok (.aload_n 0, 1) := by decide +kernel
theorem dX5_perform_28 : decode cX5_perform 28 = .ok (.iconst 1, 1) := by decide +kernel
theorem dX5_perform_29 : decode cX5_perform 29 = .ok (.putfield 37, 3) := by decide +kernel
theorem dX5_perform_32 : decode cX5_perform 32 = .ok (.iconst 0, 1) := by decide +kernel
theorem dX5_perform_33 : decode cX5_perform 33 = .ok (.istore_n 1, 1) := by decide +kernel
theorem dX5_perform_34 : decode cX5_perform 34 = .ok (.iconst 0, 1) := by decide +kernel
theorem dX5_perform_35 : decode cX5_perform 35 = .ok (.istore_n 2, 1) := by decide +kernel
theorem dX5_perform_36 : decode cX5_perform 36 = .ok (.iload_n 2, 1) := by decide +kernel
theorem dX5_perform_37 : decode cX5_perform 37 = .ok (.aload_n 0, 1) := by decide +kernel
theorem dX5_perform_38 : decode cX5_perform 38 = .ok (.getfield 119, 3) := by decide +kernel
theorem dX5_perform_41 : decode cX5_perform 41 = .ok (.if_icmp .ge 25, 3) := by decide +kernel
theorem dX5_perform_44 : decode cX5_perform 44 = .ok (.iload_n 1, 1) := by decide +kernel
theorem dX5_perform_45 : decode cX5_perform 45 = .ok (.ifCond .ge 9, 3) := by decide +kernel
theorem dX5_perform_48 : decode cX5_perform 48 = .ok (.iload_n 1, 1) := by decide +kernel
theorem dX5_perform_49 : decode cX5_perform 49 = .ok (.bipush (-5), 2) := by decide +kernel
theorem dX5_perform_51 : decode cX5_perform 51 = .ok (.if_icmp .ne 15, 3) := by decide +kernel
theorem dX5_perform_54 : decode cX5_perform 54 = .ok (.aload_n 0, 1) := by decide +kernel
theorem dX5_perform_55 : decode cX5_perform 55 = .ok (.iload_n 2, 1) := by decide +kernel
theorem dX5_perform_56 : decode cX5_perform 56 = .ok (.invokevirtual 152, 3) := by decide +kernel
theorem dX5_perform_59 : decode cX5_perform 59 = .ok (.istore_n 1, 1) := by decide +kernel
theorem dX5_perform_60 : decode cX5_perform 60 = .ok (.iinc 2 1, 3) := by decide +kernel
theorem dX5_perform_63 : decode cX5_perform 63 = .ok (.goto (-27), 3) := by decide +kernel
theorem dX5_perform_66 : decode cX5_perform 66 = .ok (.aload_n 0, 1) := by decide +kernel
theorem dX5_perform_67 : decode cX5_perform 67 = .ok (.iconst 0, 1) := by decide +kernel
theorem dX5_perform_68 : decode cX5_perform 68 = .ok (.putfield 37, 3) := by decide +kernel
theorem dX5_perform_71 : decode cX5_perform 71 = .ok (.iload_n 1, 1) := by decide +kernel
theorem dX5_perform_72 : decode cX5_perform 72 = .ok (.ifCond .ge 53, 3) := by decide +kernel
theorem dX5_perform_75 : decode cX5_perform 75 = .ok (.iload_n 1, 1) := by decide +kernel
theorem dX5_perform_76 : decode cX5_perform 76 = .ok (.bipush (-5), 2) := by decide +kernel
theorem dX5_perform_78 : decode cX5_perform 78 = .ok (.if_icmp .eq 47, 3) := by decide +kernel
theorem dX5_perform_81 : decode cX5_perform 81 = .ok (.aload_n 0, 1) := by decide +kernel
theorem dX5_perform_82 : decode cX5_perform 82 = .ok (.aload_n 0, 1) := by decide +kernel
theorem dX5_perform_83 : decode cX5_perform 83 = .ok (.getfield 30, 3) := by decide +kernel
theorem dX5_perform_86 : decode cX5_perform 86 = .ok (.aload_n 0, 1) := by decide +kernel
theorem dX5_perform_87 : decode cX5_perform 87 = .ok (.getfield 7, 3) := by decide +kernel
theorem dX5_perform_90 : decode cX5_perform 90 = .ok (.invokevirtual 148, 3) := by decide +kernel
theorem dX5_perform_93 : decode cX5_perform 93 = .ok (.aload_n 0, 1) := by decide +kernel
theorem dX5_perform_94 : decode cX5_perform 94 = .ok (.iload_n 2, 1) := by decide +kernel
theorem dX5_perform_95 : decode cX5_perform 95 = .ok (.iconst 1, 1) := by decide +kernel
theorem dX5_perform_96 : decode cX5_perform 96 = .ok (.isub, 1) := by decide +kernel
theorem dX5_perform_97 : decode cX5_perform 97 = .ok (.putfield 26, 3) := by decide +kernel
theorem dX5_perform_100 : decode cX5_perform 100 = .ok (.aload_n 0, 1) := by decide +kernel
theorem dX5_perform_101 : decode cX5_perform 101 = .ok (.iload_n 1, 1) := by decide +kernel
theorem dX5_perform_102 : decode cX5_perform 102 = .ok (.putfield 155, 3) := by decide +kernel
theorem dX5_perform_105 : decode cX5_perform 105 = .ok (.aload_n 0, 1) := by decide +kernel
theorem dX5_perform_106 : decode cX5_perform 106 = .ok (.aload_n 0, 1) := by decide +kernel
theorem dX5_perform_107 : decode cX5_perform 107 = .ok (.getfield 23, 3) := by decide +kernel
theorem dX5_perform_110 : decode cX5_perform 110 = .ok (.iconst 5, 1) := by decide +kernel
theorem dX5_perform_111 : decode cX5_perform 111 = .ok (.aload_n 0, 1) := by decide +kernel
theorem dX5_perform_112 : decode cX5_perform 112 = .ok (.getfield 26, 3) := by decide +kernel
theorem dX5_perform_115 : decode cX5_perform 115 = .ok (.imul, 1) := by decide +kernel
theorem dX5_perform_116 : decode cX5_perform 116 = .ok (.iconst 4, 1) := by decide +kernel
theorem dX5_perform_117 : decode cX5_perform 117 = .ok (.iadd, 1) := by decide +kernel
theorem dX5_perform_118 : decode cX5_perform 118 = .ok (.iaload, 1) := by decide +kernel
theorem dX5_perform_119 : decode cX5_perform 119 = .ok (.putfield 158, 3) := by decide +kernel
theorem dX5_perform_122 : decode cX5_perform 122 = .ok (.bipush (-4), 2) := by decide +kernel
theorem dX5_perform_124 : decode cX5_perform 124 = .ok (.ireturn, 1) := by decide +kernel
theorem dX5_perform_125 : decode cX5_perform 125 = .ok (.iconst 0, 1) := by decide +kernel
theorem dX5_perform_126 : decode cX5_perform 126 = .ok (.istore_n 3, 1) := by decide +kernel
theorem dX5_perform_127 : decode cX5_perform 127 = .ok (.iload_n 3, 1) := by decide +kernel
theorem dX5_perform_128 : decode cX5_perform 128 = .ok (.sipush 873, 3) := by decide +kernel
theorem dX5_perform_131 : decode cX5_perform 131 = .ok (.if_icmp .ge 37, 3) := by decide +kernel
theorem dX5_perform_134 : decode cX5_perform 134 = .ok (.aload_n 0, 1) := by decide +kernel
theorem dX5_perform_135 : decode cX5_perform 135 = .ok (.getfield 7, 3) := by decide +kernel
theorem dX5_perform_138 : decode cX5_perform 138 = .ok (.iload_n 3, 1) := by decide +kernel
theorem dX5_perform_139 : decode cX5_perform 139 = .ok (.iaload, 1) := by decide +kernel
theorem dX5_perform_140 : decode cX5_perform 140 = .ok (.istore 4, 2) := by decide +kernel
theorem dX5_perform_142 : decode cX5_perform 142 = .ok (.aload_n 0, 1) := by decide +kernel
theorem dX5_perform_143 : decode cX5_perform 143 = .ok (.getfield 7, 3) := by decide +kernel
theorem dX5_perform_146 : decode cX5_perform 146 = .ok (.iload_n 3, 1) := by decide +kernel
theorem dX5_perform_147 : decode cX5_perform 147 = .ok (.aload_n 0, 1) := by decide +kernel
theorem dX5_perform_148 : decode cX5_perform 148 = .ok (.getfield 30, 3) := by decide +kernel
theorem dX5_perform_151 : decode cX5_perform 151 = .ok (.iload_n 3, 1) := by decide +kernel
theorem dX5_perform_152 : decode cX5_perform 152 = .ok (.iaload, 1) := by decide +kernel
theorem dX5_perform_153 : decode cX5_perform 153 = .ok (.iastore, 1) := by decide +kernel
theorem dX5_perform_154 : decode cX5_perform 154 = .ok (.aload_n 0, 1) := by decide +kernel
theorem dX5_perform_155 : decode cX5_perform 155 = .ok (.getfield 30, 3) := by decide +kernel
theorem dX5_perform_158 : decode cX5_perform 158 = .ok (.iload_n 3, 1) := by decide +kernel
theorem dX5_perform_159 : decode cX5_perform 159 = .ok (.iload 4, 2) := by decide +kernel
theorem dX5_perform_161 : decode cX5_perform 161 = .ok (.iastore, 1) := by decide +kernel
theorem dX5_perform_162 : decode cX5_perform 162 = .ok (.iinc 3 1, 3) := by decide +kernel
theorem dX5_perform_165 : decode cX5_perform 165 = .ok (.goto (-38), 3) := by decide +kernel
theorem dX5_perform_168 : decode cX5_perform 168 = .ok (.aload_n 0, 1) := by decide +kernel
theorem dX5_perform_169 : decode cX5_perform 169 = .ok (.invokevirtual 65, 3) := by decide +kernel
theorem dX5_perform_172 : decode cX5_perform 172 = .ok (.aload_n 0, 1) := by decide +kernel
theorem dX5_perform_173 : decode cX5_perform 173 = .ok (.aload_n 0, 1) := by decide +kernel
theorem dX5_perform_174 : decode cX5_perform 174 = .ok (.getfield 30, 3) := by decide +kernel
theorem dX5_perform_177 : decode cX5_perform 177 = .ok (.aload_n 0, 1) := by decide +kernel
theorem dX5_perform_178 : decode cX5_perform 178 = .ok (.getfield 7, 3) := by decide +kernel
theorem dX5_perform_181 : decode cX5_perform 181 = .ok (.invokevirtual 148, 3) := by decide +kernel
theorem dX5_perform_184 : decode cX5_perform 184 = .ok (.aload_n 0, 1) := by decide +kernel
theorem dX5_perform_185 : decode cX5_perform 185 = .ok (.getfield 119, 3) := by decide +kernel
theorem dX5_perform_188 : decode cX5_perform 188 = .ok (.ireturn, 1) := by decide +kernel
set_option maxRecDepth 20000 in
theorem ggX5_refusal_X5_in : GoodIn wsX5_refusal wsX5_in := goodIn_r _ [7] (by decide +kernel) (by decide +kernel)
set_option maxRecDepth 20000 in
theorem gX5_refusal_X5_in : GoodIn wsX5_refusal (va_wsS RX5 33 yX5_in wsX5_in) := goodIn_app (goodIn_of _ (by decide +kernel)) ggX5_refusal_X5_in
theorem dX5_refusal_0 : decode cX5_refusal 0 = .ok (.iload_n 1, 1) := by decide +kernel
theorem dX5_refusal_1 : decode cX5_refusal 1 = .ok (.iconst 0, 1) := by decide +kernel
theorem dX5_refusal_2 : decode cX5_refusal 2 = .ok (.iconst 2, 1) := by decide +kernel
theorem dX5_refusal_3 : decode cX5_refusal 3 = .ok (.invokestatic 33, 3) := by decide +kernel
theorem dX5_refusal_6 : decode cX5_refusal 6 = .ok (.ifCond .ne 6, 3) := by decide +kernel
theorem dX5_refusal_9 : decode cX5_refusal 9 = .ok (.bipush (-2), 2) := by decide +kernel
theorem dX5_refusal_11 : decode cX5_refusal 11 = .ok (.ireturn, 1) := by decide +kernel
theorem dX5_refusal_12 : decode cX5_refusal 12 = .ok (.aload_n 0, 1) := by decide +kernel
theorem dX5_refusal_13 : decode cX5_refusal 13 = .ok (.getfield 26, 3) := by decide +kernel
theorem dX5_refusal_16 : decode cX5_refusal 16 = .ok (.ifCond .ge 8, 3) := by decide +kernel
theorem dX5_refusal_19 : decode cX5_refusal 19 = .ok (.bipush (-5), 2) := by decide +kernel
theorem dX5_refusal_21 : decode cX5_refusal 21 = .ok (.goto 30, 3) := by decide +kernel
theorem dX5_refusal_24 : decode cX5_refusal 24 = .ok (.iload_n 1, 1) := by decide +kernel
theorem dX5_refusal_25 : decode cX5_refusal 25 = .ok (.ifCond .ne 10, 3) := by decide +kernel
theorem dX5_refusal_28 : decode cX5_refusal 28 = .ok (.aload_n 0, 1) := by decide +kernel
theorem dX5_refusal_29 : decode cX5_refusal 29 = .ok (.getfield 26, 3) := by decide +kernel
theorem dX5_refusal_32 : decode cX5_refusal 32 = .ok (.goto 19, 3) := by decide +kernel
theorem dX5_refusal_35 : decode cX5_refusal 35 = .ok (.iload_n 1, 1) := by decide +kernel
theorem dX5_refusal_36 : decode cX5_refusal 36 = .ok (.iconst 1, 1) := by decide +kernel
theorem dX5_refusal_37 : decode cX5_refusal 37 = .ok (.if_icmp .ne 10, 3) := by decide +kernel
theorem dX5_refusal_40 : decode cX5_refusal 40 = .ok (.aload_n 0, 1) := by decide +kernel
theorem dX5_refusal_41 : decode cX5_refusal 41 = .ok (.getfield 155, 3) := by decide +kernel
theorem dX5_refusal_44 : decode cX5_refusal 44 = .ok (.goto 7, 3) := by decide +kernel
theorem dX5_refusal_47 : decode cX5_refusal 47 = .ok (.aload_n 0, 1) := by decide +kernel
theorem dX5_refusal_48 : decode cX5_refusal 48 = .ok (.getfield 158, 3) := by decide +kernel
theorem dX5_refusal_51 : decode cX5_refusal 51 = .ok (.ireturn, 1) := by decide +kernel
theorem dX5_undo_0 : decode cX5_undo 0 = .ok (.aload_n 0, 1) := by decide +kernel
theorem dX5_undo_1 : decode cX5_undo 1 = .ok (.getfield 41, 3) := by decide +kernel
theorem dX5_undo_4 : decode cX5_undo 4 = .ok (.ifCond .ne 6, 3) := by decide +kernel
theorem dX5_undo_7 : decode cX5_undo 7 = .ok (.bipush (-5), 2) := by decide +kernel
theorem dX5_undo_9 : decode cX5_undo 9 = .ok (.ireturn, 1) := by decide +kernel
theorem dX5_undo_10 : decode cX5_undo 10 = .ok (.aload_n 0, 1) := by decide +kernel
theorem dX5_undo_11 : decode cX5_undo 11 = .ok (.dup, 1) := by decide +kernel
theorem dX5_undo_12 : decode cX5_undo 12 = .ok (.getfield 41, 3) := by decide +kernel
theorem dX5_undo_15 : decode cX5_undo 15 = .ok (.iconst 1, 1) := by decide +kernel
theorem dX5_undo_16 : decode cX5_undo 16 = .ok (.isub, 1) := by decide +kernel
theorem dX5_undo_17 : decode cX5_undo 17 = .ok (.putfield 41, 3) := by decide +kernel
theorem dX5_undo_20 : decode cX5_undo 20 = .ok (.iconst 0, 1) := by decide +kernel
theorem dX5_undo_21 : decode cX5_undo 21 = .ok (.istore_n 1, 1) := by decide +kernel
theorem dX5_undo_22 : decode cX5_undo 22 = .ok (.iload_n 1, 1) := by decide +kernel
theorem dX5_undo_23 : decode cX5_undo 23 = .ok (.sipush 873, 3) := by decide +kernel
theorem dX5_undo_26 : decode cX5_undo 26 = .ok (.if_icmp .ge 30, 3) := by decide +kernel
theorem dX5_undo_29 : decode cX5_undo 29 = .ok (.aload_n 0, 1) := by decide +kernel
theorem dX5_undo_30 : decode cX5_undo 30 = .ok (.getfield 7, 3) := by decide +kernel
theorem dX5_undo_33 : decode cX5_undo 33 = .ok (.iload_n 1, 1) := by decide +kernel
theorem dX5_undo_34 : decode cX5_undo 34 = .ok (.aload_n 0, 1) := by decide +kernel
theorem dX5_undo_35 : decode cX5_undo 35 = .ok (.getfield 13, 3) := by decide +kernel
theorem dX5_undo_38 : decode cX5_undo 38 = .ok (.sipush 873, 3) := by decide +kernel
theorem dX5_undo_41 : decode cX5_undo 41 = .ok (.aload_n 0, 1) := by decide +kernel
theorem dX5_undo_42 : decode cX5_undo 42 = .ok (.getfield 41, 3) := by decide +kernel
theorem dX5_undo_45 : decode cX5_undo 45 = .ok (.imul, 1) := by decide +kernel
theorem dX5_undo_46 : decode cX5_undo 46 = .ok (.iload_n 1, 1) := by decide +kernel
theorem dX5_undo_47 : decode cX5_undo 47 = .ok (.iadd, 1) := by decide +kernel
theorem dX5_undo_48 : decode cX5_undo 48 = .ok (.iaload, 1) := by decide +kernel
theorem dX5_undo_49 : decode cX5_undo 49 = .ok (.iastore, 1) := by decide +kernel
theorem dX5_undo_50 : decode cX5_undo 50 = .ok (.iinc 1 1, 3) := by decide +kernel
theorem dX5_undo_53 : decode cX5_undo 53 = .ok (.goto (-31), 3) := by decide +kernel
theorem dX5_undo_56 : decode cX5_undo 56 = .ok (.aload_n 0, 1) := by decide +kernel
theorem dX5_undo_57 : decode cX5_undo 57 = .ok (.getfield 41, 3) := by decide +kernel
theorem dX5_undo_60 : decode cX5_undo 60 = .ok (.ireturn, 1) := by decide +kernel
set_option maxRecDepth 20000 in
theorem ggX5_keep_X5_copies : GoodIn wsX5_keep wsX5_copies := goodIn_r _ [8] (by decide +kernel) (by decide +kernel)
set_option maxRecDepth 20000 in
theorem gX5_keep_X5_copies : GoodIn wsX5_keep (wsV RX5 148 RX5 yX5_copies wsX5_copies) := goodIn_app (goodIn_of _ (by decide +kernel)) ggX5_keep_X5_copies
set_option maxRecDepth 20000 in
theorem ggX5_keep_X5_prefix : GoodIn wsX5_keep wsX5_prefix := goodIn_r _ [12, 13, 14, 15, 7, 16, 1, 17, 18, 19, 20, 21, 22, 23, 24, 25, 26, 27, 28, 29, 30, 31] (by decide +kernel) (by decide +kernel)
set_option maxRecDepth 20000 in
theorem gX5_keep_X5_prefix : GoodIn wsX5_keep (wsV RX5 48 RX5 yX5_prefix wsX5_prefix) := goodIn_app (goodIn_of _ (by decide +kernel)) ggX5_keep_X5_prefix
theorem dX5_keep_0 : decode cX5_keep 0 = .ok (.aload_n 0, 1) := by decide +kernel
theorem dX5_keep_1 : decode cX5_keep 1 = .ok (.aload_n 0, 1) := by decide +kernel
theorem dX5_keep_2 : decode cX5_keep 2 = .ok (.getfield 7, 3) := by decide +kernel
theorem dX5_keep_5 : decode cX5_keep 5 = .ok (.aload_n 0, 1) := by decide +kernel
theorem dX5_keep_6 : decode cX5_keep 6 = .ok (.getfield 16, 3) := by decide +kernel
theorem dX5_keep_9 : decode cX5_keep 9 = .ok (.invokevirtual 148, 3) := by decide +kernel
theorem dX5_keep_12 : decode cX5_keep 12 = .ok (.aload_n 0, 1) := by decide +kernel
theorem dX5_keep_13 : decode cX5_keep 13 = .ok (.iconst 1, 1) := by decide +kernel
theorem dX5_keep_14 : decode cX5_keep 14 = .ok (.putfield 161, 3) := by decide +kernel
theorem dX5_keep_17 : decode cX5_keep 17 = .ok (.aload_n 0, 1) := by decide +kernel
theorem dX5_keep_18 : decode cX5_keep 18 = .ok (.invokevirtual 48, 3) := by decide +kernel
theorem dX5_keep_21 : decode cX5_keep 21 = .ok (.ireturn, 1) := by decide +kernel
set_option maxRecDepth 20000 in
theorem ggX5_restore_X5_record : GoodIn wsX5_restore wsX5_record := goodIn_r _ [8, 9, 10, 11, 3, 24, 25, 26, 27, 28, 29, 30, 31, 32, 33, 34, 35, 36, 37, 38] (by decide +kernel) (by decide +kernel)
set_option maxRecDepth 20000 in
theorem gX5_restore_X5_record : GoodIn wsX5_restore (wsV RX5 65 RX5 yX5_record wsX5_record) := goodIn_app (goodIn_of _ (by decide +kernel)) ggX5_restore_X5_record
set_option maxRecDepth 20000 in
theorem ggX5_restore_X5_copies : GoodIn wsX5_restore wsX5_copies := goodIn_r _ [15] (by decide +kernel) (by decide +kernel)
set_option maxRecDepth 20000 in
theorem gX5_restore_X5_copies : GoodIn wsX5_restore (wsV RX5 148 RX5 yX5_copies wsX5_copies) := goodIn_app (goodIn_of _ (by decide +kernel)) ggX5_restore_X5_copies
set_option maxRecDepth 20000 in
theorem ggX5_restore_X5_prefix : GoodIn wsX5_restore wsX5_prefix := goodIn_r _ [19, 20, 21, 22, 7, 23, 3, 24, 25, 26, 27, 28, 29, 30, 31, 32, 33, 34, 35, 36, 37, 38] (by decide +kernel) (by decide +kernel)
set_option maxRecDepth 20000 in
theorem gX5_restore_X5_prefix : GoodIn wsX5_restore (wsV RX5 48 RX5 yX5_prefix wsX5_prefix) := goodIn_app (goodIn_of _ (by decide +kernel)) ggX5_restore_X5_prefix
theorem dX5_restore_0 : decode cX5_restore 0 = .ok (.aload_n 0, 1) := by decide +kernel
theorem dX5_restore_1 : decode cX5_restore 1 = .ok (.getfield 161, 3) := by decide +kernel
theorem dX5_restore_4 : decode cX5_restore 4 = .ok (.ifCond .ne 6, 3) := by decide +kernel
theorem dX5_restore_7 : decode cX5_restore 7 = .ok (.bipush (-5), 2) := by decide +kernel
theorem dX5_restore_9 : decode cX5_restore 9 = .ok (.ireturn, 1) := by decide +kernel
theorem dX5_restore_10 : decode cX5_restore 10 = .ok (.aload_n 0, 1) := by decide +kernel
theorem dX5_restore_11 : decode cX5_restore 11 = .ok (.invokevirtual 65, 3) := by decide +kernel
theorem dX5_restore_14 : decode cX5_restore 14 = .ok (.aload_n 0, 1) := by decide +kernel
theorem dX5_restore_15 : decode cX5_restore 15 = .ok (.aload_n 0, 1) := by decide +kernel
theorem dX5_restore_16 : decode cX5_restore 16 = .ok (.getfield 16, 3) := by decide +kernel
theorem dX5_restore_19 : decode cX5_restore 19 = .ok (.aload_n 0, 1) := by decide +kernel
theorem dX5_restore_20 : decode cX5_restore 20 = .ok (.getfield 7, 3) := by decide +kernel
theorem dX5_restore_23 : decode cX5_restore 23 = .ok (.invokevirtual 148, 3) := by decide +kernel
theorem dX5_restore_26 : decode cX5_restore 26 = .ok (.aload_n 0, 1) := by decide +kernel
theorem dX5_restore_27 : decode cX5_restore 27 = .ok (.invokevirtual 48, 3) := by decide +kernel
theorem dX5_restore_30 : decode cX5_restore 30 = .ok (.ireturn, 1) := by decide +kernel
set_option maxRecDepth 20000 in
theorem ggX5_votes_X5_voteAt : GoodIn wsX5_votes wsX5_voteAt := goodIn_r _ [5] (by decide +kernel) (by decide +kernel)
set_option maxRecDepth 20000 in
theorem gX5_votes_X5_voteAt : GoodIn wsX5_votes (va_wsS RX5 89 yX5_voteAt wsX5_voteAt) := goodIn_app (goodIn_of _ (by decide +kernel)) ggX5_votes_X5_voteAt
theorem dX5_votes_0 : decode cX5_votes 0 = .ok (.iconst 0, 1) := by decide +kernel
theorem dX5_votes_1 : decode cX5_votes 1 = .ok (.istore_n 2, 1) := by decide +kernel
theorem dX5_votes_2 : decode cX5_votes 2 = .ok (.iconst 1, 1) := by decide +kernel
theorem dX5_votes_3 : decode cX5_votes 3 = .ok (.istore_n 3, 1) := by decide +kernel
theorem dX5_votes_4 : decode cX5_votes 4 = .ok (.iload_n 3, 1) := by decide +kernel
theorem dX5_votes_5 : decode cX5_votes 5 = .ok (.bipush 16, 2) := by decide +kernel
theorem dX5_votes_7 : decode cX5_votes 7 = .ok (.if_icmp .gt 30, 3) := by decide +kernel
theorem dX5_votes_10 : decode cX5_votes 10 = .ok (.iload_n 2, 1) := by decide +kernel
theorem dX5_votes_11 : decode cX5_votes 11 = .ok (.aload_n 0, 1) := by decide +kernel
theorem dX5_votes_12 : decode cX5_votes 12 = .ok (.getfield 7, 3) := by decide +kernel
theorem dX5_votes_15 : decode cX5_votes 15 = .ok (.iload_n 1, 1) := by decide +kernel
theorem dX5_votes_16 : decode cX5_votes 16 = .ok (.iload_n 3, 1) := by decide +kernel
theorem dX5_votes_17 : decode cX5_votes 17 = .ok (.invokestatic 89, 3) := by decide +kernel
theorem dX5_votes_20 : decode cX5_votes 20 = .ok (.iaload, 1) := by decide +kernel
theorem dX5_votes_21 : decode cX5_votes 21 = .ok (.ifCond .le 7, 3) := by decide +kernel
theorem dX5_votes_24 : decode cX5_votes 24 = .ok (.iconst 1, 1) := by decide +kernel
theorem dX5_votes_25 : decode cX5_votes 25 = .ok (.goto 4, 3) := by decide +kernel
theorem dX5_votes_28 : decode cX5_votes 28 = .ok (.iconst 0, 1) := by decide +kernel
theorem dX5_votes_29 : decode cX5_votes 29 = .ok (.iadd, 1) := by decide +kernel
theorem dX5_votes_30 : decode cX5_votes 30 = .ok (.istore_n 2, 1) := by decide +kernel
theorem dX5_votes_31 : decode cX5_votes 31 = .ok (.iinc 3 1, 3) := by decide +kernel
theorem dX5_votes_34 : decode cX5_votes 34 = .ok (.goto (-30), 3) := by decide +kernel
theorem dX5_votes_37 : decode cX5_votes 37 = .ok (.iload_n 2, 1) := by decide +kernel
theorem dX5_votes_38 : decode cX5_votes 38 = .ok (.ireturn, 1) := by decide +kernel
set_option maxRecDepth 20000 in
theorem ggX5_acceptor_X5_noAcceptor : GoodIn wsX5_acceptor wsX5_noAcceptor := goodIn_r _ [5, 6, 7, 4, 8] (by decide +kernel) (by decide +kernel)
set_option maxRecDepth 20000 in
theorem gX5_acceptor_X5_noAcceptor : GoodIn wsX5_acceptor (va_wsS RX5 61 yX5_noAcceptor wsX5_noAcceptor) := goodIn_app (goodIn_of _ (by decide +kernel)) ggX5_acceptor_X5_noAcceptor
set_option maxRecDepth 20000 in
theorem ggX5_acceptor_X5_votes : GoodIn wsX5_acceptor wsX5_votes := goodIn_r _ [12, 1, 13, 14, 4, 15, 16, 17, 18, 19, 20, 21, 22, 23, 24, 25, 26, 27, 28, 29, 30] (by decide +kernel) (by decide +kernel)
set_option maxRecDepth 20000 in
theorem gX5_acceptor_X5_votes : GoodIn wsX5_acceptor (wsV RX5 164 RX5 yX5_votes wsX5_votes) := goodIn_app (goodIn_of _ (by decide +kernel)) ggX5_acceptor_X5_votes
theorem dX5_acceptor_0 : decode cX5_acceptor 0 = .ok (.iload_n 1, 1) := by decide +kernel
theorem dX5_acceptor_1 : decode cX5_acceptor 1 = .ok (.invokestatic 61, 3) := by decide +kernel
theorem dX5_acceptor_4 : decode cX5_acceptor 4 = .ok (.ifCond .eq 5, 3) := by decide +kernel
theorem dX5_acceptor_7 : decode cX5_acceptor 7 = .ok (.iconst (-1), 1) := by decide +kernel
theorem dX5_acceptor_8 : decode cX5_acceptor 8 = .ok (.ireturn, 1) := by decide +kernel
theorem dX5_acceptor_9 : decode cX5_acceptor 9 = .ok (.iload_n 2, 1) := by decide +kernel
theorem dX5_acceptor_10 : decode cX5_acceptor 10 = .ok (.tableswitch 51 0 2 #[26, 35, 45], 26) := by decide +kernel
theorem dX5_acceptor_36 : decode cX5_acceptor 36 = .ok (.aload_n 0, 1) := by decide +kernel
theorem dX5_acceptor_37 : decode cX5_acceptor 37 = .ok (.getfield 7, 3) := by decide +kernel
theorem dX5_acceptor_40 : decode cX5_acceptor 40 = .ok (.iconst 0, 1) := by decide +kernel
theorem dX5_acceptor_41 : decode cX5_acceptor 41 = .ok (.iload_n 1, 1) := by decide +kernel
theorem dX5_acceptor_42 : decode cX5_acceptor 42 = .ok (.iadd, 1) := by decide +kernel
theorem dX5_acceptor_43 : decode cX5_acceptor 43 = .ok (.iaload, 1) := by decide +kernel
theorem dX5_acceptor_44 : decode cX5_acceptor 44 = .ok (.ireturn, 1) := by decide +kernel
theorem dX5_acceptor_45 : decode cX5_acceptor 45 = .ok (.aload_n 0, 1) := by decide +kernel
theorem dX5_acceptor_46 : decode cX5_acceptor 46 = .ok (.getfield 7, 3) := by decide +kernel
theorem dX5_acceptor_49 : decode cX5_acceptor 49 = .ok (.bipush 6, 2) := by decide +kernel
theorem dX5_acceptor_51 : decode cX5_acceptor 51 = .ok (.iload_n 1, 1) := by decide +kernel
theorem dX5_acceptor_52 : decode cX5_acceptor 52 = .ok (.iadd, 1) := by decide +kernel
theorem dX5_acceptor_53 : decode cX5_acceptor 53 = .ok (.iaload, 1) := by decide +kernel
theorem dX5_acceptor_54 : decode cX5_acceptor 54 = .ok (.ireturn, 1) := by decide +kernel
theorem dX5_acceptor_55 : decode cX5_acceptor 55 = .ok (.aload_n 0, 1) := by decide +kernel
theorem dX5_acceptor_56 : decode cX5_acceptor 56 = .ok (.iload_n 1, 1) := by decide +kernel
theorem dX5_acceptor_57 : decode cX5_acceptor 57 = .ok (.invokevirtual 164, 3) := by decide +kernel
theorem dX5_acceptor_60 : decode cX5_acceptor 60 = .ok (.ireturn, 1) := by decide +kernel
theorem dX5_acceptor_61 : decode cX5_acceptor 61 = .ok (.bipush (-2), 2) := by decide +kernel
theorem dX5_acceptor_63 : decode cX5_acceptor 63 = .ok (.ireturn, 1) := by decide +kernel
set_option maxRecDepth 20000 in
theorem ggX5_voted_X5_noAcceptor : GoodIn wsX5_voted wsX5_noAcceptor := goodIn_r _ [5, 6, 7, 4, 8] (by decide +kernel) (by decide +kernel)
set_option maxRecDepth 20000 in
theorem gX5_voted_X5_noAcceptor : GoodIn wsX5_voted (va_wsS RX5 61 yX5_noAcceptor wsX5_noAcceptor) := goodIn_app (goodIn_of _ (by decide +kernel)) ggX5_voted_X5_noAcceptor
set_option maxRecDepth 20000 in
theorem ggX5_voted_X5_noSlot : GoodIn wsX5_voted wsX5_noSlot := goodIn_r _ [11, 6, 7, 4, 8] (by decide +kernel) (by decide +kernel)
set_option maxRecDepth 20000 in
theorem gX5_voted_X5_noSlot : GoodIn wsX5_voted (va_wsS RX5 95 yX5_noSlot wsX5_noSlot) := goodIn_app (goodIn_of _ (by decide +kernel)) ggX5_voted_X5_noSlot
set_option maxRecDepth 20000 in
theorem ggX5_voted_X5_in : GoodIn wsX5_voted wsX5_in := goodIn_r _ [8] (by decide +kernel) (by decide +kernel)
set_option maxRecDepth 20000 in
theorem gX5_voted_X5_in : GoodIn wsX5_voted (va_wsS RX5 33 yX5_in wsX5_in) := goodIn_app (goodIn_of _ (by decide +kernel)) ggX5_voted_X5_in
set_option maxRecDepth 20000 in
theorem ggX5_voted_X5_voteAt : GoodIn wsX5_voted wsX5_voteAt := goodIn_r _ [14] (by decide +kernel) (by decide +kernel)
set_option maxRecDepth 20000 in
theorem gX5_voted_X5_voteAt : GoodIn wsX5_voted (va_wsS RX5 89 yX5_voteAt wsX5_voteAt) := goodIn_app (goodIn_of _ (by decide +kernel)) ggX5_voted_X5_voteAt
theorem dX5_voted_0 : decode cX5_voted 0 = .ok (.iload_n 1, 1) := by decide +kernel
theorem dX5_voted_1 : decode cX5_voted 1 = .ok (.invokestatic 61, 3) := by decide +kernel
theorem dX5_voted_4 : decode cX5_voted 4 = .ok (.ifCond .ne 10, 3) := by decide +kernel
theorem dX5_voted_7 : decode cX5_voted 7 = .ok (.iload_n 2, 1) := by decide +kernel
theorem dX5_voted_8 : decode cX5_voted 8 = .ok (.invokestatic 95, 3) := by decide +kernel
theorem dX5_voted_11 : decode cX5_voted 11 = .ok (.ifCond .eq 5, 3) := by decide +kernel
theorem dX5_voted_14 : decode cX5_voted 14 = .ok (.iconst (-1), 1) := by decide +kernel
theorem dX5_voted_15 : decode cX5_voted 15 = .ok (.ireturn, 1) := by decide +kernel
theorem dX5_voted_16 : decode cX5_voted 16 = .ok (.iload_n 3, 1) := by decide +kernel
theorem dX5_voted_17 : decode cX5_voted 17 = .ok (.iconst 0, 1) := by decide +kernel
theorem dX5_voted_18 : decode cX5_voted 18 = .ok (.iconst 1, 1) := by decide +kernel
theorem dX5_voted_19 : decode cX5_voted 19 = .ok (.invokestatic 33, 3) := by decide +kernel
theorem dX5_voted_22 : decode cX5_voted 22 = .ok (.ifCond .ne 6, 3) := by decide +kernel
theorem dX5_voted_25 : decode cX5_voted 25 = .ok (.bipush (-2), 2) := by decide +kernel
theorem dX5_voted_27 : decode cX5_voted 27 = .ok (.ireturn, 1) := by decide +kernel
theorem dX5_voted_28 : decode cX5_voted 28 = .ok (.iload_n 1, 1) := by decide +kernel
theorem dX5_voted_29 : decode cX5_voted 29 = .ok (.iload_n 2, 1) := by decide +kernel
theorem dX5_voted_30 : decode cX5_voted 30 = .ok (.invokestatic 89, 3) := by decide +kernel
theorem dX5_voted_33 : decode cX5_voted 33 = .ok (.istore 4, 2) := by decide +kernel
theorem dX5_voted_35 : decode cX5_voted 35 = .ok (.aload_n 0, 1) := by decide +kernel
theorem dX5_voted_36 : decode cX5_voted 36 = .ok (.getfield 7, 3) := by decide +kernel
theorem dX5_voted_39 : decode cX5_voted 39 = .ok (.iload 4, 2) := by decide +kernel
theorem dX5_voted_41 : decode cX5_voted 41 = .ok (.iaload, 1) := by decide +kernel
theorem dX5_voted_42 : decode cX5_voted 42 = .ok (.ifCond .ne 8, 3) := by decide +kernel
theorem dX5_voted_45 : decode cX5_voted 45 = .ok (.bipush (-5), 2) := by decide +kernel
theorem dX5_voted_47 : decode cX5_voted 47 = .ok (.goto 12, 3) := by decide +kernel
theorem dX5_voted_50 : decode cX5_voted 50 = .ok (.aload_n 0, 1) := by decide +kernel
theorem dX5_voted_51 : decode cX5_voted 51 = .ok (.getfield 7, 3) := by decide +kernel
theorem dX5_voted_54 : decode cX5_voted 54 = .ok (.iload 4, 2) := by decide +kernel
theorem dX5_voted_56 : decode cX5_voted 56 = .ok (.iload_n 3, 1) := by decide +kernel
theorem dX5_voted_57 : decode cX5_voted 57 = .ok (.iadd, 1) := by decide +kernel
theorem dX5_voted_58 : decode cX5_voted 58 = .ok (.iaload, 1) := by decide +kernel
theorem dX5_voted_59 : decode cX5_voted 59 = .ok (.ireturn, 1) := by decide +kernel
set_option maxRecDepth 20000 in
theorem ggX5_proposals_X5_proposedAt : GoodIn wsX5_proposals wsX5_proposedAt := goodIn_r _ [5] (by decide +kernel) (by decide +kernel)
set_option maxRecDepth 20000 in
theorem gX5_proposals_X5_proposedAt : GoodIn wsX5_proposals (va_wsS RX5 74 yX5_proposedAt wsX5_proposedAt) := goodIn_app (goodIn_of _ (by decide +kernel)) ggX5_proposals_X5_proposedAt
theorem dX5_proposals_0 : decode cX5_proposals 0 = .ok (.iconst 0, 1) := by decide +kernel
theorem dX5_proposals_1 : decode cX5_proposals 1 = .ok (.istore_n 2, 1) := by decide +kernel
theorem dX5_proposals_2 : decode cX5_proposals 2 = .ok (.iconst 1, 1) := by decide +kernel
theorem dX5_proposals_3 : decode cX5_proposals 3 = .ok (.istore_n 3, 1) := by decide +kernel
theorem dX5_proposals_4 : decode cX5_proposals 4 = .ok (.iload_n 3, 1) := by decide +kernel
theorem dX5_proposals_5 : decode cX5_proposals 5 = .ok (.bipush 16, 2) := by decide +kernel
theorem dX5_proposals_7 : decode cX5_proposals 7 = .ok (.if_icmp .gt 30, 3) := by decide +kernel
theorem dX5_proposals_10 : decode cX5_proposals 10 = .ok (.iload_n 2, 1) := by decide +kernel
theorem dX5_proposals_11 : decode cX5_proposals 11 = .ok (.aload_n 0, 1) := by decide +kernel
theorem dX5_proposals_12 : decode cX5_proposals 12 = .ok (.getfield 7, 3) := by decide +kernel
theorem dX5_proposals_15 : decode cX5_proposals 15 = .ok (.iload_n 1, 1) := by decide +kernel
theorem dX5_proposals_16 : decode cX5_proposals 16 = .ok (.iload_n 3, 1) := by decide +kernel
theorem dX5_proposals_17 : decode cX5_proposals 17 = .ok (.invokestatic 74, 3) := by decide +kernel
theorem dX5_proposals_20 : decode cX5_proposals 20 = .ok (.iaload, 1) := by decide +kernel
theorem dX5_proposals_21 : decode cX5_proposals 21 = .ok (.ifCond .le 7, 3) := by decide +kernel
theorem dX5_proposals_24 : decode cX5_proposals 24 = .ok (.iconst 1, 1) := by decide +kernel
theorem dX5_proposals_25 : decode cX5_proposals 25 = .ok (.goto 4, 3) := by decide +kernel
theorem dX5_proposals_28 : decode cX5_proposals 28 = .ok (.iconst 0, 1) := by decide +kernel
theorem dX5_proposals_29 : decode cX5_proposals 29 = .ok (.iadd, 1) := by decide +kernel
theorem dX5_proposals_30 : decode cX5_proposals 30 = .ok (.istore_n 2, 1) := by decide +kernel
theorem dX5_proposals_31 : decode cX5_proposals 31 = .ok (.iinc 3 1, 3) := by decide +kernel
theorem dX5_proposals_34 : decode cX5_proposals 34 = .ok (.goto (-30), 3) := by decide +kernel
theorem dX5_proposals_37 : decode cX5_proposals 37 = .ok (.iload_n 2, 1) := by decide +kernel
theorem dX5_proposals_38 : decode cX5_proposals 38 = .ok (.ireturn, 1) := by decide +kernel
set_option maxRecDepth 20000 in
theorem ggX5_proposer_X5_noProposer : GoodIn wsX5_proposer wsX5_noProposer := goodIn_r _ [5, 6, 7, 4, 8] (by decide +kernel) (by decide +kernel)
set_option maxRecDepth 20000 in
theorem gX5_proposer_X5_noProposer : GoodIn wsX5_proposer (va_wsS RX5 71 yX5_noProposer wsX5_noProposer) := goodIn_app (goodIn_of _ (by decide +kernel)) ggX5_proposer_X5_noProposer
set_option maxRecDepth 20000 in
theorem ggX5_proposer_X5_proposals : GoodIn wsX5_proposer wsX5_proposals := goodIn_r _ [12, 1, 13, 14, 4, 15, 16, 17, 18, 19, 20, 21, 22, 23, 24, 25, 26, 27, 28, 29, 30] (by decide +kernel) (by decide +kernel)
set_option maxRecDepth 20000 in
theorem gX5_proposer_X5_proposals : GoodIn wsX5_proposer (wsV RX5 167 RX5 yX5_proposals wsX5_proposals) := goodIn_app (goodIn_of _ (by decide +kernel)) ggX5_proposer_X5_proposals
theorem dX5_proposer_0 : decode cX5_proposer 0 = .ok (.iload_n 1, 1) := by decide +kernel
theorem dX5_proposer_1 : decode cX5_proposer 1 = .ok (.invokestatic 71, 3) := by decide +kernel
theorem dX5_proposer_4 : decode cX5_proposer 4 = .ok (.ifCond .eq 5, 3) := by decide +kernel
theorem dX5_proposer_7 : decode cX5_proposer 7 = .ok (.iconst (-1), 1) := by decide +kernel
theorem dX5_proposer_8 : decode cX5_proposer 8 = .ok (.ireturn, 1) := by decide +kernel
theorem dX5_proposer_9 : decode cX5_proposer 9 = .ok (.iload_n 2, 1) := by decide +kernel
theorem dX5_proposer_10 : decode cX5_proposer 10 = .ok (.tableswitch 69 0 3 #[30, 41, 52, 63], 30) := by decide +kernel
theorem dX5_proposer_40 : decode cX5_proposer 40 = .ok (.aload_n 0, 1) := by decide +kernel
theorem dX5_proposer_41 : decode cX5_proposer 41 = .ok (.getfield 7, 3) := by decide +kernel
theorem dX5_proposer_44 : decode cX5_proposer 44 = .ok (.sipush 204, 3) := by decide +kernel
theorem dX5_proposer_47 : decode cX5_proposer 47 = .ok (.iload_n 1, 1) := by decide +kernel
theorem dX5_proposer_48 : decode cX5_proposer 48 = .ok (.iadd, 1) := by decide +kernel
theorem dX5_proposer_49 : decode cX5_proposer 49 = .ok (.iaload, 1) := by decide +kernel
theorem dX5_proposer_50 : decode cX5_proposer 50 = .ok (.ireturn, 1) := by decide +kernel
theorem dX5_proposer_51 : decode cX5_proposer 51 = .ok (.aload_n 0, 1) := by decide +kernel
theorem dX5_proposer_52 : decode cX5_proposer 52 = .ok (.getfield 7, 3) := by decide +kernel
theorem dX5_proposer_55 : decode cX5_proposer 55 = .ok (.sipush 207, 3) := by decide +kernel
theorem dX5_proposer_58 : decode cX5_proposer 58 = .ok (.iload_n 1, 1) := by decide +kernel
theorem dX5_proposer_59 : decode cX5_proposer 59 = .ok (.iadd, 1) := by decide +kernel
theorem dX5_proposer_60 : decode cX5_proposer 60 = .ok (.iaload, 1) := by decide +kernel
theorem dX5_proposer_61 : decode cX5_proposer 61 = .ok (.ireturn, 1) := by decide +kernel
theorem dX5_proposer_62 : decode cX5_proposer 62 = .ok (.aload_n 0, 1) := by decide +kernel
theorem dX5_proposer_63 : decode cX5_proposer 63 = .ok (.getfield 7, 3) := by decide +kernel
theorem dX5_proposer_66 : decode cX5_proposer 66 = .ok (.sipush 210, 3) := by decide +kernel
theorem dX5_proposer_69 : decode cX5_proposer 69 = .ok (.iload_n 1, 1) := by decide +kernel
theorem dX5_proposer_70 : decode cX5_proposer 70 = .ok (.iadd, 1) := by decide +kernel
theorem dX5_proposer_71 : decode cX5_proposer 71 = .ok (.iaload, 1) := by decide +kernel
theorem dX5_proposer_72 : decode cX5_proposer 72 = .ok (.ireturn, 1) := by decide +kernel
theorem dX5_proposer_73 : decode cX5_proposer 73 = .ok (.aload_n 0, 1) := by decide +kernel
theorem dX5_proposer_74 : decode cX5_proposer 74 = .ok (.iload_n 1, 1) := by decide +kernel
theorem dX5_proposer_75 : decode cX5_proposer 75 = .ok (.invokevirtual 167, 3) := by decide +kernel
theorem dX5_proposer_78 : decode cX5_proposer 78 = .ok (.ireturn, 1) := by decide +kernel
theorem dX5_proposer_79 : decode cX5_proposer 79 = .ok (.bipush (-2), 2) := by decide +kernel
theorem dX5_proposer_81 : decode cX5_proposer 81 = .ok (.ireturn, 1) := by decide +kernel
set_option maxRecDepth 20000 in
theorem ggX5_proposed_X5_noProposer : GoodIn wsX5_proposed wsX5_noProposer := goodIn_r _ [5, 6, 7, 4, 8] (by decide +kernel) (by decide +kernel)
set_option maxRecDepth 20000 in
theorem gX5_proposed_X5_noProposer : GoodIn wsX5_proposed (va_wsS RX5 71 yX5_noProposer wsX5_noProposer) := goodIn_app (goodIn_of _ (by decide +kernel)) ggX5_proposed_X5_noProposer
set_option maxRecDepth 20000 in
theorem ggX5_proposed_X5_noSlot : GoodIn wsX5_proposed wsX5_noSlot := goodIn_r _ [11, 6, 7, 4, 8] (by decide +kernel) (by decide +kernel)
set_option maxRecDepth 20000 in
theorem gX5_proposed_X5_noSlot : GoodIn wsX5_proposed (va_wsS RX5 95 yX5_noSlot wsX5_noSlot) := goodIn_app (goodIn_of _ (by decide +kernel)) ggX5_proposed_X5_noSlot
set_option maxRecDepth 20000 in
theorem ggX5_proposed_X5_in : GoodIn wsX5_proposed wsX5_in := goodIn_r _ [8] (by decide +kernel) (by decide +kernel)
set_option maxRecDepth 20000 in
theorem gX5_proposed_X5_in : GoodIn wsX5_proposed (va_wsS RX5 33 yX5_in wsX5_in) := goodIn_app (goodIn_of _ (by decide +kernel)) ggX5_proposed_X5_in
set_option maxRecDepth 20000 in
theorem ggX5_proposed_X5_proposedAt : GoodIn wsX5_proposed wsX5_proposedAt := goodIn_r _ [14] (by decide +kernel) (by decide +kernel)
set_option maxRecDepth 20000 in
theorem gX5_proposed_X5_proposedAt : GoodIn wsX5_proposed (va_wsS RX5 74 yX5_proposedAt wsX5_proposedAt) := goodIn_app (goodIn_of _ (by decide +kernel)) ggX5_proposed_X5_proposedAt
set_option maxRecDepth 20000 in
theorem ggX5_proposed_X5_isOpen : GoodIn wsX5_proposed wsX5_isOpen := goodIn_r _ [18, 19, 20, 21, 4, 22, 23, 24, 25, 26, 1, 56, 57, 58, 59, 60, 61, 62, 63, 64, 65, 66, 67, 68, 69, 70] (by decide +kernel) (by decide +kernel)
set_option maxRecDepth 20000 in
theorem gX5_proposed_X5_isOpen : GoodIn wsX5_proposed (wsV RX5 101 RX5 yX5_isOpen wsX5_isOpen) := goodIn_app (goodIn_of _ (by decide +kernel)) ggX5_proposed_X5_isOpen
set_option maxRecDepth 20000 in
theorem ggX5_proposed_X5_bound : GoodIn wsX5_proposed wsX5_bound := goodIn_r _ [30, 1, 31, 32, 33, 4, 34, 23, 24, 25, 26, 35, 36, 37, 38, 39, 40, 56, 57, 58, 59, 60, 61, 62, 63, 64, 65, 66, 67, 68, 69, 70] (by decide +kernel) (by decide +kernel)
set_option maxRecDepth 20000 in
theorem gX5_proposed_X5_bound : GoodIn wsX5_proposed (wsV RX5 107 RX5 yX5_bound wsX5_bound) := goodIn_app (goodIn_of _ (by decide +kernel)) ggX5_proposed_X5_bound
set_option maxRecDepth 20000 in
theorem ggX5_proposed_X5_lacking : GoodIn wsX5_proposed wsX5_lacking := goodIn_r _ [44, 1, 45, 46, 47, 4, 48, 31, 32, 33, 34, 23, 24, 25, 26, 49, 50, 51, 52, 53, 54, 55, 56, 57, 58, 59, 60, 61, 62, 63, 64, 65, 66, 67, 68, 69, 70] (by decide +kernel) (by decide +kernel)
set_option maxRecDepth 20000 in
theorem gX5_proposed_X5_lacking : GoodIn wsX5_proposed (wsV RX5 104 RX5 yX5_lacking wsX5_lacking) := goodIn_app (goodIn_of _ (by decide +kernel)) ggX5_proposed_X5_lacking
theorem dX5_proposed_0 : decode cX5_proposed 0 = .ok (.iload_n 1, 1) := by decide +kernel
theorem dX5_proposed_1 : decode cX5_proposed 1 = .ok (.invokestatic 71, 3) := by decide +kernel
theorem dX5_proposed_4 : decode cX5_proposed 4 = .ok (.ifCond .ne 10, 3) := by decide +kernel
theorem dX5_proposed_7 : decode cX5_proposed 7 = .ok (.iload_n 2, 1) := by decide +kernel
theorem dX5_proposed_8 : decode cX5_proposed 8 = .ok (.invokestatic 95, 3) := by decide +kernel
theorem dX5_proposed_11 : decode cX5_proposed 11 = .ok (.ifCond .eq 5, 3) := by decide +kernel
theorem dX5_proposed_14 : decode cX5_proposed 14 = .ok (.iconst (-1), 1) := by decide +kernel
theorem dX5_proposed_15 : decode cX5_proposed 15 = .ok (.ireturn, 1) := by decide +kernel
theorem dX5_proposed_16 : decode cX5_proposed 16 = .ok (.iload_n 3, 1) := by decide +kernel
theorem dX5_proposed_17 : decode cX5_proposed 17 = .ok (.iconst 0, 1) := by decide +kernel
theorem dX5_proposed_18 : decode cX5_proposed 18 = .ok (.iconst 2, 1) := by decide +kernel
theorem dX5_proposed_19 : decode cX5_proposed 19 = .ok (.invokestatic 33, 3) := by decide +kernel
theorem dX5_proposed_22 : decode cX5_proposed 22 = .ok (.ifCond .ne 6, 3) := by decide +kernel
theorem dX5_proposed_25 : decode cX5_proposed 25 = .ok (.bipush (-2), 2) := by decide +kernel
theorem dX5_proposed_27 : decode cX5_proposed 27 = .ok (.ireturn, 1) := by decide +kernel
theorem dX5_proposed_28 : decode cX5_proposed 28 = .ok (.iload_n 3, 1) := by decide +kernel
theorem dX5_proposed_29 : decode cX5_proposed 29 = .ok (.ifCond .ne 28, 3) := by decide +kernel
theorem dX5_proposed_32 : decode cX5_proposed 32 = .ok (.aload_n 0, 1) := by decide +kernel
theorem dX5_proposed_33 : decode cX5_proposed 33 = .ok (.getfield 7, 3) := by decide +kernel
theorem dX5_proposed_36 : decode cX5_proposed 36 = .ok (.iload_n 1, 1) := by decide +kernel
theorem dX5_proposed_37 : decode cX5_proposed 37 = .ok (.iload_n 2, 1) := by decide +kernel
theorem dX5_proposed_38 : decode cX5_proposed 38 = .ok (.invokestatic 74, 3) := by decide +kernel
theorem dX5_proposed_41 : decode cX5_proposed 41 = .ok (.iaload, 1) := by decide +kernel
theorem dX5_proposed_42 : decode cX5_proposed 42 = .ok (.istore 4, 2) := by decide +kernel
theorem dX5_proposed_44 : decode cX5_proposed 44 = .ok (.iload 4, 2) := by decide +kernel
theorem dX5_proposed_46 : decode cX5_proposed 46 = .ok (.ifCond .ne 8, 3) := by decide +kernel
theorem dX5_proposed_49 : decode cX5_proposed 49 = .ok (.bipush (-5), 2) := by decide +kernel
theorem dX5_proposed_51 : decode cX5_proposed 51 = .ok (.goto 5, 3) := by decide +kernel
theorem dX5_proposed_54 : decode cX5_proposed 54 = .ok (.iload 4, 2) := by decide +kernel
theorem dX5_proposed_56 : decode cX5_proposed 56 = .ok (.ireturn, 1) := by decide +kernel
theorem dX5_proposed_57 : decode cX5_proposed 57 = .ok (.aload_n 0, 1) := by decide +kernel
theorem dX5_proposed_58 : decode cX5_proposed 58 = .ok (.iload_n 2, 1) := by decide +kernel
theorem dX5_proposed_59 : decode cX5_proposed 59 = .ok (.invokevirtual 101, 3) := by decide +kernel
theorem dX5_proposed_62 : decode cX5_proposed 62 = .ok (.ifCond .ne 8, 3) := by decide +kernel
theorem dX5_proposed_65 : decode cX5_proposed 65 = .ok (.bipush (-5), 2) := by decide +kernel
theorem dX5_proposed_67 : decode cX5_proposed 67 = .ok (.goto 23, 3) := by decide +kernel
theorem dX5_proposed_70 : decode cX5_proposed 70 = .ok (.iload_n 3, 1) := by decide +kernel
theorem dX5_proposed_71 : decode cX5_proposed 71 = .ok (.iconst 1, 1) := by decide +kernel
theorem dX5_proposed_72 : decode cX5_proposed 72 = .ok (.if_icmp .ne 12, 3) := by decide +kernel
theorem dX5_proposed_75 : decode cX5_proposed 75 = .ok (.aload_n 0, 1) := by decide +kernel
theorem dX5_proposed_76 : decode cX5_proposed 76 = .ok (.iload_n 1, 1) := by decide +kernel
theorem dX5_proposed_77 : decode cX5_proposed 77 = .ok (.iload_n 2, 1) := by decide +kernel
theorem dX5_proposed_78 : decode cX5_proposed 78 = .ok (.invokevirtual 107, 3) := by decide +kernel
theorem dX5_proposed_81 : decode cX5_proposed 81 = .ok (.goto 9, 3) := by decide +kernel
theorem dX5_proposed_84 : decode cX5_proposed 84 = .ok (.aload_n 0, 1) := by decide +kernel
theorem dX5_proposed_85 : decode cX5_proposed 85 = .ok (.iload_n 1, 1) := by decide +kernel
theorem dX5_proposed_86 : decode cX5_proposed 86 = .ok (.iload_n 2, 1) := by decide +kernel
theorem dX5_proposed_87 : decode cX5_proposed 87 = .ok (.invokevirtual 104, 3) := by decide +kernel
theorem dX5_proposed_90 : decode cX5_proposed 90 = .ok (.ireturn, 1) := by decide +kernel
set_option maxRecDepth 20000 in
theorem ggX5_slot_X5_noSlot : GoodIn wsX5_slot wsX5_noSlot := goodIn_r _ [5, 6, 7, 4, 8] (by decide +kernel) (by decide +kernel)
set_option maxRecDepth 20000 in
theorem gX5_slot_X5_noSlot : GoodIn wsX5_slot (va_wsS RX5 95 yX5_noSlot wsX5_noSlot) := goodIn_app (goodIn_of _ (by decide +kernel)) ggX5_slot_X5_noSlot
set_option maxRecDepth 20000 in
theorem ggX5_slot_X5_chosen : GoodIn wsX5_slot wsX5_chosen := goodIn_r _ [12, 1, 40, 41, 42, 43, 44, 45, 46, 47, 48, 49, 50, 51, 52, 53, 54] (by decide +kernel) (by decide +kernel)
set_option maxRecDepth 20000 in
theorem gX5_slot_X5_chosen : GoodIn wsX5_slot (wsV RX5 44 RX5 yX5_chosen wsX5_chosen) := goodIn_app (goodIn_of _ (by decide +kernel)) ggX5_slot_X5_chosen
set_option maxRecDepth 20000 in
theorem ggX5_slot_X5_isOpen : GoodIn wsX5_slot wsX5_isOpen := goodIn_r _ [16, 17, 18, 19, 4, 20, 9, 10, 11, 12, 1, 40, 41, 42, 43, 44, 45, 46, 47, 48, 49, 50, 51, 52, 53, 54] (by decide +kernel) (by decide +kernel)
set_option maxRecDepth 20000 in
theorem gX5_slot_X5_isOpen : GoodIn wsX5_slot (wsV RX5 101 RX5 yX5_isOpen wsX5_isOpen) := goodIn_app (goodIn_of _ (by decide +kernel)) ggX5_slot_X5_isOpen
set_option maxRecDepth 20000 in
theorem ggX5_slot_X5_voters : GoodIn wsX5_slot wsX5_voters := goodIn_r _ [24, 9, 10, 11, 4, 12, 1, 40, 41, 42, 43, 44, 45, 46, 47, 48, 49, 50, 51, 52, 53, 54] (by decide +kernel) (by decide +kernel)
set_option maxRecDepth 20000 in
theorem gX5_slot_X5_voters : GoodIn wsX5_slot (wsV RX5 52 RX5 yX5_voters wsX5_voters) := goodIn_app (goodIn_of _ (by decide +kernel)) ggX5_slot_X5_voters
set_option maxRecDepth 20000 in
theorem ggX5_slot_X5_firstSize : GoodIn wsX5_slot wsX5_firstSize := goodIn_r _ [28, 21, 22, 23, 4, 24, 9, 10, 11, 12, 1, 29, 30, 31, 32, 33, 34, 35, 40, 41, 42, 43, 44, 45, 46, 47, 48, 49, 50, 51, 52, 53, 54] (by decide +kernel) (by decide +kernel)
set_option maxRecDepth 20000 in
theorem gX5_slot_X5_firstSize : GoodIn wsX5_slot (wsV RX5 92 RX5 yX5_firstSize wsX5_firstSize) := goodIn_app (goodIn_of _ (by decide +kernel)) ggX5_slot_X5_firstSize
set_option maxRecDepth 20000 in
theorem ggX5_slot_X5_secondSize : GoodIn wsX5_slot wsX5_secondSize := goodIn_r _ [35, 1, 21, 22, 23, 4, 24, 9, 10, 11, 12, 29, 30, 31, 40, 41, 42, 43, 44, 45, 46, 47, 48, 49, 50, 51, 52, 53, 54] (by decide +kernel) (by decide +kernel)
set_option maxRecDepth 20000 in
theorem gX5_slot_X5_secondSize : GoodIn wsX5_slot (wsV RX5 58 RX5 yX5_secondSize wsX5_secondSize) := goodIn_app (goodIn_of _ (by decide +kernel)) ggX5_slot_X5_secondSize
set_option maxRecDepth 20000 in
theorem ggX5_slot_X5_isTrimmed : GoodIn wsX5_slot wsX5_isTrimmed := goodIn_r _ [39, 1, 40, 41, 42, 43, 44, 45, 46, 47, 48, 49, 50, 51, 52, 53, 54] (by decide +kernel) (by decide +kernel)
set_option maxRecDepth 20000 in
theorem gX5_slot_X5_isTrimmed : GoodIn wsX5_slot (wsV RX5 98 RX5 yX5_isTrimmed wsX5_isTrimmed) := goodIn_app (goodIn_of _ (by decide +kernel)) ggX5_slot_X5_isTrimmed
theorem dX5_slot_0 : decode cX5_slot 0 = .ok (.iload_n 1, 1) := by decide +kernel
theorem dX5_slot_1 : decode cX5_slot 1 = .ok (.invokestatic 95, 3) := by decide +kernel
theorem dX5_slot_4 : decode cX5_slot 4 = .ok (.ifCond .eq 5, 3) := by decide +kernel
theorem dX5_slot_7 : decode cX5_slot 7 = .ok (.iconst (-1), 1) := by decide +kernel
theorem dX5_slot_8 : decode cX5_slot 8 = .ok (.ireturn, 1) := by decide +kernel
theorem dX5_slot_9 : decode cX5_slot 9 = .ok (.iload_n 2, 1) := by decide +kernel
theorem dX5_slot_10 : decode cX5_slot 10 = .ok (.tableswitch 154 0 5 #[38, 57, 83, 102, 121, 140], 38) := by decide +kernel
theorem dX5_slot_48 : decode cX5_slot 48 = .ok (.aload_n 0, 1) := by decide +kernel
theorem dX5_slot_49 : decode cX5_slot 49 = .ok (.iload_n 1, 1) := by decide +kernel
theorem dX5_slot_50 : decode cX5_slot 50 = .ok (.invokevirtual 44, 3) := by decide +kernel
theorem dX5_slot_53 : decode cX5_slot 53 = .ok (.ifCond .ne 8, 3) := by decide +kernel
theorem dX5_slot_56 : decode cX5_slot 56 = .ok (.bipush (-5), 2) := by decide +kernel
theorem dX5_slot_58 : decode cX5_slot 58 = .ok (.goto 8, 3) := by decide +kernel
theorem dX5_slot_61 : decode cX5_slot 61 = .ok (.aload_n 0, 1) := by decide +kernel
theorem dX5_slot_62 : decode cX5_slot 62 = .ok (.iload_n 1, 1) := by decide +kernel
theorem dX5_slot_63 : decode cX5_slot 63 = .ok (.invokevirtual 44, 3) := by decide +kernel
theorem dX5_slot_66 : decode cX5_slot 66 = .ok (.ireturn, 1) := by decide +kernel
theorem dX5_slot_67 : decode cX5_slot 67 = .ok (.aload_n 0, 1) := by decide +kernel
theorem dX5_slot_68 : decode cX5_slot 68 = .ok (.iload_n 1, 1) := by decide +kernel
theorem dX5_slot_69 : decode cX5_slot 69 = .ok (.invokevirtual 44, 3) := by decide +kernel
theorem dX5_slot_72 : decode cX5_slot 72 = .ok (.ifCond .ne 8, 3) := by decide +kernel
theorem dX5_slot_75 : decode cX5_slot 75 = .ok (.bipush (-5), 2) := by decide +kernel
theorem dX5_slot_77 : decode cX5_slot 77 = .ok (.goto 15, 3) := by decide +kernel
theorem dX5_slot_80 : decode cX5_slot 80 = .ok (.aload_n 0, 1) := by decide +kernel
theorem dX5_slot_81 : decode cX5_slot 81 = .ok (.getfield 7, 3) := by decide +kernel
theorem dX5_slot_84 : decode cX5_slot 84 = .ok (.sipush 853, 3) := by decide +kernel
theorem dX5_slot_87 : decode cX5_slot 87 = .ok (.iload_n 1, 1) := by decide +kernel
theorem dX5_slot_88 : decode cX5_slot 88 = .ok (.iadd, 1) := by decide +kernel
theorem dX5_slot_89 : decode cX5_slot 89 = .ok (.iconst 1, 1) := by decide +kernel
theorem dX5_slot_90 : decode cX5_slot 90 = .ok (.isub, 1) := by decide +kernel
theorem dX5_slot_91 : decode cX5_slot 91 = .ok (.iaload, 1) := by decide +kernel
theorem dX5_slot_92 : decode cX5_slot 92 = .ok (.ireturn, 1) := by decide +kernel
theorem dX5_slot_93 : decode cX5_slot 93 = .ok (.aload_n 0, 1) := by decide +kernel
theorem dX5_slot_94 : decode cX5_slot 94 = .ok (.iload_n 1, 1) := by decide +kernel
theorem dX5_slot_95 : decode cX5_slot 95 = .ok (.invokevirtual 101, 3) := by decide +kernel
theorem dX5_slot_98 : decode cX5_slot 98 = .ok (.ifCond .eq 11, 3) := by decide +kernel
theorem dX5_slot_101 : decode cX5_slot 101 = .ok (.aload_n 0, 1) := by decide +kernel
theorem dX5_slot_102 : decode cX5_slot 102 = .ok (.iload_n 1, 1) := by decide +kernel
theorem dX5_slot_103 : decode cX5_slot 103 = .ok (.invokevirtual 52, 3) := by decide +kernel
theorem dX5_slot_106 : decode cX5_slot 106 = .ok (.goto 5, 3) := by decide +kernel
theorem dX5_slot_109 : decode cX5_slot 109 = .ok (.bipush (-5), 2) := by decide +kernel
theorem dX5_slot_111 : decode cX5_slot 111 = .ok (.ireturn, 1) := by decide +kernel
theorem dX5_slot_112 : decode cX5_slot 112 = .ok (.aload_n 0, 1) := by decide +kernel
theorem dX5_slot_113 : decode cX5_slot 113 = .ok (.iload_n 1, 1) := by decide +kernel
theorem dX5_slot_114 : decode cX5_slot 114 = .ok (.invokevirtual 101, 3) := by decide +kernel
theorem dX5_slot_117 : decode cX5_slot 117 = .ok (.ifCond .eq 11, 3) := by decide +kernel
theorem dX5_slot_120 : decode cX5_slot 120 = .ok (.aload_n 0, 1) := by decide +kernel
theorem dX5_slot_121 : decode cX5_slot 121 = .ok (.iload_n 1, 1) := by decide +kernel
theorem dX5_slot_122 : decode cX5_slot 122 = .ok (.invokevirtual 92, 3) := by decide +kernel
theorem dX5_slot_125 : decode cX5_slot 125 = .ok (.goto 5, 3) := by decide +kernel
theorem dX5_slot_128 : decode cX5_slot 128 = .ok (.bipush (-5), 2) := by decide +kernel
theorem dX5_slot_130 : decode cX5_slot 130 = .ok (.ireturn, 1) := by decide +kernel
theorem dX5_slot_131 : decode cX5_slot 131 = .ok (.aload_n 0, 1) := by decide +kernel
theorem dX5_slot_132 : decode cX5_slot 132 = .ok (.iload_n 1, 1) := by decide +kernel
theorem dX5_slot_133 : decode cX5_slot 133 = .ok (.invokevirtual 101, 3) := by decide +kernel
theorem dX5_slot_136 : decode cX5_slot 136 = .ok (.ifCond .eq 11, 3) := by decide +kernel
theorem dX5_slot_139 : decode cX5_slot 139 = .ok (.aload_n 0, 1) := by decide +kernel
theorem dX5_slot_140 : decode cX5_slot 140 = .ok (.iload_n 1, 1) := by decide +kernel
theorem dX5_slot_141 : decode cX5_slot 141 = .ok (.invokevirtual 58, 3) := by decide +kernel
theorem dX5_slot_144 : decode cX5_slot 144 = .ok (.goto 5, 3) := by decide +kernel
theorem dX5_slot_147 : decode cX5_slot 147 = .ok (.bipush (-5), 2) := by decide +kernel
theorem dX5_slot_149 : decode cX5_slot 149 = .ok (.ireturn, 1) := by decide +kernel
theorem dX5_slot_150 : decode cX5_slot 150 = .ok (.aload_n 0, 1) := by decide +kernel
theorem dX5_slot_151 : decode cX5_slot 151 = .ok (.iload_n 1, 1) := by decide +kernel
theorem dX5_slot_152 : decode cX5_slot 152 = .ok (.invokevirtual 98, 3) := by decide +kernel
theorem dX5_slot_155 : decode cX5_slot 155 = .ok (.ifCond .eq 7, 3) := by decide +kernel
theorem dX5_slot_158 : decode cX5_slot 158 = .ok (.iconst 1, 1) := by decide +kernel
theorem dX5_slot_159 : decode cX5_slot 159 = .ok (.goto 4, 3) := by decide +kernel
theorem dX5_slot_162 : decode cX5_slot 162 = .ok (.iconst 0, 1) := by decide +kernel
theorem dX5_slot_163 : decode cX5_slot 163 = .ok (.ireturn, 1) := by decide +kernel
theorem dX5_slot_164 : decode cX5_slot 164 = .ok (.bipush (-2), 2) := by decide +kernel
theorem dX5_slot_166 : decode cX5_slot 166 = .ok (.ireturn, 1) := by decide +kernel
set_option maxRecDepth 20000 in
theorem ggX5_could_X5_noSlot : GoodIn wsX5_could wsX5_noSlot := goodIn_r _ [5, 6, 7, 4, 8] (by decide +kernel) (by decide +kernel)
set_option maxRecDepth 20000 in
theorem gX5_could_X5_noSlot : GoodIn wsX5_could (va_wsS RX5 95 yX5_noSlot wsX5_noSlot) := goodIn_app (goodIn_of _ (by decide +kernel)) ggX5_could_X5_noSlot
set_option maxRecDepth 20000 in
theorem ggX5_could_X5_in : GoodIn wsX5_could wsX5_in := goodIn_r _ [8] (by decide +kernel) (by decide +kernel)
set_option maxRecDepth 20000 in
theorem gX5_could_X5_in : GoodIn wsX5_could (va_wsS RX5 33 yX5_in wsX5_in) := goodIn_app (goodIn_of _ (by decide +kernel)) ggX5_could_X5_in
set_option maxRecDepth 20000 in
theorem ggX5_could_X5_isTrimmed : GoodIn wsX5_could wsX5_isTrimmed := goodIn_r _ [12, 1, 42, 43, 44, 45, 46, 47, 48, 49, 50, 51, 52, 53, 54, 55, 56] (by decide +kernel) (by decide +kernel)
set_option maxRecDepth 20000 in
theorem gX5_could_X5_isTrimmed : GoodIn wsX5_could (wsV RX5 98 RX5 yX5_isTrimmed wsX5_isTrimmed) := goodIn_app (goodIn_of _ (by decide +kernel)) ggX5_could_X5_isTrimmed
set_option maxRecDepth 20000 in
theorem ggX5_could_X5_isOpen : GoodIn wsX5_could wsX5_isOpen := goodIn_r _ [16, 17, 18, 19, 4, 20, 21, 22, 23, 24, 1, 42, 43, 44, 45, 46, 47, 48, 49, 50, 51, 52, 53, 54, 55, 56] (by decide +kernel) (by decide +kernel)
set_option maxRecDepth 20000 in
theorem gX5_could_X5_isOpen : GoodIn wsX5_could (wsV RX5 101 RX5 yX5_isOpen wsX5_isOpen) := goodIn_app (goodIn_of _ (by decide +kernel)) ggX5_could_X5_isOpen
set_option maxRecDepth 20000 in
theorem ggX5_could_X5_voters : GoodIn wsX5_could wsX5_voters := goodIn_r _ [28, 21, 22, 23, 4, 24, 1, 42, 43, 44, 45, 46, 47, 48, 49, 50, 51, 52, 53, 54, 55, 56] (by decide +kernel) (by decide +kernel)
set_option maxRecDepth 20000 in
theorem gX5_could_X5_voters : GoodIn wsX5_could (wsV RX5 52 RX5 yX5_voters wsX5_voters) := goodIn_app (goodIn_of _ (by decide +kernel)) ggX5_could_X5_voters
set_option maxRecDepth 20000 in
theorem ggX5_could_X5_isIn : GoodIn wsX5_could wsX5_isIn := goodIn_r _ [31] (by decide +kernel) (by decide +kernel)
set_option maxRecDepth 20000 in
theorem gX5_could_X5_isIn : GoodIn wsX5_could (va_wsS RX5 82 yX5_isIn wsX5_isIn) := goodIn_app (goodIn_of _ (by decide +kernel)) ggX5_could_X5_isIn
set_option maxRecDepth 20000 in
theorem ggX5_could_X5_voteAt : GoodIn wsX5_could wsX5_voteAt := goodIn_r _ [34] (by decide +kernel) (by decide +kernel)
set_option maxRecDepth 20000 in
theorem gX5_could_X5_voteAt : GoodIn wsX5_could (va_wsS RX5 89 yX5_voteAt wsX5_voteAt) := goodIn_app (goodIn_of _ (by decide +kernel)) ggX5_could_X5_voteAt
set_option maxRecDepth 20000 in
theorem ggX5_could_X5_secondSize : GoodIn wsX5_could wsX5_secondSize := goodIn_r _ [38, 1, 25, 26, 27, 4, 28, 21, 22, 23, 24, 39, 40, 41, 42, 43, 44, 45, 46, 47, 48, 49, 50, 51, 52, 53, 54, 55, 56] (by decide +kernel) (by decide +kernel)
set_option maxRecDepth 20000 in
theorem gX5_could_X5_secondSize : GoodIn wsX5_could (wsV RX5 58 RX5 yX5_secondSize wsX5_secondSize) := goodIn_app (goodIn_of _ (by decide +kernel)) ggX5_could_X5_secondSize
theorem dX5_could_0 : decode cX5_could 0 = .ok (.iload_n 1, 1) := by decide +kernel
theorem dX5_could_1 : decode cX5_could 1 = .ok (.invokestatic 95, 3) := by decide +kernel
theorem dX5_could_4 : decode cX5_could 4 = .ok (.ifCond .eq 5, 3) := by decide +kernel
theorem dX5_could_7 : decode cX5_could 7 = .ok (.iconst (-1), 1) := by decide +kernel
theorem dX5_could_8 : decode cX5_could 8 = .ok (.ireturn, 1) := by decide +kernel
theorem dX5_could_9 : decode cX5_could 9 = .ok (.iload_n 2, 1) := by decide +kernel
theorem dX5_could_10 : decode cX5_could 10 = .ok (.iconst 1, 1) := by decide +kernel
theorem dX5_could_11 : decode cX5_could 11 = .ok (.sipush 999, 3) := by decide +kernel
theorem dX5_could_14 : decode cX5_could 14 = .ok (.invokestatic 33, 3) := by decide +kernel
theorem dX5_could_17 : decode cX5_could 17 = .ok (.ifCond .ne 6, 3) := by decide +kernel
theorem dX5_could_20 : decode cX5_could 20 = .ok (.bipush (-2), 2) := by decide +kernel
theorem dX5_could_22 : decode cX5_could 22 = .ok (.ireturn, 1) := by decide +kernel
theorem dX5_could_23 : decode cX5_could 23 = .ok (.aload_n 0, 1) := by decide +kernel
theorem dX5_could_24 : decode cX5_could 24 = .ok (.iload_n 1, 1) := by decide +kernel
theorem dX5_could_25 : decode cX5_could 25 = .ok (.invokevirtual 98, 3) := by decide +kernel
theorem dX5_could_28 : decode cX5_could 28 = .ok (.ifCond .ne 11, 3) := by decide +kernel
theorem dX5_could_31 : decode cX5_could 31 = .ok (.aload_n 0, 1) := by decide +kernel
theorem dX5_could_32 : decode cX5_could 32 = .ok (.iload_n 1, 1) := by decide +kernel
theorem dX5_could_33 : decode cX5_could 33 = .ok (.invokevirtual 101, 3) := by decide +kernel
theorem dX5_could_36 : decode cX5_could 36 = .ok (.ifCond .ne 6, 3) := by decide +kernel
theorem dX5_could_39 : decode cX5_could 39 = .ok (.bipush (-4), 2) := by decide +kernel
theorem dX5_could_41 : decode cX5_could 41 = .ok (.ireturn, 1) := by decide +kernel
theorem dX5_could_42 : decode cX5_could 42 = .ok (.iconst 0, 1) := by decide +kernel
theorem dX5_could_43 : decode cX5_could 43 = .ok (.istore_n 3, 1) := by decide +kernel
theorem dX5_could_44 : decode cX5_could 44 = .ok (.iconst 0, 1) := by decide +kernel
theorem dX5_could_45 : decode cX5_could 45 = .ok (.istore 4, 2) := by decide +kernel
theorem dX5_could_47 : decode cX5_could 47 = .ok (.iload 4, 2) := by decide +kernel
theorem dX5_could_49 : decode cX5_could 49 = .ok (.bipush 6, 2) := by decide +kernel
theorem dX5_could_51 : decode cX5_could 51 = .ok (.if_icmp .ge 59, 3) := by decide +kernel
theorem dX5_could_54 : decode cX5_could 54 = .ok (.iload_n 3, 1) := by decide +kernel
theorem dX5_could_55 : decode cX5_could 55 = .ok (.aload_n 0, 1) := by decide +kernel
theorem dX5_could_56 : decode cX5_could 56 = .ok (.iload_n 1, 1) := by decide +kernel
theorem dX5_could_57 : decode cX5_could 57 = .ok (.invokevirtual 52, 3) := by decide +kernel
theorem dX5_could_60 : decode cX5_could 60 = .ok (.iload 4, 2) := by decide +kernel
theorem dX5_could_62 : decode cX5_could 62 = .ok (.invokestatic 82, 3) := by decide +kernel
theorem dX5_could_65 : decode cX5_could 65 = .ok (.ifCond .eq 36, 3) := by decide +kernel
theorem dX5_could_68 : decode cX5_could 68 = .ok (.aload_n 0, 1) := by decide +kernel
theorem dX5_could_69 : decode cX5_could 69 = .ok (.getfield 7, 3) := by decide +kernel
theorem dX5_could_72 : decode cX5_could 72 = .ok (.iload 4, 2) := by decide +kernel
theorem dX5_could_74 : decode cX5_could 74 = .ok (.iload_n 1, 1) := by decide +kernel
theorem dX5_could_75 : decode cX5_could 75 = .ok (.invokestatic 89, 3) := by decide +kernel
theorem dX5_could_78 : decode cX5_could 78 = .ok (.iaload, 1) := by decide +kernel
theorem dX5_could_79 : decode cX5_could 79 = .ok (.iload_n 2, 1) := by decide +kernel
theorem dX5_could_80 : decode cX5_could 80 = .ok (.if_icmp .eq 17, 3) := by decide +kernel
theorem dX5_could_83 : decode cX5_could 83 = .ok (.aload_n 0, 1) := by decide +kernel
theorem dX5_could_84 : decode cX5_could 84 = .ok (.getfield 7, 3) := by decide +kernel
theorem dX5_could_87 : decode cX5_could 87 = .ok (.bipush 6, 2) := by decide +kernel
theorem dX5_could_89 : decode cX5_could 89 = .ok (.iload 4, 2) := by decide +kernel
theorem dX5_could_91 : decode cX5_could 91 = .ok (.iadd, 1) := by decide +kernel
theorem dX5_could_92 : decode cX5_could 92 = .ok (.iaload, 1) := by decide +kernel
theorem dX5_could_93 : decode cX5_could 93 = .ok (.iload_n 2, 1) := by decide +kernel
theorem dX5_could_94 : decode cX5_could 94 = .ok (.if_icmp .gt 7, 3) := by decide +kernel
theorem dX5_could_97 : decode cX5_could 97 = .ok (.iconst 1, 1) := by decide +kernel
theorem dX5_could_98 : decode cX5_could 98 = .ok (.goto 4, 3) := by decide +kernel
theorem dX5_could_101 : decode cX5_could 101 = .ok (.iconst 0, 1) := by decide +kernel
theorem dX5_could_102 : decode cX5_could 102 = .ok (.iadd, 1) := by decide +kernel
theorem dX5_could_103 : decode cX5_could 103 = .ok (.istore_n 3, 1) := by decide +kernel
theorem dX5_could_104 : decode cX5_could 104 = .ok (.iinc 4 1, 3) := by decide +kernel
theorem dX5_could_107 : decode cX5_could 107 = .ok (.goto (-60), 3) := by decide +kernel
theorem dX5_could_110 : decode cX5_could 110 = .ok (.iload_n 3, 1) := by decide +kernel
theorem dX5_could_111 : decode cX5_could 111 = .ok (.aload_n 0, 1) := by decide +kernel
theorem dX5_could_112 : decode cX5_could 112 = .ok (.iload_n 1, 1) := by decide +kernel
theorem dX5_could_113 : decode cX5_could 113 = .ok (.invokevirtual 58, 3) := by decide +kernel
theorem dX5_could_116 : decode cX5_could 116 = .ok (.if_icmp .lt 7, 3) := by decide +kernel
theorem dX5_could_119 : decode cX5_could 119 = .ok (.iconst 1, 1) := by decide +kernel
theorem dX5_could_120 : decode cX5_could 120 = .ok (.goto 4, 3) := by decide +kernel
theorem dX5_could_123 : decode cX5_could 123 = .ok (.iconst 0, 1) := by decide +kernel
theorem dX5_could_124 : decode cX5_could 124 = .ok (.ireturn, 1) := by decide +kernel
set_option maxRecDepth 20000 in
theorem ggX5_witness_X5_in : GoodIn wsX5_witness wsX5_in := goodIn_r _ [4] (by decide +kernel) (by decide +kernel)
set_option maxRecDepth 20000 in
theorem gX5_witness_X5_in : GoodIn wsX5_witness (va_wsS RX5 33 yX5_in wsX5_in) := goodIn_app (goodIn_of _ (by decide +kernel)) ggX5_witness_X5_in
set_option maxRecDepth 20000 in
theorem ggX5_witness_X5_bits : GoodIn wsX5_witness wsX5_bits := goodIn_r _ [7] (by decide +kernel) (by decide +kernel)
set_option maxRecDepth 20000 in
theorem gX5_witness_X5_bits : GoodIn wsX5_witness (va_wsS RX5 55 yX5_bits wsX5_bits) := goodIn_app (goodIn_of _ (by decide +kernel)) ggX5_witness_X5_bits
set_option maxRecDepth 20000 in
theorem ggX5_witness_X5_isIn : GoodIn wsX5_witness wsX5_isIn := goodIn_r _ [10] (by decide +kernel) (by decide +kernel)
set_option maxRecDepth 20000 in
theorem gX5_witness_X5_isIn : GoodIn wsX5_witness (va_wsS RX5 82 yX5_isIn wsX5_isIn) := goodIn_app (goodIn_of _ (by decide +kernel)) ggX5_witness_X5_isIn
theorem dX5_witness_0 : decode cX5_witness 0 = .ok (.iload_n 1, 1) := by decide +kernel
theorem dX5_witness_1 : decode cX5_witness 1 = .ok (.iconst 1, 1) := by decide +kernel
theorem dX5_witness_2 : decode cX5_witness 2 = .ok (.bipush 63, 2) := by decide +kernel
theorem dX5_witness_4 : decode cX5_witness 4 = .ok (.invokestatic 33, 3) := by decide +kernel
theorem dX5_witness_7 : decode cX5_witness 7 = .ok (.ifCond .eq 33, 3) := by decide +kernel
theorem dX5_witness_10 : decode cX5_witness 10 = .ok (.iload_n 2, 1) := by decide +kernel
theorem dX5_witness_11 : decode cX5_witness 11 = .ok (.iconst 1, 1) := by decide +kernel
theorem dX5_witness_12 : decode cX5_witness 12 = .ok (.bipush 6, 2) := by decide +kernel
theorem dX5_witness_14 : decode cX5_witness 14 = .ok (.invokestatic 33, 3) := by decide +kernel
theorem dX5_witness_17 : decode cX5_witness 17 = .ok (.ifCond .eq 23, 3) := by decide +kernel
theorem dX5_witness_20 : decode cX5_witness 20 = .ok (.iload_n 3, 1) := by decide +kernel
theorem dX5_witness_21 : decode cX5_witness 21 = .ok (.iconst 1, 1) := by decide +kernel
theorem dX5_witness_22 : decode cX5_witness 22 = .ok (.bipush 6, 2) := by decide +kernel
theorem dX5_witness_24 : decode cX5_witness 24 = .ok (.invokestatic 33, 3) := by decide +kernel
theorem dX5_witness_27 : decode cX5_witness 27 = .ok (.ifCond .eq 13, 3) := by decide +kernel
theorem dX5_witness_30 : decode cX5_witness 30 = .ok (.iload 4, 2) := by decide +kernel
theorem dX5_witness_32 : decode cX5_witness 32 = .ok (.iconst 0, 1) := by decide +kernel
theorem dX5_witness_33 : decode cX5_witness 33 = .ok (.iconst 1, 1) := by decide +kernel
theorem dX5_witness_34 : decode cX5_witness 34 = .ok (.invokestatic 33, 3) := by decide +kernel
theorem dX5_witness_37 : decode cX5_witness 37 = .ok (.ifCond .ne 6, 3) := by decide +kernel
theorem dX5_witness_40 : decode cX5_witness 40 = .ok (.bipush (-2), 2) := by decide +kernel
theorem dX5_witness_42 : decode cX5_witness 42 = .ok (.ireturn, 1) := by decide +kernel
theorem dX5_witness_43 : decode cX5_witness 43 = .ok (.iload_n 2, 1) := by decide +kernel
theorem dX5_witness_44 : decode cX5_witness 44 = .ok (.iload_n 3, 1) := by decide +kernel
theorem dX5_witness_45 : decode cX5_witness 45 = .ok (.iadd, 1) := by decide +kernel
theorem dX5_witness_46 : decode cX5_witness 46 = .ok (.iload_n 1, 1) := by decide +kernel
theorem dX5_witness_47 : decode cX5_witness 47 = .ok (.invokestatic 55, 3) := by decide +kernel
theorem dX5_witness_50 : decode cX5_witness 50 = .ok (.if_icmp .le 6, 3) := by decide +kernel
theorem dX5_witness_53 : decode cX5_witness 53 = .ok (.bipush (-5), 2) := by decide +kernel
theorem dX5_witness_55 : decode cX5_witness 55 = .ok (.ireturn, 1) := by decide +kernel
theorem dX5_witness_56 : decode cX5_witness 56 = .ok (.iconst 0, 1) := by decide +kernel
theorem dX5_witness_57 : decode cX5_witness 57 = .ok (.istore 5, 2) := by decide +kernel
theorem dX5_witness_59 : decode cX5_witness 59 = .ok (.iconst 0, 1) := by decide +kernel
theorem dX5_witness_60 : decode cX5_witness 60 = .ok (.istore 6, 2) := by decide +kernel
theorem dX5_witness_62 : decode cX5_witness 62 = .ok (.iconst 0, 1) := by decide +kernel
theorem dX5_witness_63 : decode cX5_witness 63 = .ok (.istore 7, 2) := by decide +kernel
theorem dX5_witness_65 : decode cX5_witness 65 = .ok (.iload 7, 2) := by decide +kernel
theorem dX5_witness_67 : decode cX5_witness 67 = .ok (.bipush 6, 2) := by decide +kernel
theorem dX5_witness_69 : decode cX5_witness 69 = .ok (.if_icmp .ge 66, 3) := by decide +kernel
theorem dX5_witness_72 : decode cX5_witness 72 = .ok (.iload_n 1, 1) := by decide +kernel
theorem dX5_witness_73 : decode cX5_witness 73 = .ok (.iload 7, 2) := by decide +kernel
theorem dX5_witness_75 : decode cX5_witness 75 = .ok (.invokestatic 82, 3) := by decide +kernel
theorem dX5_witness_78 : decode cX5_witness 78 = .ok (.ifCond .eq 24, 3) := by decide +kernel
theorem dX5_witness_81 : decode cX5_witness 81 = .ok (.iload 5, 2) := by decide +kernel
theorem dX5_witness_83 : decode cX5_witness 83 = .ok (.invokestatic 55, 3) := by decide +kernel
theorem dX5_witness_86 : decode cX5_witness 86 = .ok (.iload_n 2, 1) := by decide +kernel
theorem dX5_witness_87 : decode cX5_witness 87 = .ok (.if_icmp .ge 15, 3) := by decide +kernel
theorem dX5_witness_90 : decode cX5_witness 90 = .ok (.iload 5, 2) := by decide +kernel
theorem dX5_witness_92 : decode cX5_witness 92 = .ok (.iconst 1, 1) := by decide +kernel
theorem dX5_witness_93 : decode cX5_witness 93 = .ok (.iload 7, 2) := by decide +kernel
theorem dX5_witness_95 : decode cX5_witness 95 = .ok (.ishl, 1) := by decide +kernel
theorem dX5_witness_96 : decode cX5_witness 96 = .ok (.ior, 1) := by decide +kernel
theorem dX5_witness_97 : decode cX5_witness 97 = .ok (.istore 5, 2) := by decide +kernel
theorem dX5_witness_99 : decode cX5_witness 99 = .ok (.goto 30, 3) := by decide +kernel
theorem dX5_witness_102 : decode cX5_witness 102 = .ok (.iload_n 1, 1) := by decide +kernel
theorem dX5_witness_103 : decode cX5_witness 103 = .ok (.iload 7, 2) := by decide +kernel
theorem dX5_witness_105 : decode cX5_witness 105 = .ok (.invokestatic 82, 3) := by decide +kernel
theorem dX5_witness_108 : decode cX5_witness 108 = .ok (.ifCond .eq 21, 3) := by decide +kernel
theorem dX5_witness_111 : decode cX5_witness 111 = .ok (.iload 6, 2) := by decide +kernel
theorem dX5_witness_113 : decode cX5_witness 113 = .ok (.invokestatic 55, 3) := by decide +kernel
theorem dX5_witness_116 : decode cX5_witness 116 = .ok (.iload_n 3, 1) := by decide +kernel
theorem dX5_witness_117 : decode cX5_witness 117 = .ok (.if_icmp .ge 12, 3) := by decide +kernel
theorem dX5_witness_120 : decode cX5_witness 120 = .ok (.iload 6, 2) := by decide +kernel
theorem dX5_witness_122 : decode cX5_witness 122 = .ok (.iconst 1, 1) := by decide +kernel
theorem dX5_witness_123 : decode cX5_witness 123 = .ok (.iload 7, 2) := by decide +kernel
theorem dX5_witness_125 : decode cX5_witness 125 = .ok (.ishl, 1) := by decide +kernel
theorem dX5_witness_126 : decode cX5_witness 126 = .ok (.ior, 1) := by decide +kernel
theorem dX5_witness_127 : decode cX5_witness 127 = .ok (.istore 6, 2) := by decide +kernel
theorem dX5_witness_129 : decode cX5_witness 129 = .ok (.iinc 7 1, 3) := by decide +kernel
theorem dX5_witness_132 : decode cX5_witness 132 = .ok (.goto (-67), 3) := by decide +kernel
theorem dX5_witness_135 : decode cX5_witness 135 = .ok (.iload 4, 2) := by decide +kernel
theorem dX5_witness_137 : decode cX5_witness 137 = .ok (.ifCond .ne 8, 3) := by decide +kernel
theorem dX5_witness_140 : decode cX5_witness 140 = .ok (.iload 5, 2) := by decide +kernel
theorem dX5_witness_142 : decode cX5_witness 142 = .ok (.goto 5, 3) := by decide +kernel
theorem dX5_witness_145 : decode cX5_witness 145 = .ok (.iload 6, 2) := by decide +kernel
theorem dX5_witness_147 : decode cX5_witness 147 = .ok (.ireturn, 1) := by decide +kernel
set_option maxRecDepth 20000 in
theorem ggX5_slots_X5_chosen : GoodIn wsX5_slots wsX5_chosen := goodIn_r _ [5, 6, 7, 8, 9, 10, 11, 12, 13, 14, 15, 16, 17, 18, 19, 20, 21] (by decide +kernel) (by decide +kernel)
set_option maxRecDepth 20000 in
theorem gX5_slots_X5_chosen : GoodIn wsX5_slots (wsV RX5 44 RX5 yX5_chosen wsX5_chosen) := goodIn_app (goodIn_of _ (by decide +kernel)) ggX5_slots_X5_chosen
theorem dX5_slots_0 : decode cX5_slots 0 = .ok (.iconst 0, 1) := by decide +kernel
theorem dX5_slots_1 : decode cX5_slots 1 = .ok (.istore_n 2, 1) := by decide +kernel
theorem dX5_slots_2 : decode cX5_slots 2 = .ok (.iconst 1, 1) := by decide +kernel
theorem dX5_slots_3 : decode cX5_slots 3 = .ok (.istore_n 3, 1) := by decide +kernel
theorem dX5_slots_4 : decode cX5_slots 4 = .ok (.iload_n 3, 1) := by decide +kernel
theorem dX5_slots_5 : decode cX5_slots 5 = .ok (.bipush 16, 2) := by decide +kernel
theorem dX5_slots_7 : decode cX5_slots 7 = .ok (.if_icmp .gt 35, 3) := by decide +kernel
theorem dX5_slots_10 : decode cX5_slots 10 = .ok (.iload_n 2, 1) := by decide +kernel
theorem dX5_slots_11 : decode cX5_slots 11 = .ok (.aload_n 0, 1) := by decide +kernel
theorem dX5_slots_12 : decode cX5_slots 12 = .ok (.iload_n 3, 1) := by decide +kernel
theorem dX5_slots_13 : decode cX5_slots 13 = .ok (.invokevirtual 44, 3) := by decide +kernel
theorem dX5_slots_16 : decode cX5_slots 16 = .ok (.iload_n 1, 1) := by decide +kernel
theorem dX5_slots_17 : decode cX5_slots 17 = .ok (.ifCond .ne 7, 3) := by decide +kernel
theorem dX5_slots_20 : decode cX5_slots 20 = .ok (.iconst 0, 1) := by decide +kernel
theorem dX5_slots_21 : decode cX5_slots 21 = .ok (.goto 5, 3) := by decide +kernel
theorem dX5_slots_24 : decode cX5_slots 24 = .ok (.bipush 100, 2) := by decide +kernel
theorem dX5_slots_26 : decode cX5_slots 26 = .ok (.if_icmp .le 7, 3) := by decide +kernel
theorem dX5_slots_29 : decode cX5_slots 29 = .ok (.iconst 1, 1) := by decide +kernel
theorem dX5_slots_30 : decode cX5_slots 30 = .ok (.goto 4, 3) := by decide +kernel
theorem dX5_slots_33 : decode cX5_slots 33 = .ok (.iconst 0, 1) := by decide +kernel
theorem dX5_slots_34 : decode cX5_slots 34 = .ok (.iadd, 1) := by decide +kernel
theorem dX5_slots_35 : decode cX5_slots 35 = .ok (.istore_n 2, 1) := by decide +kernel
theorem dX5_slots_36 : decode cX5_slots 36 = .ok (.iinc 3 1, 3) := by decide +kernel
theorem dX5_slots_39 : decode cX5_slots 39 = .ok (.goto (-35), 3) := by decide +kernel
theorem dX5_slots_42 : decode cX5_slots 42 = .ok (.iload_n 2, 1) := by decide +kernel
theorem dX5_slots_43 : decode cX5_slots 43 = .ok (.ireturn, 1) := by decide +kernel
set_option maxRecDepth 20000 in
theorem ggX5_count_X5_prefix : GoodIn wsX5_count wsX5_prefix := goodIn_r _ [8, 9, 10, 11, 7, 12, 1, 21, 22, 23, 24, 25, 26, 27, 28, 29, 30, 31, 32, 33, 34, 35] (by decide +kernel) (by decide +kernel)
set_option maxRecDepth 20000 in
theorem gX5_count_X5_prefix : GoodIn wsX5_count (wsV RX5 48 RX5 yX5_prefix wsX5_prefix) := goodIn_app (goodIn_of _ (by decide +kernel)) ggX5_count_X5_prefix
set_option maxRecDepth 20000 in
theorem ggX5_count_X5_slots : GoodIn wsX5_count wsX5_slots := goodIn_r _ [16, 9, 10, 11, 7, 12, 1, 21, 22, 23, 24, 25, 26, 27, 28, 29, 30, 31, 32, 33, 34, 35] (by decide +kernel) (by decide +kernel)
set_option maxRecDepth 20000 in
theorem gX5_count_X5_slots : GoodIn wsX5_count (wsV RX5 170 RX5 yX5_slots wsX5_slots) := goodIn_app (goodIn_of _ (by decide +kernel)) ggX5_count_X5_slots
set_option maxRecDepth 20000 in
theorem ggX5_count_X5_ups : GoodIn wsX5_count wsX5_ups := goodIn_r _ [20, 1, 21, 22, 23, 24, 25, 26, 27, 28, 29, 30, 31, 32, 33, 34, 35] (by decide +kernel) (by decide +kernel)
set_option maxRecDepth 20000 in
theorem gX5_count_X5_ups : GoodIn wsX5_count (wsV RX5 68 RX5 yX5_ups wsX5_ups) := goodIn_app (goodIn_of _ (by decide +kernel)) ggX5_count_X5_ups
theorem dX5_count_0 : decode cX5_count 0 = .ok (.iload_n 1, 1) := by decide +kernel
theorem dX5_count_1 : decode cX5_count 1 = .ok (.tableswitch 150 0 10 #[59, 64, 70, 79, 88, 93, 116, 125, 134, 140, 145], 59) := by decide +kernel
theorem dX5_count_60 : decode cX5_count 60 = .ok (.aload_n 0, 1) := by decide +kernel
theorem dX5_count_61 : decode cX5_count 61 = .ok (.invokevirtual 48, 3) := by decide +kernel
theorem dX5_count_64 : decode cX5_count 64 = .ok (.ireturn, 1) := by decide +kernel
theorem dX5_count_65 : decode cX5_count 65 = .ok (.aload_n 0, 1) := by decide +kernel
theorem dX5_count_66 : decode cX5_count 66 = .ok (.iconst 0, 1) := by decide +kernel
theorem dX5_count_67 : decode cX5_count 67 = .ok (.invokevirtual 170, 3) := by decide +kernel
theorem dX5_count_70 : decode cX5_count 70 = .ok (.ireturn, 1) := by decide +kernel
theorem dX5_count_71 : decode cX5_count 71 = .ok (.aload_n 0, 1) := by decide +kernel
theorem dX5_count_72 : decode cX5_count 72 = .ok (.getfield 7, 3) := by decide +kernel
theorem dX5_count_75 : decode cX5_count 75 = .ok (.sipush 869, 3) := by decide +kernel
theorem dX5_count_78 : decode cX5_count 78 = .ok (.iaload, 1) := by decide +kernel
theorem dX5_count_79 : decode cX5_count 79 = .ok (.ireturn, 1) := by decide +kernel
theorem dX5_count_80 : decode cX5_count 80 = .ok (.aload_n 0, 1) := by decide +kernel
theorem dX5_count_81 : decode cX5_count 81 = .ok (.getfield 7, 3) := by decide +kernel
theorem dX5_count_84 : decode cX5_count 84 = .ok (.sipush 870, 3) := by decide +kernel
theorem dX5_count_87 : decode cX5_count 87 = .ok (.iaload, 1) := by decide +kernel
theorem dX5_count_88 : decode cX5_count 88 = .ok (.ireturn, 1) := by decide +kernel
theorem dX5_count_89 : decode cX5_count 89 = .ok (.aload_n 0, 1) := by decide +kernel
theorem dX5_count_90 : decode cX5_count 90 = .ok (.invokevirtual 68, 3) := by decide +kernel
theorem dX5_count_93 : decode cX5_count 93 = .ok (.ireturn, 1) := by decide +kernel
theorem dX5_count_94 : decode cX5_count 94 = .ok (.aload_n 0, 1) := by decide +kernel
theorem dX5_count_95 : decode cX5_count 95 = .ok (.invokevirtual 48, 3) := by decide +kernel
theorem dX5_count_98 : decode cX5_count 98 = .ok (.iconst 3, 1) := by decide +kernel
theorem dX5_count_99 : decode cX5_count 99 = .ok (.iadd, 1) := by decide +kernel
theorem dX5_count_100 : decode cX5_count 100 = .ok (.bipush 16, 2) := by decide +kernel
theorem dX5_count_102 : decode cX5_count 102 = .ok (.if_icmp .ge 12, 3) := by decide +kernel
theorem dX5_count_105 : decode cX5_count 105 = .ok (.aload_n 0, 1) := by decide +kernel
theorem dX5_count_106 : decode cX5_count 106 = .ok (.invokevirtual 48, 3) := by decide +kernel
theorem dX5_count_109 : decode cX5_count 109 = .ok (.iconst 3, 1) := by decide +kernel
theorem dX5_count_110 : decode cX5_count 110 = .ok (.iadd, 1) := by decide +kernel
theorem dX5_count_111 : decode cX5_count 111 = .ok (.goto 5, 3) := by decide +kernel
theorem dX5_count_114 : decode cX5_count 114 = .ok (.bipush 16, 2) := by decide +kernel
theorem dX5_count_116 : decode cX5_count 116 = .ok (.ireturn, 1) := by decide +kernel
theorem dX5_count_117 : decode cX5_count 117 = .ok (.aload_n 0, 1) := by decide +kernel
theorem dX5_count_118 : decode cX5_count 118 = .ok (.getfield 7, 3) := by decide +kernel
theorem dX5_count_121 : decode cX5_count 121 = .ok (.sipush 871, 3) := by decide +kernel
theorem dX5_count_124 : decode cX5_count 124 = .ok (.iaload, 1) := by decide +kernel
theorem dX5_count_125 : decode cX5_count 125 = .ok (.ireturn, 1) := by decide +kernel
theorem dX5_count_126 : decode cX5_count 126 = .ok (.aload_n 0, 1) := by decide +kernel
theorem dX5_count_127 : decode cX5_count 127 = .ok (.getfield 7, 3) := by decide +kernel
theorem dX5_count_130 : decode cX5_count 130 = .ok (.sipush 872, 3) := by decide +kernel
theorem dX5_count_133 : decode cX5_count 133 = .ok (.iaload, 1) := by decide +kernel
theorem dX5_count_134 : decode cX5_count 134 = .ok (.ireturn, 1) := by decide +kernel
theorem dX5_count_135 : decode cX5_count 135 = .ok (.aload_n 0, 1) := by decide +kernel
theorem dX5_count_136 : decode cX5_count 136 = .ok (.iconst 1, 1) := by decide +kernel
theorem dX5_count_137 : decode cX5_count 137 = .ok (.invokevirtual 170, 3) := by decide +kernel
theorem dX5_count_140 : decode cX5_count 140 = .ok (.ireturn, 1) := by decide +kernel
theorem dX5_count_141 : decode cX5_count 141 = .ok (.aload_n 0, 1) := by decide +kernel
theorem dX5_count_142 : decode cX5_count 142 = .ok (.getfield 41, 3) := by decide +kernel
theorem dX5_count_145 : decode cX5_count 145 = .ok (.ireturn, 1) := by decide +kernel
theorem dX5_count_146 : decode cX5_count 146 = .ok (.aload_n 0, 1) := by decide +kernel
theorem dX5_count_147 : decode cX5_count 147 = .ok (.getfield 110, 3) := by decide +kernel
theorem dX5_count_150 : decode cX5_count 150 = .ok (.ireturn, 1) := by decide +kernel
theorem dX5_count_151 : decode cX5_count 151 = .ok (.bipush (-2), 2) := by decide +kernel
theorem dX5_count_153 : decode cX5_count 153 = .ok (.ireturn, 1) := by decide +kernel
end
section
theorem dJ6_bitCount_0f7a4_0 : decode cJ6_bitCount_0f7a4 0 = .ok (.iload_n 0, 1) := by decide +kernel
theorem dJ6_bitCount_0f7a4_1 : decode cJ6_bitCount_0f7a4 1 = .ok (.iload_n 0, 1) := by decide +kernel
theorem dJ6_bitCount_0f7a4_2 : decode cJ6_bitCount_0f7a4 2 = .ok (.iconst 1, 1) := by decide +kernel
theorem dJ6_bitCount_0f7a4_3 : decode cJ6_bitCount_0f7a4 3 = .ok (.iushr, 1) := by decide +kernel
theorem dJ6_bitCount_0f7a4_4 : decode cJ6_bitCount_0f7a4 4 = .ok (.ldc_w 265, 3) := by decide +kernel
theorem dJ6_bitCount_0f7a4_7 : decode cJ6_bitCount_0f7a4 7 = .ok (.iand, 1) := by decide +kernel
theorem dJ6_bitCount_0f7a4_8 : decode cJ6_bitCount_0f7a4 8 = .ok (.isub, 1) := by decide +kernel
theorem dJ6_bitCount_0f7a4_9 : decode cJ6_bitCount_0f7a4 9 = .ok (.istore_n 0, 1) := by decide +kernel
theorem dJ6_bitCount_0f7a4_10 : decode cJ6_bitCount_0f7a4 10 = .ok (.iload_n 0, 1) := by decide +kernel
theorem dJ6_bitCount_0f7a4_11 : decode cJ6_bitCount_0f7a4 11 = .ok (.ldc_w 266, 3) := by decide +kernel
theorem dJ6_bitCount_0f7a4_14 : decode cJ6_bitCount_0f7a4 14 = .ok (.iand, 1) := by decide +kernel
theorem dJ6_bitCount_0f7a4_15 : decode cJ6_bitCount_0f7a4 15 = .ok (.iload_n 0, 1) := by decide +kernel
theorem dJ6_bitCount_0f7a4_16 : decode cJ6_bitCount_0f7a4 16 = .ok (.iconst 2, 1) := by decide +kernel
theorem dJ6_bitCount_0f7a4_17 : decode cJ6_bitCount_0f7a4 17 = .ok (.iushr, 1) := by decide +kernel
theorem dJ6_bitCount_0f7a4_18 : decode cJ6_bitCount_0f7a4 18 = .ok (.ldc_w 266, 3) := by decide +kernel
theorem dJ6_bitCount_0f7a4_21 : decode cJ6_bitCount_0f7a4 21 = .ok (.iand, 1) := by decide +kernel
theorem dJ6_bitCount_0f7a4_22 : decode cJ6_bitCount_0f7a4 22 = .ok (.iadd, 1) := by decide +kernel
theorem dJ6_bitCount_0f7a4_23 : decode cJ6_bitCount_0f7a4 23 = .ok (.istore_n 0, 1) := by decide +kernel
theorem dJ6_bitCount_0f7a4_24 : decode cJ6_bitCount_0f7a4 24 = .ok (.iload_n 0, 1) := by decide +kernel
theorem dJ6_bitCount_0f7a4_25 : decode cJ6_bitCount_0f7a4 25 = .ok (.iload_n 0, 1) := by decide +kernel
theorem dJ6_bitCount_0f7a4_26 : decode cJ6_bitCount_0f7a4 26 = .ok (.iconst 4, 1) := by decide +kernel
theorem dJ6_bitCount_0f7a4_27 : decode cJ6_bitCount_0f7a4 27 = .ok (.iushr, 1) := by decide +kernel
theorem dJ6_bitCount_0f7a4_28 : decode cJ6_bitCount_0f7a4 28 = .ok (.iadd, 1) := by decide +kernel
theorem dJ6_bitCount_0f7a4_29 : decode cJ6_bitCount_0f7a4 29 = .ok (.ldc_w 267, 3) := by decide +kernel
theorem dJ6_bitCount_0f7a4_32 : decode cJ6_bitCount_0f7a4 32 = .ok (.iand, 1) := by decide +kernel
theorem dJ6_bitCount_0f7a4_33 : decode cJ6_bitCount_0f7a4 33 = .ok (.istore_n 0, 1) := by decide +kernel
theorem dJ6_bitCount_0f7a4_34 : decode cJ6_bitCount_0f7a4 34 = .ok (.iload_n 0, 1) := by decide +kernel
theorem dJ6_bitCount_0f7a4_35 : decode cJ6_bitCount_0f7a4 35 = .ok (.iload_n 0, 1) := by decide +kernel
theorem dJ6_bitCount_0f7a4_36 : decode cJ6_bitCount_0f7a4 36 = .ok (.bipush 8, 2) := by decide +kernel
theorem dJ6_bitCount_0f7a4_38 : decode cJ6_bitCount_0f7a4 38 = .ok (.iushr, 1) := by decide +kernel
theorem dJ6_bitCount_0f7a4_39 : decode cJ6_bitCount_0f7a4 39 = .ok (.iadd, 1) := by decide +kernel
theorem dJ6_bitCount_0f7a4_40 : decode cJ6_bitCount_0f7a4 40 = .ok (.istore_n 0, 1) := by decide +kernel
theorem dJ6_bitCount_0f7a4_41 : decode cJ6_bitCount_0f7a4 41 = .ok (.iload_n 0, 1) := by decide +kernel
theorem dJ6_bitCount_0f7a4_42 : decode cJ6_bitCount_0f7a4 42 = .ok (.iload_n 0, 1) := by decide +kernel
theorem dJ6_bitCount_0f7a4_43 : decode cJ6_bitCount_0f7a4 43 = .ok (.bipush 16, 2) := by decide +kernel
theorem dJ6_bitCount_0f7a4_45 : decode cJ6_bitCount_0f7a4 45 = .ok (.iushr, 1) := by decide +kernel
theorem dJ6_bitCount_0f7a4_46 : decode cJ6_bitCount_0f7a4 46 = .ok (.iadd, 1) := by decide +kernel
theorem dJ6_bitCount_0f7a4_47 : decode cJ6_bitCount_0f7a4 47 = .ok (.istore_n 0, 1) := by decide +kernel
theorem dJ6_bitCount_0f7a4_48 : decode cJ6_bitCount_0f7a4 48 = .ok (.iload_n 0, 1) := by decide +kernel
theorem dJ6_bitCount_0f7a4_49 : decode cJ6_bitCount_0f7a4 49 = .ok (.bipush 63, 2) := by decide +kernel
theorem dJ6_bitCount_0f7a4_51 : decode cJ6_bitCount_0f7a4 51 = .ok (.iand, 1) := by decide +kernel
theorem dJ6_bitCount_0f7a4_52 : decode cJ6_bitCount_0f7a4 52 = .ok (.ireturn, 1) := by decide +kernel
theorem dJ9_max_7cf53_0 : decode cJ9_max_7cf53 0 = .ok (.iload_n 0, 1) := by decide +kernel
theorem dJ9_max_7cf53_1 : decode cJ9_max_7cf53 1 = .ok (.iload_n 1, 1) := by decide +kernel
theorem dJ9_max_7cf53_2 : decode cJ9_max_7cf53 2 = .ok (.if_icmp .lt 7, 3) := by decide +kernel
theorem dJ9_max_7cf53_5 : decode cJ9_max_7cf53 5 = .ok (.iload_n 0, 1) := by decide +kernel
theorem dJ9_max_7cf53_6 : decode cJ9_max_7cf53 6 = .ok (.goto 4, 3) := by decide +kernel
theorem dJ9_max_7cf53_9 : decode cJ9_max_7cf53 9 = .ok (.iload_n 1, 1) := by decide +kernel
theorem dJ9_max_7cf53_10 : decode cJ9_max_7cf53 10 = .ok (.ireturn, 1) := by decide +kernel
theorem dJ9_min_7cf53_0 : decode cJ9_min_7cf53 0 = .ok (.iload_n 0, 1) := by decide +kernel
theorem dJ9_min_7cf53_1 : decode cJ9_min_7cf53 1 = .ok (.iload_n 1, 1) := by decide +kernel
theorem dJ9_min_7cf53_2 : decode cJ9_min_7cf53 2 = .ok (.if_icmp .gt 7, 3) := by decide +kernel
theorem dJ9_min_7cf53_5 : decode cJ9_min_7cf53 5 = .ok (.iload_n 0, 1) := by decide +kernel
theorem dJ9_min_7cf53_6 : decode cJ9_min_7cf53 6 = .ok (.goto 4, 3) := by decide +kernel
theorem dJ9_min_7cf53_9 : decode cJ9_min_7cf53 9 = .ok (.iload_n 1, 1) := by decide +kernel
theorem dJ9_min_7cf53_10 : decode cJ9_min_7cf53 10 = .ok (.ireturn, 1) := by decide +kernel
set_option maxRecDepth 20000 in
theorem ggJ0_length_8abf5_J0_coder_7d493 : GoodIn wsJ0_length_8abf5 wsJ0_coder_7d493 := goodIn_r _ [6, 7, 8] (by decide +kernel) (by decide +kernel)
set_option maxRecDepth 20000 in
theorem gJ0_length_8abf5_J0_coder_7d493 : GoodIn wsJ0_length_8abf5 (wsV RJ0 335 RJ0 yJ0_coder_7d493 wsJ0_coder_7d493) := goodIn_app (goodIn_of _ (by decide +kernel)) ggJ0_length_8abf5_J0_coder_7d493
theorem dJ0_length_8abf5_0 : decode cJ0_length_8abf5 0 = .ok (.aload_n 0, 1) := by decide +kernel
theorem dJ0_length_8abf5_1 : decode cJ0_length_8abf5 1 = .ok (.getfield 9, 3) := by decide +kernel
theorem dJ0_length_8abf5_4 : decode cJ0_length_8abf5 4 = .ok (.arraylength, 1) := by decide +kernel
theorem dJ0_length_8abf5_5 : decode cJ0_length_8abf5 5 = .ok (.aload_n 0, 1) := by decide +kernel
theorem dJ0_length_8abf5_6 : decode cJ0_length_8abf5 6 = .ok (.invokevirtual 335, 3) := by decide +kernel
theorem dJ0_length_8abf5_9 : decode cJ0_length_8abf5 9 = .ok (.ishr, 1) := by decide +kernel
theorem dJ0_length_8abf5_10 : decode cJ0_length_8abf5 10 = .ok (.ireturn, 1) := by decide +kernel
theorem dJ0_isEmpty_aae02_0 : decode cJ0_isEmpty_aae02 0 = .ok (.aload_n 0, 1) := by decide +kernel
theorem dJ0_isEmpty_aae02_1 : decode cJ0_isEmpty_aae02 1 = .ok (.getfield 9, 3) := by decide +kernel
theorem dJ0_isEmpty_aae02_4 : decode cJ0_isEmpty_aae02 4 = .ok (.arraylength, 1) := by decide +kernel
theorem dJ0_isEmpty_aae02_5 : decode cJ0_isEmpty_aae02 5 = .ok (.ifCond .ne 7, 3) := by decide +kernel
theorem dJ0_isEmpty_aae02_8 : decode cJ0_isEmpty_aae02 8 = .ok (.iconst 1, 1) := by decide +kernel
theorem dJ0_isEmpty_aae02_9 : decode cJ0_isEmpty_aae02 9 = .ok (.goto 4, 3) := by decide +kernel
theorem dJ0_isEmpty_aae02_12 : decode cJ0_isEmpty_aae02 12 = .ok (.iconst 0, 1) := by decide +kernel
theorem dJ0_isEmpty_aae02_13 : decode cJ0_isEmpty_aae02 13 = .ok (.ireturn, 1) := by decide +kernel
set_option maxRecDepth 20000 in
theorem ggJ0_charAt_5068e_J0_isLatin1_aae02 : GoodIn wsJ0_charAt_5068e wsJ0_isLatin1_aae02 := goodIn_r _ [6, 7, 8] (by decide +kernel) (by decide +kernel)
set_option maxRecDepth 20000 in
theorem gJ0_charAt_5068e_J0_isLatin1_aae02 : GoodIn wsJ0_charAt_5068e (wsV RJ0 492 RJ0 yJ0_isLatin1_aae02 wsJ0_isLatin1_aae02) := goodIn_app (goodIn_of _ (by decide +kernel)) ggJ0_charAt_5068e_J0_isLatin1_aae02
set_option maxRecDepth 20000 in
theorem ggJ0_charAt_5068e_J1_charAt_3b067 : GoodIn wsJ0_charAt_5068e wsJ1_charAt_3b067 := goodIn_r _ [12, 13, 14, 5, 15, 16, 17, 18, 19, 20] (by decide +kernel) (by decide +kernel)
set_option maxRecDepth 20000 in
theorem gJ0_charAt_5068e_J1_charAt_3b067 : GoodIn wsJ0_charAt_5068e (va_wsS RJ0 495 yJ1_charAt_3b067 wsJ1_charAt_3b067) := goodIn_app (goodIn_of _ (by decide +kernel)) ggJ0_charAt_5068e_J1_charAt_3b067
set_option maxRecDepth 20000 in
theorem ggJ0_charAt_5068e_J2_charAt_3b067 : GoodIn wsJ0_charAt_5068e wsJ2_charAt_3b067 := goodIn_r _ [24, 25, 26, 23, 27, 28, 29, 30, 31, 14, 5, 15, 16, 17, 18, 19, 20, 32, 33, 34, 35, 36, 37] (by decide +kernel) (by decide +kernel)
set_option maxRecDepth 20000 in
theorem gJ0_charAt_5068e_J2_charAt_3b067 : GoodIn wsJ0_charAt_5068e (va_wsS RJ0 498 yJ2_charAt_3b067 wsJ2_charAt_3b067) := goodIn_app (goodIn_of _ (by decide +kernel)) ggJ0_charAt_5068e_J2_charAt_3b067
theorem dJ0_charAt_5068e_0 : decode cJ0_charAt_5068e 0 = .ok (.aload_n 0, 1) := by decide +kernel
theorem dJ0_charAt_5068e_1 : decode cJ0_charAt_5068e 1 = .ok (.invokevirtual 492, 3) := by decide +kernel
theorem dJ0_charAt_5068e_4 : decode cJ0_charAt_5068e 4 = .ok (.ifCond .eq 12, 3) := by decide +kernel
theorem dJ0_charAt_5068e_7 : decode cJ0_charAt_5068e 7 = .ok (.aload_n 0, 1) := by decide +kernel
theorem dJ0_charAt_5068e_8 : decode cJ0_charAt_5068e 8 = .ok (.getfield 9, 3) := by decide +kernel
theorem dJ0_charAt_5068e_11 : decode cJ0_charAt_5068e 11 = .ok (.iload_n 1, 1) := by decide +kernel
theorem dJ0_charAt_5068e_12 : decode cJ0_charAt_5068e 12 = .ok (.invokestatic 495, 3) := by decide +kernel
theorem dJ0_charAt_5068e_15 : decode cJ0_charAt_5068e 15 = .ok (.ireturn, 1) := by decide +kernel
theorem dJ0_charAt_5068e_16 : decode cJ0_charAt_5068e 16 = .ok (.aload_n 0, 1) := by decide +kernel
theorem dJ0_charAt_5068e_17 : decode cJ0_charAt_5068e 17 = .ok (.getfield 9, 3) := by decide +kernel
theorem dJ0_charAt_5068e_20 : decode cJ0_charAt_5068e 20 = .ok (.iload_n 1, 1) := by decide +kernel
theorem dJ0_charAt_5068e_21 : decode cJ0_charAt_5068e 21 = .ok (.invokestatic 498, 3) := by decide +kernel
theorem dJ0_charAt_5068e_24 : decode cJ0_charAt_5068e 24 = .ok (.ireturn, 1) := by decide +kernel
theorem dJ0_coder_7d493_0 : decode cJ0_coder_7d493 0 = .ok (.getstatic 38, 3) := by decide +kernel
theorem dJ0_coder_7d493_3 : decode cJ0_coder_7d493 3 = .ok (.ifCond .eq 10, 3) := by decide +kernel
theorem dJ0_coder_7d493_6 : decode cJ0_coder_7d493 6 = .ok (.aload_n 0, 1) := by decide +kernel
theorem dJ0_coder_7d493_7 : decode cJ0_coder_7d493 7 = .ok (.getfield 15, 3) := by decide +kernel
theorem dJ0_coder_7d493_10 : decode cJ0_coder_7d493 10 = .ok (.goto 4, 3) := by decide +kernel
theorem dJ0_coder_7d493_13 : decode cJ0_coder_7d493 13 = .ok (.iconst 1, 1) := by decide +kernel
theorem dJ0_coder_7d493_14 : decode cJ0_coder_7d493 14 = .ok (.ireturn, 1) := by decide +kernel
theorem dJ0_isLatin1_aae02_0 : decode cJ0_isLatin1_aae02 0 = .ok (.getstatic 38, 3) := by decide +kernel
theorem dJ0_isLatin1_aae02_3 : decode cJ0_isLatin1_aae02 3 = .ok (.ifCond .eq 14, 3) := by decide +kernel
theorem dJ0_isLatin1_aae02_6 : decode cJ0_isLatin1_aae02 6 = .ok (.aload_n 0, 1) := by decide +kernel
theorem dJ0_isLatin1_aae02_7 : decode cJ0_isLatin1_aae02 7 = .ok (.getfield 15, 3) := by decide +kernel
theorem dJ0_isLatin1_aae02_10 : decode cJ0_isLatin1_aae02 10 = .ok (.ifCond .ne 7, 3) := by decide +kernel
theorem dJ0_isLatin1_aae02_13 : decode cJ0_isLatin1_aae02 13 = .ok (.iconst 1, 1) := by decide +kernel
theorem dJ0_isLatin1_aae02_14 : decode cJ0_isLatin1_aae02 14 = .ok (.goto 4, 3) := by decide +kernel
theorem dJ0_isLatin1_aae02_17 : decode cJ0_isLatin1_aae02 17 = .ok (.iconst 0, 1) := by decide +kernel
theorem dJ0_isLatin1_aae02_18 : decode cJ0_isLatin1_aae02 18 = .ok (.ireturn, 1) := by decide +kernel
set_option maxRecDepth 20000 in
theorem ggJ0_checkIndex_df160_J3_checkIndex_8e157 : GoodIn wsJ0_checkIndex_df160 wsJ3_checkIndex_8e157 := goodIn_r _ [5] (by decide +kernel) (by decide +kernel)
set_option maxRecDepth 20000 in
theorem gJ0_checkIndex_df160_J3_checkIndex_8e157 : GoodIn wsJ0_checkIndex_df160 (va_wsS RJ0 1059 yJ3_checkIndex_8e157 wsJ3_checkIndex_8e157) := goodIn_app (goodIn_of _ (by decide +kernel)) ggJ0_checkIndex_df160_J3_checkIndex_8e157
theorem dJ0_checkIndex_df160_0 : decode cJ0_checkIndex_df160 0 = .ok (.iload_n 0, 1) := by decide +kernel
theorem dJ0_checkIndex_df160_1 : decode cJ0_checkIndex_df160 1 = .ok (.iload_n 1, 1) := by decide +kernel
theorem dJ0_checkIndex_df160_2 : decode cJ0_checkIndex_df160 2 = .ok (.getstatic 1053, 3) := by decide +kernel
theorem dJ0_checkIndex_df160_5 : decode cJ0_checkIndex_df160 5 = .ok (.invokestatic 1059, 3) := by decide +kernel
theorem dJ0_checkIndex_df160_8 : decode cJ0_checkIndex_df160 8 = .ok (.pop, 1) := by decide +kernel
theorem dJ0_checkIndex_df160_9 : decode cJ0_checkIndex_df160 9 = .ok (.return_, 1) := by decide +kernel
set_option maxRecDepth 20000 in
theorem ggJ1_charAt_3b067_J0_checkIndex_df160 : GoodIn wsJ1_charAt_3b067 wsJ0_checkIndex_df160 := goodIn_r _ [4, 5, 6, 7, 8, 9] (by decide +kernel) (by decide +kernel)
set_option maxRecDepth 20000 in
theorem gJ1_charAt_3b067_J0_checkIndex_df160 : GoodIn wsJ1_charAt_3b067 (va_wsS RJ1 9 yJ0_checkIndex_df160 wsJ0_checkIndex_df160) := goodIn_app (goodIn_of _ (by decide +kernel)) ggJ1_charAt_3b067_J0_checkIndex_df160
theorem dJ1_charAt_3b067_0 : decode cJ1_charAt_3b067 0 = .ok (.iload_n 1, 1) := by decide +kernel
theorem dJ1_charAt_3b067_1 : decode cJ1_charAt_3b067 1 = .ok (.aload_n 0, 1) := by decide +kernel
theorem dJ1_charAt_3b067_2 : decode cJ1_charAt_3b067 2 = .ok (.arraylength, 1) := by decide +kernel
theorem dJ1_charAt_3b067_3 : decode cJ1_charAt_3b067 3 = .ok (.invokestatic 9, 3) := by decide +kernel
theorem dJ1_charAt_3b067_6 : decode cJ1_charAt_3b067 6 = .ok (.aload_n 0, 1) := by decide +kernel
theorem dJ1_charAt_3b067_7 : decode cJ1_charAt_3b067 7 = .ok (.iload_n 1, 1) := by decide +kernel
theorem dJ1_charAt_3b067_8 : decode cJ1_charAt_3b067 8 = .ok (.baload, 1) := by decide +kernel
theorem dJ1_charAt_3b067_9 : decode cJ1_charAt_3b067 9 = .ok (.sipush 255, 3) := by decide +kernel
theorem dJ1_charAt_3b067_12 : decode cJ1_charAt_3b067 12 = .ok (.iand, 1) := by decide +kernel
theorem dJ1_charAt_3b067_13 : decode cJ1_charAt_3b067 13 = .ok (.i2c, 1) := by decide +kernel
theorem dJ1_charAt_3b067_14 : decode cJ1_charAt_3b067 14 = .ok (.ireturn, 1) := by decide +kernel
set_option maxRecDepth 20000 in
theorem ggJ2_getChar_3b067_J2_length_9d52b : GoodIn wsJ2_getChar_3b067 wsJ2_length_9d52b := goodIn_r _ [7] (by decide +kernel) (by decide +kernel)
set_option maxRecDepth 20000 in
theorem gJ2_getChar_3b067_J2_length_9d52b : GoodIn wsJ2_getChar_3b067 (va_wsS RJ2 48 yJ2_length_9d52b wsJ2_length_9d52b) := goodIn_app (goodIn_of _ (by decide +kernel)) ggJ2_getChar_3b067_J2_length_9d52b
theorem dJ2_getChar_3b067_0 : decode cJ2_getChar_3b067 0 = .ok (.getstatic 44, 3) := by decide +kernel
theorem dJ2_getChar_3b067_3 : decode cJ2_getChar_3b067 3 = .ok (.ifCond .ne 25, 3) := by decide +kernel
theorem dJ2_getChar_3b067_6 : decode cJ2_getChar_3b067 6 = .ok (.iload_n 1, 1) := by decide +kernel
theorem dJ2_getChar_3b067_7 : decode cJ2_getChar_3b067 7 = .ok (.ifCond .lt 11, 3) := by decide +kernel
theorem dJ2_getChar_3b067_10 : decode cJ2_getChar_3b067 10 = .ok (.iload_n 1, 1) := by decide +kernel
theorem dJ2_getChar_3b067_11 : decode cJ2_getChar_3b067 11 = .ok (.aload_n 0, 1) := by decide +kernel
theorem dJ2_getChar_3b067_12 : decode cJ2_getChar_3b067 12 = .ok (.invokestatic 48, 3) := by decide +kernel
theorem dJ2_getChar_3b067_15 : decode cJ2_getChar_3b067 15 = .ok (.if_icmp .lt 13, 3) := by decide +kernel
theorem dJ2_getChar_3b067_18 : decode cJ2_getChar_3b067 18 = .ok (.new 52, 3) := by decide +kernel
theorem dJ2_getChar_3b067_21 : decode cJ2_getChar_3b067 21 = .ok (.dup, 1) := by decide +kernel
theorem dJ2_getChar_3b067_22 : decode cJ2_getChar_3b067 22 = .ok (.ldc 54, 2) := by decide +kernel
theorem dJ2_getChar_3b067_24 : decode cJ2_getChar_3b067 24 = .ok (.invokespecial 56, 3) := by decide +kernel
theorem dJ2_getChar_3b067_27 : decode cJ2_getChar_3b067 27 = .ok (.athrow, 1) := by decide +kernel
theorem dJ2_getChar_3b067_28 : decode cJ2_getChar_3b067 28 = .ok (.iload_n 1, 1) := by decide +kernel
theorem dJ2_getChar_3b067_29 : decode cJ2_getChar_3b067 29 = .ok (.iconst 1, 1) := by decide +kernel
theorem dJ2_getChar_3b067_30 : decode cJ2_getChar_3b067 30 = .ok (.ishl, 1) := by decide +kernel
theorem dJ2_getChar_3b067_31 : decode cJ2_getChar_3b067 31 = .ok (.istore_n 1, 1) := by decide +kernel
theorem dJ2_getChar_3b067_32 : decode cJ2_getChar_3b067 32 = .ok (.aload_n 0, 1) := by decide +kernel
theorem dJ2_getChar_3b067_33 : decode cJ2_getChar_3b067 33 = .ok (.iload_n 1, 1) := by decide +kernel
theorem dJ2_getChar_3b067_34 : decode cJ2_getChar_3b067 34 = .ok (.iinc 1 1, 3) := by decide +kernel
theorem dJ2_getChar_3b067_37 : decode cJ2_getChar_3b067 37 = .ok (.baload, 1) := by decide +kernel
theorem dJ2_getChar_3b067_38 : decode cJ2_getChar_3b067 38 = .ok (.sipush 255, 3) := by decide +kernel
theorem dJ2_getChar_3b067_41 : decode cJ2_getChar_3b067 41 = .ok (.iand, 1) := by decide +kernel
theorem dJ2_getChar_3b067_42 : decode cJ2_getChar_3b067 42 = .ok (.getstatic 59, 3) := by decide +kernel
theorem dJ2_getChar_3b067_45 : decode cJ2_getChar_3b067 45 = .ok (.ishl, 1) := by decide +kernel
theorem dJ2_getChar_3b067_46 : decode cJ2_getChar_3b067 46 = .ok (.aload_n 0, 1) := by decide +kernel
theorem dJ2_getChar_3b067_47 : decode cJ2_getChar_3b067 47 = .ok (.iload_n 1, 1) := by decide +kernel
theorem dJ2_getChar_3b067_48 : decode cJ2_getChar_3b067 48 = .ok (.baload, 1) := by decide +kernel
theorem dJ2_getChar_3b067_49 : decode cJ2_getChar_3b067 49 = .ok (.sipush 255, 3) := by decide +kernel
theorem dJ2_getChar_3b067_52 : decode cJ2_getChar_3b067 52 = .ok (.iand, 1) := by decide +kernel
theorem dJ2_getChar_3b067_53 : decode cJ2_getChar_3b067 53 = .ok (.getstatic 63, 3) := by decide +kernel
theorem dJ2_getChar_3b067_56 : decode cJ2_getChar_3b067 56 = .ok (.ishl, 1) := by decide +kernel
theorem dJ2_getChar_3b067_57 : decode cJ2_getChar_3b067 57 = .ok (.ior, 1) := by decide +kernel
theorem dJ2_getChar_3b067_58 : decode cJ2_getChar_3b067 58 = .ok (.i2c, 1) := by decide +kernel
theorem dJ2_getChar_3b067_59 : decode cJ2_getChar_3b067 59 = .ok (.ireturn, 1) := by decide +kernel
theorem dJ2_length_9d52b_0 : decode cJ2_length_9d52b 0 = .ok (.aload_n 0, 1) := by decide +kernel
theorem dJ2_length_9d52b_1 : decode cJ2_length_9d52b 1 = .ok (.arraylength, 1) := by decide +kernel
theorem dJ2_length_9d52b_2 : decode cJ2_length_9d52b 2 = .ok (.iconst 1, 1) := by decide +kernel
theorem dJ2_length_9d52b_3 : decode cJ2_length_9d52b 3 = .ok (.ishr, 1) := by decide +kernel
theorem dJ2_length_9d52b_4 : decode cJ2_length_9d52b 4 = .ok (.ireturn, 1) := by decide +kernel
set_option maxRecDepth 20000 in
theorem ggJ2_charAt_3b067_J2_checkIndex_2214a : GoodIn wsJ2_charAt_3b067 wsJ2_checkIndex_2214a := goodIn_r _ [4, 5, 6, 3, 7, 8, 9, 10, 11, 12, 13, 14, 15, 16] (by decide +kernel) (by decide +kernel)
set_option maxRecDepth 20000 in
theorem gJ2_charAt_3b067_J2_checkIndex_2214a : GoodIn wsJ2_charAt_3b067 (va_wsS RJ2 67 yJ2_checkIndex_2214a wsJ2_checkIndex_2214a) := goodIn_app (goodIn_of _ (by decide +kernel)) ggJ2_charAt_3b067_J2_checkIndex_2214a
set_option maxRecDepth 20000 in
theorem ggJ2_charAt_3b067_J2_getChar_3b067 : GoodIn wsJ2_charAt_3b067 wsJ2_getChar_3b067 := goodIn_r _ [19, 20, 21, 22, 5, 6, 3, 7] (by decide +kernel) (by decide +kernel)
set_option maxRecDepth 20000 in
theorem gJ2_charAt_3b067_J2_getChar_3b067 : GoodIn wsJ2_charAt_3b067 (va_wsS RJ2 71 yJ2_getChar_3b067 wsJ2_getChar_3b067) := goodIn_app (goodIn_of _ (by decide +kernel)) ggJ2_charAt_3b067_J2_getChar_3b067
theorem dJ2_charAt_3b067_0 : decode cJ2_charAt_3b067 0 = .ok (.iload_n 1, 1) := by decide +kernel
theorem dJ2_charAt_3b067_1 : decode cJ2_charAt_3b067 1 = .ok (.aload_n 0, 1) := by decide +kernel
theorem dJ2_charAt_3b067_2 : decode cJ2_charAt_3b067 2 = .ok (.invokestatic 67, 3) := by decide +kernel
theorem dJ2_charAt_3b067_5 : decode cJ2_charAt_3b067 5 = .ok (.aload_n 0, 1) := by decide +kernel
theorem dJ2_charAt_3b067_6 : decode cJ2_charAt_3b067 6 = .ok (.iload_n 1, 1) := by decide +kernel
theorem dJ2_charAt_3b067_7 : decode cJ2_charAt_3b067 7 = .ok (.invokestatic 71, 3) := by decide +kernel
theorem dJ2_charAt_3b067_10 : decode cJ2_charAt_3b067 10 = .ok (.ireturn, 1) := by decide +kernel
set_option maxRecDepth 20000 in
theorem ggJ2_checkIndex_2214a_J2_length_9d52b : GoodIn wsJ2_checkIndex_2214a wsJ2_length_9d52b := goodIn_r _ [4] (by decide +kernel) (by decide +kernel)
set_option maxRecDepth 20000 in
theorem gJ2_checkIndex_2214a_J2_length_9d52b : GoodIn wsJ2_checkIndex_2214a (va_wsS RJ2 48 yJ2_length_9d52b wsJ2_length_9d52b) := goodIn_app (goodIn_of _ (by decide +kernel)) ggJ2_checkIndex_2214a_J2_length_9d52b
set_option maxRecDepth 20000 in
theorem ggJ2_checkIndex_2214a_J0_checkIndex_df160 : GoodIn wsJ2_checkIndex_2214a wsJ0_checkIndex_df160 := goodIn_r _ [8, 9, 10, 11, 12, 13] (by decide +kernel) (by decide +kernel)
set_option maxRecDepth 20000 in
theorem gJ2_checkIndex_2214a_J0_checkIndex_df160 : GoodIn wsJ2_checkIndex_2214a (va_wsS RJ2 414 yJ0_checkIndex_df160 wsJ0_checkIndex_df160) := goodIn_app (goodIn_of _ (by decide +kernel)) ggJ2_checkIndex_2214a_J0_checkIndex_df160
theorem dJ2_checkIndex_2214a_0 : decode cJ2_checkIndex_2214a 0 = .ok (.iload_n 0, 1) := by decide +kernel
theorem dJ2_checkIndex_2214a_1 : decode cJ2_checkIndex_2214a 1 = .ok (.aload_n 1, 1) := by decide +kernel
theorem dJ2_checkIndex_2214a_2 : decode cJ2_checkIndex_2214a 2 = .ok (.invokestatic 48, 3) := by decide +kernel
theorem dJ2_checkIndex_2214a_5 : decode cJ2_checkIndex_2214a 5 = .ok (.invokestatic 414, 3) := by decide +kernel
theorem dJ2_checkIndex_2214a_8 : decode cJ2_checkIndex_2214a 8 = .ok (.return_, 1) := by decide +kernel
theorem dJ3_checkIndex_8e157_0 : decode cJ3_checkIndex_8e157 0 = .ok (.iload_n 0, 1) := by decide +kernel
theorem dJ3_checkIndex_8e157_1 : decode cJ3_checkIndex_8e157 1 = .ok (.ifCond .lt 8, 3) := by decide +kernel
theorem dJ3_checkIndex_8e157_4 : decode cJ3_checkIndex_8e157 4 = .ok (.iload_n 0, 1) := by decide +kernel
theorem dJ3_checkIndex_8e157_5 : decode cJ3_checkIndex_8e157 5 = .ok (.iload_n 1, 1) := by decide +kernel
theorem dJ3_checkIndex_8e157_6 : decode cJ3_checkIndex_8e157 6 = .ok (.if_icmp .lt 10, 3) := by decide +kernel
theorem dJ3_checkIndex_8e157_9 : decode cJ3_checkIndex_8e157 9 = .ok (.aload_n 2, 1) := by decide +kernel
theorem dJ3_checkIndex_8e157_10 : decode cJ3_checkIndex_8e157 10 = .ok (.iload_n 0, 1) := by decide +kernel
theorem dJ3_checkIndex_8e157_11 : decode cJ3_checkIndex_8e157 11 = .ok (.iload_n 1, 1) := by decide +kernel
theorem dJ3_checkIndex_8e157_12 : decode cJ3_checkIndex_8e157 12 = .ok (.invokestatic 95, 3) := by decide +kernel
theorem dJ3_checkIndex_8e157_15 : decode cJ3_checkIndex_8e157 15 = .ok (.athrow, 1) := by decide +kernel
theorem dJ3_checkIndex_8e157_16 : decode cJ3_checkIndex_8e157 16 = .ok (.iload_n 0, 1) := by decide +kernel
theorem dJ3_checkIndex_8e157_17 : decode cJ3_checkIndex_8e157 17 = .ok (.ireturn, 1) := by decide +kernel
abbrev vwCl : List vw_C := [(RX0, TX0, 3), (RX1, TX1, 6), (RX2, TX2, 16), (RX3, TX3, 2), (RX4, TX4, 10), (RX5, TX5, 15)]
end
section
/-! THE MEMORY: a function of an object's number and a place; the world that it stands for is a list of cells, one a number -/
abbrev Mem : Type := Nat → Nat → Int32
/-- a cell's kind: an object (class, its fields: a number, or a reference to an object that never changes); an array of ints or chars; an array of references that never changes -/
abbrev Kd : Type := (Nat × List (Option Nat)) ⊕ ((Bool × Nat) ⊕ (Nat × (Nat → Nat)))
abbrev GG : Type := va_G × (Nat → Nat) × ClassId × ClassId × ClassId × (Nat → Nat) × (Nat → Nat)
def bI (b : Bool) : Int32 := cond b 1 0
def imax (x y : Int32) : Int32 := if x < y then y else x
def imin (x y : Int32) : Int32 := if y < x then y else x
def ushr (x y : Int32) : Int32 := (x.toUInt32 >>> (y.toUInt32 &&& Int32.toUInt32 31)).toInt32
def k_fl (ad : Nat → Nat) (f : Nat → Int32) : Nat → List (Option Nat) → List Value
  | _, [] => []
  | k, none :: r => .int (f k) :: k_fl ad f (k + 1) r
  | k, some o :: r => .ref (ad o) :: k_fl ad f (k + 1) r
def k_cl (G : GG) (f : Nat → Int32) : Kd → va_E
  | .inl (ci, fs) => .inr (ci, k_fl G.2.1 f 0 fs)
  | .inr (.inl (b, n)) => .inl (if b then G.2.2.2.1 else G.2.2.1, n, .inl f)
  | .inr (.inr (n, r)) => .inl (G.2.2.2.2.1, n, .inr (.inr (.inr (.inr (fun j => some (G.2.1 (r j)))))))
def k_wl (G : GG) (g : Mem) : Nat → List Kd → va_W
  | _, [] => []
  | o, k :: r => (G.2.1 o, k_cl G (g o) k) :: k_wl G g (o + 1) r
def k_ty (G : GG) : List (ClassId × FieldType) := [(G.2.2.1, .int), (G.2.2.2.1, .char), (G.2.2.2.2.1, .object RX2)]
def m_set (g : Mem) (o : Nat) (f : Nat → Int32) : Mem := fun q => if q = o then f else g q
def m_up (g : Mem) (o k : Nat) (v : Int32) : Mem := m_set g o (upd (g o) k v)
def rd (g : Mem) (o n : Nat) (i : Int32) : Option Int32 := if i < 0 ∨ n ≤ i.toNatClampNeg then none else some (g o i.toNatClampNeg)
def wr (g : Mem) (o n : Nat) (i v : Int32) : Option Mem := if i < 0 ∨ n ≤ i.toNatClampNeg then none else some (m_up g o i.toNatClampNeg v)
def rdr (n : Nat) (r : Nat → Nat) (i : Int32) : Option Nat := if i < 0 ∨ n ≤ i.toNatClampNeg then none else some (r i.toNatClampNeg)
theorem k_wl_get {G : GG} {g : Mem} {k : Kd} : ∀ (sh : List Kd) (o i : Nat), sh[i]? = some k → (k_wl G g o sh)[i]? = some (G.2.1 (o + i), k_cl G (g (o + i)) k) := by
  intro sh
  induction sh with
  | nil => intro o i h; simp at h
  | cons a r ih =>
    intro o i h
    cases i with
    | zero => simp at h; subst h; rfl
    | succ i =>
      simp only [List.getElem?_cons_succ] at h
      have := ih (o + 1) i h
      rw [show o + (i + 1) = o + 1 + i from by omega]
      simpa [k_wl] using this
theorem k_wl_same {G : GG} {g g' : Mem} : ∀ (sh : List Kd) (o : Nat), (∀ q, o ≤ q → g q = g' q) → k_wl G g o sh = k_wl G g' o sh := by
  intro sh
  induction sh with
  | nil => intro o _; rfl
  | cons a r ih =>
    intro o h
    simp only [k_wl]
    rw [h o (Nat.le_refl _), ih (o + 1) (fun q hq => h q (by omega))]
theorem k_wl_set {G : GG} {g : Mem} {k : Kd} {f : Nat → Int32} : ∀ (sh : List Kd) (o i : Nat), sh[i]? = some k → (k_wl G g o sh).set i (G.2.1 (o + i), k_cl G f k) = k_wl G (m_set g (o + i) f) o sh := by
  intro sh
  induction sh with
  | nil => intro o i h; simp at h
  | cons a r ih =>
    intro o i h
    cases i with
    | zero =>
      simp at h; subst h
      simp only [k_wl, List.set_cons_zero, Nat.add_zero]
      rw [show m_set g o f o = f from by simp [m_set]]
      rw [k_wl_same r (o + 1) (g := g) (g' := m_set g o f) (fun q hq => by simp [m_set]; intro e; omega)]
    | succ i =>
      simp only [List.getElem?_cons_succ] at h
      have := ih (o + 1) i h
      rw [show o + (i + 1) = o + 1 + i from by omega]
      simp only [k_wl, List.set_cons_succ]
      rw [this]
      congr 2
      rw [show m_set g (o + 1 + i) f o = g o from by simp [m_set]; intro e; omega]
theorem k_fl_len (ad : Nat → Nat) (f : Nat → Int32) : ∀ (fs : List (Option Nat)) (k : Nat), (k_fl ad f k fs).length = fs.length := by
  intro fs
  induction fs with
  | nil => intro k; rfl
  | cons a r ih => intro k; cases a <;> simp [k_fl, ih]
theorem k_fl_int (ad : Nat → Nat) (f : Nat → Int32) : ∀ (fs : List (Option Nat)) (k i : Nat), fs[i]? = some none → (k_fl ad f k fs)[i]? = some (.int (f (k + i))) := by
  intro fs
  induction fs with
  | nil => intro k i h; simp at h
  | cons a r ih =>
    intro k i h
    cases i with
    | zero => simp at h; subst h; rfl
    | succ i =>
      simp only [List.getElem?_cons_succ] at h
      have := ih (k + 1) i h
      rw [show k + (i + 1) = k + 1 + i from by omega]
      cases a <;> simpa [k_fl] using this
theorem k_fl_ref (ad : Nat → Nat) (f : Nat → Int32) {o : Nat} : ∀ (fs : List (Option Nat)) (k i : Nat), fs[i]? = some (some o) → (k_fl ad f k fs)[i]? = some (.ref (ad o)) := by
  intro fs
  induction fs with
  | nil => intro k i h; simp at h
  | cons a r ih =>
    intro k i h
    cases i with
    | zero => simp at h; subst h; rfl
    | succ i =>
      simp only [List.getElem?_cons_succ] at h
      have := ih (k + 1) i h
      cases a <;> simpa [k_fl] using this
theorem k_fl_same (ad : Nat → Nat) {f f' : Nat → Int32} : ∀ (fs : List (Option Nat)) (k : Nat), (∀ q, k ≤ q → f q = f' q) → k_fl ad f k fs = k_fl ad f' k fs := by
  intro fs
  induction fs with
  | nil => intro k _; rfl
  | cons a r ih =>
    intro k h
    cases a <;> simp only [k_fl] <;> rw [ih (k + 1) (fun q hq => h q (by omega))]
    rw [h k (Nat.le_refl _)]
theorem k_fl_set (ad : Nat → Nat) (f : Nat → Int32) (v : Int32) : ∀ (fs : List (Option Nat)) (k i : Nat), fs[i]? = some none → (k_fl ad f k fs).set i (.int v) = k_fl ad (upd f (k + i) v) k fs := by
  intro fs
  induction fs with
  | nil => intro k i h; simp at h
  | cons a r ih =>
    intro k i h
    cases i with
    | zero =>
      simp at h; subst h
      simp only [k_fl, List.set_cons_zero, Nat.add_zero]
      rw [show upd f k v k = v from by simp [upd]]
      rw [k_fl_same ad r (k + 1) (f := f) (f' := upd f k v) (fun q hq => by simp [upd]; intro e; omega)]
    | succ i =>
      simp only [List.getElem?_cons_succ] at h
      have := ih (k + 1) i h
      rw [show k + (i + 1) = k + 1 + i from by omega]
      cases a
      · simp only [k_fl, List.set_cons_succ]
        rw [this, show upd f (k + 1 + i) v k = f k from by simp [upd]; intro e; omega]
      · simp only [k_fl, List.set_cons_succ]
        rw [this]
theorem k_D_any {G : GG} {A : Nat → Prop} {g g' : Mem} {sh : List Kd} (h : va_D A (k_wl G g 0 sh)) : va_D A (k_wl G g' 0 sh) := by
  have key : ∀ (k : Nat) (q : Nat × va_E), (k_wl G g' 0 sh)[k]? = some q → ∃ q', (k_wl G g 0 sh)[k]? = some q' ∧ q'.1 = q.1 := by
    intro k q hq
    have hlen : ∀ (g : Mem) (sh : List Kd) (o : Nat), (k_wl G g o sh).length = sh.length := by
      intro g sh
      induction sh with
      | nil => intro o; rfl
      | cons a r ih => intro o; simp [k_wl, ih]
    have hk : k < sh.length := by
      have := (List.getElem?_eq_some_iff.mp hq).1
      rwa [hlen] at this
    have h1 : sh[k]? = some sh[k] := List.getElem?_eq_getElem hk
    have e1 := k_wl_get (G := G) (g := g) sh 0 k h1
    have e2 := k_wl_get (G := G) (g := g') sh 0 k h1
    rw [hq] at e2
    exact ⟨_, e1, by rw [Option.some.inj e2]⟩
  refine ⟨fun i j p q hi hj e => ?_, fun k q hk => ?_⟩
  · obtain ⟨p', a1, a2⟩ := key i p hi
    obtain ⟨q', b1, b2⟩ := key j q hj
    exact h.1 i j p' q' a1 b1 (by rw [a2, b2, e])
  · obtain ⟨q', a1, a2⟩ := key k q hk
    rw [← a2]
    exact h.2 k q' a1
/-- the calls between nest mates: the class that calls, the pool's number, the method -/
def k_nw : List (String × Nat × MethodName) := [(RX4, 9, yX2_init), (RX0, 17, yX2_init), (RX4, 28, yX3_init), (RX4, 35, yX1_init), (RX2, 77, yX4_isAcceptor), (RX2, 81, yX4_has), (RX2, 91, yX4_isSize), (RX2, 98, yX4_isProposer), (RX2, 104, yX4_cell), (RX2, 117, yX4_isSlot), (RX2, 120, yX4_isValue)]
def k_NW (U : State) : Prop := ∀ q ∈ k_nw, va_Nw (.methodLinkNest q.1 q.2.1 q.2.2 RX4) U
theorem k_NW.warm {s U : State} (hW : s.WarmedH U.vm) (h : k_NW s) : k_NW U := fun q hq => va_Nw.warmM hW (h q hq)
theorem k_NW.same {u U : State} (hv : u.vm = U.vm) (h : k_NW u) : k_NW U := fun q hq => va_Nw.same rfl hv (h q hq)
/-! the texts that the class's code loads, and the statics that their methods read -/
def k_len : List Nat := [1, 3, 5, 5, 1, 0]
def k_byt : List (List Int32) := [[112], [112, 44, 97], [112, 44, 35, 44, 35], [112, 44, 35, 44, 97], [97], []]
def k_ix : List Nat := [61, 63, 65, 67, 69, 71]
def k_tx : List String := ["p", "p,a", "p,#,#", "p,#,a", "a", ""]
def k_E (G : GG) (A : Nat → Prop) (U : State) : Prop := vk_S 6 k_len k_byt G.2.2.2.2.2.1 G.2.2.2.2.2.2 A U U.heap ∧ (∀ i, i < 6 → vk_R RX1 (k_ix.getD i 0) (k_tx.getD i "") (G.2.2.2.2.2.1 i) U) ∧ va_Z "java/lang/String" "COMPACT_STRINGS" "Z" (.int 1) A U U.heap ∧ va_Zq "jdk/internal/util/Preconditions" "SIOOBE_FORMATTER" "Ljava/util/function/BiFunction;" A U U.heap
theorem k_E.move {G : GG} {A : Nat → Prop} {s U : State} {H : Heap} {locs : List Loc} (h : k_E G A s) (hS : va_S A s.heap H locs) (hU : U.heap = H) (hW : s.WarmedH U.vm) : k_E G A U := by
  obtain ⟨h1, h2, h3, h4⟩ := h
  subst hU
  exact ⟨(h1.moved hW.alike).kept hS.2.1, fun i hi => (h2 i hi).warm hW, (h3.moved hW.alike).kept hS.2.1, (h4.moved hW.alike).kept hS.2.1⟩
theorem k_E.call {G : GG} {A : Nat → Prop} {U : State} {f : JFrame} {mk : MethodId} {a : Array Value} (h : k_E G A U) : k_E G A (U.calling f mk a) := by
  obtain ⟨h1, h2, h3, h4⟩ := h
  have hv : U.vm.Alike (U.calling f mk a).vm := Vm.Alike.refl U.vm
  exact ⟨vk_S.moved hv h1, fun i hi => vk_R.same (u := U) (U := U.calling f mk a) rfl (h2 i hi), va_Z.moved hv h3, va_Zq.moved hv h4⟩
/-- the world of a memory -/
def k_W (G : GG) (sh : List Kd) (A : Nat → Prop) (g : Mem) (U : State) : Prop := va_P G.1 vwCl (k_wl G g 0 sh) U.heap ∧ va_K G.1 vwCl (k_ty G) U ∧ va_D A (k_wl G (fun _ _ => 0) 0 sh) ∧ k_NW U ∧ k_E G A U
/-- what stays the same through a method's body -/
def KX (p : Program) (s : State) (m : MethodId) (args : Array Value) (c : Code) (cc : ByteArray) (nL : Nat) (own : String) (Ts : List Cond) (G : GG) (sh : List Kd) (A : Nat → Prop) : Prop :=
  CallFix p m c cc nL s args Ts own ∧ va_K G.1 vwCl (k_ty G) s ∧ va_D A (k_wl G (fun _ _ => 0) 0 sh) ∧ k_NW s ∧ k_E G A s
/-- the machine at pc, with these locals, this stack, this memory, comes to Q -/
def JJ (p : Program) (l : Launch) (e : Env) (R : Room) (s : State) (m : MethodId) (args : Array Value) (below : List Frame) (meth : Method) (c : Code) (nL : Nat) (G : GG) (sh : List Kd) (A : Nat → Prop) (Q : State → Prop) (pc : Nat) (L : List (Nat × Value)) (st : List Value) (g : Mem) : Prop :=
  ∀ (H : Heap) (locs : List Loc) (ls : Array Slot), va_P G.1 vwCl (k_wl G g 0 sh) H → va_S A s.heap H locs → lv_has ls nL L → W p l e R s m args below meth c H locs 0 0 Q (F0 m pc ls st)
/-- a method's contract: from memory g it answers r, with memory g' (an int), or nothing -/
abbrev k_Mi (l : Launch) (y : MethodName) (ws : List Cond) (rm : Room) (G : GG) (sh : List Kd) (A : Nat → Prop) (As : List Value) (g : Mem) (r : Int32) (g' : Mem) : Prop :=
  Met l y ws rm (va_Pc As (k_W G sh A g)) (va_Qi (fun r' (_ : Unit) => r' = r) (fun _ => k_W G sh A g') A) 0 0 A
abbrev k_Mv (l : Launch) (y : MethodName) (ws : List Cond) (rm : Room) (G : GG) (sh : List Kd) (A : Nat → Prop) (As : List Value) (g : Mem) (g' : Mem) : Prop :=
  Met l y ws rm (va_Pc As (k_W G sh A g)) (va_Qv (fun (_ : Unit) => True) (fun _ => k_W G sh A g') A) 0 0 A
abbrev k_Qi (G : GG) (sh : List Kd) (A : Nat → Prop) (r : Int32) (g' : Mem) : Array Value → State → Outcome → State → Prop := va_Qi (fun r' (_ : Unit) => r' = r) (fun _ => k_W G sh A g') A
abbrev k_Qv (G : GG) (sh : List Kd) (A : Nat → Prop) (g' : Mem) : Array Value → State → Outcome → State → Prop := va_Qv (fun (_ : Unit) => True) (fun _ => k_W G sh A g') A
theorem k_blind {G : GG} {sh : List Kd} {A : Nat → Prop} {g : Mem} {As : List Value} : FrameBlind (va_Pc As (k_W G sh A g)) := fun a U f mk q => by
  obtain ⟨q0, qP, qK, qD, qN, qE⟩ := q
  exact ⟨q0, qP, va_K.moved (u := U) (U := U.calling f mk a) (Vm.Alike.refl U.vm) qK, qD, k_NW.same (u := U) (U := U.calling f mk a) rfl qN, qE.call⟩
section ROWS
variable {p : Program} {l : Launch} {e : Env} {R : Room} {s : State} {m : MethodId} {args : Array Value} {below : List Frame} {meth : Method} {c : Code} {nL : Nat} {G : GG} {sh : List Kd} {A : Nat → Prop} {Q : State → Prop}
variable {cc : ByteArray} {own : String} {Ts : List Cond} {pc : Nat} {L : List (Nat × Value)} {st : List Value} {g : Mem}
theorem r_iconst (q : Nat) (C : KX p s m args c cc nL own Ts G sh A) {n : Int} {v : Int32} (hd : decode cc pc = .ok (.iconst n, 1)) (hq : pc + 1 = q) (hv : Int32.ofInt n = v) (k : JJ p l e R s m args below meth c nL G sh A Q q L (.int v :: st) g) : JJ p l e R s m args below meth c nL G sh A Q pc L st g := by
  subst hq
  exact fun H locs ls hP hS hl => lv_iconst C.1.1 C.1.2.1 hd hv (k H locs ls hP hS hl)
theorem r_bipush (q : Nat) (C : KX p s m args c cc nL own Ts G sh A) {n : Int} {v : Int32} (hd : decode cc pc = .ok (.bipush n, 2)) (hq : pc + 2 = q) (hv : (Int8.ofInt n).toInt32 = v) (k : JJ p l e R s m args below meth c nL G sh A Q q L (.int v :: st) g) : JJ p l e R s m args below meth c nL G sh A Q pc L st g := by
  subst hq
  exact fun H locs ls hP hS hl => lv_bipush C.1.1 C.1.2.1 hd hv (k H locs ls hP hS hl)
theorem r_sipush (q : Nat) (C : KX p s m args c cc nL own Ts G sh A) {n : Int} {v : Int32} (hd : decode cc pc = .ok (.sipush n, 3)) (hq : pc + 3 = q) (hv : (Int16.ofInt n).toInt32 = v) (k : JJ p l e R s m args below meth c nL G sh A Q q L (.int v :: st) g) : JJ p l e R s m args below meth c nL G sh A Q pc L st g := by
  subst hq
  exact fun H locs ls hP hS hl => lv_sipush C.1.1 C.1.2.1 hd hv (k H locs ls hP hS hl)
theorem r_iload_n (q : Nat) (C : KX p s m args c cc nL own Ts G sh A) {n : Fin 4} {x : Int32} (j : Nat) (hd : decode cc pc = .ok (.iload_n n, 1)) (hq : pc + 1 = q) (hk : L[j]? = some (n.val, .int x)) (k : JJ p l e R s m args below meth c nL G sh A Q q L (.int x :: st) g) : JJ p l e R s m args below meth c nL G sh A Q pc L st g := by
  subst hq
  exact fun H locs ls hP hS hl => lv_iload_n C.1.1 C.1.2.1 hd rfl (lv_at hl j hk) (k H locs ls hP hS hl)
theorem r_iload (q : Nat) (C : KX p s m args c cc nL own Ts G sh A) {n : Nat} {x : Int32} (j : Nat) (hd : decode cc pc = .ok (.iload n, 2)) (hq : pc + 2 = q) (hk : L[j]? = some (n, .int x)) (k : JJ p l e R s m args below meth c nL G sh A Q q L (.int x :: st) g) : JJ p l e R s m args below meth c nL G sh A Q pc L st g := by
  subst hq
  exact fun H locs ls hP hS hl => lv_iload C.1.1 C.1.2.1 hd (lv_at hl j hk) (k H locs ls hP hS hl)
theorem r_aload_n (q : Nat) (C : KX p s m args c cc nL own Ts G sh A) {n : Fin 4} {x : Nat} (j : Nat) (hd : decode cc pc = .ok (.aload_n n, 1)) (hq : pc + 1 = q) (hk : L[j]? = some (n.val, .ref x)) (k : JJ p l e R s m args below meth c nL G sh A Q q L (.ref x :: st) g) : JJ p l e R s m args below meth c nL G sh A Q pc L st g := by
  subst hq
  exact fun H locs ls hP hS hl => lv_aload_n C.1.1 C.1.2.1 hd rfl (lv_at hl j hk) (k H locs ls hP hS hl)
theorem r_aload (q : Nat) (C : KX p s m args c cc nL own Ts G sh A) {n : Nat} {x : Nat} (j : Nat) (hd : decode cc pc = .ok (.aload n, 2)) (hq : pc + 2 = q) (hk : L[j]? = some (n, .ref x)) (k : JJ p l e R s m args below meth c nL G sh A Q q L (.ref x :: st) g) : JJ p l e R s m args below meth c nL G sh A Q pc L st g := by
  subst hq
  exact fun H locs ls hP hS hl => lv_aload C.1.1 C.1.2.1 hd (lv_at hl j hk) (k H locs ls hP hS hl)
theorem r_istore_n (q : Nat) (C : KX p s m args c cc nL own Ts G sh A) {n : Fin 4} {x x' : Int32} (L' : List (Nat × Value)) (hd : decode cc pc = .ok (.istore_n n, 1)) (hq : pc + 1 = q) (hx : x' = x) (hn : n.val < nL) (hL : (n.val, Value.int x') :: L.filter (fun q => !(q.1 == n.val) && !(q.1 + 1 == n.val && q.2.category == 2)) = L') (k : JJ p l e R s m args below meth c nL G sh A Q q L' st g) : JJ p l e R s m args below meth c nL G sh A Q pc L (.int x :: st) g := by
  subst hq; subst hx
  exact fun H locs ls hP hS hl => lv_istore_n C.1.1 C.1.2.1 hd rfl hl hn hL (fun ls' hl' => k H locs ls' hP hS hl')
theorem r_istore (q : Nat) (C : KX p s m args c cc nL own Ts G sh A) {n : Nat} {x x' : Int32} (L' : List (Nat × Value)) (hd : decode cc pc = .ok (.istore n, 2)) (hq : pc + 2 = q) (hx : x' = x) (hn : n < nL) (hL : (n, Value.int x') :: L.filter (fun q => !(q.1 == n) && !(q.1 + 1 == n && q.2.category == 2)) = L') (k : JJ p l e R s m args below meth c nL G sh A Q q L' st g) : JJ p l e R s m args below meth c nL G sh A Q pc L (.int x :: st) g := by
  subst hq; subst hx
  exact fun H locs ls hP hS hl => lv_istore C.1.1 C.1.2.1 hd hl hn hL (fun ls' hl' => k H locs ls' hP hS hl')
theorem r_astore_n (q : Nat) (C : KX p s m args c cc nL own Ts G sh A) {n : Fin 4} {x : Nat} (L' : List (Nat × Value)) (hd : decode cc pc = .ok (.astore_n n, 1)) (hq : pc + 1 = q) (hn : n.val < nL) (hL : (n.val, Value.ref x) :: L.filter (fun q => !(q.1 == n.val) && !(q.1 + 1 == n.val && q.2.category == 2)) = L') (k : JJ p l e R s m args below meth c nL G sh A Q q L' st g) : JJ p l e R s m args below meth c nL G sh A Q pc L (.ref x :: st) g := by
  subst hq
  exact fun H locs ls hP hS hl => lv_astore_n C.1.1 C.1.2.1 hd rfl hl hn hL (fun ls' hl' => k H locs ls' hP hS hl')
theorem r_iinc (q : Nat) (C : KX p s m args c cc nL own Ts G sh A) {n : Nat} {i : Int} {x : Int32} (j : Nat) (v : Int32) (L' : List (Nat × Value)) (hd : decode cc pc = .ok (.iinc n i, 3)) (hq : pc + 3 = q) (hk : L[j]? = some (n, .int x)) (hv : x + Int32.ofInt i = v) (hn : n < nL) (hL : (n, Value.int v) :: L.filter (fun q => !(q.1 == n) && !(q.1 + 1 == n && q.2.category == 2)) = L') (k : JJ p l e R s m args below meth c nL G sh A Q q L' st g) : JJ p l e R s m args below meth c nL G sh A Q pc L st g := by
  subst hq
  exact fun H locs ls hP hS hl => lv_iinc C.1.1 C.1.2.1 hd hl hk hv hn hL (fun ls' hl' => k H locs ls' hP hS hl')
theorem r_iadd (q : Nat) (C : KX p s m args c cc nL own Ts G sh A) {x y : Int32} (hd : decode cc pc = .ok (.iadd, 1)) (hq : pc + 1 = q) (k : JJ p l e R s m args below meth c nL G sh A Q q L (.int (x + y) :: st) g) : JJ p l e R s m args below meth c nL G sh A Q pc L (.int y :: .int x :: st) g := by
  subst hq
  exact fun H locs ls hP hS hl => lv_iadd C.1.1 C.1.2.1 hd (k H locs ls hP hS hl)
theorem r_isub (q : Nat) (C : KX p s m args c cc nL own Ts G sh A) {x y : Int32} (hd : decode cc pc = .ok (.isub, 1)) (hq : pc + 1 = q) (k : JJ p l e R s m args below meth c nL G sh A Q q L (.int (x - y) :: st) g) : JJ p l e R s m args below meth c nL G sh A Q pc L (.int y :: .int x :: st) g := by
  subst hq
  exact fun H locs ls hP hS hl => lv_isub C.1.1 C.1.2.1 hd (k H locs ls hP hS hl)
theorem r_imul (q : Nat) (C : KX p s m args c cc nL own Ts G sh A) {x y : Int32} (hd : decode cc pc = .ok (.imul, 1)) (hq : pc + 1 = q) (k : JJ p l e R s m args below meth c nL G sh A Q q L (.int (x * y) :: st) g) : JJ p l e R s m args below meth c nL G sh A Q pc L (.int y :: .int x :: st) g := by
  subst hq
  exact fun H locs ls hP hS hl => lv_imul C.1.1 C.1.2.1 hd (k H locs ls hP hS hl)
theorem r_iand (q : Nat) (C : KX p s m args c cc nL own Ts G sh A) {x y : Int32} (hd : decode cc pc = .ok (.iand, 1)) (hq : pc + 1 = q) (k : JJ p l e R s m args below meth c nL G sh A Q q L (.int (x &&& y) :: st) g) : JJ p l e R s m args below meth c nL G sh A Q pc L (.int y :: .int x :: st) g := by
  subst hq
  exact fun H locs ls hP hS hl => lv_iand C.1.1 C.1.2.1 hd (k H locs ls hP hS hl)
theorem r_ior (q : Nat) (C : KX p s m args c cc nL own Ts G sh A) {x y : Int32} (hd : decode cc pc = .ok (.ior, 1)) (hq : pc + 1 = q) (k : JJ p l e R s m args below meth c nL G sh A Q q L (.int (x ||| y) :: st) g) : JJ p l e R s m args below meth c nL G sh A Q pc L (.int y :: .int x :: st) g := by
  subst hq
  exact fun H locs ls hP hS hl => lv_ior C.1.1 C.1.2.1 hd (k H locs ls hP hS hl)
theorem r_ixor (q : Nat) (C : KX p s m args c cc nL own Ts G sh A) {x y : Int32} (hd : decode cc pc = .ok (.ixor, 1)) (hq : pc + 1 = q) (k : JJ p l e R s m args below meth c nL G sh A Q q L (.int (x ^^^ y) :: st) g) : JJ p l e R s m args below meth c nL G sh A Q pc L (.int y :: .int x :: st) g := by
  subst hq
  exact fun H locs ls hP hS hl => lv_ixor C.1.1 C.1.2.1 hd (k H locs ls hP hS hl)
theorem r_ishl (q : Nat) (C : KX p s m args c cc nL own Ts G sh A) {x y : Int32} (hd : decode cc pc = .ok (.ishl, 1)) (hq : pc + 1 = q) (k : JJ p l e R s m args below meth c nL G sh A Q q L (.int (x <<< (y &&& 31)) :: st) g) : JJ p l e R s m args below meth c nL G sh A Q pc L (.int y :: .int x :: st) g := by
  subst hq
  exact fun H locs ls hP hS hl => lv_ishl C.1.1 C.1.2.1 hd (k H locs ls hP hS hl)
theorem r_ishr (q : Nat) (C : KX p s m args c cc nL own Ts G sh A) {x y : Int32} (hd : decode cc pc = .ok (.ishr, 1)) (hq : pc + 1 = q) (k : JJ p l e R s m args below meth c nL G sh A Q q L (.int (x >>> (y &&& 31)) :: st) g) : JJ p l e R s m args below meth c nL G sh A Q pc L (.int y :: .int x :: st) g := by
  subst hq
  exact fun H locs ls hP hS hl => lv_ishr C.1.1 C.1.2.1 hd (k H locs ls hP hS hl)
theorem r_idiv (q : Nat) (C : KX p s m args c cc nL own Ts G sh A) {x y : Int32} (hd : decode cc pc = .ok (.idiv, 1)) (hq : pc + 1 = q) (hne : ¬ y = 0) (k : JJ p l e R s m args below meth c nL G sh A Q q L (.int (x / y) :: st) g) : JJ p l e R s m args below meth c nL G sh A Q pc L (.int y :: .int x :: st) g := by
  subst hq
  exact fun H locs ls hP hS hl => lv_idiv C.1.1 C.1.2.1 hd hne (k H locs ls hP hS hl)
theorem r_irem (q : Nat) (C : KX p s m args c cc nL own Ts G sh A) {x y : Int32} (hd : decode cc pc = .ok (.irem, 1)) (hq : pc + 1 = q) (hne : ¬ y = 0) (k : JJ p l e R s m args below meth c nL G sh A Q q L (.int (x - x / y * y) :: st) g) : JJ p l e R s m args below meth c nL G sh A Q pc L (.int y :: .int x :: st) g := by
  subst hq
  exact fun H locs ls hP hS hl => lv_irem C.1.1 C.1.2.1 hd hne (k H locs ls hP hS hl)
theorem r_i2c (q : Nat) (C : KX p s m args c cc nL own Ts G sh A) {x : Int32} (hd : decode cc pc = .ok (.i2c, 1)) (hq : pc + 1 = q) (k : JJ p l e R s m args below meth c nL G sh A Q q L (.int ((x.toUInt32 % 65536).toInt32) :: st) g) : JJ p l e R s m args below meth c nL G sh A Q pc L (.int x :: st) g := by
  subst hq
  exact fun H locs ls hP hS hl => lv_i2c C.1.1 C.1.2.1 hd rfl (k H locs ls hP hS hl)
theorem r_dup (q : Nat) (C : KX p s m args c cc nL own Ts G sh A) {x : Value} (hd : decode cc pc = .ok (.dup, 1)) (hq : pc + 1 = q) (hx : x.category = 1) (k : JJ p l e R s m args below meth c nL G sh A Q q L (x :: x :: st) g) : JJ p l e R s m args below meth c nL G sh A Q pc L (x :: st) g := by
  subst hq
  exact fun H locs ls hP hS hl => lv_dup C.1.1 C.1.2.1 hd hx (k H locs ls hP hS hl)
theorem r_dup2 (q : Nat) (C : KX p s m args c cc nL own Ts G sh A) {x y : Value} (hd : decode cc pc = .ok (.dup2, 1)) (hq : pc + 1 = q) (hx : x.category = 1) (hy : y.category = 1) (k : JJ p l e R s m args below meth c nL G sh A Q q L (x :: y :: x :: y :: st) g) : JJ p l e R s m args below meth c nL G sh A Q pc L (x :: y :: st) g := by
  subst hq
  exact fun H locs ls hP hS hl => lv_dup2_11 C.1.1 C.1.2.1 hd hx hy (k H locs ls hP hS hl)
theorem r_pop (q : Nat) (C : KX p s m args c cc nL own Ts G sh A) {x : Value} (hd : decode cc pc = .ok (.pop, 1)) (hq : pc + 1 = q) (hx : x.category = 1) (k : JJ p l e R s m args below meth c nL G sh A Q q L st g) : JJ p l e R s m args below meth c nL G sh A Q pc L (x :: st) g := by
  subst hq
  exact fun H locs ls hP hS hl => lv_pop C.1.1 C.1.2.1 hd hx (k H locs ls hP hS hl)
theorem r_goto (q : Nat) (C : KX p s m args c cc nL own Ts G sh A) {off : Int} (hd : decode cc pc = .ok (.goto off, 3)) (hq : (pc : Int) + off = (q : Int)) (k : JJ p l e R s m args below meth c nL G sh A Q q L st g) : JJ p l e R s m args below meth c nL G sh A Q pc L st g := fun H locs ls hP hS hl => lv_goto C.1.1 C.1.2.1 hd hq (k H locs ls hP hS hl)
theorem r_if_eq (t q : Nat) (C : KX p s m args c cc nL own Ts G sh A) {x : Int32} {off : Int} (hd : decode cc pc = .ok (.ifCond .eq off, 3)) (ht : (pc : Int) + off = (t : Int)) (hq : pc + 3 = q) (kt : x = 0 → JJ p l e R s m args below meth c nL G sh A Q t L st g) (kf : ¬ x = 0 → JJ p l e R s m args below meth c nL G sh A Q q L st g) : JJ p l e R s m args below meth c nL G sh A Q pc L (.int x :: st) g := by
  subst hq
  exact fun H locs ls hP hS hl => lv_if_eq C.1.1 C.1.2.1 hd ht (fun w => kt w H locs ls hP hS hl) (fun w => kf w H locs ls hP hS hl)
theorem r_icmp_eq (t q : Nat) (C : KX p s m args c cc nL own Ts G sh A) {x y : Int32} {off : Int} (hd : decode cc pc = .ok (.if_icmp .eq off, 3)) (ht : (pc : Int) + off = (t : Int)) (hq : pc + 3 = q) (kt : x = y → JJ p l e R s m args below meth c nL G sh A Q t L st g) (kf : ¬ x = y → JJ p l e R s m args below meth c nL G sh A Q q L st g) : JJ p l e R s m args below meth c nL G sh A Q pc L (.int y :: .int x :: st) g := by
  subst hq
  exact fun H locs ls hP hS hl => lv_icmp_eq C.1.1 C.1.2.1 hd ht (fun w => kt w H locs ls hP hS hl) (fun w => kf w H locs ls hP hS hl)
theorem r_if_ne (t q : Nat) (C : KX p s m args c cc nL own Ts G sh A) {x : Int32} {off : Int} (hd : decode cc pc = .ok (.ifCond .ne off, 3)) (ht : (pc : Int) + off = (t : Int)) (hq : pc + 3 = q) (kt : ¬ x = 0 → JJ p l e R s m args below meth c nL G sh A Q t L st g) (kf : x = 0 → JJ p l e R s m args below meth c nL G sh A Q q L st g) : JJ p l e R s m args below meth c nL G sh A Q pc L (.int x :: st) g := by
  subst hq
  exact fun H locs ls hP hS hl => lv_if_ne C.1.1 C.1.2.1 hd ht (fun w => kt w H locs ls hP hS hl) (fun w => kf w H locs ls hP hS hl)
theorem r_icmp_ne (t q : Nat) (C : KX p s m args c cc nL own Ts G sh A) {x y : Int32} {off : Int} (hd : decode cc pc = .ok (.if_icmp .ne off, 3)) (ht : (pc : Int) + off = (t : Int)) (hq : pc + 3 = q) (kt : ¬ x = y → JJ p l e R s m args below meth c nL G sh A Q t L st g) (kf : x = y → JJ p l e R s m args below meth c nL G sh A Q q L st g) : JJ p l e R s m args below meth c nL G sh A Q pc L (.int y :: .int x :: st) g := by
  subst hq
  exact fun H locs ls hP hS hl => lv_icmp_ne C.1.1 C.1.2.1 hd ht (fun w => kt w H locs ls hP hS hl) (fun w => kf w H locs ls hP hS hl)
theorem r_if_lt (t q : Nat) (C : KX p s m args c cc nL own Ts G sh A) {x : Int32} {off : Int} (hd : decode cc pc = .ok (.ifCond .lt off, 3)) (ht : (pc : Int) + off = (t : Int)) (hq : pc + 3 = q) (kt : x < 0 → JJ p l e R s m args below meth c nL G sh A Q t L st g) (kf : ¬ x < 0 → JJ p l e R s m args below meth c nL G sh A Q q L st g) : JJ p l e R s m args below meth c nL G sh A Q pc L (.int x :: st) g := by
  subst hq
  exact fun H locs ls hP hS hl => lv_if_lt C.1.1 C.1.2.1 hd ht (fun w => kt w H locs ls hP hS hl) (fun w => kf w H locs ls hP hS hl)
theorem r_icmp_lt (t q : Nat) (C : KX p s m args c cc nL own Ts G sh A) {x y : Int32} {off : Int} (hd : decode cc pc = .ok (.if_icmp .lt off, 3)) (ht : (pc : Int) + off = (t : Int)) (hq : pc + 3 = q) (kt : x < y → JJ p l e R s m args below meth c nL G sh A Q t L st g) (kf : ¬ x < y → JJ p l e R s m args below meth c nL G sh A Q q L st g) : JJ p l e R s m args below meth c nL G sh A Q pc L (.int y :: .int x :: st) g := by
  subst hq
  exact fun H locs ls hP hS hl => lv_icmp_lt C.1.1 C.1.2.1 hd ht (fun w => kt w H locs ls hP hS hl) (fun w => kf w H locs ls hP hS hl)
theorem r_if_ge (t q : Nat) (C : KX p s m args c cc nL own Ts G sh A) {x : Int32} {off : Int} (hd : decode cc pc = .ok (.ifCond .ge off, 3)) (ht : (pc : Int) + off = (t : Int)) (hq : pc + 3 = q) (kt : 0 ≤ x → JJ p l e R s m args below meth c nL G sh A Q t L st g) (kf : ¬ 0 ≤ x → JJ p l e R s m args below meth c nL G sh A Q q L st g) : JJ p l e R s m args below meth c nL G sh A Q pc L (.int x :: st) g := by
  subst hq
  exact fun H locs ls hP hS hl => lv_if_ge C.1.1 C.1.2.1 hd ht (fun w => kt w H locs ls hP hS hl) (fun w => kf w H locs ls hP hS hl)
theorem r_icmp_ge (t q : Nat) (C : KX p s m args c cc nL own Ts G sh A) {x y : Int32} {off : Int} (hd : decode cc pc = .ok (.if_icmp .ge off, 3)) (ht : (pc : Int) + off = (t : Int)) (hq : pc + 3 = q) (kt : y ≤ x → JJ p l e R s m args below meth c nL G sh A Q t L st g) (kf : ¬ y ≤ x → JJ p l e R s m args below meth c nL G sh A Q q L st g) : JJ p l e R s m args below meth c nL G sh A Q pc L (.int y :: .int x :: st) g := by
  subst hq
  exact fun H locs ls hP hS hl => lv_icmp_ge C.1.1 C.1.2.1 hd ht (fun w => kt w H locs ls hP hS hl) (fun w => kf w H locs ls hP hS hl)
theorem r_if_gt (t q : Nat) (C : KX p s m args c cc nL own Ts G sh A) {x : Int32} {off : Int} (hd : decode cc pc = .ok (.ifCond .gt off, 3)) (ht : (pc : Int) + off = (t : Int)) (hq : pc + 3 = q) (kt : 0 < x → JJ p l e R s m args below meth c nL G sh A Q t L st g) (kf : ¬ 0 < x → JJ p l e R s m args below meth c nL G sh A Q q L st g) : JJ p l e R s m args below meth c nL G sh A Q pc L (.int x :: st) g := by
  subst hq
  exact fun H locs ls hP hS hl => lv_if_gt C.1.1 C.1.2.1 hd ht (fun w => kt w H locs ls hP hS hl) (fun w => kf w H locs ls hP hS hl)
theorem r_icmp_gt (t q : Nat) (C : KX p s m args c cc nL own Ts G sh A) {x y : Int32} {off : Int} (hd : decode cc pc = .ok (.if_icmp .gt off, 3)) (ht : (pc : Int) + off = (t : Int)) (hq : pc + 3 = q) (kt : y < x → JJ p l e R s m args below meth c nL G sh A Q t L st g) (kf : ¬ y < x → JJ p l e R s m args below meth c nL G sh A Q q L st g) : JJ p l e R s m args below meth c nL G sh A Q pc L (.int y :: .int x :: st) g := by
  subst hq
  exact fun H locs ls hP hS hl => lv_icmp_gt C.1.1 C.1.2.1 hd ht (fun w => kt w H locs ls hP hS hl) (fun w => kf w H locs ls hP hS hl)
theorem r_if_le (t q : Nat) (C : KX p s m args c cc nL own Ts G sh A) {x : Int32} {off : Int} (hd : decode cc pc = .ok (.ifCond .le off, 3)) (ht : (pc : Int) + off = (t : Int)) (hq : pc + 3 = q) (kt : x ≤ 0 → JJ p l e R s m args below meth c nL G sh A Q t L st g) (kf : ¬ x ≤ 0 → JJ p l e R s m args below meth c nL G sh A Q q L st g) : JJ p l e R s m args below meth c nL G sh A Q pc L (.int x :: st) g := by
  subst hq
  exact fun H locs ls hP hS hl => lv_if_le C.1.1 C.1.2.1 hd ht (fun w => kt w H locs ls hP hS hl) (fun w => kf w H locs ls hP hS hl)
theorem r_icmp_le (t q : Nat) (C : KX p s m args c cc nL own Ts G sh A) {x y : Int32} {off : Int} (hd : decode cc pc = .ok (.if_icmp .le off, 3)) (ht : (pc : Int) + off = (t : Int)) (hq : pc + 3 = q) (kt : x ≤ y → JJ p l e R s m args below meth c nL G sh A Q t L st g) (kf : ¬ x ≤ y → JJ p l e R s m args below meth c nL G sh A Q q L st g) : JJ p l e R s m args below meth c nL G sh A Q pc L (.int y :: .int x :: st) g := by
  subst hq
  exact fun H locs ls hP hS hl => lv_icmp_le C.1.1 C.1.2.1 hd ht (fun w => kt w H locs ls hP hS hl) (fun w => kf w H locs ls hP hS hl)
theorem r_sub (L' : List (Nat × Value)) (ks : List Nat) (h : lv_pick L ks = L') (k : JJ p l e R s m args below meth c nL G sh A Q pc L' st g) : JJ p l e R s m args below meth c nL G sh A Q pc L st g := fun H locs ls hP hS hl => k H locs ls hP hS (lv_sub hl ks h)
theorem r_iushr (q : Nat) (C : KX p s m args c cc nL own Ts G sh A) {x y : Int32} (hd : decode cc pc = .ok (.iushr, 1)) (hq : pc + 1 = q) (k : JJ p l e R s m args below meth c nL G sh A Q q L (.int (ushr x y) :: st) g) : JJ p l e R s m args below meth c nL G sh A Q pc L (.int y :: .int x :: st) g := by
  subst hq
  exact fun H locs ls hP hS hl => lv_iushr C.1.1 C.1.2.1 hd rfl (k H locs ls hP hS hl)
theorem r_ldc_w (q : Nat) (C : KX p s m args c cc nL own Ts G sh A) {index : Nat} {v : Int32} (hd : decode cc pc = .ok (.ldc_w index, 3)) (hq : pc + 3 = q) (hc : Cond.constant own index v ∈ Ts) (k : JJ p l e R s m args below meth c nL G sh A Q q L (.int v :: st) g) : JJ p l e R s m args below meth c nL G sh A Q pc L st g := by
  subst hq
  exact fun H locs ls hP hS hl => lv_ldcw C.1.1 C.1.2.1 C.1.2.2.2.1 (C.1.2.2.2.2 _ hc) hd (k H locs ls hP hS hl)
/-! fields -/
theorem r_geti (q : Nat) (C : KX p s m args c cc nL own Ts G sh A) {o ci k N index : Nat} {fs : List (Option Nat)} {CN : String} {T : u_T} (hsh : sh[o]? = some (.inl (ci, fs))) (hc : vwCl[ci]? = some (CN, T, N)) (hin : ∀ w ∈ u_ws CN T N, w ∈ Ts) (hk : k < N) (hf : fs[k]? = some none) (hd : decode cc pc = .ok (.getfield index, 3)) (hq : pc + 3 = q) (hl : Cond.fieldLink own index (T k).1 (T k).2.1 (T k).2.2.1 ∈ Ts)
    (kk : JJ p l e R s m args below meth c nL G sh A Q q L (.int (g o k) :: st) g) : JJ p l e R s m args below meth c nL G sh A Q pc L (.ref (G.2.1 o) :: st) g := by
  subst hq
  intro H locs ls hP hS hlv
  have he := k_wl_get (G := G) (g := g) sh 0 o hsh
  rw [Nat.zero_add] at he
  have hv := k_fl_int G.2.1 (g o) fs 0 k hf
  rw [Nat.zero_add] at hv
  exact va_get C.1.1 C.1.2.1 C.1.2.2.2.2 hin C.1.2.2.2.1 C.2.1 hP o he hc k hk (C.1.2.2.2.2 _ hl) (fun _ h => h) hv hd (kk H locs ls hP hS hlv)
theorem r_getr (q : Nat) (C : KX p s m args c cc nL own Ts G sh A) {o o' ci k N index : Nat} {fs : List (Option Nat)} {CN : String} {T : u_T} (hsh : sh[o]? = some (.inl (ci, fs))) (hc : vwCl[ci]? = some (CN, T, N)) (hin : ∀ w ∈ u_ws CN T N, w ∈ Ts) (hk : k < N) (hf : fs[k]? = some (some o')) (hd : decode cc pc = .ok (.getfield index, 3)) (hq : pc + 3 = q) (hl : Cond.fieldLink own index (T k).1 (T k).2.1 (T k).2.2.1 ∈ Ts)
    (kk : JJ p l e R s m args below meth c nL G sh A Q q L (.ref (G.2.1 o') :: st) g) : JJ p l e R s m args below meth c nL G sh A Q pc L (.ref (G.2.1 o) :: st) g := by
  subst hq
  intro H locs ls hP hS hlv
  have he := k_wl_get (G := G) (g := g) sh 0 o hsh
  rw [Nat.zero_add] at he
  have hv := k_fl_ref G.2.1 (g o) fs 0 k hf
  exact va_get C.1.1 C.1.2.1 C.1.2.2.2.2 hin C.1.2.2.2.1 C.2.1 hP o he hc k hk (C.1.2.2.2.2 _ hl) (fun _ h => h) hv hd (kk H locs ls hP hS hlv)
theorem r_puti (q : Nat) (C : KX p s m args c cc nL own Ts G sh A) {o ci k N index : Nat} {fs : List (Option Nat)} {CN : String} {T : u_T} {v : Int32} {g' : Mem} (ty0 : Nat → FieldType) (hty : ∀ k, k < N → parseFieldDescriptor (T k).2.2.1 = some (ty0 k)) (hnm : ∀ a, a < N → ∀ b, b < N → a ≠ b → (T a).2.1 ≠ (T b).2.1) (hsh : sh[o]? = some (.inl (ci, fs))) (hc : vwCl[ci]? = some (CN, T, N)) (hin : ∀ w ∈ u_ws CN T N, w ∈ Ts) (hk : k < N) (hf : fs[k]? = some none) (hfin : (T k).2.2.2 = false) {ty : FieldType} (hdt : parseFieldDescriptor (T k).2.2.1 = some ty) (hn : narrow ty (.int v) = .int v) (hfit : fits ty (.int v) = true) (hg : g' = m_up g o k v) (hd : decode cc pc = .ok (.putfield index, 3)) (hq : pc + 3 = q) (hl : Cond.fieldLink own index (T k).1 (T k).2.1 (T k).2.2.1 ∈ Ts)
    (kk : JJ p l e R s m args below meth c nL G sh A Q q L st g') : JJ p l e R s m args below meth c nL G sh A Q pc L (.int v :: .ref (G.2.1 o) :: st) g := by
  subst hq; subst hg
  intro H locs ls hP hS hlv
  have he := k_wl_get (G := G) (g := g) sh 0 o hsh
  rw [Nat.zero_add] at he
  have hlen : k < (k_fl G.2.1 (g o) 0 fs).length := by
    rw [k_fl_len]; exact (List.getElem?_eq_some_iff.mp hf).1
  have e1 := k_fl_set G.2.1 (g o) v fs 0 k hf
  rw [Nat.zero_add] at e1
  have e2 := k_wl_set (G := G) (g := g) (f := upd (g o) k v) sh 0 o hsh
  rw [Nat.zero_add] at e2
  refine va_put C.1.1 C.1.2.1 C.1.2.2.2.2 hin ty0 hty hnm C.1.2.2.2.1 C.2.1 hP (k_D_any C.2.2.1) hS o he hc k hk (C.1.2.2.2.2 _ hl) (fun _ h => h) hfin hdt hn hfit hlen hd (fun H1 locs1 hP1 hD1 hS1 => kk H1 locs1 ls ?_ hS1 hlv)
  rw [e1] at hP1
  exact e2 ▸ hP1
/-! arrays -/
theorem r_iaload (q : Nat) (C : KX p s m args c cc nL own Ts G sh A) {o n : Nat} {i x : Int32} (hsh : sh[o]? = some (.inr (.inl (false, n)))) (hd : decode cc pc = .ok (.iaload, 1)) (hq : pc + 1 = q) (hx : rd g o n i = some x)
    (kk : JJ p l e R s m args below meth c nL G sh A Q q L (.int x :: st) g) : JJ p l e R s m args below meth c nL G sh A Q pc L (.int i :: .ref (G.2.1 o) :: st) g := by
  subst hq
  intro H locs ls hP hS hlv
  have he := k_wl_get (G := G) (g := g) sh 0 o hsh
  rw [Nat.zero_add] at he
  unfold rd at hx
  by_cases hb : i < 0 ∨ n ≤ i.toNatClampNeg
  · rw [if_pos hb] at hx; cases hx
  · rw [if_neg hb] at hx
    cases hx
    exact va_iald C.1.1 C.1.2.1 C.2.1 hP o 0 he rfl hb hd (kk H locs ls hP hS hlv)
theorem r_caload (q : Nat) (C : KX p s m args c cc nL own Ts G sh A) {o n : Nat} {i x : Int32} (hsh : sh[o]? = some (.inr (.inl (true, n)))) (hd : decode cc pc = .ok (.caload, 1)) (hq : pc + 1 = q) (hx : rd g o n i = some x)
    (kk : JJ p l e R s m args below meth c nL G sh A Q q L (.int x :: st) g) : JJ p l e R s m args below meth c nL G sh A Q pc L (.int i :: .ref (G.2.1 o) :: st) g := by
  subst hq
  intro H locs ls hP hS hlv
  have he := k_wl_get (G := G) (g := g) sh 0 o hsh
  rw [Nat.zero_add] at he
  unfold rd at hx
  by_cases hb : i < 0 ∨ n ≤ i.toNatClampNeg
  · rw [if_pos hb] at hx; cases hx
  · rw [if_neg hb] at hx
    cases hx
    exact va_cald C.1.1 C.1.2.1 C.2.1 hP o 1 he rfl hb hd (kk H locs ls hP hS hlv)
theorem r_aaload (q : Nat) (C : KX p s m args c cc nL own Ts G sh A) {o n o' : Nat} {r : Nat → Nat} {i : Int32} (hsh : sh[o]? = some (.inr (.inr (n, r)))) (hd : decode cc pc = .ok (.aaload, 1)) (hq : pc + 1 = q) (hx : rdr n r i = some o')
    (kk : JJ p l e R s m args below meth c nL G sh A Q q L (.ref (G.2.1 o') :: st) g) : JJ p l e R s m args below meth c nL G sh A Q pc L (.int i :: .ref (G.2.1 o) :: st) g := by
  subst hq
  intro H locs ls hP hS hlv
  have he := k_wl_get (G := G) (g := g) sh 0 o hsh
  rw [Nat.zero_add] at he
  unfold rdr at hx
  by_cases hb : i < 0 ∨ n ≤ i.toNatClampNeg
  · rw [if_pos hb] at hx; cases hx
  · rw [if_neg hb] at hx
    cases hx
    exact va_aldq C.1.1 C.1.2.1 C.2.1 hP o 2 he rfl hb hd (kk H locs ls hP hS hlv)
theorem r_alen (q : Nat) (C : KX p s m args c cc nL own Ts G sh A) {o n : Nat} {v : Int32} (hsh : sh[o]? = some (.inr (.inl (false, n)))) (hd : decode cc pc = .ok (.arraylength, 1)) (hq : pc + 1 = q) (hv : Int32.ofNat n = v)
    (kk : JJ p l e R s m args below meth c nL G sh A Q q L (.int v :: st) g) : JJ p l e R s m args below meth c nL G sh A Q pc L (.ref (G.2.1 o) :: st) g := by
  subst hq
  intro H locs ls hP hS hlv
  have he := k_wl_get (G := G) (g := g) sh 0 o hsh
  rw [Nat.zero_add] at he
  exact va_alen C.1.1 C.1.2.1 C.2.1 hP o 0 he (ty := .int) rfl hv hd (kk H locs ls hP hS hlv)
theorem r_iastore (q : Nat) (C : KX p s m args c cc nL own Ts G sh A) {o n : Nat} {i v : Int32} {g' : Mem} (hsh : sh[o]? = some (.inr (.inl (false, n)))) (hd : decode cc pc = .ok (.iastore, 1)) (hq : pc + 1 = q) (hx : wr g o n i v = some g')
    (kk : JJ p l e R s m args below meth c nL G sh A Q q L st g') : JJ p l e R s m args below meth c nL G sh A Q pc L (.int v :: .int i :: .ref (G.2.1 o) :: st) g := by
  subst hq
  intro H locs ls hP hS hlv
  have he := k_wl_get (G := G) (g := g) sh 0 o hsh
  rw [Nat.zero_add] at he
  unfold wr at hx
  by_cases hb : i < 0 ∨ n ≤ i.toNatClampNeg
  · rw [if_pos hb] at hx; cases hx
  · rw [if_neg hb] at hx
    cases hx
    have e2 := k_wl_set (G := G) (g := g) (f := upd (g o) i.toNatClampNeg v) sh 0 o hsh
    rw [Nat.zero_add] at e2
    exact va_iast C.1.1 C.1.2.1 C.2.1 hP (k_D_any C.2.2.1) hS o 0 he rfl hb hd (fun H1 locs1 hP1 hD1 hS1 => kk H1 locs1 ls (e2 ▸ hP1) hS1 hlv)
theorem r_castore (q : Nat) (C : KX p s m args c cc nL own Ts G sh A) {o n : Nat} {i v : Int32} {g' : Mem} (hsh : sh[o]? = some (.inr (.inl (true, n)))) (hd : decode cc pc = .ok (.castore, 1)) (hq : pc + 1 = q) (hx : wr g o n i (vp_nar .char v) = some g')
    (kk : JJ p l e R s m args below meth c nL G sh A Q q L st g') : JJ p l e R s m args below meth c nL G sh A Q pc L (.int v :: .int i :: .ref (G.2.1 o) :: st) g := by
  subst hq
  intro H locs ls hP hS hlv
  have he := k_wl_get (G := G) (g := g) sh 0 o hsh
  rw [Nat.zero_add] at he
  unfold wr at hx
  by_cases hb : i < 0 ∨ n ≤ i.toNatClampNeg
  · rw [if_pos hb] at hx; cases hx
  · rw [if_neg hb] at hx
    cases hx
    have e2 := k_wl_set (G := G) (g := g) (f := upd (g o) i.toNatClampNeg (vp_nar .char v)) sh 0 o hsh
    rw [Nat.zero_add] at e2
    exact va_cast C.1.1 C.1.2.1 C.2.1 hP (k_D_any C.2.2.1) hS o 1 he rfl hb hd (fun H1 locs1 hP1 hD1 hS1 => kk H1 locs1 ls (e2 ▸ hP1) hS1 hlv)
/-! switches -/
theorem r_tabOut (q : Nat) (C : KX p s m args c cc nL own Ts G sh A) {dflt lo hi : Int} {offs : Array Int} {len : Nat} {x : Int32} (hd : decode cc pc = .ok (.tableswitch dflt lo hi offs, len)) (h : x.toInt < lo ∨ hi < x.toInt) (hq : (pc : Int) + dflt = (q : Int))
    (k : JJ p l e R s m args below meth c nL G sh A Q q L st g) : JJ p l e R s m args below meth c nL G sh A Q pc L (.int x :: st) g :=
  fun H locs ls hP hS hl => lv_tableOut C.1.1 C.1.2.1 hd h hq (k H locs ls hP hS hl)
theorem r_tabIn (q : Nat) (C : KX p s m args c cc nL own Ts G sh A) {dflt lo hi : Int} {offs : Array Int} {len : Nat} {x : Int32} {off : Int} (hd : decode cc pc = .ok (.tableswitch dflt lo hi offs, len)) (h1 : ¬ x.toInt < lo) (h2 : ¬ hi < x.toInt) (ho : offs[(x.toInt - lo).toNat]? = some off) (hq : (pc : Int) + off = (q : Int))
    (k : JJ p l e R s m args below meth c nL G sh A Q q L st g) : JJ p l e R s m args below meth c nL G sh A Q pc L (.int x :: st) g :=
  fun H locs ls hP hS hl => lv_tableIn C.1.1 C.1.2.1 hd h1 h2 ho hq (k H locs ls hP hS hl)
theorem r_lookup (q : Nat) (C : KX p s m args c cc nL own Ts G sh A) {dflt : Int} {ps : Array (Int × Int)} {len : Nat} {x : Int32} {off : Int} (hd : decode cc pc = .ok (.lookupswitch dflt ps, len)) (hp : (ps.toList.zip (ps.toList.drop 1)).all (fun (a, next) => a.1 < next.1) = true) (ho : Op.lookupswitch.offset ps.toList dflt x.toInt = off) (hq : (pc : Int) + off = (q : Int))
    (k : JJ p l e R s m args below meth c nL G sh A Q q L st g) : JJ p l e R s m args below meth c nL G sh A Q pc L (.int x :: st) g :=
  fun H locs ls hP hS hl => lv_lookup C.1.1 C.1.2.1 hd hp ho hq (k H locs ls hP hS hl)
/-! Math -/
theorem r_max (q : Nat) (C : KX p s m args c cc nL own Ts G sh A) {index : Nat} {x y : Int32} (hl : Cond.methodLink own index Lib.Math.max.name ∈ Ts) (hs : Cond.static Lib.Math.max.name ∈ Ts) (hi : Cond.initialized "java/lang/Math" ∈ Ts) (hcd : Cond.code Lib.Math.max.name Lib.Math.max.code 2 (some .int) ∈ Ts) (hf : 1 ≤ R.frames) (hlo : (st.map fun v => v.category).sum + 13 ≤ R.locals) (hd : decode cc pc = .ok (.invokestatic index, 3)) (hq : pc + 3 = q)
    (k : JJ p l e R s m args below meth c nL G sh A Q q L (.int (imax x y) :: st) g) : JJ p l e R s m args below meth c nL G sh A Q pc L (.int y :: .int x :: st) g := by
  subst hq
  exact fun H locs ls hP hS hlv => va_mmax C.1.1 C.1.2.1 (C.1.2.2.1.trans hlv.1.symm) C.1.2.2.2.1 (C.1.2.2.2.2 _ hl) (C.1.2.2.2.2 _ hs) (C.1.2.2.2.2 _ hi) (C.1.2.2.2.2 _ hcd) hf hlo (Nat.zero_le _) (Nat.zero_le _) hd (k H locs ls hP hS hlv)
theorem r_min (q : Nat) (C : KX p s m args c cc nL own Ts G sh A) {index : Nat} {x y : Int32} (hl : Cond.methodLink own index Lib.Math.min.name ∈ Ts) (hs : Cond.static Lib.Math.min.name ∈ Ts) (hi : Cond.initialized "java/lang/Math" ∈ Ts) (hcd : Cond.code Lib.Math.min.name Lib.Math.min.code 2 (some .int) ∈ Ts) (hf : 1 ≤ R.frames) (hlo : (st.map fun v => v.category).sum + 13 ≤ R.locals) (hd : decode cc pc = .ok (.invokestatic index, 3)) (hq : pc + 3 = q)
    (k : JJ p l e R s m args below meth c nL G sh A Q q L (.int (imin x y) :: st) g) : JJ p l e R s m args below meth c nL G sh A Q pc L (.int y :: .int x :: st) g := by
  subst hq
  exact fun H locs ls hP hS hlv => va_mmin C.1.1 C.1.2.1 (C.1.2.2.1.trans hlv.1.symm) C.1.2.2.2.1 (C.1.2.2.2.2 _ hl) (C.1.2.2.2.2 _ hs) (C.1.2.2.2.2 _ hi) (C.1.2.2.2.2 _ hcd) hf hlo (Nat.zero_le _) (Nat.zero_le _) hd (k H locs ls hP hS hlv)
/-! calls: what the run gives, and goes on -/
variable {y : MethodName} {bytes : ByteArray} {maxL n index : Nat} {ret : Option FieldType} {ws : List Cond} {rm : Room} {As stk : List Value} {g' : Mem} {r : Int32}
theorem r_goi {a : Array Value} {H : Heap} {locs : List Loc} {ls : Array Slot} (q : Nat) (hq : pc + 3 = q) (hr : va_Run p l e R s m args below meth c H locs 0 0 0 0 (F0 m pc ls stk) st (k_Qi G sh A r g' a) A) (hS : va_S A s.heap H locs) (hl : lv_has ls nL L)
    (k : JJ p l e R s m args below meth c nL G sh A Q q L (.int r :: st) g') : W p l e R s m args below meth c H locs 0 0 Q (F0 m pc ls stk) := by
  subst hq
  refine va_calli (mc := 0) (ms := 0) hr hS (fun _ _ h => h) (fun _ h => h) (fun r1 u t H1 locs1 ht hvm hw hB hz hk hS1 => ?_)
  obtain ⟨hP1, -⟩ := hB
  subst hw
  rw [ht] at hP1
  exact k H1 locs1 ls hP1 hS1 hl
theorem r_gov {a : Array Value} {H : Heap} {locs : List Loc} {ls : Array Slot} (q : Nat) (hq : pc + 3 = q) (hr : va_Run p l e R s m args below meth c H locs 0 0 0 0 (F0 m pc ls stk) st (k_Qv G sh A g' a) A) (hS : va_S A s.heap H locs) (hl : lv_has ls nL L)
    (k : JJ p l e R s m args below meth c nL G sh A Q q L st g') : W p l e R s m args below meth c H locs 0 0 Q (F0 m pc ls stk) := by
  subst hq
  refine va_callv (mc := 0) (ms := 0) hr hS (fun _ _ h => h) (fun _ h => h) (fun u t H1 locs1 ht hvm hw hB hz hk hS1 => ?_)
  obtain ⟨hP1, -⟩ := hB
  rw [ht] at hP1
  exact k H1 locs1 ls hP1 hS1 hl
theorem k_preS {H : Heap} {locs : List Loc} (hS : va_S A s.heap H locs) (C : KX p s m args c cc nL own Ts G sh A) (hP : va_P G.1 vwCl (k_wl G g 0 sh) H) : PreS s H (va_Pc As (k_W G sh A g)) As :=
  ⟨k_blind, fun U hU hW => ⟨rfl, by rw [hU]; exact hP, va_K.moved hW.alike C.2.1, C.2.2.1, C.2.2.2.1.warm hW, C.2.2.2.2.move hS hU hW⟩⟩
theorem k_preV {H : Heap} {locs : List Loc} (hS : va_S A s.heap H locs) {o ci N : Nat} {fs : List (Option Nat)} {CN : String} {T : u_T} (C : KX p s m args c cc nL own Ts G sh A) (hP : va_P G.1 vwCl (k_wl G g 0 sh) H) (hsh : sh[o]? = some (.inl (ci, fs))) (hc : vwCl[ci]? = some (CN, T, N)) : PreV s H CN (G.2.1 o) (va_Pc (.ref (G.2.1 o) :: As) (k_W G sh A g)) As := by
  have he := k_wl_get (G := G) (g := g) sh 0 o hsh
  rw [Nat.zero_add] at he
  exact ⟨k_blind, va_recv C.2.1 hP hc he, fun U hU hW => ⟨rfl, by rw [hU]; exact hP, va_K.moved hW.alike C.2.1, C.2.2.1, C.2.2.2.1.warm hW, C.2.2.2.2.move hS hU hW⟩⟩
/-- a static call in the own class, an int comes back -/
theorem r_Si (q : Nat) (C : KX p s m args c cc nL own Ts G sh A) (hM : k_Mi l y ws rm G sh A As g r g') (cw : CallB R s args own index y bytes maxL ret ws rm 0 0 n ∧ (Cond.static y).before args s = true) (hn : As.length = n) (hst : stk = As.reverse ++ st) (hcat : (st.map fun v => v.category).sum ≤ 8) (hd : decode cc pc = .ok (.invokestatic index, 3)) (hq : pc + 3 = q)
    (k : JJ p l e R s m args below meth c nL G sh A Q q L (.int r :: st) g') : JJ p l e R s m args below meth c nL G sh A Q pc L stk g :=
  fun H locs ls hP hS hl => r_goi q hq (va_runS C.1 hM cw (k_preS hS C hP) rfl hn hl.1 hst (lv_room hcat) hd ⟨Nat.zero_le _, Nat.zero_le _⟩) hS hl k
theorem r_Sv (q : Nat) (C : KX p s m args c cc nL own Ts G sh A) (hM : k_Mv l y ws rm G sh A As g g') (cw : CallB R s args own index y bytes maxL ret ws rm 0 0 n ∧ (Cond.static y).before args s = true) (hn : As.length = n) (hst : stk = As.reverse ++ st) (hcat : (st.map fun v => v.category).sum ≤ 8) (hd : decode cc pc = .ok (.invokestatic index, 3)) (hq : pc + 3 = q)
    (k : JJ p l e R s m args below meth c nL G sh A Q q L st g') : JJ p l e R s m args below meth c nL G sh A Q pc L stk g :=
  fun H locs ls hP hS hl => r_gov q hq (va_runS C.1 hM cw (k_preS hS C hP) rfl hn hl.1 hst (lv_room hcat) hd ⟨Nat.zero_le _, Nat.zero_le _⟩) hS hl k
/-- a static call of a nest mate -/
theorem r_SNi (q : Nat) (C : KX p s m args c cc nL own Ts G sh A) {host : String} (hM : k_Mi l y ws rm G sh A As g r g') (cw : va_CN R s args own index y host bytes maxL ret ws rm 0 0 n ∧ (Cond.static y).before args s = true ∧ True) (hn : As.length = n) (hst : stk = As.reverse ++ st) (hcat : (st.map fun v => v.category).sum ≤ 8) (hd : decode cc pc = .ok (.invokestatic index, 3)) (hq : pc + 3 = q)
    (k : JJ p l e R s m args below meth c nL G sh A Q q L (.int r :: st) g') : JJ p l e R s m args below meth c nL G sh A Q pc L stk g :=
  fun H locs ls hP hS hl => r_goi q hq (va_runSN C.1 hM cw (k_preS hS C hP) rfl hn hl.1 hst (lv_room hcat) hd ⟨Nat.zero_le _, Nat.zero_le _⟩) hS hl k
/-- a virtual call -/
theorem r_Vi (q : Nat) (C : KX p s m args c cc nL own Ts G sh A) {o ci N : Nat} {fs : List (Option Nat)} {CN : String} {T : u_T} (hsh : sh[o]? = some (.inl (ci, fs))) (hc : vwCl[ci]? = some (CN, T, N)) (hM : k_Mi l y ws rm G sh A (.ref (G.2.1 o) :: As) g r g') (cw : CallW R s args own CN index y bytes maxL ret ws rm 0 0 n) (hn : As.length = n) (hst : stk = As.reverse ++ .ref (G.2.1 o) :: st) (hcat : (st.map fun v => v.category).sum ≤ 8) (hd : decode cc pc = .ok (.invokevirtual index, 3)) (hq : pc + 3 = q)
    (k : JJ p l e R s m args below meth c nL G sh A Q q L (.int r :: st) g') : JJ p l e R s m args below meth c nL G sh A Q pc L stk g :=
  fun H locs ls hP hS hl => r_goi q hq (va_runV C.1 hM cw (k_preV hS C hP hsh hc) rfl hn hl.1 hst (lv_room hcat) hd ⟨Nat.zero_le _, Nat.zero_le _⟩) hS hl k
theorem r_Vv (q : Nat) (C : KX p s m args c cc nL own Ts G sh A) {o ci N : Nat} {fs : List (Option Nat)} {CN : String} {T : u_T} (hsh : sh[o]? = some (.inl (ci, fs))) (hc : vwCl[ci]? = some (CN, T, N)) (hM : k_Mv l y ws rm G sh A (.ref (G.2.1 o) :: As) g g') (cw : CallW R s args own CN index y bytes maxL ret ws rm 0 0 n) (hn : As.length = n) (hst : stk = As.reverse ++ .ref (G.2.1 o) :: st) (hcat : (st.map fun v => v.category).sum ≤ 8) (hd : decode cc pc = .ok (.invokevirtual index, 3)) (hq : pc + 3 = q)
    (k : JJ p l e R s m args below meth c nL G sh A Q q L st g') : JJ p l e R s m args below meth c nL G sh A Q pc L stk g :=
  fun H locs ls hP hS hl => r_gov q hq (va_runV C.1 hM cw (k_preV hS C hP hsh hc) rfl hn hl.1 hst (lv_room hcat) hd ⟨Nat.zero_le _, Nat.zero_le _⟩) hS hl k
/-! the words of a call -/
theorem k_cwSN (C : KX p s m args c cc nL own Ts G sh A) {ws' : List Cond} (hq : (own, index, y) ∈ k_nw) (hG : GoodIn Ts ws) (hw : ws = Cond.code y bytes maxL ret :: ws') (hrm : rm.cells = 0 ∧ rm.slots = 0) (hstat : Cond.static y ∈ Ts) (hini : Cond.initialized y.cls ∈ Ts) (hd : y.cls ≠ "java/lang/invoke/MethodHandle" ∧ y.cls ≠ "java/lang/invoke/VarHandle" ∧ (parseMethodDescriptor y.desc).map (fun d => d.parameters.length) = some n) (hR : rm.frames + 1 ≤ R.frames ∧ 8 + (maxL + 11) + rm.locals ≤ R.locals) : va_CN R s args own index y RX4 bytes maxL ret ws rm 0 0 n ∧ (Cond.static y).before args s = true ∧ True :=
  ⟨va_cnB n C.1.2.2.2.2 hG hw hrm.1 hrm.2 (C.2.2.2.1 _ hq) (C.1.2.2.2.2 _ hini) hd hR, C.1.2.2.2.2 _ hstat, trivial⟩
/-! returns -/
theorem r_iret (C : KX p s m args c cc nL own Ts G sh A) (hr : meth.sig.returnType = some .int) (hk : meth.locks = false) {a : Array Value} {v : Int32} (hd : decode cc pc = .ok (.ireturn, 1)) : JJ p l e R s m a below meth c nL G sh A (MQ below (k_Qi G sh A v g) a s 0 0 A) pc L [.int v] g :=
  fun H locs ls hP hS hl => W.iret (v := v) C.1.1 C.1.2.1 hr (fun t ht hW => ⟨⟨v, (), rfl, rfl, by rw [ht]; exact hP, va_K.moved hW.alike C.2.1, C.2.2.1, C.2.2.2.1.warm hW, C.2.2.2.2.move hS ht hW⟩, hS.F ht⟩) hS.2.2 hd hk
theorem bI_narrow (b : Bool) : narrow .boolean (.int (bI b)) = .int (bI b) := by cases b <;> rfl
theorem r_zret (C : KX p s m args c cc nL own Ts G sh A) (hr : meth.sig.returnType = some .boolean) (hk : meth.locks = false) {a : Array Value} (b : Bool) {v : Int32} (hv : bI b = v) (hd : decode cc pc = .ok (.ireturn, 1)) : JJ p l e R s m a below meth c nL G sh A (MQ below (k_Qi G sh A (bI b) g) a s 0 0 A) pc L [.int v] g := by
  subst hv
  exact fun H locs ls hP hS hl => W.zret (v := bI b) C.1.1 C.1.2.1 hr (bI_narrow b) (fun t ht hW => ⟨⟨bI b, (), rfl, rfl, by rw [ht]; exact hP, va_K.moved hW.alike C.2.1, C.2.2.1, C.2.2.2.1.warm hW, C.2.2.2.2.move hS ht hW⟩, hS.F ht⟩) hS.2.2 hd hk
theorem r_vret (C : KX p s m args c cc nL own Ts G sh A) (hr : meth.sig.returnType = none) (hk : meth.locks = false) {a : Array Value} (hd : decode cc pc = .ok (.return_, 1)) : JJ p l e R s m a below meth c nL G sh A (MQ below (k_Qv G sh A g) a s 0 0 A) pc L [] g :=
  fun H locs ls hP hS hl => W.vret C.1.1 C.1.2.1 hr (fun t ht hW => ⟨⟨(), rfl, trivial, by rw [ht]; exact hP, va_K.moved hW.alike C.2.1, C.2.2.1, C.2.2.2.1.warm hW, C.2.2.2.2.move hS ht hW⟩, hS.F ht⟩) hS.2.2 hd hk
/-! a contract out of its body -/
theorem k_ofi {ws' : List Cond} {ty : FieldType} (hy : plainName y.cls = true) (hw : ws = Cond.code y cc nL (some ty) :: ws') (hown : y.cls = own) (hsz : (lg_sl As).length ≤ nL) (hrm : rm.cells = 0 ∧ rm.slots = 0) (L : List (Nat × Value)) (hL : lv_args 0 As = L)
    (body : ∀ (p : Program) (e : Env) (s : State) (m : MethodId) (args : Array Value) (below : List Frame) (meth : Method) (c : Code), KX p s m args c cc nL own ws G sh A → meth.sig.returnType = some ty → meth.locks = false → JJ p l e rm s m args below meth c nL G sh A (MQ below (k_Qi G sh A r g') args s 0 0 A) 0 L [] g) : k_Mi l y ws rm G sh A As g r g' := by
  refine Met.ofW (cc := cc) (maxL := nL) (ret := some ty) hy hw ?_
  intro p e s m args below meth c s₁ B hml hv
  obtain ⟨rfl, hP, hK, hD, hN, hE⟩ := hv
  have hown2 : s.vm.findClass own = some m.cls := by rw [← hown]; exact findClass_of_methodNamed B.named
  have hl := lv_entry As hsz
  rw [lg_entry_eq]
  rw [hL] at hl
  exact body p e s m _ below meth c ⟨⟨B.exec, B.bytes, hml, hown2, atoms_spec (ws := ws) B.pre⟩, hK, hD, hN, hE⟩ B.returns B.notSynchronized s.heap [] _ hP va_S.rf hl
theorem k_ofv {ws' : List Cond} (hy : plainName y.cls = true) (hw : ws = Cond.code y cc nL none :: ws') (hown : y.cls = own) (hsz : (lg_sl As).length ≤ nL) (hrm : rm.cells = 0 ∧ rm.slots = 0) (L : List (Nat × Value)) (hL : lv_args 0 As = L)
    (body : ∀ (p : Program) (e : Env) (s : State) (m : MethodId) (args : Array Value) (below : List Frame) (meth : Method) (c : Code), KX p s m args c cc nL own ws G sh A → meth.sig.returnType = none → meth.locks = false → JJ p l e rm s m args below meth c nL G sh A (MQ below (k_Qv G sh A g') args s 0 0 A) 0 L [] g) : k_Mv l y ws rm G sh A As g g' := by
  refine Met.ofW (cc := cc) (maxL := nL) (ret := none) hy hw ?_
  intro p e s m args below meth c s₁ B hml hv
  obtain ⟨rfl, hP, hK, hD, hN, hE⟩ := hv
  have hown2 : s.vm.findClass own = some m.cls := by rw [← hown]; exact findClass_of_methodNamed B.named
  have hl := lv_entry As hsz
  rw [lg_entry_eq]
  rw [hL] at hl
  exact body p e s m _ below meth c ⟨⟨B.exec, B.bytes, hml, hown2, atoms_spec (ws := ws) B.pre⟩, hK, hD, hN, hE⟩ B.returns B.notSynchronized s.heap [] _ hP va_S.rf hl

end ROWS
end
section
/-! what the functions are laid with -/
def lt1 {α β : Type} (a : α) (f : α → β) : β := f a
def bd2 {α β : Type} (a : Option (α × Mem)) (f : α → Mem → Option β) : Option β := match a with
  | none => none
  | some q => f q.1 q.2
def fuel0 : Nat := 4096
theorem ol {α β : Type} {a : α} {f : α → β} {r : β} (h : lt1 a f = r) : ∃ x, x = a ∧ f x = r := ⟨a, rfl, h⟩
theorem ob {α β : Type} {a : Option α} {f : α → Option β} {r : β} (h : a.bind f = some r) : ∃ x, a = some x ∧ f x = some r := by
  cases a with
  | none => cases h
  | some x => exact ⟨x, rfl, h⟩
theorem ob2 {α β : Type} {a : Option (α × Mem)} {f : α → Mem → Option β} {r : β} (h : bd2 a f = some r) : ∃ x g, a = some (x, g) ∧ f x g = some r := by
  cases a with
  | none => cases h
  | some x => exact ⟨x.1, x.2, rfl, h⟩
theorem oip {α : Type} {c : Prop} [Decidable c] {a b r : α} (h : c) (hf : (if c then a else b) = r) : a = r := by rw [if_pos h] at hf; exact hf
theorem oin {α : Type} {c : Prop} [Decidable c] {a b r : α} (h : ¬ c) (hf : (if c then a else b) = r) : b = r := by rw [if_neg h] at hf; exact hf
theorem obt {α : Type} {c : Bool} {a b r : α} (h : ¬ bI c = 0) (hf : (if c then a else b) = r) : a = r := by
  cases c
  · exact absurd rfl h
  · exact hf
theorem obf {α : Type} {c : Bool} {a b r : α} (h : bI c = 0) (hf : (if c then a else b) = r) : b = r := by
  cases c
  · exact hf
  · exact absurd h (by decide)
theorem tab_o {x : Int32} {lo hi : Int} (h : ∀ k : Int, lo ≤ k → k ≤ hi → ¬ x = Int32.ofInt k) : x.toInt < lo ∨ hi < x.toInt := by
  by_cases h1 : x.toInt < lo
  · exact Or.inl h1
  · by_cases h2 : hi < x.toInt
    · exact Or.inr h2
    · exact absurd (Int32.ofInt_toInt x).symm (h x.toInt (by omega) (by omega))
theorem ne_i {x y : Int32} {k : Int} (h : ¬ x = y) (hk : y.toInt = k) : ¬ k = x.toInt := fun e => h (Int32.toInt_inj.mp (by rw [hk, e]))
/-! the class's objects by number: 0 the object, 1 its state, 13 the snapshot, 25 the history, 26 its rows, 27, 39 .. 75 the rows' states, 87 the text, 88 its signs, 89 the orders, 90 .. 92 their arrays; a state's arrays follow it -/
def rowOf (j : Nat) : Nat := 27 + 12 * j
def stSh (o : Nat) : List Kd := [.inl (2, [none, none, none, none, none, some (o + 1), some (o + 2), some (o + 3), some (o + 4), some (o + 5), some (o + 6), some (o + 7), some (o + 8), some (o + 9), some (o + 10), some (o + 11)]), .inr (.inl (false, 6)), .inr (.inl (false, 96)), .inr (.inl (false, 96)), .inr (.inl (false, 3)), .inr (.inl (false, 3)), .inr (.inl (false, 3)), .inr (.inl (false, 48)), .inr (.inl (false, 288)), .inr (.inl (false, 288)), .inr (.inl (false, 17)), .inr (.inl (false, 17))]
def shC : List Kd := [.inl (4, [some 1, some 13, none, some 25, some 87, some 89, none, none, none, none])] ++ (stSh 1 ++ (stSh 13 ++ ([.inl (0, [some 26, none, none]), .inr (.inr (5, rowOf))] ++ (stSh 27 ++ (stSh 39 ++ (stSh 51 ++ (stSh 63 ++ (stSh 75 ++ [.inl (3, [some 88, none]), .inr (.inl (true, 60)), .inl (1, [some 90, some 91, some 92, none, none, none]), .inr (.inl (false, 20)), .inr (.inl (false, 20)), .inr (.inl (false, 60))]))))))))
/-- the reference's: 0 the object, then its arrays -/
def shM : List Kd := [.inl (5, [some 1, some 2, none, some 3, none, none, none, some 4, none, some 5, none, none, none, none, some 6]), .inr (.inl (false, 873)), .inr (.inl (false, 3492)), .inr (.inl (false, 873)), .inr (.inl (true, 60)), .inr (.inl (false, 155)), .inr (.inl (false, 873))]
def IsSt (o : Nat) : Prop := o = 1 ∨ o = 13 ∨ o = 27 ∨ o = 39 ∨ o = 51 ∨ o = 63 ∨ o = 75
theorem is_1 : IsSt 1 := Or.inl rfl
theorem is_13 : IsSt 13 := Or.inr (Or.inl rfl)
theorem is_rowOf {j : Nat} (h : j < 5) : IsSt (rowOf j) := by
  match j, h with
  | 0, _ => exact Or.inr (Or.inr (Or.inl rfl))
  | 1, _ => exact Or.inr (Or.inr (Or.inr (Or.inl rfl)))
  | 2, _ => exact Or.inr (Or.inr (Or.inr (Or.inr (Or.inl rfl))))
  | 3, _ => exact Or.inr (Or.inr (Or.inr (Or.inr (Or.inr (Or.inl rfl)))))
  | 4, _ => exact Or.inr (Or.inr (Or.inr (Or.inr (Or.inr (Or.inr rfl)))))
theorem is_row {i : Int32} {o : Nat} (h : rdr 5 rowOf i = some o) : IsSt o := by
  unfold rdr at h
  by_cases hb : i < 0 ∨ 5 ≤ i.toNatClampNeg
  · rw [if_pos hb] at h; cases h
  · rw [if_neg hb] at h
    cases h
    exact is_rowOf (by omega)
theorem st_0 {o : Nat} (h : IsSt o) : shC[o]? = some (.inl (2, [none, none, none, none, none, some (o + 1), some (o + 2), some (o + 3), some (o + 4), some (o + 5), some (o + 6), some (o + 7), some (o + 8), some (o + 9), some (o + 10), some (o + 11)])) := by
  rcases h with rfl | rfl | rfl | rfl | rfl | rfl | rfl <;> rfl
theorem st_1 {o : Nat} (h : IsSt o) : shC[o + 1]? = some (.inr (.inl (false, 6))) := by
  rcases h with rfl | rfl | rfl | rfl | rfl | rfl | rfl <;> rfl
theorem st_2 {o : Nat} (h : IsSt o) : shC[o + 2]? = some (.inr (.inl (false, 96))) := by
  rcases h with rfl | rfl | rfl | rfl | rfl | rfl | rfl <;> rfl
theorem st_3 {o : Nat} (h : IsSt o) : shC[o + 3]? = some (.inr (.inl (false, 96))) := by
  rcases h with rfl | rfl | rfl | rfl | rfl | rfl | rfl <;> rfl
theorem st_4 {o : Nat} (h : IsSt o) : shC[o + 4]? = some (.inr (.inl (false, 3))) := by
  rcases h with rfl | rfl | rfl | rfl | rfl | rfl | rfl <;> rfl
theorem st_5 {o : Nat} (h : IsSt o) : shC[o + 5]? = some (.inr (.inl (false, 3))) := by
  rcases h with rfl | rfl | rfl | rfl | rfl | rfl | rfl <;> rfl
theorem st_6 {o : Nat} (h : IsSt o) : shC[o + 6]? = some (.inr (.inl (false, 3))) := by
  rcases h with rfl | rfl | rfl | rfl | rfl | rfl | rfl <;> rfl
theorem st_7 {o : Nat} (h : IsSt o) : shC[o + 7]? = some (.inr (.inl (false, 48))) := by
  rcases h with rfl | rfl | rfl | rfl | rfl | rfl | rfl <;> rfl
theorem st_8 {o : Nat} (h : IsSt o) : shC[o + 8]? = some (.inr (.inl (false, 288))) := by
  rcases h with rfl | rfl | rfl | rfl | rfl | rfl | rfl <;> rfl
theorem st_9 {o : Nat} (h : IsSt o) : shC[o + 9]? = some (.inr (.inl (false, 288))) := by
  rcases h with rfl | rfl | rfl | rfl | rfl | rfl | rfl <;> rfl
theorem st_10 {o : Nat} (h : IsSt o) : shC[o + 10]? = some (.inr (.inl (false, 17))) := by
  rcases h with rfl | rfl | rfl | rfl | rfl | rfl | rfl <;> rfl
theorem st_11 {o : Nat} (h : IsSt o) : shC[o + 11]? = some (.inr (.inl (false, 17))) := by
  rcases h with rfl | rfl | rfl | rfl | rfl | rfl | rfl <;> rfl
theorem shC_0 : shC[0]? = some (.inl (4, [some 1, some 13, none, some 25, some 87, some 89, none, none, none, none])) := rfl
theorem shC_25 : shC[25]? = some (.inl (0, [some 26, none, none])) := rfl
theorem shC_26 : shC[26]? = some (.inr (.inr (5, rowOf))) := rfl
theorem shC_87 : shC[87]? = some (.inl (3, [some 88, none])) := rfl
theorem shC_88 : shC[88]? = some (.inr (.inl (true, 60))) := rfl
theorem shC_89 : shC[89]? = some (.inl (1, [some 90, some 91, some 92, none, none, none])) := rfl
theorem shC_90 : shC[90]? = some (.inr (.inl (false, 20))) := rfl
theorem shC_91 : shC[91]? = some (.inr (.inl (false, 20))) := rfl
theorem shC_92 : shC[92]? = some (.inr (.inl (false, 60))) := rfl
theorem shM_0 : shM[0]? = some (.inl (5, [some 1, some 2, none, some 3, none, none, none, some 4, none, some 5, none, none, none, none, some 6])) := rfl
theorem shM_1 : shM[1]? = some (.inr (.inl (false, 873))) := rfl
theorem shM_2 : shM[2]? = some (.inr (.inl (false, 3492))) := rfl
theorem shM_3 : shM[3]? = some (.inr (.inl (false, 873))) := rfl
theorem shM_4 : shM[4]? = some (.inr (.inl (true, 60))) := rfl
theorem shM_5 : shM[5]? = some (.inr (.inl (false, 155))) := rfl
theorem shM_6 : shM[6]? = some (.inr (.inl (false, 873))) := rfl
end
section
/-! copies, and the texts that the code loads: rows and contracts laid by hand -/
section ROWS2
variable {p : Program} {l : Launch} {e : Env} {R : Room} {s : State} {m : MethodId} {args : Array Value} {below : List Frame} {meth : Method} {c : Code} {nL : Nat} {G : GG} {sh : List Kd} {A : Nat → Prop} {Q : State → Prop}
variable {cc : ByteArray} {own : String} {Ts : List Cond} {pc : Nat} {L : List (Nat × Value)} {st : List Value} {g : Mem}
def m_cp (g : Mem) (o1 o2 n : Nat) : Mem := m_set g o2 (va_cpy (g o1) (g o2) 0 0 n)
theorem r_acopy (q : Nat) (C : KX p s m args c cc nL own Ts G sh A) {o1 o2 n index : Nat} {z : Int32} (h1 : sh[o1]? = some (.inr (.inl (false, n)))) (h2 : sh[o2]? = some (.inr (.inl (false, n)))) (hz : z = nI n) (hn : n < 2 ^ 31) (hl : Cond.methodLink own index arraycopyName ∈ Ts) (hnt : Cond.native arraycopyName ∈ Ts) (hs : Cond.static arraycopyName ∈ Ts) (hi : Cond.initialized "java/lang/System" ∈ Ts) (hf : 1 ≤ R.frames) (hlo : (st.map fun v => v.category).sum + (nativeFrameWords "java/lang/System" "arraycopy" 5 + 11) ≤ R.locals) (hd : decode cc pc = .ok (.invokestatic index, 3)) (hq : pc + 3 = q)
    (k : JJ p l e R s m args below meth c nL G sh A Q q L st (m_cp g o1 o2 n)) : JJ p l e R s m args below meth c nL G sh A Q pc L (.int z :: .int 0 :: .ref (G.2.1 o2) :: .int 0 :: .ref (G.2.1 o1) :: st) g := by
  subst hq; subst hz
  intro H locs ls hP hS hlv
  have e1 := k_wl_get (G := G) (g := g) sh 0 o1 h1
  have e2 := k_wl_get (G := G) (g := g) sh 0 o2 h2
  rw [Nat.zero_add] at e1 e2
  have hc : (nI n).toNatClampNeg = n := nI_clamp hn
  have h0 : (0 : Int32).toNatClampNeg = 0 := rfl
  have e3 := k_wl_set (G := G) (g := g) (f := va_cpy (g o1) (g o2) 0 0 n) sh 0 o2 h2
  rw [Nat.zero_add] at e3
  refine va_copyi C.1.1 C.1.2.1 (C.1.2.2.1.trans hlv.1.symm) C.1.2.2.2.1 (C.1.2.2.2.2 _ hl) (C.1.2.2.2.2 _ hnt) (C.1.2.2.2.2 _ hs) (C.1.2.2.2.2 _ hi) C.2.1 hP (k_D_any C.2.2.1) hS o1 o2 0 0 e1 e2 rfl rfl rfl (by decide) (by decide) (nI_pos hn) (by rw [hc, h0]; omega) (by rw [hc, h0]; omega) (fun _ _ => rfl) hf hlo hd (fun H1 locs1 hP1 hD1 hS1 => k H1 locs1 ls ?_ hS1 hlv)
  rw [hc, h0] at hP1
  exact e3 ▸ hP1
/-- a text of the class's file -/
theorem r_ldcS (q : Nat) (C : KX p s m args c cc nL own Ts G sh A) {index : Nat} (i : Nat) (hi : i < 6) (hown : own = RX1) (hx : k_ix.getD i 0 = index) (hd : decode cc pc = .ok (.ldc index, 2)) (hq : pc + 2 = q)
    (k : JJ p l e R s m args below meth c nL G sh A Q q L (.ref (G.2.2.2.2.2.1 i) :: st) g) : JJ p l e R s m args below meth c nL G sh A Q pc L st g := by
  subst hq; subst hown; subst hx
  exact fun H locs ls hP hS hl => va_ldcS C.1.1 C.1.2.1 C.1.2.2.2.1 (C.2.2.2.2.2.1 i hi) hd (k H locs ls hP hS hl)
theorem r_sval (q : Nat) (C : KX p s m args c cc nL own Ts G sh A) {index i : Nat} (hi : i < 6) (hl : Cond.fieldLink own index "java/lang/String" "value" "[B" ∈ Ts) (hd : decode cc pc = .ok (.getfield index, 3)) (hq : pc + 3 = q)
    (k : JJ p l e R s m args below meth c nL G sh A Q q L (.ref (G.2.2.2.2.2.2 i) :: st) g) : JJ p l e R s m args below meth c nL G sh A Q pc L (.ref (G.2.2.2.2.2.1 i) :: st) g := by
  subst hq
  exact fun H locs ls hP hS hlv => vk_getf C.1.1 C.1.2.1 (C.2.2.2.2.1.1 i hi).2.2.1 hS C.1.2.2.2.1 (C.1.2.2.2.2 _ hl) (fun _ h => h) hd (k H locs ls hP hS hlv)
theorem r_scod (q : Nat) (C : KX p s m args c cc nL own Ts G sh A) {index i : Nat} (hi : i < 6) (hl : Cond.fieldLink own index "java/lang/String" "coder" "B" ∈ Ts) (hd : decode cc pc = .ok (.getfield index, 3)) (hq : pc + 3 = q)
    (k : JJ p l e R s m args below meth c nL G sh A Q q L (.int 0 :: st) g) : JJ p l e R s m args below meth c nL G sh A Q pc L (.ref (G.2.2.2.2.2.1 i) :: st) g := by
  subst hq
  exact fun H locs ls hP hS hlv => vk_getf C.1.1 C.1.2.1 (C.2.2.2.2.1.1 i hi).2.1 hS C.1.2.2.2.1 (C.1.2.2.2.2 _ hl) (fun _ h => h) hd (k H locs ls hP hS hlv)
theorem r_slen (q : Nat) (C : KX p s m args c cc nL own Ts G sh A) {i : Nat} (hi : i < 6) {v : Int32} (hv : Int32.ofNat (k_len.getD i 0) = v) (hd : decode cc pc = .ok (.arraylength, 1)) (hq : pc + 1 = q)
    (k : JJ p l e R s m args below meth c nL G sh A Q q L (.int v :: st) g) : JJ p l e R s m args below meth c nL G sh A Q pc L (.ref (G.2.2.2.2.2.2 i) :: st) g := by
  subst hq
  exact fun H locs ls hP hS hlv => va_tlen C.1.1 C.1.2.1 (C.2.2.2.2.1.1 i hi).2.2.2 hS hv hd (k H locs ls hP hS hlv)
theorem r_sbyte (q : Nat) (C : KX p s m args c cc nL own Ts G sh A) {i : Nat} (hi : i < 6) {j v : Int32} (hin : vp_in j (k_len.getD i 0)) (hv : (k_byt.getD i []).getD j.toNatClampNeg 0 = v) (hd : decode cc pc = .ok (.baload, 1)) (hq : pc + 1 = q)
    (k : JJ p l e R s m args below meth c nL G sh A Q q L (.int v :: st) g) : JJ p l e R s m args below meth c nL G sh A Q pc L (.int j :: .ref (G.2.2.2.2.2.2 i) :: st) g := by
  subst hq; subst hv
  exact fun H locs ls hP hS hlv => va_tb C.1.1 C.1.2.1 (C.2.2.2.2.1.1 i hi).2.2.2 hS hin rfl hd (k H locs ls hP hS hlv)
theorem r_compact (q : Nat) (C : KX p s m args c cc nL own Ts G sh A) {index : Nat} (hl : Cond.fieldLink own index "java/lang/String" "COMPACT_STRINGS" "Z" ∈ Ts) (hd : decode cc pc = .ok (.getstatic index, 3)) (hq : pc + 3 = q)
    (k : JJ p l e R s m args below meth c nL G sh A Q q L (.int 1 :: st) g) : JJ p l e R s m args below meth c nL G sh A Q pc L st g := by
  subst hq
  exact fun H locs ls hP hS hlv => va_gets C.1.1 C.1.2.1 C.2.2.2.2.2.2.1 hS C.1.2.2.2.1 (C.1.2.2.2.2 _ hl) (fun _ h => h) hd (k H locs ls hP hS hlv)
theorem r_former (q : Nat) (C : KX p s m args c cc nL own Ts G sh A) {index : Nat} (hl : Cond.fieldLink own index "jdk/internal/util/Preconditions" "SIOOBE_FORMATTER" "Ljava/util/function/BiFunction;" ∈ Ts) (hd : decode cc pc = .ok (.getstatic index, 3)) (hq : pc + 3 = q)
    (k : ∀ v : Value, v = .null ∨ (∃ t : Nat, v = .ref t) → JJ p l e R s m args below meth c nL G sh A Q q L (v :: st) g) : JJ p l e R s m args below meth c nL G sh A Q pc L st g := by
  subst hq
  intro H locs ls hP hS hlv
  rcases C.2.2.2.2.2.2.2 with h | ⟨t, h⟩
  · exact va_gets C.1.1 C.1.2.1 h hS C.1.2.2.2.1 (C.1.2.2.2.2 _ hl) (fun _ h => h) hd (k _ (Or.inl rfl) H locs ls hP hS hlv)
  · exact va_gets C.1.1 C.1.2.1 h hS C.1.2.2.2.1 (C.1.2.2.2.2 _ hl) (fun _ h => h) hd (k _ (Or.inr ⟨t, rfl⟩) H locs ls hP hS hlv)
/-- a return of a byte, a char -/
theorem r_nret (C : KX p s m args c cc nL own Ts G sh A) {ty : FieldType} (hr : meth.sig.returnType = some ty) (hk : meth.locks = false) {a : Array Value} {v : Int32} (hn : narrow ty (.int v) = .int v) (hd : decode cc pc = .ok (.ireturn, 1)) : JJ p l e R s m a below meth c nL G sh A (MQ below (k_Qi G sh A v g) a s 0 0 A) pc L [.int v] g :=
  fun H locs ls hP hS hl => W.zret (v := v) C.1.1 C.1.2.1 hr hn (fun t ht hW => ⟨⟨v, (), rfl, rfl, by rw [ht]; exact hP, va_K.moved hW.alike C.2.1, C.2.2.1, C.2.2.2.1.warm hW, C.2.2.2.2.move hS ht hW⟩, hS.F ht⟩) hS.2.2 hd hk
variable {y : MethodName} {bytes : ByteArray} {maxL n index : Nat} {ret : Option FieldType} {ws : List Cond} {rm : Room} {As stk : List Value} {g' : Mem} {r : Int32}
/-- a virtual call on a text -/
theorem r_TVi (q : Nat) (C : KX p s m args c cc nL own Ts G sh A) {i : Nat} (hi : i < 6) (hM : k_Mi l y ws rm G sh A (.ref (G.2.2.2.2.2.1 i) :: As) g r g') (cw : CallW R s args own "java/lang/String" index y bytes maxL ret ws rm 0 0 n) (hn : As.length = n) (hst : stk = As.reverse ++ .ref (G.2.2.2.2.2.1 i) :: st) (hcat : (st.map fun v => v.category).sum ≤ 8) (hd : decode cc pc = .ok (.invokevirtual index, 3)) (hq : pc + 3 = q)
    (k : JJ p l e R s m args below meth c nL G sh A Q q L (.int r :: st) g') : JJ p l e R s m args below meth c nL G sh A Q pc L stk g :=
  fun H locs ls hP hS hl => r_goi q hq (va_runV C.1 hM cw ⟨k_blind, vk_recv C.2.2.2.2.1 hi hS, fun U hU hW => ⟨rfl, by rw [hU]; exact hP, va_K.moved hW.alike C.2.1, C.2.2.1, C.2.2.2.1.warm hW, C.2.2.2.2.move hS hU hW⟩⟩ rfl hn hl.1 hst (lv_room hcat) hd ⟨Nat.zero_le _, Nat.zero_le _⟩) hS hl k
/-- a contract that answers the i-th text -/
abbrev k_Mt (l : Launch) (y : MethodName) (ws : List Cond) (rm : Room) (G : GG) (sh : List Kd) (A : Nat → Prop) (As : List Value) (g : Mem) (i : Nat) : Prop :=
  Met l y ws rm (va_Pc As (k_W G sh A g)) (va_Qr (fun (_ : Unit) => True) (fun _ a t => a = G.2.2.2.2.2.1 i ∧ k_W G sh A g t) A) 0 0 A
theorem r_St (q : Nat) (C : KX p s m args c cc nL own Ts G sh A) {i : Nat} (hM : k_Mt l y ws rm G sh A As g i) (cw : CallB R s args own index y bytes maxL ret ws rm 0 0 n ∧ (Cond.static y).before args s = true) (hn : As.length = n) (hst : stk = As.reverse ++ st) (hcat : (st.map fun v => v.category).sum ≤ 8) (hd : decode cc pc = .ok (.invokestatic index, 3)) (hq : pc + 3 = q)
    (k : JJ p l e R s m args below meth c nL G sh A Q q L (.ref (G.2.2.2.2.2.1 i) :: st) g) : JJ p l e R s m args below meth c nL G sh A Q pc L stk g := by
  subst hq
  intro H locs ls hP hS hl
  refine va_callr (mc := 0) (ms := 0) (va_runS C.1 hM cw (k_preS hS C hP) rfl hn hl.1 hst (lv_room hcat) hd ⟨Nat.zero_le _, Nat.zero_le _⟩) hS (fun _ _ h => h) (fun _ h => h) (fun u ra t H1 locs1 ht hvm hw hB hz hk hS1 => ?_)
  obtain ⟨rfl, hP1, -⟩ := hB
  rw [ht] at hP1
  exact k H1 locs1 ls hP1 hS1 hl
theorem r_tret (C : KX p s m args c cc nL own Ts G sh A) {C0 : String} (hr : meth.sig.returnType = some (.object C0)) (hk : meth.locks = false) {a : Array Value} {i : Nat} (hd : decode cc pc = .ok (.areturn, 1)) : JJ p l e R s m a below meth c nL G sh A (MQ below (va_Qr (fun (_ : Unit) => True) (fun _ a t => a = G.2.2.2.2.2.1 i ∧ k_W G sh A g t) A) a s 0 0 A) pc L [.ref (G.2.2.2.2.2.1 i)] g :=
  fun H locs ls hP hS hl => W.aret (v := .ref (G.2.2.2.2.2.1 i)) C.1.1 C.1.2.1 hr (Or.inl ⟨_, rfl⟩) (Or.inr ⟨_, rfl⟩) (fun t ht hW => ⟨⟨(), _, rfl, trivial, rfl, by rw [ht]; exact hP, va_K.moved hW.alike C.2.1, C.2.2.1, C.2.2.2.1.warm hW, C.2.2.2.2.move hS ht hW⟩, hS.F ht⟩) hS.2.2 hd hk
theorem k_oft {ws' : List Cond} {ty : FieldType} {i : Nat} (hy : plainName y.cls = true) (hw : ws = Cond.code y cc nL (some ty) :: ws') (hown : y.cls = own) (hsz : (lg_sl As).length ≤ nL) (hrm : rm.cells = 0 ∧ rm.slots = 0) (L : List (Nat × Value)) (hL : lv_args 0 As = L)
    (body : ∀ (p : Program) (e : Env) (s : State) (m : MethodId) (args : Array Value) (below : List Frame) (meth : Method) (c : Code), KX p s m args c cc nL own ws G sh A → meth.sig.returnType = some ty → meth.locks = false → JJ p l e rm s m args below meth c nL G sh A (MQ below (va_Qr (fun (_ : Unit) => True) (fun _ a t => a = G.2.2.2.2.2.1 i ∧ k_W G sh A g t) A) args s 0 0 A) 0 L [] g) : k_Mt l y ws rm G sh A As g i := by
  refine Met.ofW (cc := cc) (maxL := nL) (ret := some ty) hy hw ?_
  intro p e s m args below meth c s₁ B hml hv
  obtain ⟨rfl, hP, hK, hD, hN, hE⟩ := hv
  have hown2 : s.vm.findClass own = some m.cls := by rw [← hown]; exact findClass_of_methodNamed B.named
  have hl := lv_entry As hsz
  rw [lg_entry_eq]
  rw [hL] at hl
  exact body p e s m _ below meth c ⟨⟨B.exec, B.bytes, hml, hown2, atoms_spec (ws := ws) B.pre⟩, hK, hD, hN, hE⟩ B.returns B.notSynchronized s.heap [] _ hP va_S.rf hl
end ROWS2
theorem imin_self (x : Int32) : imin x x = x := by unfold imin; split <;> rfl
/-! State.copyAll -/
def rm_X2_copyAll : Room := { frames := 1, cells := 0, slots := 0, locals := 40 }
theorem hd_X2_copyAll : yX2_copyAll.cls ≠ "java/lang/invoke/MethodHandle" ∧ yX2_copyAll.cls ≠ "java/lang/invoke/VarHandle" ∧ (parseMethodDescriptor yX2_copyAll.desc).map (fun d => d.parameters.length) = some 2 := by decide +kernel
def f_X2_copyAll (o1 o2 n : Nat) (g : Mem) : Option Mem := some (m_cp g o1 o2 n)
set_option maxRecDepth 100000 in
set_option maxHeartbeats 4000000 in
theorem c_X2_copyAll (l : Launch) (G : GG) (A : Nat → Prop) (o1 o2 n : Nat) (h1 : shC[o1]? = some (.inr (.inl (false, n)))) (h2 : shC[o2]? = some (.inr (.inl (false, n)))) (hn : n < 2 ^ 31) (g : Mem) (res : Mem) (hf : f_X2_copyAll o1 o2 n g = some res) : k_Mv l yX2_copyAll wsX2_copyAll rm_X2_copyAll G shC A [.ref (G.2.1 o1), .ref (G.2.1 o2)] g res := by
  refine k_ofv (cc := cX2_copyAll) (nL := 2) (own := RX2) (by decide +kernel) rfl rfl (by simp [lg_sl, Value.category]) ⟨rfl, rfl⟩ [(0, .ref (G.2.1 o1)), (1, .ref (G.2.1 o2))] rfl ?_
  intro p e s m args below meth c C hr hk0
  refine r_aload_n 1 C 0 dX2_copyAll_0 rfl rfl ?_
  refine r_iconst (v := 0) 2 C dX2_copyAll_1 rfl (by decide) ?_
  refine r_aload_n 3 C 1 dX2_copyAll_2 rfl rfl ?_
  refine r_iconst (v := 0) 4 C dX2_copyAll_3 rfl (by decide) ?_
  refine r_aload_n 5 C 0 dX2_copyAll_4 rfl rfl ?_
  refine r_alen 6 C h1 dX2_copyAll_5 rfl rfl ?_
  refine r_aload_n 7 C 1 dX2_copyAll_6 rfl rfl ?_
  refine r_alen 8 C h2 dX2_copyAll_7 rfl rfl ?_
  refine r_min 11 C (by decide +kernel) (by decide +kernel) (by decide +kernel) (by decide +kernel) (by decide) (by simp [Value.category, rm_X2_copyAll]) dX2_copyAll_8 rfl ?_
  refine r_acopy 14 C h1 h2 (imin_self _) hn (by decide +kernel) (by decide +kernel) (by decide +kernel) (by decide +kernel) (by decide) (by decide) dX2_copyAll_11 rfl ?_
  cases hf
  exact r_vret C hr hk0 dX2_copyAll_14
/-! the JDK's own methods on a text of ours -/
def sLen (i : Nat) : Int32 := Int32.ofNat (k_len.getD i 0)
def sCh (i : Nat) (j : Int32) : Int32 := (((k_byt.getD i []).getD j.toNatClampNeg 0 &&& 255).toUInt32 % 65536).toInt32
def rm_0 : Room := { frames := 0, cells := 0, slots := 0, locals := 0 }
def rm_1 : Room := { frames := 1, cells := 0, slots := 0, locals := 30 }
def rm_2 : Room := { frames := 2, cells := 0, slots := 0, locals := 60 }
def rm_3 : Room := { frames := 3, cells := 0, slots := 0, locals := 90 }
theorem hd_J0_coder : yJ0_coder_7d493.cls = RJ0 ∧ yJ0_coder_7d493.cls ≠ "java/lang/invoke/MethodHandle" ∧ yJ0_coder_7d493.cls ≠ "java/lang/invoke/VarHandle" ∧ (parseMethodDescriptor yJ0_coder_7d493.desc).map (fun d => d.parameters.length) = some 0 := by decide +kernel
theorem hd_J0_isLatin1 : yJ0_isLatin1_aae02.cls = RJ0 ∧ yJ0_isLatin1_aae02.cls ≠ "java/lang/invoke/MethodHandle" ∧ yJ0_isLatin1_aae02.cls ≠ "java/lang/invoke/VarHandle" ∧ (parseMethodDescriptor yJ0_isLatin1_aae02.desc).map (fun d => d.parameters.length) = some 0 := by decide +kernel
theorem hd_J0_isEmpty : yJ0_isEmpty_aae02.cls = RJ0 ∧ yJ0_isEmpty_aae02.cls ≠ "java/lang/invoke/MethodHandle" ∧ yJ0_isEmpty_aae02.cls ≠ "java/lang/invoke/VarHandle" ∧ (parseMethodDescriptor yJ0_isEmpty_aae02.desc).map (fun d => d.parameters.length) = some 0 := by decide +kernel
theorem hd_J0_length : yJ0_length_8abf5.cls = RJ0 ∧ yJ0_length_8abf5.cls ≠ "java/lang/invoke/MethodHandle" ∧ yJ0_length_8abf5.cls ≠ "java/lang/invoke/VarHandle" ∧ (parseMethodDescriptor yJ0_length_8abf5.desc).map (fun d => d.parameters.length) = some 0 := by decide +kernel
theorem hd_J0_charAt : yJ0_charAt_5068e.cls = RJ0 ∧ yJ0_charAt_5068e.cls ≠ "java/lang/invoke/MethodHandle" ∧ yJ0_charAt_5068e.cls ≠ "java/lang/invoke/VarHandle" ∧ (parseMethodDescriptor yJ0_charAt_5068e.desc).map (fun d => d.parameters.length) = some 1 := by decide +kernel
theorem hd_J1_charAt : yJ1_charAt_3b067.cls ≠ "java/lang/invoke/MethodHandle" ∧ yJ1_charAt_3b067.cls ≠ "java/lang/invoke/VarHandle" ∧ (parseMethodDescriptor yJ1_charAt_3b067.desc).map (fun d => d.parameters.length) = some 2 := by decide +kernel
theorem hd_J0_checkIndex : yJ0_checkIndex_df160.cls ≠ "java/lang/invoke/MethodHandle" ∧ yJ0_checkIndex_df160.cls ≠ "java/lang/invoke/VarHandle" ∧ (parseMethodDescriptor yJ0_checkIndex_df160.desc).map (fun d => d.parameters.length) = some 2 := by decide +kernel
theorem hd_J3_checkIndex : yJ3_checkIndex_8e157.cls ≠ "java/lang/invoke/MethodHandle" ∧ yJ3_checkIndex_8e157.cls ≠ "java/lang/invoke/VarHandle" ∧ (parseMethodDescriptor yJ3_checkIndex_8e157.desc).map (fun d => d.parameters.length) = some 3 := by decide +kernel
set_option maxRecDepth 100000 in
set_option maxHeartbeats 4000000 in
theorem c_J0_isEmpty (l : Launch) (G : GG) (A : Nat → Prop) (i : Nat) (hi : i < 6) (g : Mem) : k_Mi l yJ0_isEmpty_aae02 wsJ0_isEmpty_aae02 rm_0 G shC A [.ref (G.2.2.2.2.2.1 i)] g (bI (decide (sLen i = 0))) g := by
  refine k_ofi (cc := cJ0_isEmpty_aae02) (nL := 1) (own := RJ0) (by decide +kernel) rfl rfl (by simp [lg_sl, Value.category]) ⟨rfl, rfl⟩ [(0, .ref (G.2.2.2.2.2.1 i))] rfl ?_
  intro p e s m args below meth c C hr hk0
  refine r_aload_n 1 C 0 dJ0_isEmpty_aae02_0 rfl rfl ?_
  refine r_sval 4 C hi (by decide +kernel) dJ0_isEmpty_aae02_1 rfl ?_
  refine r_slen (v := sLen i) 5 C hi rfl dJ0_isEmpty_aae02_4 rfl ?_
  refine r_if_ne 12 8 C dJ0_isEmpty_aae02_5 rfl rfl (fun c1 => ?_) (fun c1 => ?_)
  · refine r_iconst (v := 0) 13 C dJ0_isEmpty_aae02_12 rfl (by decide) ?_
    rw [decide_eq_false c1]
    exact r_zret C hr hk0 false rfl dJ0_isEmpty_aae02_13
  · refine r_iconst (v := 1) 9 C dJ0_isEmpty_aae02_8 rfl (by decide) ?_
    refine r_goto 13 C dJ0_isEmpty_aae02_9 rfl ?_
    rw [decide_eq_true c1]
    exact r_zret C hr hk0 true rfl dJ0_isEmpty_aae02_13
set_option maxRecDepth 100000 in
set_option maxHeartbeats 4000000 in
theorem c_J0_coder (l : Launch) (G : GG) (A : Nat → Prop) (i : Nat) (hi : i < 6) (g : Mem) : k_Mi l yJ0_coder_7d493 wsJ0_coder_7d493 rm_0 G shC A [.ref (G.2.2.2.2.2.1 i)] g 0 g := by
  refine k_ofi (cc := cJ0_coder_7d493) (nL := 1) (own := RJ0) (by decide +kernel) rfl rfl (by simp [lg_sl, Value.category]) ⟨rfl, rfl⟩ [(0, .ref (G.2.2.2.2.2.1 i))] rfl ?_
  intro p e s m args below meth c C hr hk0
  refine r_compact 3 C (by decide +kernel) dJ0_coder_7d493_0 rfl ?_
  refine r_if_eq 13 6 C dJ0_coder_7d493_3 rfl rfl (fun c1 => absurd c1 (by decide)) (fun _ => ?_)
  refine r_aload_n 7 C 0 dJ0_coder_7d493_6 rfl rfl ?_
  refine r_scod 10 C hi (by decide +kernel) dJ0_coder_7d493_7 rfl ?_
  refine r_goto 14 C dJ0_coder_7d493_10 rfl ?_
  exact r_nret C hr hk0 rfl dJ0_coder_7d493_14
set_option maxRecDepth 100000 in
set_option maxHeartbeats 4000000 in
theorem c_J0_isLatin1 (l : Launch) (G : GG) (A : Nat → Prop) (i : Nat) (hi : i < 6) (g : Mem) : k_Mi l yJ0_isLatin1_aae02 wsJ0_isLatin1_aae02 rm_0 G shC A [.ref (G.2.2.2.2.2.1 i)] g (bI true) g := by
  refine k_ofi (cc := cJ0_isLatin1_aae02) (nL := 1) (own := RJ0) (by decide +kernel) rfl rfl (by simp [lg_sl, Value.category]) ⟨rfl, rfl⟩ [(0, .ref (G.2.2.2.2.2.1 i))] rfl ?_
  intro p e s m args below meth c C hr hk0
  refine r_compact 3 C (by decide +kernel) dJ0_isLatin1_aae02_0 rfl ?_
  refine r_if_eq 17 6 C dJ0_isLatin1_aae02_3 rfl rfl (fun c1 => absurd c1 (by decide)) (fun _ => ?_)
  refine r_aload_n 7 C 0 dJ0_isLatin1_aae02_6 rfl rfl ?_
  refine r_scod 10 C hi (by decide +kernel) dJ0_isLatin1_aae02_7 rfl ?_
  refine r_if_ne 17 13 C dJ0_isLatin1_aae02_10 rfl rfl (fun c1 => absurd rfl c1) (fun _ => ?_)
  refine r_iconst (v := 1) 14 C dJ0_isLatin1_aae02_13 rfl (by decide) ?_
  refine r_goto 18 C dJ0_isLatin1_aae02_14 rfl ?_
  exact r_zret C hr hk0 true rfl dJ0_isLatin1_aae02_18
set_option maxRecDepth 100000 in
set_option maxHeartbeats 4000000 in
theorem c_J0_length (l : Launch) (G : GG) (A : Nat → Prop) (i : Nat) (hi : i < 6) (g : Mem) : k_Mi l yJ0_length_8abf5 wsJ0_length_8abf5 rm_1 G shC A [.ref (G.2.2.2.2.2.1 i)] g (sLen i >>> ((0 : Int32) &&& 31)) g := by
  refine k_ofi (cc := cJ0_length_8abf5) (nL := 1) (own := RJ0) (by decide +kernel) rfl rfl (by simp [lg_sl, Value.category]) ⟨rfl, rfl⟩ [(0, .ref (G.2.2.2.2.2.1 i))] rfl ?_
  intro p e s m args below meth c C hr hk0
  refine r_aload_n 1 C 0 dJ0_length_8abf5_0 rfl rfl ?_
  refine r_sval 4 C hi (by decide +kernel) dJ0_length_8abf5_1 rfl ?_
  refine r_slen (v := sLen i) 5 C hi rfl dJ0_length_8abf5_4 rfl ?_
  refine r_aload_n 6 C 0 dJ0_length_8abf5_5 rfl rfl ?_
  refine r_TVi (As := []) 9 C hi (c_J0_coder l G A i hi g) (cwV 0 C.1.2.2.2.2 gJ0_length_8abf5_J0_coder_7d493 rfl rfl rfl hd_J0_coder ⟨Nat.le_of_ble_eq_true rfl, Nat.le_of_ble_eq_true rfl⟩) rfl rfl (by simp [Value.category]) dJ0_length_8abf5_6 rfl ?_
  refine r_ishr 10 C dJ0_length_8abf5_9 rfl ?_
  exact r_iret C hr hk0 dJ0_length_8abf5_10
set_option maxRecDepth 100000 in
set_option maxHeartbeats 4000000 in
theorem c_J3_checkIndex (l : Launch) (G : GG) (A : Nat → Prop) (j n : Int32) (v : Value) (hv : v = .null ∨ (∃ t : Nat, v = .ref t)) (h1 : ¬ j < 0) (h2 : j < n) (g : Mem) : k_Mi l yJ3_checkIndex_8e157 wsJ3_checkIndex_8e157 rm_0 G shC A [.int j, .int n, v] g j g := by
  have hcat : v.category = 1 := by rcases hv with rfl | ⟨t, rfl⟩ <;> rfl
  refine k_ofi (cc := cJ3_checkIndex_8e157) (nL := 3) (own := RJ3) (by decide +kernel) rfl rfl (by simp [lg_sl, Value.category]; rcases hv with rfl | ⟨t, rfl⟩ <;> simp) ⟨rfl, rfl⟩ [(0, .int j), (1, .int n), (2, v)] rfl ?_
  intro p e s m args below meth c C hr hk0
  refine r_iload_n 1 C 0 dJ3_checkIndex_8e157_0 rfl rfl ?_
  refine r_if_lt 9 4 C dJ3_checkIndex_8e157_1 rfl rfl (fun c1 => absurd c1 h1) (fun _ => ?_)
  refine r_iload_n 5 C 0 dJ3_checkIndex_8e157_4 rfl rfl ?_
  refine r_iload_n 6 C 1 dJ3_checkIndex_8e157_5 rfl rfl ?_
  refine r_icmp_lt 16 9 C dJ3_checkIndex_8e157_6 rfl rfl (fun _ => ?_) (fun c1 => absurd h2 c1)
  refine r_iload_n 17 C 0 dJ3_checkIndex_8e157_16 rfl rfl ?_
  exact r_iret C hr hk0 dJ3_checkIndex_8e157_17
set_option maxRecDepth 100000 in
set_option maxHeartbeats 4000000 in
theorem c_J0_checkIndex (l : Launch) (G : GG) (A : Nat → Prop) (j n : Int32) (h1 : ¬ j < 0) (h2 : j < n) (g : Mem) : k_Mv l yJ0_checkIndex_df160 wsJ0_checkIndex_df160 rm_1 G shC A [.int j, .int n] g g := by
  refine k_ofv (cc := cJ0_checkIndex_df160) (nL := 2) (own := RJ0) (by decide +kernel) rfl rfl (by simp [lg_sl, Value.category]) ⟨rfl, rfl⟩ [(0, .int j), (1, .int n)] rfl ?_
  intro p e s m args below meth c C hr hk0
  refine r_iload_n 1 C 0 dJ0_checkIndex_df160_0 rfl rfl ?_
  refine r_iload_n 2 C 1 dJ0_checkIndex_df160_1 rfl rfl ?_
  refine r_former 5 C (by decide +kernel) dJ0_checkIndex_df160_2 rfl (fun v hv => ?_)
  refine r_Si (As := [.int j, .int n, v]) 8 C (c_J3_checkIndex l G A j n v hv h1 h2 g) (va_cwS 3 C.1.2.2.2.2 gJ0_checkIndex_df160_J3_checkIndex_8e157 rfl rfl rfl hd_J3_checkIndex ⟨Nat.le_of_ble_eq_true rfl, Nat.le_of_ble_eq_true rfl⟩) rfl rfl (by simp) dJ0_checkIndex_df160_5 rfl ?_
  refine r_pop 9 C dJ0_checkIndex_df160_8 rfl rfl ?_
  exact r_vret C hr hk0 dJ0_checkIndex_df160_9
theorem sCh_nar : ∀ i, i < 6 → ∀ k, k < k_len.getD i 0 → narrow .char (.int ((((k_byt.getD i []).getD k 0 &&& 255).toUInt32 % 65536).toInt32)) = .int ((((k_byt.getD i []).getD k 0 &&& 255).toUInt32 % 65536).toInt32) := by decide +kernel
theorem sLen_lt : ∀ i, i < 6 → k_len.getD i 0 < 2 ^ 31 := by decide +kernel
theorem sLen_in {i : Nat} (hi : i < 6) {j : Int32} (h1 : ¬ j < 0) (h2 : j < sLen i) : vp_in j (k_len.getD i 0) := by
  obtain ⟨k, hk, rfl⟩ := nI_of h1
  exact vp_in_nI ((nI_ltI hk (sLen_lt i hi)).mp h2) (sLen_lt i hi)
theorem sCh_nar2 {i : Nat} (hi : i < 6) {j : Int32} (h : vp_in j (k_len.getD i 0)) : narrow .char (.int (sCh i j)) = .int (sCh i j) :=
  sCh_nar i hi j.toNatClampNeg (Nat.not_le.mp fun q => h (Or.inr q))
set_option maxRecDepth 100000 in
set_option maxHeartbeats 4000000 in
theorem c_J1_charAt (l : Launch) (G : GG) (A : Nat → Prop) (i : Nat) (hi : i < 6) (j : Int32) (h1 : ¬ j < 0) (h2 : j < sLen i) (g : Mem) : k_Mi l yJ1_charAt_3b067 wsJ1_charAt_3b067 rm_2 G shC A [.ref (G.2.2.2.2.2.2 i), .int j] g (sCh i j) g := by
  refine k_ofi (cc := cJ1_charAt_3b067) (nL := 2) (own := RJ1) (by decide +kernel) rfl rfl (by simp [lg_sl, Value.category]) ⟨rfl, rfl⟩ [(0, .ref (G.2.2.2.2.2.2 i)), (1, .int j)] rfl ?_
  intro p e s m args below meth c C hr hk0
  refine r_iload_n 1 C 1 dJ1_charAt_3b067_0 rfl rfl ?_
  refine r_aload_n 2 C 0 dJ1_charAt_3b067_1 rfl rfl ?_
  refine r_slen (v := sLen i) 3 C hi rfl dJ1_charAt_3b067_2 rfl ?_
  refine r_Sv (As := [.int j, .int (sLen i)]) 6 C (c_J0_checkIndex l G A j (sLen i) h1 h2 g) (va_cwS 2 C.1.2.2.2.2 gJ1_charAt_3b067_J0_checkIndex_df160 rfl rfl rfl hd_J0_checkIndex ⟨Nat.le_of_ble_eq_true rfl, Nat.le_of_ble_eq_true rfl⟩) rfl rfl (by simp) dJ1_charAt_3b067_3 rfl ?_
  refine r_aload_n 7 C 0 dJ1_charAt_3b067_6 rfl rfl ?_
  refine r_iload_n 8 C 1 dJ1_charAt_3b067_7 rfl rfl ?_
  refine r_sbyte 9 C hi (sLen_in hi h1 h2) rfl dJ1_charAt_3b067_8 rfl ?_
  refine r_sipush (v := 255) 12 C dJ1_charAt_3b067_9 rfl (by decide) ?_
  refine r_iand 13 C dJ1_charAt_3b067_12 rfl ?_
  refine r_i2c 14 C dJ1_charAt_3b067_13 rfl ?_
  exact r_nret C hr hk0 (sCh_nar2 hi (sLen_in hi h1 h2)) dJ1_charAt_3b067_14
set_option maxRecDepth 100000 in
set_option maxHeartbeats 4000000 in
theorem c_J0_charAt (l : Launch) (G : GG) (A : Nat → Prop) (i : Nat) (hi : i < 6) (j : Int32) (h1 : ¬ j < 0) (h2 : j < sLen i) (g : Mem) : k_Mi l yJ0_charAt_5068e wsJ0_charAt_5068e rm_3 G shC A [.ref (G.2.2.2.2.2.1 i), .int j] g (sCh i j) g := by
  refine k_ofi (cc := cJ0_charAt_5068e) (nL := 2) (own := RJ0) (by decide +kernel) rfl rfl (by simp [lg_sl, Value.category]) ⟨rfl, rfl⟩ [(0, .ref (G.2.2.2.2.2.1 i)), (1, .int j)] rfl ?_
  intro p e s m args below meth c C hr hk0
  refine r_aload_n 1 C 0 dJ0_charAt_5068e_0 rfl rfl ?_
  refine r_TVi (As := []) 4 C hi (c_J0_isLatin1 l G A i hi g) (cwV 0 C.1.2.2.2.2 gJ0_charAt_5068e_J0_isLatin1_aae02 rfl rfl rfl hd_J0_isLatin1 ⟨Nat.le_of_ble_eq_true rfl, Nat.le_of_ble_eq_true rfl⟩) rfl rfl (by simp) dJ0_charAt_5068e_1 rfl ?_
  refine r_if_eq 16 7 C dJ0_charAt_5068e_4 rfl rfl (fun c1 => absurd c1 (by decide)) (fun _ => ?_)
  refine r_aload_n 8 C 0 dJ0_charAt_5068e_7 rfl rfl ?_
  refine r_sval 11 C hi (by decide +kernel) dJ0_charAt_5068e_8 rfl ?_
  refine r_iload_n 12 C 1 dJ0_charAt_5068e_11 rfl rfl ?_
  refine r_Si (As := [.ref (G.2.2.2.2.2.2 i), .int j]) 15 C (c_J1_charAt l G A i hi j h1 h2 g) (va_cwS 2 C.1.2.2.2.2 gJ0_charAt_5068e_J1_charAt_3b067 rfl rfl rfl hd_J1_charAt ⟨Nat.le_of_ble_eq_true rfl, Nat.le_of_ble_eq_true rfl⟩) rfl rfl (by simp) dJ0_charAt_5068e_12 rfl ?_
  exact r_nret C hr hk0 (sCh_nar2 hi (sLen_in hi h1 h2)) dJ0_charAt_5068e_15
/-! Orders.partsOf -/
def f_X1_partsOf (a1 : Int32) : Nat := if a1 = 97 then 3 else if a1 = 100 then 4 else if a1 = 110 then 0 else if a1 = 117 then 4 else if a1 = 118 then 2 else if a1 = 121 then 1 else 5
theorem hd_X1_partsOf : yX1_partsOf.cls ≠ "java/lang/invoke/MethodHandle" ∧ yX1_partsOf.cls ≠ "java/lang/invoke/VarHandle" ∧ (parseMethodDescriptor yX1_partsOf.desc).map (fun d => d.parameters.length) = some 1 := by decide +kernel
theorem f_X1_partsOf_lt (a1 : Int32) : f_X1_partsOf a1 < 6 := by
  unfold f_X1_partsOf
  repeat' split
  all_goals decide
set_option maxRecDepth 100000 in
set_option maxHeartbeats 4000000 in
theorem c_X1_partsOf (l : Launch) (G : GG) (A : Nat → Prop) (a1 : Int32) (g : Mem) (i : Nat) (hf : f_X1_partsOf a1 = i) : k_Mt l yX1_partsOf wsX1_partsOf rm_0 G shC A [.int a1] g i := by
  refine k_oft (cc := cX1_partsOf) (nL := 1) (own := RX1) (by decide +kernel) rfl rfl (by simp [lg_sl, Value.category]) ⟨rfl, rfl⟩ [(0, .int a1)] rfl ?_
  intro p e s m args below meth c C hr hk0
  rw [f_X1_partsOf] at hf
  refine r_iload_n 1 C 0 dX1_partsOf_0 rfl rfl ?_
  by_cases c1 : a1 = 97
  · have hf := oip c1 hf
    subst hf
    refine r_lookup 69 C (off := 68) dX1_partsOf_1 (by decide) (by rw [c1]; rfl) rfl ?_
    refine r_ldcS 71 C 3 (by decide) rfl rfl dX1_partsOf_69 rfl ?_
    exact r_tret C hr hk0 dX1_partsOf_71
  have hf := oin c1 hf
  by_cases c2 : a1 = 100
  · have hf := oip c2 hf
    subst hf
    refine r_lookup 72 C (off := 71) dX1_partsOf_1 (by decide) (by rw [c2]; rfl) rfl ?_
    refine r_ldcS 74 C 4 (by decide) rfl rfl dX1_partsOf_72 rfl ?_
    exact r_tret C hr hk0 dX1_partsOf_74
  have hf := oin c2 hf
  by_cases c3 : a1 = 110
  · have hf := oip c3 hf
    subst hf
    refine r_lookup 60 C (off := 59) dX1_partsOf_1 (by decide) (by rw [c3]; rfl) rfl ?_
    refine r_ldcS 62 C 0 (by decide) rfl rfl dX1_partsOf_60 rfl ?_
    exact r_tret C hr hk0 dX1_partsOf_62
  have hf := oin c3 hf
  by_cases c4 : a1 = 117
  · have hf := oip c4 hf
    subst hf
    refine r_lookup 72 C (off := 71) dX1_partsOf_1 (by decide) (by rw [c4]; rfl) rfl ?_
    refine r_ldcS 74 C 4 (by decide) rfl rfl dX1_partsOf_72 rfl ?_
    exact r_tret C hr hk0 dX1_partsOf_74
  have hf := oin c4 hf
  by_cases c5 : a1 = 118
  · have hf := oip c5 hf
    subst hf
    refine r_lookup 66 C (off := 65) dX1_partsOf_1 (by decide) (by rw [c5]; rfl) rfl ?_
    refine r_ldcS 68 C 2 (by decide) rfl rfl dX1_partsOf_66 rfl ?_
    exact r_tret C hr hk0 dX1_partsOf_68
  have hf := oin c5 hf
  by_cases c6 : a1 = 121
  · have hf := oip c6 hf
    subst hf
    refine r_lookup 63 C (off := 62) dX1_partsOf_1 (by decide) (by rw [c6]; rfl) rfl ?_
    refine r_ldcS 65 C 1 (by decide) rfl rfl dX1_partsOf_63 rfl ?_
    exact r_tret C hr hk0 dX1_partsOf_65
  have hf := oin c6 hf
  subst hf
  refine r_lookup 75 C (off := 74) dX1_partsOf_1 (by decide) (by
    simp only [Op.lookupswitch.offset_cons, Op.lookupswitch.offset_nil]
    rw [if_neg (ne_i c1 (by decide))]
    rw [if_neg (ne_i c2 (by decide))]
    rw [if_neg (ne_i c3 (by decide))]
    rw [if_neg (ne_i c4 (by decide))]
    rw [if_neg (ne_i c5 (by decide))]
    rw [if_neg (ne_i c6 (by decide))]) rfl ?_
  refine r_ldcS 77 C 5 (by decide) rfl rfl dX1_partsOf_75 rfl ?_
  exact r_tret C hr hk0 dX1_partsOf_77
end
section
/-! what each method answers, and makes of the memory: laid by program out of the bytecode -/
def f_X2_copy (o : Nat) (o1 : Nat) (g : Mem) : Option Mem := lt1 (m_up g o 0 (g o1 0)) fun g1 => (lt1 (m_up g1 o 1 (g1 o1 1)) fun g2 => (lt1 (m_up g2 o 2 (g2 o1 2)) fun g3 => (lt1 (m_up g3 o 3 (g3 o1 3)) fun g4 => (lt1 (m_up g4 o 4 (g4 o1 4)) fun g5 => ((f_X2_copyAll (o1 + 1) (o + 1) 6 g5).bind fun g6 => ((f_X2_copyAll (o1 + 2) (o + 2) 96 g6).bind fun g7 => ((f_X2_copyAll (o1 + 3) (o + 3) 96 g7).bind fun g8 => ((f_X2_copyAll (o1 + 4) (o + 4) 3 g8).bind fun g9 => ((f_X2_copyAll (o1 + 5) (o + 5) 3 g9).bind fun g10 => ((f_X2_copyAll (o1 + 6) (o + 6) 3 g10).bind fun g11 => ((f_X2_copyAll (o1 + 7) (o + 7) 48 g11).bind fun g12 => ((f_X2_copyAll (o1 + 8) (o + 8) 288 g12).bind fun g13 => ((f_X2_copyAll (o1 + 9) (o + 9) 288 g13).bind fun g14 => ((f_X2_copyAll (o1 + 10) (o + 10) 17 g14).bind fun g15 => ((f_X2_copyAll (o1 + 11) (o + 11) 17 g15).bind fun g16 => (some g16))))))))))))))))
def f_X0_draft (o1 : Nat) (g : Mem) : Option Mem := (rdr 5 rowOf (g 25 1)).bind fun r1 => ((f_X2_copy r1 o1 g).bind fun g2 => (some g2))
def f_X0_bringBackDraft (o1 : Nat) (g : Mem) : Option Mem := (rdr 5 rowOf (g 25 1)).bind fun r1 => ((f_X2_copy o1 r1 g).bind fun g2 => (some g2))
def f_X0_commit  (g : Mem) : Option Mem := lt1 (m_up g 25 1 (((g 25 1) + 1) - ((g 25 1) + 1) / 5 * 5)) fun g1 => (lt1 (m_up g1 25 2 (imin 4 ((g1 25 2) + 1))) fun g2 => (some g2))
def f_X0_bringBackLatest (o1 : Nat) (g : Mem) : Option (Int32 × Mem) := (if (g 25 2) = 0 then some ((-5), g) else lt1 (m_up g 25 1 ((((g 25 1) + 5) - 1) - (((g 25 1) + 5) - 1) / 5 * 5)) fun g2 => (lt1 (m_up g2 25 2 ((g2 25 2) - 1)) fun g3 => ((rdr 5 rowOf (g3 25 1)).bind fun r4 => ((f_X2_copy o1 r4 g3).bind fun g5 => (some ((g5 25 2), g5))))))
def f_X3_signAt (a1 : Int32) (g : Mem) : Option Int32 := (if a1 < 0 then some 0 else (if (g 87 1) ≤ a1 then some 0 else (rd g 88 60 a1).bind fun x3 => (some x3)))
def f_X1_readComma  (g : Mem) : Option (Bool × Mem) := (f_X3_signAt (g 89 3) g).bind fun x1 => ((if x1 = 44 then lt1 (m_up g 89 3 ((g 89 3) + 1)) fun g3 => (some (true, g3)) else some (false, g)))
def f_X1_tell (a1 : Int32) (g : Mem) : Option Mem := (if 3 ≤ (g 89 4) then some g else (if 20 ≤ (g 89 5) then some g else (wr g 92 60 (((g 89 5) * 3) + (g 89 4)) a1).bind fun g3 => (lt1 (m_up g3 89 4 ((g3 89 4) + 1)) fun g4 => (some g4))))
def f_X1_readDigit (a2 : Int32) (g : Mem) : Option (Bool × Mem) := (f_X3_signAt (g 89 3) g).bind fun x1 => (lt1 (x1 - 48) fun x2 => ((if x2 < 0 then some (false, g) else (if x2 < a2 then lt1 (m_up g 89 3 ((g 89 3) + 1)) fun g5 => ((f_X1_tell x2 g5).bind fun g6 => (some (true, g6))) else some (false, g)))))
def f_X1_isDigit (a1 : Int32) : Bool := (if a1 < 48 then false else (if 57 < a1 then false else true))
def f_X1_readNumber_L19 (k : Int32 → Int32 → Mem → Option (Bool × Mem)) : Nat → Int32 → Int32 → Mem → Option (Bool × Mem)
  | 0, _, _, _ => none
  | n + 1, v2, v3, g => (if 3 ≤ v3 then k v2 v3 g else (f_X3_signAt (g 89 3) g).bind fun x4 => ((if (f_X1_isDigit x4) then (f_X3_signAt (g 89 3) g).bind fun x6 => (lt1 ((v2 * 10) + (x6 - 48)) fun x7 => (lt1 (m_up g 89 3 ((g 89 3) + 1)) fun g8 => (lt1 (v3 + 1) fun x9 => (f_X1_readNumber_L19 k n x7 x9 g8)))) else k v2 v3 g)))
def f_X1_readNumber  (g : Mem) : Option (Bool × Mem) := (f_X3_signAt (g 89 3) g).bind fun x1 => ((if x1 = 48 then some (false, g) else f_X1_readNumber_L19 (fun x10 x11 g12 => (if x11 = 0 then some (false, g12) else (f_X1_tell x10 g12).bind fun g14 => (some (true, g14)))) fuel0 0 0 g))
def f_X1_readPart (a2 : Int32) (g : Mem) : Option (Bool × Mem) := (if a2 = 35 then (bd2 (f_X1_readNumber  g) fun x1 g2 => (some (x1, g2))) else if a2 = 97 then (bd2 (f_X1_readDigit 6 g) fun x4 g5 => (some (x4, g5))) else if a2 = 112 then (bd2 (f_X1_readDigit 3 g) fun x7 g8 => (some (x7, g8))) else (bd2 (f_X1_readComma  g) fun x10 g11 => (some (x10, g11))))
def f_X1_readOrder_L73 (k : Mem → Option (Bool × Mem)) (i : Nat) : Nat → Int32 → Mem → Option (Bool × Mem)
  | 0, _, _ => none
  | n + 1, v4, g => if (sLen i >>> ((0 : Int32) &&& 31)) ≤ v4 then k g else if v4 < 0 then none else (bd2 (f_X1_readPart (sCh i v4) g) fun x1 g1 => (if x1 then lt1 (v4 + 1) fun x2 => (f_X1_readOrder_L73 k i n x2 g1) else some (false, g1)))
def f_X1_readOrder (g : Mem) : Option (Bool × Mem) := (f_X3_signAt (g 89 3) g).bind fun x1 => (if (decide (sLen (f_X1_partsOf x1) = 0)) then some (false, g) else (if (g 89 5) < 20 then (wr g 90 20 (g 89 5) x1).bind fun g1 => ((wr g1 91 20 (g1 89 5) (g1 89 3)).bind fun g2 => (lt1 (m_up g2 89 3 (g2 89 3 + 1)) fun g3 => (lt1 (m_up g3 89 4 0) fun g4 => (f_X1_readOrder_L73 (fun g5 => lt1 (m_up g5 89 5 (g5 89 5 + 1)) fun g6 => (some (true, g6))) (f_X1_partsOf x1) fuel0 0 g4)))) else some (false, g)))
def f_X1_read_L10 (k : Mem → Option (Int32 × Mem)) : Nat → Mem → Option (Int32 × Mem)
  | 0, _ => none
  | n + 1, g => (if 20 ≤ (g 89 5) then k  g else bd2 (f_X1_readOrder  g) fun x4 g5 => ((if x4 then (if (g5 89 3) = (g5 87 1) then some ((-1), g5) else (f_X3_signAt (g5 89 3) g5).bind fun x8 => ((if x8 = 59 then lt1 (m_up g5 89 3 ((g5 89 3) + 1)) fun g10 => (f_X1_read_L10 k n  g10) else some ((g5 89 3), g5)))) else some ((g5 89 3), g5))))
def f_X1_read  (g : Mem) : Option (Int32 × Mem) := lt1 (m_up g 89 3 0) fun g1 => (lt1 (m_up g1 89 5 0) fun g2 => (f_X1_read_L10 (fun g11 => some ((g11 89 3), g11)) fuel0 g2))
def f_X1_placeOf (a1 : Int32) (g : Mem) : Option Int32 := (if a1 < 0 then some 0 else (if (g 89 5) ≤ a1 then some 0 else (rd g 91 20 a1).bind fun x3 => (some x3)))
def f_X2_refuse (o : Nat) (a1 : Int32) (a2 : Int32) (g : Mem) : Option (Int32 × Mem) := (rd g (o + 5) 3 a1).bind fun x1 => ((rd g (o + 1) 6 a2).bind fun x2 => ((wr g (o + 5) 3 a1 (imax x1 x2)).bind fun g3 => ((rd g3 (o + 1) 6 a2).bind fun x4 => (some ((100 + x4), g3)))))
def f_X4_cell (a1 : Int32) (a2 : Int32) : Int32 := (((a1 * 16) + a2) - 1)
def f_X2_tellVotes_L10 (k : Mem → Option Mem) (o : Nat) (v2 : Int32) (v3 : Int32) : Nat → Int32 → Mem → Option Mem
  | 0, _, _ => none
  | n + 1, v4, g => (if 16 < v4 then k  g else (rd g (o + 2) 96 (f_X4_cell v2 v4)).bind fun x3 => ((wr g (o + 8) 288 (f_X4_cell v3 v4) x3).bind fun g4 => ((rd g4 (o + 3) 96 (f_X4_cell v2 v4)).bind fun x5 => ((wr g4 (o + 9) 288 (f_X4_cell v3 v4) x5).bind fun g6 => (lt1 (v4 + 1) fun x7 => (f_X2_tellVotes_L10 k o v2 v3 n x7 g6))))))
def f_X2_tellVotes (o : Nat) (a1 : Int32) (a2 : Int32) (g : Mem) : Option Mem := lt1 ((a1 * 6) + a2) fun x1 => (f_X2_tellVotes_L10 (fun g8 => some g8) o a2 x1 fuel0 1 g)
def f_X2_votesOf_L5 (k : Int32 → Option Int32) (o : Nat) (v1 : Int32) (v2 : Int32) (g : Mem) : Nat → Int32 → Int32 → Option Int32
  | 0, _, _ => none
  | n + 1, v3, v4 => (if 16 < v4 then k v3 else (if v2 < v4 then k v3 else (rd g (o + 2) 96 (f_X4_cell v1 v4)).bind fun x3 => ((if x3 = 0 then lt1 (v4 + 1) fun x5 => (f_X2_votesOf_L5 k o v1 v2 g n v3 x5) else lt1 (v3 + 1) fun x6 => (lt1 (v4 + 1) fun x7 => (f_X2_votesOf_L5 k o v1 v2 g n x6 x7))))))
def f_X2_votesOf (o : Nat) (a1 : Int32) (a2 : Int32) (g : Mem) : Option Int32 := f_X2_votesOf_L5 (fun x8 => some x8) o a1 a2 g fuel0 0 1
def f_X4_has (a1 : Int32) (a2 : Int32) : Bool := (if ((a1 >>> (a2 &&& 31)) &&& 1) = 1 then true else false)
def f_X4_isAcceptor (a1 : Int32) : Bool := (if a1 < 0 then false else (if 6 ≤ a1 then false else true))
def f_X4_isProposer (a1 : Int32) : Bool := (if a1 < 0 then false else (if 3 ≤ a1 then false else true))
def f_X2_askPromise (o : Nat) (a1 : Int32) (a2 : Int32) (g : Mem) : Option (Int32 × Mem) := (if (f_X4_isProposer a1) then (if (f_X4_isAcceptor a2) then (rd g (o + 4) 3 a1).bind fun x3 => ((if x3 = 0 then some ((-4), g) else (if (f_X4_has (g o 0) a2) then (rd g (o + 6) 3 a1).bind fun x6 => ((if (f_X4_has x6 a2) then some ((-5), g) else (rd g (o + 4) 3 a1).bind fun x8 => ((rd g (o + 1) 6 a2).bind fun x9 => ((if x9 < x8 then (rd g (o + 4) 3 a1).bind fun x11 => ((wr g (o + 1) 6 a2 x11).bind fun g12 => ((rd g12 (o + 6) 3 a1).bind fun x13 => ((wr g12 (o + 6) 3 a1 (x13 ||| (1 <<< (a2 &&& 31)))).bind fun g14 => ((f_X2_tellVotes o a1 a2 g14).bind fun g15 => ((f_X2_votesOf o a2 16 g15).bind fun x16 => (some (x16, g15))))))) else lt1 (m_up g o 3 ((g o 3) + 1)) fun g17 => (bd2 (f_X2_refuse o a1 a2 g17) fun x18 g19 => (some (x18, g19)))))))) else some ((-4), g)))) else some ((-1), g)) else some ((-1), g))
def f_J6_bitCount_0f7a4 (a1 : Int32) : Int32 := lt1 (a1 - ((ushr a1 1) &&& 1431655765)) fun x1 => (lt1 ((x1 &&& 858993459) + ((ushr x1 2) &&& 858993459)) fun x2 => (lt1 ((x2 + (ushr x2 4)) &&& 252645135) fun x3 => (lt1 (x3 + (ushr x3 8)) fun x4 => (lt1 (x4 + (ushr x4 16)) fun x5 => ((x5 &&& 63))))))
def f_X2_votersOf_L5 (k : Int32 → Option Int32) (o : Nat) (v1 : Int32) (g : Mem) : Nat → Int32 → Int32 → Option Int32
  | 0, _, _ => none
  | n + 1, v2, v3 => (if 16 < v3 then k v2 else (if (v1 - 3) < v3 then k v2 else (rd g (o + 10) 17 v3).bind fun x3 => ((if x3 ≤ 100 then lt1 (v3 + 1) fun x5 => (f_X2_votersOf_L5 k o v1 g n v2 x5) else (rd g (o + 10) 17 v3).bind fun x6 => (lt1 (x6 - 100) fun x7 => (lt1 (v3 + 1) fun x8 => (f_X2_votersOf_L5 k o v1 g n x7 x8)))))))
def f_X2_votersOf (o : Nat) (a1 : Int32) (g : Mem) : Option Int32 := f_X2_votersOf_L5 (fun x9 => some x9) o a1 g fuel0 7 1
def f_X2_mayAskVote (o : Nat) (a1 : Int32) (a2 : Int32) (a3 : Int32) (g : Mem) : Option Bool := (rd g (o + 7) 48 (f_X4_cell a1 a2)).bind fun x1 => ((if x1 = 0 then some false else (if a2 ≤ (g o 2) then some false else (if (f_X4_has (g o 0) a3) then (f_X2_votersOf o a2 g).bind fun x5 => ((if (f_X4_has x5 a3) then some true else some false)) else some false))))
def f_X2_secondSize (o : Nat) (a1 : Int32) (g : Mem) : Int32 := (imin (g o 1) (f_J6_bitCount_0f7a4 a1))
def f_X2_votersFor_L12 (k : Int32 → Option Int32) (o : Nat) (v1 : Int32) (v2 : Int32) (v3 : Int32) (g : Mem) : Nat → Int32 → Int32 → Option Int32
  | 0, _, _ => none
  | n + 1, v4, v5 => (if 6 ≤ v5 then k v4 else (if (f_X4_has v3 v5) then (rd g (o + 2) 96 (f_X4_cell v5 v1)).bind fun x5 => ((if x5 = v2 then lt1 (v4 ||| (1 <<< (v5 &&& 31))) fun x8 => (lt1 (v5 + 1) fun x9 => (f_X2_votersFor_L12 k o v1 v2 v3 g n x8 x9)) else lt1 (v5 + 1) fun x7 => (f_X2_votersFor_L12 k o v1 v2 v3 g n v4 x7))) else lt1 (v5 + 1) fun x4 => (f_X2_votersFor_L12 k o v1 v2 v3 g n v4 x4)))
def f_X2_votersFor (o : Nat) (a1 : Int32) (a2 : Int32) (g : Mem) : Option Int32 := (f_X2_votersOf o a1 g).bind fun x1 => (f_X2_votersFor_L12 (fun x10 => some x10) o a1 a2 x1 g fuel0 0 0)
def f_X4_isSlot (a1 : Int32) : Bool := (if a1 < 1 then false else (if 16 < a1 then false else true))
def f_X2_askVote (o : Nat) (a1 : Int32) (a2 : Int32) (a3 : Int32) (g : Mem) : Option (Int32 × Mem) := (if (f_X4_isProposer a1) then (if (f_X4_isSlot a2) then (if (f_X4_isAcceptor a3) then (f_X2_mayAskVote o a1 a2 a3 g).bind fun x4 => ((if x4 then lt1 (f_X4_cell a3 a2) fun x6 => ((rd g (o + 2) 96 x6).bind fun x7 => ((rd g (o + 4) 3 a1).bind fun x8 => ((if x7 = x8 then some ((-5), g) else (rd g (o + 4) 3 a1).bind fun x10 => ((rd g (o + 1) 6 a3).bind fun x11 => ((if x11 ≤ x10 then (rd g (o + 4) 3 a1).bind fun x13 => ((wr g (o + 1) 6 a3 x13).bind fun g14 => ((rd g14 (o + 4) 3 a1).bind fun x15 => ((wr g14 (o + 2) 96 x6 x15).bind fun g16 => ((rd g16 (o + 7) 48 (f_X4_cell a1 a2)).bind fun x17 => ((wr g16 (o + 3) 96 x6 x17).bind fun g18 => ((rd g18 (o + 4) 3 a1).bind fun x19 => ((f_X2_votersFor o a2 x19 g18).bind fun x20 => (lt1 (f_J6_bitCount_0f7a4 x20) fun x21 => ((rd g18 (o + 10) 17 a2).bind fun x22 => ((if x22 = 0 then (f_X2_votersOf o a2 g18).bind fun x24 => ((if x21 < (f_X2_secondSize o x24 g18) then some (x21, g18) else (rd g18 (o + 3) 96 x6).bind fun x26 => ((wr g18 (o + 10) 17 a2 x26).bind fun g27 => ((rd g27 (o + 4) 3 a1).bind fun x28 => ((wr g27 (o + 11) 17 a2 x28).bind fun g29 => (some (x21, g29))))))) else some (x21, g18)))))))))))) else lt1 (m_up g o 4 ((g o 4) + 1)) fun g30 => (bd2 (f_X2_refuse o a1 a3 g30) fun x31 g32 => (some (x31, g32)))))))))) else some ((-4), g))) else some ((-1), g)) else some ((-1), g)) else some ((-1), g))
def f_X2_boundValue_L22 (k : Int32 → Option Int32) (o : Nat) (v1 : Int32) (v2 : Int32) (v3 : Int32) (g : Mem) : Nat → Int32 → Int32 → Int32 → Option Int32
  | 0, _, _, _ => none
  | n + 1, v4, v5, v6 => (if 6 ≤ v6 then k v5 else lt1 (f_X4_cell ((v1 * 6) + v6) v2) fun x5 => ((if (f_X4_has v3 v6) then (rd g (o + 8) 288 x5).bind fun x8 => ((if x8 ≤ v4 then lt1 (v6 + 1) fun x10 => (f_X2_boundValue_L22 k o v1 v2 v3 g n v4 v5 x10) else (rd g (o + 8) 288 x5).bind fun x11 => ((rd g (o + 9) 288 x5).bind fun x12 => (lt1 (v6 + 1) fun x13 => (f_X2_boundValue_L22 k o v1 v2 v3 g n x11 x12 x13))))) else lt1 (v6 + 1) fun x7 => (f_X2_boundValue_L22 k o v1 v2 v3 g n v4 v5 x7))))
def f_X2_boundValue (o : Nat) (a1 : Int32) (a2 : Int32) (g : Mem) : Option Int32 := (rd g (o + 6) 3 a1).bind fun x1 => ((f_X2_votersOf o a2 g).bind fun x2 => (lt1 (x1 &&& x2) fun x3 => (f_X2_boundValue_L22 (fun x14 => some x14) o a1 a2 x3 g fuel0 0 0 0)))
def f_X2_prefix_L2 (k : Int32 → Option Int32) (o : Nat) (g : Mem) : Nat → Int32 → Option Int32
  | 0, _ => none
  | n + 1, v1 => (if 16 ≤ v1 then k v1 else (rd g (o + 10) 17 (v1 + 1)).bind fun x2 => ((if x2 = 0 then k v1 else lt1 (v1 + 1) fun x4 => (f_X2_prefix_L2 k o g n x4))))
def f_X2_prefix (o : Nat) (g : Mem) : Option Int32 := f_X2_prefix_L2 (fun x5 => some x5) o g fuel0 0
def f_X2_isOpen (o : Nat) (a1 : Int32) (g : Mem) : Option Bool := (f_X2_prefix o g).bind fun x1 => ((if x1 < (a1 - 3) then some false else some true))
def f_X2_firstSize (o : Nat) (a1 : Int32) (g : Mem) : Int32 := (((f_J6_bitCount_0f7a4 a1) + 1) - (f_X2_secondSize o a1 g))
def f_X2_promisesMissing (o : Nat) (a1 : Int32) (a2 : Int32) (g : Mem) : Option Int32 := (f_X2_votersOf o a2 g).bind fun x1 => ((rd g (o + 6) 3 a1).bind fun x2 => (some (imax 0 ((f_X2_firstSize o x1 g) - (f_J6_bitCount_0f7a4 (x2 &&& x1))))))
def f_X2_mayOffer (o : Nat) (a1 : Int32) (a2 : Int32) (g : Mem) : Option Bool := (rd g (o + 4) 3 a1).bind fun x1 => ((if x1 = 0 then some false else (if a2 ≤ (g o 2) then some false else (f_X2_isOpen o a2 g).bind fun x4 => ((if x4 then (f_X2_promisesMissing o a1 a2 g).bind fun x6 => ((if x6 = 0 then (rd g (o + 7) 48 (f_X4_cell a1 a2)).bind fun x8 => ((if x8 = 0 then some true else some false)) else some false)) else some false)))))
def f_X4_isValue_J16 (v0 : Int32) (s0 : Int32) : Bool := (if v0 ≤ 100 then (if s0 = 0 then (if 0 = 0 then false else true) else true) else (if 163 < v0 then (if s0 = 0 then (if 0 = 0 then false else true) else true) else (if s0 = 0 then (if 1 = 0 then false else true) else true)))
def f_X4_isValue (a1 : Int32) : Bool := (if a1 < 1 then f_X4_isValue_J16 a1 0 else (if 99 < a1 then f_X4_isValue_J16 a1 0 else f_X4_isValue_J16 a1 1))
def f_X2_offerValue (o : Nat) (a1 : Int32) (a2 : Int32) (a3 : Int32) (g : Mem) : Option (Int32 × Mem) := (if (f_X4_isProposer a1) then (if (f_X4_isSlot a2) then (if (f_X4_isValue a3) then (f_X2_mayOffer o a1 a2 g).bind fun x4 => ((if x4 then (f_X2_boundValue o a1 a2 g).bind fun x6 => ((if x6 = 0 then (wr g (o + 7) 48 (f_X4_cell a1 a2) a3).bind fun g9 => (some (a3, g9)) else (wr g (o + 7) 48 (f_X4_cell a1 a2) x6).bind fun g8 => (some (x6, g8)))) else some ((-4), g))) else some ((-2), g)) else some ((-1), g)) else some ((-1), g))
def f_X2_nextBallot (o : Nat) (a1 : Int32) (g : Mem) : Option Int32 := (rd g (o + 4) 3 a1).bind fun x1 => ((rd g (o + 5) 3 a1).bind fun x2 => (lt1 (imax x1 x2) fun x3 => (lt1 ((((x3 + 3) - 1) - a1) / 3) fun x4 => (some (((3 * x4) + a1) + 1)))))
def f_X2_startBallot_L41 (k : Mem → Option (Int32 × Mem)) (o : Nat) (v1 : Int32) (v2 : Int32) : Nat → Int32 → Mem → Option (Int32 × Mem)
  | 0, _, _ => none
  | n + 1, v3, g => (if 16 < v3 then k  g else (wr g (o + 7) 48 (f_X4_cell v1 v3) 0).bind fun g7 => (lt1 (v3 + 1) fun x8 => (f_X2_startBallot_L41 k o v1 v2 n x8 g7)))
def f_X2_startBallot (o : Nat) (a1 : Int32) (g : Mem) : Option (Int32 × Mem) := (if (f_X4_isProposer a1) then (f_X2_nextBallot o a1 g).bind fun x2 => ((if x2 ≤ 999 then (wr g (o + 4) 3 a1 x2).bind fun g4 => ((wr g4 (o + 6) 3 a1 0).bind fun g5 => (f_X2_startBallot_L41 (fun g9 => some (x2, g9)) o a1 x2 fuel0 1 g5)) else some ((-3), g))) else some ((-1), g))
def f_X2_turn (o : Nat) (a1 : Int32) (b2 : Bool) (g : Mem) : Option (Int32 × Mem) := (if (f_X4_isAcceptor a1) then (if (bI (f_X4_has (g o 0) a1)) = (bI b2) then some ((-5), g) else lt1 (m_up g o 0 ((g o 0) ^^^ (1 <<< (a1 &&& 31)))) fun g3 => (some ((f_J6_bitCount_0f7a4 (g3 o 0)), g3))) else some ((-1), g))
def f_X1_carryOut (a1 : Int32) (o2 : Nat) (g : Mem) : Option (Int32 × Mem) := (if a1 < 0 then some ((-5), g) else (if a1 < (g 89 5) then (rd g 92 60 (a1 * 3)).bind fun x3 => ((rd g 92 60 ((a1 * 3) + 1)).bind fun x4 => ((rd g 92 60 ((a1 * 3) + 2)).bind fun x5 => ((rd g 90 20 a1).bind fun x6 => ((if x6 = 97 then (bd2 (f_X2_askVote o2 x3 x4 x5 g) fun x7 g8 => (some (x7, g8))) else if x6 = 110 then (bd2 (f_X2_startBallot o2 x3 g) fun x10 g11 => (some (x10, g11))) else if x6 = 118 then (bd2 (f_X2_offerValue o2 x3 x4 x5 g) fun x13 g14 => (some (x13, g14))) else if x6 = 121 then (bd2 (f_X2_askPromise o2 x3 x4 g) fun x16 g17 => (some (x16, g17))) else ((rd g 90 20 a1).bind fun x19 => ((if x19 = 117 then bd2 (f_X2_turn o2 x3 true g) fun x23 g24 => (some (x23, g24)) else bd2 (f_X2_turn o2 x3 false g) fun x21 g22 => (some (x21, g22)))))))))) else some ((-5), g)))
def f_X2_anyBallot_L2 (k : Option Bool) (o : Nat) (g : Mem) : Nat → Int32 → Option Bool
  | 0, _ => none
  | n + 1, v1 => (if 3 ≤ v1 then k else (rd g (o + 4) 3 v1).bind fun x2 => ((if x2 = 0 then lt1 (v1 + 1) fun x4 => (f_X2_anyBallot_L2 k o g n x4) else some true)))
def f_X2_anyBallot (o : Nat) (g : Mem) : Option Bool := f_X2_anyBallot_L2 (some false) o g fuel0 0
def f_X4_isSize (a1 : Int32) : Bool := (if a1 < 1 then false else (if 6 < a1 then false else true))
def f_X2_resizeSecond (o : Nat) (a1 : Int32) (g : Mem) : Option (Int32 × Mem) := (if (f_X4_isSize a1) then (f_X2_anyBallot o g).bind fun x2 => ((if x2 then some ((-4), g) else (if (g o 1) = a1 then some ((-5), g) else lt1 (g o 1) fun x5 => (lt1 (m_up g o 1 a1) fun g6 => (some (x5, g6)))))) else some ((-2), g))
def f_X2_forgetVotes_L2 (k : Mem → Option Mem) (o : Nat) (v1 : Int32) (v2 : Int32) : Nat → Int32 → Mem → Option Mem
  | 0, _, _ => none
  | n + 1, v3, g => (if 16 < v3 then k  g else (if v2 < v3 then k  g else (wr g (o + 2) 96 (f_X4_cell v1 v3) 0).bind fun g3 => ((wr g3 (o + 3) 96 (f_X4_cell v1 v3) 0).bind fun g4 => (lt1 (v3 + 1) fun x5 => (f_X2_forgetVotes_L2 k o v1 v2 n x5 g4)))))
def f_X2_forgetVotes (o : Nat) (a1 : Int32) (a2 : Int32) (g : Mem) : Option Mem := f_X2_forgetVotes_L2 (fun g6 => some g6) o a1 a2 fuel0 1 g
def f_X2_forgetUpTo_L35 (k : Int32 → Mem → Option (Int32 × Mem)) (o : Nat) (v1 : Int32) : Nat → Int32 → Int32 → Mem → Option (Int32 × Mem)
  | 0, _, _, _ => none
  | n + 1, v2, v3, g => (if 6 ≤ v3 then k v2 g else (f_X2_votesOf o v3 v1 g).bind fun x6 => (lt1 (v2 + x6) fun x7 => ((f_X2_forgetVotes o v3 v1 g).bind fun g8 => (lt1 (v3 + 1) fun x9 => (f_X2_forgetUpTo_L35 k o v1 n x7 x9 g8)))))
def f_X2_forgetUpTo (o : Nat) (a1 : Int32) (g : Mem) : Option (Int32 × Mem) := (if (f_X4_isSlot a1) then (f_X2_prefix o g).bind fun x2 => ((if a1 ≤ x2 then (if (g o 2) < a1 then f_X2_forgetUpTo_L35 (fun x10 g11 => lt1 (m_up g11 o 2 a1) fun g12 => (some (x10, g12))) o a1 fuel0 0 0 g else some ((-5), g)) else some ((-4), g))) else some ((-1), g))
def f_X2_chosenAbove_L4 (k : Int32 → Option Int32) (o : Nat) (v1 : Int32) (g : Mem) : Nat → Int32 → Int32 → Option Int32
  | 0, _, _ => none
  | n + 1, v2, v3 => (if 16 < v3 then k v2 else (rd g (o + 10) 17 v3).bind fun x2 => ((if x2 ≤ v1 then lt1 (v3 + 1) fun x4 => (f_X2_chosenAbove_L4 k o v1 g n v2 x4) else lt1 (v2 + 1) fun x5 => (lt1 (v3 + 1) fun x6 => (f_X2_chosenAbove_L4 k o v1 g n x5 x6)))))
def f_X2_chosenAbove (o : Nat) (a1 : Int32) (g : Mem) : Option Int32 := f_X2_chosenAbove_L4 (fun x7 => some x7) o a1 g fuel0 0 1
def f_X2_couldChoose_L17 (k : Int32 → Option Bool) (o : Nat) (v2 : Int32) (v3 : Int32) (g : Mem) : Nat → Int32 → Int32 → Option Bool
  | 0, _, _ => none
  | n + 1, v4, v5 => (if 6 ≤ v5 then k v4 else (if (f_X4_has v3 v5) then (rd g (o + 1) 6 v5).bind fun x6 => ((if v2 < x6 then lt1 (v5 + 1) fun x8 => (f_X2_couldChoose_L17 k o v2 v3 g n v4 x8) else lt1 (v4 ||| (1 <<< (v5 &&& 31))) fun x9 => (lt1 (v5 + 1) fun x10 => (f_X2_couldChoose_L17 k o v2 v3 g n x9 x10)))) else lt1 (v5 + 1) fun x5 => (f_X2_couldChoose_L17 k o v2 v3 g n v4 x5)))
def f_X2_couldChoose (o : Nat) (a1 : Int32) (a2 : Int32) (g : Mem) : Option Bool := (f_X2_votersOf o a1 g).bind fun x1 => ((f_X2_votersFor o a1 a2 g).bind fun x2 => (f_X2_couldChoose_L17 (fun x11 => (if (f_J6_bitCount_0f7a4 x11) < (f_X2_secondSize o x1 g) then some false else some true)) o a2 x1 g fuel0 x2 0))
def f_X2_offersOf_L4 (k : Int32 → Option Int32) (o : Nat) (v1 : Int32) (g : Mem) : Nat → Int32 → Int32 → Option Int32
  | 0, _, _ => none
  | n + 1, v2, v3 => (if 16 < v3 then k v2 else (rd g (o + 7) 48 (f_X4_cell v1 v3)).bind fun x2 => ((if x2 = 0 then lt1 (v3 + 1) fun x4 => (f_X2_offersOf_L4 k o v1 g n v2 x4) else lt1 (v2 + 1) fun x5 => (lt1 (v3 + 1) fun x6 => (f_X2_offersOf_L4 k o v1 g n x5 x6)))))
def f_X2_offersOf (o : Nat) (a1 : Int32) (g : Mem) : Option Int32 := f_X2_offersOf_L4 (fun x7 => some x7) o a1 g fuel0 0 1
def f_X3_append (a1 : Int32) (g : Mem) : Option (Int32 × Mem) := (if (g 87 1) < 60 then (wr g 88 60 (g 87 1) (vp_nar .char a1)).bind fun g2 => (lt1 (m_up g2 87 1 ((g2 87 1) + 1)) fun g3 => (some ((g3 87 1), g3))) else some ((-3), g))
def f_X3_empty  (g : Mem) : Option (Int32 × Mem) := lt1 (g 87 1) fun x1 => (lt1 (m_up g 87 1 0) fun g2 => (some (x1, g2)))
def f_X4_settled (a1 : Int32) (g : Mem) : Option (Int32 × Mem) := (if a1 < 0 then some (a1, g) else (f_X0_commit  g).bind fun g2 => (some (a1, g2)))
def f_X4_setUp (a1 : Int32) (b2 : Bool) (g : Mem) : Option (Int32 × Mem) := (f_X0_draft 1 g).bind fun g1 => (bd2 (f_X2_turn 1 a1 (b2) g1) fun x2 g3 => (bd2 (f_X4_settled x2 g3) fun x4 g5 => (some (x4, g5))))
def f_X4_setSecond (a1 : Int32) (g : Mem) : Option (Int32 × Mem) := (f_X0_draft 1 g).bind fun g1 => (bd2 (f_X2_resizeSecond 1 a1 g1) fun x2 g3 => (bd2 (f_X4_settled x2 g3) fun x4 g5 => (some (x4, g5))))
def f_X4_prepare (a1 : Int32) (g : Mem) : Option (Int32 × Mem) := (f_X0_draft 1 g).bind fun g1 => (bd2 (f_X2_startBallot 1 a1 g1) fun x2 g3 => (bd2 (f_X4_settled x2 g3) fun x4 g5 => (some (x4, g5))))
def f_X4_promise (a1 : Int32) (a2 : Int32) (g : Mem) : Option (Int32 × Mem) := (f_X0_draft 1 g).bind fun g1 => (bd2 (f_X2_askPromise 1 a1 a2 g1) fun x2 g3 => (bd2 (f_X4_settled x2 g3) fun x4 g5 => (some (x4, g5))))
def f_X4_propose (a1 : Int32) (a2 : Int32) (a3 : Int32) (g : Mem) : Option (Int32 × Mem) := (f_X0_draft 1 g).bind fun g1 => (bd2 (f_X2_offerValue 1 a1 a2 a3 g1) fun x2 g3 => (bd2 (f_X4_settled x2 g3) fun x4 g5 => (some (x4, g5))))
def f_X4_vote (a1 : Int32) (a2 : Int32) (a3 : Int32) (g : Mem) : Option (Int32 × Mem) := (f_X0_draft 1 g).bind fun g1 => (bd2 (f_X2_askVote 1 a1 a2 a3 g1) fun x2 g3 => (bd2 (f_X4_settled x2 g3) fun x4 g5 => (some (x4, g5))))
def f_X4_trim (a1 : Int32) (g : Mem) : Option (Int32 × Mem) := (f_X0_draft 1 g).bind fun g1 => (bd2 (f_X2_forgetUpTo 1 a1 g1) fun x2 g3 => (bd2 (f_X4_settled x2 g3) fun x4 g5 => (some (x4, g5))))
def f_X4_type (a1 : Int32) (g : Mem) : Option (Int32 × Mem) := bd2 (f_X3_append a1 g) fun x1 g2 => (some (x1, g2))
def f_X4_clearText  (g : Mem) : Option (Int32 × Mem) := bd2 (f_X3_empty  g) fun x1 g2 => (some (x1, g2))
def f_X4_isError (a1 : Int32) : Bool := (if 0 ≤ a1 then false else (if a1 = (-5) then false else true))
def f_X4_noteRefusal (a1 : Int32) (a2 : Int32) (g : Mem) : Option Mem := lt1 (m_up g 0 6 1) fun g1 => (lt1 (m_up g1 0 7 a1) fun g2 => (lt1 (m_up g2 0 8 a2) fun g3 => ((f_X1_placeOf a1 g3).bind fun x4 => (lt1 (m_up g3 0 9 x4) fun g5 => (some g5)))))
def f_X4_perform_L35 (k : Mem → Option (Int32 × Mem)) : Nat → Int32 → Mem → Option (Int32 × Mem)
  | 0, _, _ => none
  | n + 1, v2, g => (if (g 89 5) ≤ v2 then k  g else bd2 (f_X1_carryOut v2 1 g) fun x6 g7 => ((if (f_X4_isError x6) then (f_X4_noteRefusal v2 x6 g7).bind fun g10 => ((f_X0_bringBackDraft 1 g10).bind fun g11 => (some ((-4), g11))) else lt1 (v2 + 1) fun x9 => (f_X4_perform_L35 k n x9 g7))))
def f_X4_perform  (g : Mem) : Option (Int32 × Mem) := bd2 (f_X1_read  g) fun x1 g2 => ((if x1 = (-1) then (f_X0_draft 1 g2).bind fun g4 => (f_X4_perform_L35 (fun g12 => (f_X0_commit  g12).bind fun g13 => (some ((g13 89 5), g13))) fuel0 0 g4) else some (((-100) - x1), g2)))
def f_X4_refusal (a1 : Int32) (g : Mem) : Int32 := (if a1 < 0 then (-2) else (if a1 ≤ 2 then (if (g 0 6) = 0 then (-5) else (if a1 = 0 then ((g 0 7)) else if a1 = 1 then ((g 0 8)) else ((g 0 9)))) else (-2)))
def f_X4_undo  (g : Mem) : Option (Int32 × Mem) := bd2 (f_X0_bringBackLatest 1 g) fun x1 g2 => (some (x1, g2))
def f_X4_keep  (g : Mem) : Option (Int32 × Mem) := (f_X2_copy 13 1 g).bind fun g1 => (lt1 (m_up g1 0 2 1) fun g2 => ((f_X2_prefix 1 g2).bind fun x3 => (some (x3, g2))))
def f_X4_restore  (g : Mem) : Option (Int32 × Mem) := (if (g 0 2) = 0 then some ((-5), g) else (f_X0_draft 1 g).bind fun g2 => ((f_X2_copy 1 13 g2).bind fun g3 => ((f_X2_prefix 1 g3).bind fun x4 => (bd2 (f_X4_settled x4 g3) fun x5 g6 => (some (x5, g6))))))
def f_X4_acceptor (a1 : Int32) (a2 : Int32) (g : Mem) : Option Int32 := (if (f_X4_isAcceptor a1) then (if a2 = 0 then ((if (f_X4_has (g 1 0) a1) then some 1 else some 0)) else if a2 = 1 then ((rd g (1 + 1) 6 a1).bind fun x4 => (some x4)) else if a2 = 2 then ((f_X2_votesOf 1 a1 16 g).bind fun x6 => (some x6)) else (some (-2))) else some (-1))
def f_X4_voted (a1 : Int32) (a2 : Int32) (a3 : Int32) (g : Mem) : Option Int32 := (if (f_X4_isAcceptor a1) then (if (f_X4_isSlot a2) then (if a3 < 0 then some (-2) else (if a3 ≤ 1 then lt1 (f_X4_cell a1 a2) fun x5 => ((rd g (1 + 2) 96 x5).bind fun x6 => ((if x6 = 0 then some (-5) else (if a3 = 0 then (rd g (1 + 2) 96 x5).bind fun x10 => (some x10) else (rd g (1 + 3) 96 x5).bind fun x9 => (some x9))))) else some (-2))) else some (-1)) else some (-1))
def f_X4_proposer (a1 : Int32) (a2 : Int32) (g : Mem) : Option Int32 := (if (f_X4_isProposer a1) then (if a2 = 0 then ((rd g (1 + 4) 3 a1).bind fun x2 => (some x2)) else if a2 = 1 then ((rd g (1 + 5) 3 a1).bind fun x4 => (some x4)) else if a2 = 2 then ((rd g (1 + 6) 3 a1).bind fun x6 => (some x6)) else if a2 = 3 then ((f_X2_offersOf 1 a1 g).bind fun x8 => (some x8)) else (some (-2))) else some (-1))
def f_X4_orNone (a1 : Int32) : Int32 := (if a1 = 0 then (-5) else a1)
def f_X4_proposed (a1 : Int32) (a2 : Int32) (a3 : Int32) (g : Mem) : Option Int32 := (if (f_X4_isProposer a1) then (if (f_X4_isSlot a2) then (if a3 = 0 then ((rd g (1 + 7) 48 (f_X4_cell a1 a2)).bind fun x3 => (some (f_X4_orNone x3))) else if a3 = 1 then ((f_X2_isOpen 1 a2 g).bind fun x5 => ((if x5 then (f_X2_boundValue 1 a1 a2 g).bind fun x7 => (some x7) else some (-5)))) else if a3 = 2 then ((f_X2_isOpen 1 a2 g).bind fun x9 => ((if x9 then (f_X2_promisesMissing 1 a1 a2 g).bind fun x11 => (some x11) else some (-5)))) else (some (-2))) else some (-1)) else some (-1))
def f_X4_slot (a1 : Int32) (a2 : Int32) (g : Mem) : Option Int32 := (if (f_X4_isSlot a1) then (if a2 = 0 then ((rd g (1 + 10) 17 a1).bind fun x2 => (some (f_X4_orNone x2))) else if a2 = 1 then ((rd g (1 + 11) 17 a1).bind fun x4 => (some (f_X4_orNone x4))) else if a2 = 2 then ((f_X2_isOpen 1 a1 g).bind fun x6 => ((if x6 then (f_X2_votersOf 1 a1 g).bind fun x8 => (some x8) else some (-5)))) else if a2 = 3 then ((f_X2_isOpen 1 a1 g).bind fun x10 => ((if x10 then (f_X2_votersOf 1 a1 g).bind fun x12 => (some (f_X2_firstSize 1 x12 g)) else some (-5)))) else if a2 = 4 then ((f_X2_isOpen 1 a1 g).bind fun x14 => ((if x14 then (f_X2_votersOf 1 a1 g).bind fun x16 => (some (f_X2_secondSize 1 x16 g)) else some (-5)))) else if a2 = 5 then ((if (g 1 2) < a1 then some 0 else some 1)) else (some (-2))) else some (-1))
def f_X4_could (a1 : Int32) (a2 : Int32) (g : Mem) : Option Int32 := (if (f_X4_isSlot a1) then (if a2 < 1 then some (-2) else (if a2 ≤ 999 then (if a1 ≤ (g 1 2) then some (-4) else (f_X2_isOpen 1 a1 g).bind fun x5 => ((if x5 then (f_X2_couldChoose 1 a1 a2 g).bind fun x7 => ((if x7 then some 1 else some 0)) else some (-4)))) else some (-2))) else some (-1))
def f_X4_lowest_L7 (k : Int32 → Option Int32) (v0 : Int32) : Nat → Int32 → Int32 → Int32 → Option Int32
  | 0, _, _, _ => none
  | n + 1, v2, v3, v4 => (if 6 ≤ v4 then k v2 else (if v3 ≤ 0 then k v2 else (if (f_X4_has v0 v4) then lt1 (v2 ||| (1 <<< (v4 &&& 31))) fun x5 => (lt1 (v3 + (-1)) fun x6 => (lt1 (v4 + 1) fun x7 => (f_X4_lowest_L7 k v0 n x5 x6 x7))) else lt1 (v4 + 1) fun x4 => (f_X4_lowest_L7 k v0 n v2 v3 x4))))
def f_X4_lowest (a1 : Int32) (a2 : Int32) : Option Int32 := f_X4_lowest_L7 (fun x8 => some x8) a1 fuel0 0 a2 0
def f_X4_witness_J16 (v1 : Int32) (v2 : Int32) (v3 : Int32) (v4 : Int32) (s0 : Int32) : Option Int32 := (if s0 = 0 then some (-2) else (if (f_X4_isSize v2) then (if (f_X4_isSize v3) then (if v4 < 0 then some (-2) else (if v4 ≤ 1 then (if (v2 + v3) ≤ (f_J6_bitCount_0f7a4 v1) then (f_X4_lowest v1 v2).bind fun x8 => ((if v4 = 0 then some x8 else (f_X4_lowest (v1 &&& (x8 ^^^ (-1))) v3).bind fun x10 => (some x10))) else some (-5)) else some (-2))) else some (-2)) else some (-2)))
def f_X4_witness (a1 : Int32) (a2 : Int32) (a3 : Int32) (a4 : Int32) : Option Int32 := (if a1 < 1 then f_X4_witness_J16 a1 a2 a3 a4 0 else (if 63 < a1 then f_X4_witness_J16 a1 a2 a3 a4 0 else f_X4_witness_J16 a1 a2 a3 a4 1))
def f_X4_count (a1 : Int32) (g : Mem) : Option Int32 := (if a1 = 0 then ((f_X2_prefix 1 g).bind fun x1 => (some x1)) else if a1 = 1 then ((f_X2_chosenAbove 1 0 g).bind fun x3 => (some x3)) else if a1 = 2 then (some (g 1 2)) else if a1 = 3 then (some (g 1 1)) else if a1 = 4 then (some (g 1 0)) else if a1 = 5 then ((f_X2_prefix 1 g).bind fun x8 => (some (imin 16 (x8 + 3)))) else if a1 = 6 then (some (g 1 3)) else if a1 = 7 then (some (g 1 4)) else if a1 = 8 then ((f_X2_chosenAbove 1 100 g).bind fun x12 => (some x12)) else if a1 = 9 then (some (g 25 2)) else if a1 = 10 then (some (g 87 1)) else (some (-2)))
def f_X5_in (a1 : Int32) (a2 : Int32) (a3 : Int32) : Bool := (if a1 < a2 then false else (if a3 < a1 then false else true))
def f_X5_noAcceptor (a1 : Int32) : Bool := (if (f_X5_in a1 0 5) then false else true)
def f_X5_noProposer (a1 : Int32) : Bool := (if (f_X5_in a1 0 2) then false else true)
def f_X5_noSlot (a1 : Int32) : Bool := (if (f_X5_in a1 1 16) then false else true)
def f_X5_isIn (a1 : Int32) (a2 : Int32) : Bool := (if ((a1 >>> (a2 &&& 31)) &&& 1) = 1 then true else false)
def f_X5_bits_L4 (k : Int32 → Option Int32) (v0 : Int32) : Nat → Int32 → Int32 → Option Int32
  | 0, _, _ => none
  | n + 1, v1, v2 => (if 6 ≤ v2 then k v1 else lt1 (v1 + ((v0 >>> (v2 &&& 31)) &&& 1)) fun x2 => (lt1 (v2 + 1) fun x3 => (f_X5_bits_L4 k v0 n x2 x3)))
def f_X5_bits (a1 : Int32) : Option Int32 := f_X5_bits_L4 (fun x4 => some x4) a1 fuel0 0 0
def f_X5_voteAt (a1 : Int32) (a2 : Int32) : Int32 := (12 + (2 * (((16 * a1) + a2) - 1)))
def f_X5_toldAt (a1 : Int32) (a2 : Int32) (a3 : Int32) : Int32 := (213 + (2 * (((16 * ((6 * a1) + a2)) + a3) - 1)))
def f_X5_proposedAt (a1 : Int32) (a2 : Int32) : Int32 := (((789 + (16 * a1)) + a2) - 1)
def f_X5_chosen (a1 : Int32) (g : Mem) : Option Int32 := (rd g 1 873 ((837 + a1) - 1)).bind fun x1 => (some x1)
def f_X5_record_L59 (k : Mem → Option Mem) : Nat → Int32 → Mem → Option Mem
  | 0, _, _ => none
  | n + 1, v1, g => (if 873 ≤ v1 then k  g else (rd g 1 873 v1).bind fun x4 => ((wr g 2 3492 ((873 * (g 0 2)) + v1) x4).bind fun g5 => (lt1 (v1 + 1) fun x6 => (f_X5_record_L59 k n x6 g5))))
def f_X5_record_L18 (k : Mem → Option Mem) : Nat → Int32 → Mem → Option Mem
  | 0, _, _ => none
  | n + 1, v1, g => (if 2619 ≤ v1 then k  g else (rd g 2 3492 (v1 + 873)).bind fun x10 => ((wr g 2 3492 v1 x10).bind fun g11 => (lt1 (v1 + 1) fun x12 => (f_X5_record_L18 k n x12 g11))))
def f_X5_record_J57 (g : Mem) : Option Mem := f_X5_record_L59 (fun g15 => lt1 (m_up g15 0 2 ((g15 0 2) + 1)) fun g16 => (some g16)) fuel0 0 g
def f_X5_record  (g : Mem) : Option Mem := (if (g 0 5) = 0 then (if (g 0 2) = 4 then f_X5_record_L18 (fun g13 => lt1 (m_up g13 0 2 ((g13 0 2) - 1)) fun g14 => (f_X5_record_J57 g14)) fuel0 0 g else f_X5_record_L59 (fun g7 => lt1 (m_up g7 0 2 ((g7 0 2) + 1)) fun g8 => (some g8)) fuel0 0 g) else some g)
def f_X5_prefix_L2 (k : Int32 → Option Int32) (g : Mem) : Nat → Int32 → Option Int32
  | 0, _ => none
  | n + 1, v1 => (if 16 ≤ v1 then k v1 else (f_X5_chosen (v1 + 1) g).bind fun x2 => ((if x2 ≤ 0 then k v1 else lt1 (v1 + 1) fun x4 => (f_X5_prefix_L2 k g n x4))))
def f_X5_prefix  (g : Mem) : Option Int32 := f_X5_prefix_L2 (fun x5 => some x5) g fuel0 0
def f_X5_isOpen (a1 : Int32) (g : Mem) : Option Bool := (f_X5_prefix  g).bind fun x1 => ((if x1 < (a1 - 3) then some false else some true))
def f_X5_isTrimmed (a1 : Int32) (g : Mem) : Option Bool := (rd g 1 873 869).bind fun x1 => ((if x1 < a1 then some false else some true))
def f_X5_voters_L4 (k : Option Int32) (g : Mem) : Nat → Int32 → Option Int32
  | 0, _ => none
  | n + 1, v2 => (if v2 ≤ 0 then k else (f_X5_chosen v2 g).bind fun x3 => ((if x3 ≤ 100 then lt1 (v2 + (-1)) fun x5 => (f_X5_voters_L4 k g n x5) else (f_X5_chosen v2 g).bind fun x6 => (some (x6 - 100)))))
def f_X5_voters (a1 : Int32) (g : Mem) : Option Int32 := lt1 (a1 - 3) fun x1 => (f_X5_voters_L4 (some 7) g fuel0 x1)
def f_X5_secondSize (a1 : Int32) (g : Mem) : Option Int32 := (f_X5_voters a1 g).bind fun x1 => ((f_X5_bits x1).bind fun x2 => ((rd g 1 873 870).bind fun x3 => ((if x2 ≤ x3 then some x2 else (rd g 1 873 870).bind fun x5 => (some x5)))))
def f_X5_firstSize (a1 : Int32) (g : Mem) : Option Int32 := (f_X5_voters a1 g).bind fun x1 => ((f_X5_bits x1).bind fun x2 => ((f_X5_secondSize a1 g).bind fun x3 => (some ((x2 + 1) - x3))))
def f_X5_ups_L4 (k : Int32 → Option Int32) (g : Mem) : Nat → Int32 → Int32 → Option Int32
  | 0, _, _ => none
  | n + 1, v1, v2 => (if 6 ≤ v2 then k v1 else (rd g 1 873 (0 + v2)).bind fun x2 => (lt1 (v1 ||| (x2 <<< (v2 &&& 31))) fun x3 => (lt1 (v2 + 1) fun x4 => (f_X5_ups_L4 k g n x3 x4))))
def f_X5_ups  (g : Mem) : Option Int32 := f_X5_ups_L4 (fun x5 => some x5) g fuel0 0 0
def f_X5_setUp_J26 (v1 : Int32) (v2 : Bool) (s0 : Int32) (g : Mem) : Option (Int32 × Mem) := (if s0 = (bI v2) then some ((-5), g) else (f_X5_record  g).bind fun g5 => ((if v2 then (wr g5 1 873 (0 + v1) 1).bind fun g10 => ((f_X5_ups  g10).bind fun x11 => ((f_X5_bits x11).bind fun x12 => (some (x12, g10)))) else (wr g5 1 873 (0 + v1) 0).bind fun g7 => ((f_X5_ups  g7).bind fun x8 => ((f_X5_bits x8).bind fun x9 => (some (x9, g7)))))))
def f_X5_setUp (a1 : Int32) (b2 : Bool) (g : Mem) : Option (Int32 × Mem) := (if (f_X5_noAcceptor a1) then some ((-1), g) else (rd g 1 873 (0 + a1)).bind fun x2 => ((if x2 = 1 then f_X5_setUp_J26 a1 b2 1 g else f_X5_setUp_J26 a1 b2 0 g)))
def f_X5_setSecond_L15 (k : Option (Int32 × Mem)) (v1 : Int32) (g : Mem) : Nat → Int32 → Option (Int32 × Mem)
  | 0, _ => none
  | n + 1, v2 => (if 3 ≤ v2 then k else (rd g 1 873 (204 + v2)).bind fun x3 => ((if x3 ≤ 0 then lt1 (v2 + 1) fun x5 => (f_X5_setSecond_L15 k v1 g n x5) else some ((-4), g))))
def f_X5_setSecond (a1 : Int32) (g : Mem) : Option (Int32 × Mem) := (if (f_X5_in a1 1 6) then f_X5_setSecond_L15 ((rd g 1 873 870).bind fun x6 => ((if x6 = a1 then some ((-5), g) else (f_X5_record  g).bind fun g8 => ((wr g8 1 873 870 a1).bind fun g9 => (some (x6, g9)))))) a1 g fuel0 0 else some ((-2), g))
def f_X5_prepare_L60 (k : Int32 → Option (Int32 × Mem)) (v1 : Int32) (v2 : Int32) (g : Mem) : Nat → Int32 → Option (Int32 × Mem)
  | 0, _ => none
  | n + 1, v3 => (if v2 < v3 then k v3 else lt1 (v3 + 3) fun x8 => (f_X5_prepare_L60 k v1 v2 g n x8))
def f_X5_prepare_L132 (k : Mem → Option (Int32 × Mem)) (v1 : Int32) (v3 : Int32) (v4 : Int32) : Nat → Int32 → Mem → Option (Int32 × Mem)
  | 0, _, _ => none
  | n + 1, v5, g => (if 6 ≤ v5 then k  g else (wr g 1 873 (f_X5_toldAt v1 v5 v4) 0).bind fun g17 => ((wr g17 1 873 ((f_X5_toldAt v1 v5 v4) + 1) 0).bind fun g18 => (lt1 (v5 + 1) fun x19 => (f_X5_prepare_L132 k v1 v3 v4 n x19 g18))))
def f_X5_prepare_L110 (k : Mem → Option (Int32 × Mem)) (v1 : Int32) (v3 : Int32) : Nat → Int32 → Mem → Option (Int32 × Mem)
  | 0, _, _ => none
  | n + 1, v4, g => (if 16 < v4 then k  g else (wr g 1 873 (f_X5_proposedAt v1 v4) 0).bind fun g15 => (f_X5_prepare_L132 (fun g20 => lt1 (v4 + 1) fun x21 => (f_X5_prepare_L110 k v1 v3 n x21 g20)) v1 v3 v4 fuel0 0 g15))
def f_X5_prepare_J55 (v1 : Int32) (s0 : Int32) (g : Mem) : Option (Int32 × Mem) := lt1 (v1 + 1) fun x6 => (f_X5_prepare_L60 (fun x9 => (if x9 ≤ 999 then (f_X5_record  g).bind fun g11 => ((wr g11 1 873 (204 + v1) x9).bind fun g12 => ((wr g12 1 873 (210 + v1) 0).bind fun g13 => (f_X5_prepare_L110 (fun g22 => some (x9, g22)) v1 x9 fuel0 1 g13))) else some ((-3), g))) v1 s0 g fuel0 x6)
def f_X5_prepare (a1 : Int32) (g : Mem) : Option (Int32 × Mem) := (if (f_X5_noProposer a1) then some ((-1), g) else (rd g 1 873 (204 + a1)).bind fun x2 => ((rd g 1 873 (207 + a1)).bind fun x3 => ((if x2 ≤ x3 then (rd g 1 873 (207 + a1)).bind fun x5 => (f_X5_prepare_J55 a1 x5 g) else (rd g 1 873 (204 + a1)).bind fun x23 => (f_X5_prepare_J55 a1 x23 g)))))
def f_X5_refuses_J50 (v3 : Int32) (v4 : Int32) (s0 : Int32) (s1 : Int32) (g : Mem) : Option (Int32 × Mem) := (wr g 1 873 s1 s0).bind fun g5 => ((rd g5 1 873 v3).bind fun x6 => ((wr g5 1 873 v3 (x6 + 1)).bind fun g7 => (some ((100 + v4), g7))))
def f_X5_refuses (a1 : Int32) (a2 : Int32) (a3 : Int32) (g : Mem) : Option (Int32 × Mem) := (rd g 1 873 (6 + a2)).bind fun x1 => ((rd g 1 873 (207 + a1)).bind fun x2 => ((if x1 ≤ x2 then (rd g 1 873 (207 + a1)).bind fun x4 => (f_X5_refuses_J50 a3 x1 x4 (207 + a1) g) else f_X5_refuses_J50 a3 x1 x1 (207 + a1) g)))
def f_X5_promise_L124 (k : Int32 → Mem → Option (Int32 × Mem)) (v1 : Int32) (v2 : Int32) : Nat → Int32 → Int32 → Mem → Option (Int32 × Mem)
  | 0, _, _, _ => none
  | n + 1, v4, v5, g => (if 16 < v5 then k v4 g else lt1 (f_X5_voteAt v2 v5) fun x16 => (lt1 (f_X5_toldAt v1 v2 v5) fun x17 => ((rd g 1 873 x16).bind fun x18 => ((wr g 1 873 x17 x18).bind fun g19 => ((rd g19 1 873 (x16 + 1)).bind fun x20 => ((wr g19 1 873 (x17 + 1) x20).bind fun g21 => ((rd g21 1 873 x16).bind fun x22 => ((if x22 ≤ 0 then lt1 (v4 + 0) fun x24 => (lt1 (v5 + 1) fun x25 => (f_X5_promise_L124 k v1 v2 n x24 x25 g21)) else lt1 (v4 + 1) fun x26 => (lt1 (v5 + 1) fun x27 => (f_X5_promise_L124 k v1 v2 n x26 x27 g21)))))))))))
def f_X5_promise (a1 : Int32) (a2 : Int32) (g : Mem) : Option (Int32 × Mem) := (if (f_X5_noProposer a1) then some ((-1), g) else (if (f_X5_noAcceptor a2) then some ((-1), g) else (rd g 1 873 (204 + a1)).bind fun x3 => ((if x3 = 0 then some ((-4), g) else (rd g 1 873 (0 + a2)).bind fun x5 => ((if x5 = 0 then some ((-4), g) else (rd g 1 873 (210 + a1)).bind fun x7 => ((if (f_X5_isIn x7 a2) then some ((-5), g) else (f_X5_record  g).bind fun g9 => ((rd g9 1 873 (6 + a2)).bind fun x10 => ((if x10 < x3 then (wr g9 1 873 (6 + a2) x3).bind fun g12 => ((rd g12 1 873 (210 + a1)).bind fun x13 => ((wr g12 1 873 (210 + a1) (x13 ||| (1 <<< (a2 &&& 31)))).bind fun g14 => (f_X5_promise_L124 (fun x28 g29 => some (x28, g29)) a1 a2 fuel0 0 1 g14))) else bd2 (f_X5_refuses a1 a2 871 g9) fun x30 g31 => (some (x30, g31)))))))))))))
def f_X5_bound_L26 (k : Int32 → Option Int32) (v1 : Int32) (v2 : Int32) (v3 : Int32) (g : Mem) : Nat → Int32 → Int32 → Int32 → Option Int32
  | 0, _, _, _ => none
  | n + 1, v4, v5, v6 => (if 6 ≤ v6 then k v5 else lt1 (f_X5_toldAt v1 v6 v2) fun x5 => ((if (f_X5_isIn v3 v6) then (rd g 1 873 x5).bind fun x8 => ((if x8 ≤ v4 then lt1 (v6 + 1) fun x10 => (f_X5_bound_L26 k v1 v2 v3 g n v4 v5 x10) else (rd g 1 873 x5).bind fun x11 => ((rd g 1 873 (x5 + 1)).bind fun x12 => (lt1 (v6 + 1) fun x13 => (f_X5_bound_L26 k v1 v2 v3 g n x11 x12 x13))))) else lt1 (v6 + 1) fun x7 => (f_X5_bound_L26 k v1 v2 v3 g n v4 v5 x7))))
def f_X5_bound (a1 : Int32) (a2 : Int32) (g : Mem) : Option Int32 := (f_X5_voters a2 g).bind fun x1 => ((rd g 1 873 (210 + a1)).bind fun x2 => (lt1 (x1 &&& x2) fun x3 => (f_X5_bound_L26 (fun x14 => some x14) a1 a2 x3 g fuel0 0 0 0)))
def f_X5_lacking (a1 : Int32) (a2 : Int32) (g : Mem) : Option Int32 := (f_X5_firstSize a2 g).bind fun x1 => ((f_X5_voters a2 g).bind fun x2 => ((rd g 1 873 (210 + a1)).bind fun x3 => ((f_X5_bits (x2 &&& x3)).bind fun x4 => (lt1 (x1 - x4) fun x5 => ((if x5 ≤ 0 then some 0 else some x5))))))
def f_X5_propose (a1 : Int32) (a2 : Int32) (a3 : Int32) (g : Mem) : Option (Int32 × Mem) := (if (f_X5_noProposer a1) then some ((-1), g) else (if (f_X5_noSlot a2) then some ((-1), g) else (if (f_X5_in a3 1 99) then (rd g 1 873 (204 + a1)).bind fun x4 => ((if x4 = 0 then some ((-4), g) else (f_X5_isTrimmed a2 g).bind fun x6 => ((if x6 then some ((-4), g) else (f_X5_isOpen a2 g).bind fun x8 => ((if x8 then (f_X5_lacking a1 a2 g).bind fun x10 => ((if 0 < x10 then some ((-4), g) else (rd g 1 873 (f_X5_proposedAt a1 a2)).bind fun x12 => ((if x12 ≤ 0 then (f_X5_record  g).bind fun g14 => ((f_X5_bound a1 a2 g14).bind fun x15 => ((if x15 ≤ 0 then (wr g14 1 873 (f_X5_proposedAt a1 a2) a3).bind fun g17 => ((rd g17 1 873 (f_X5_proposedAt a1 a2)).bind fun x18 => (some (x18, g17))) else (wr g14 1 873 (f_X5_proposedAt a1 a2) x15).bind fun g19 => ((rd g19 1 873 (f_X5_proposedAt a1 a2)).bind fun x20 => (some (x20, g19)))))) else some ((-4), g))))) else some ((-4), g))))))) else (if (f_X5_in a3 101 163) then (rd g 1 873 (204 + a1)).bind fun x22 => ((if x22 = 0 then some ((-4), g) else (f_X5_isTrimmed a2 g).bind fun x24 => ((if x24 then some ((-4), g) else (f_X5_isOpen a2 g).bind fun x26 => ((if x26 then (f_X5_lacking a1 a2 g).bind fun x28 => ((if 0 < x28 then some ((-4), g) else (rd g 1 873 (f_X5_proposedAt a1 a2)).bind fun x30 => ((if x30 ≤ 0 then (f_X5_record  g).bind fun g32 => ((f_X5_bound a1 a2 g32).bind fun x33 => ((if x33 ≤ 0 then (wr g32 1 873 (f_X5_proposedAt a1 a2) a3).bind fun g35 => ((rd g35 1 873 (f_X5_proposedAt a1 a2)).bind fun x36 => (some (x36, g35))) else (wr g32 1 873 (f_X5_proposedAt a1 a2) x33).bind fun g37 => ((rd g37 1 873 (f_X5_proposedAt a1 a2)).bind fun x38 => (some (x38, g37)))))) else some ((-4), g))))) else some ((-4), g))))))) else some ((-2), g)))))
def f_X5_vote_L173 (k : Int32 → Option (Int32 × Mem)) (v2 : Int32) (v4 : Int32) (v5 : Int32) (g : Mem) : Nat → Int32 → Int32 → Option (Int32 × Mem)
  | 0, _, _ => none
  | n + 1, v7, v8 => (if 6 ≤ v8 then k v7 else (f_X5_voters v2 g).bind fun x23 => ((if (f_X5_isIn x23 v8) then (rd g 1 873 (f_X5_voteAt v8 v2)).bind fun x27 => ((if x27 = v5 then lt1 (v7 + 1) fun x31 => (lt1 (v8 + 1) fun x32 => (f_X5_vote_L173 k v2 v4 v5 g n x31 x32)) else lt1 (v7 + 0) fun x29 => (lt1 (v8 + 1) fun x30 => (f_X5_vote_L173 k v2 v4 v5 g n x29 x30)))) else lt1 (v7 + 0) fun x25 => (lt1 (v8 + 1) fun x26 => (f_X5_vote_L173 k v2 v4 v5 g n x25 x26)))))
def f_X5_vote (a1 : Int32) (a2 : Int32) (a3 : Int32) (g : Mem) : Option (Int32 × Mem) := (if (f_X5_noProposer a1) then some ((-1), g) else (if (f_X5_noSlot a2) then some ((-1), g) else (if (f_X5_noAcceptor a3) then some ((-1), g) else (rd g 1 873 (f_X5_proposedAt a1 a2)).bind fun x4 => ((if x4 = 0 then some ((-4), g) else (f_X5_isTrimmed a2 g).bind fun x6 => ((if x6 then some ((-4), g) else (rd g 1 873 (0 + a3)).bind fun x8 => ((if x8 = 0 then some ((-4), g) else (f_X5_voters a2 g).bind fun x10 => ((if (f_X5_isIn x10 a3) then (rd g 1 873 (204 + a1)).bind fun x12 => (lt1 (f_X5_voteAt a3 a2) fun x13 => ((rd g 1 873 x13).bind fun x14 => ((if x14 = x12 then some ((-5), g) else (f_X5_record  g).bind fun g16 => ((rd g16 1 873 (6 + a3)).bind fun x17 => ((if x17 ≤ x12 then (wr g16 1 873 (6 + a3) x12).bind fun g19 => ((wr g19 1 873 x13 x12).bind fun g20 => ((wr g20 1 873 (x13 + 1) x4).bind fun g21 => (f_X5_vote_L173 (fun x33 => (f_X5_secondSize a2 g21).bind fun x34 => ((if x33 < x34 then some (x33, g21) else (f_X5_chosen a2 g21).bind fun x36 => ((if x36 = 0 then (wr g21 1 873 ((837 + a2) - 1) x4).bind fun g38 => ((wr g38 1 873 ((853 + a2) - 1) x12).bind fun g39 => (some (x33, g39))) else some (x33, g21)))))) a2 x4 x12 g21 fuel0 0 0))) else bd2 (f_X5_refuses a1 a3 872 g16) fun x40 g41 => (some (x40, g41))))))))) else some ((-4), g))))))))))))
def f_X5_trim_L57 (k : Int32 → Mem → Option (Int32 × Mem)) (v1 : Int32) (v3 : Int32) : Nat → Int32 → Int32 → Mem → Option (Int32 × Mem)
  | 0, _, _, _ => none
  | n + 1, v2, v4, g => (if v1 < v4 then k v2 g else (rd g 1 873 (f_X5_voteAt v3 v4)).bind fun x10 => ((if x10 ≤ 0 then lt1 (v2 + 0) fun x12 => ((wr g 1 873 (f_X5_voteAt v3 v4) 0).bind fun g13 => ((wr g13 1 873 ((f_X5_voteAt v3 v4) + 1) 0).bind fun g14 => (lt1 (v4 + 1) fun x15 => (f_X5_trim_L57 k v1 v3 n x12 x15 g14)))) else lt1 (v2 + 1) fun x16 => ((wr g 1 873 (f_X5_voteAt v3 v4) 0).bind fun g17 => ((wr g17 1 873 ((f_X5_voteAt v3 v4) + 1) 0).bind fun g18 => (lt1 (v4 + 1) fun x19 => (f_X5_trim_L57 k v1 v3 n x16 x19 g18)))))))
def f_X5_trim_L48 (k : Int32 → Mem → Option (Int32 × Mem)) (v1 : Int32) : Nat → Int32 → Int32 → Mem → Option (Int32 × Mem)
  | 0, _, _, _ => none
  | n + 1, v2, v3, g => (if 6 ≤ v3 then k v2 g else f_X5_trim_L57 (fun x20 g21 => lt1 (v3 + 1) fun x22 => (f_X5_trim_L48 k v1 n x20 x22 g21)) v1 v3 fuel0 v2 1 g)
def f_X5_trim (a1 : Int32) (g : Mem) : Option (Int32 × Mem) := (if (f_X5_noSlot a1) then some ((-1), g) else (f_X5_prefix  g).bind fun x2 => ((if a1 ≤ x2 then (f_X5_isTrimmed a1 g).bind fun x4 => ((if x4 then some ((-5), g) else (f_X5_record  g).bind fun g6 => ((wr g6 1 873 869 a1).bind fun g7 => (f_X5_trim_L48 (fun x23 g24 => some (x23, g24)) a1 fuel0 0 0 g7)))) else some ((-4), g))))
def f_X5_type (a1 : Int32) (g : Mem) : Option (Int32 × Mem) := (if (g 0 6) = 60 then some ((-3), g) else (wr g 4 60 (g 0 6) (vp_nar .char a1)).bind fun g2 => (lt1 (m_up g2 0 6 ((g2 0 6) + 1)) fun g3 => (some ((g3 0 6), g3))))
def f_X5_clearText  (g : Mem) : Option (Int32 × Mem) := lt1 (g 0 6) fun x1 => (lt1 (m_up g 0 6 0) fun g2 => (some (x1, g2)))
def f_X5_isBetween (a1 : Int32) (a2 : Int32) (g : Mem) : Option Bool := (if (g 0 6) ≤ (g 0 8) then some false else (rd g 4 60 (g 0 8)).bind fun x2 => ((if (f_X5_in x2 a1 a2) then some true else some false)))
def f_X5_takes_L87 (k : Int32 → Mem → Option (Bool × Mem)) (v1 : Int32) (v2 : Int32) : Nat → Int32 → Int32 → Mem → Option (Bool × Mem)
  | 0, _, _, _ => none
  | n + 1, v3, v4, g => (if 2 ≤ v4 then k v3 g else (if v2 = 0 then (f_X5_isBetween 48 57 g).bind fun x10 => ((if x10 then (rd g 4 60 (g 0 8)).bind fun x12 => (lt1 (((10 * v3) + x12) - 48) fun x13 => (lt1 (m_up g 0 8 ((g 0 8) + 1)) fun g14 => (lt1 (v4 + 1) fun x15 => (f_X5_takes_L87 k v1 v2 n x13 x15 g14)))) else k v3 g)) else k v3 g))
def f_X5_takes_J28 (v1 : Int32) (v2 : Int32) (g : Mem) : Option (Bool × Mem) := (if v2 ≤ 0 then (f_X5_isBetween 49 57 g).bind fun x31 => ((if x31 then (rd g 4 60 (g 0 8)).bind fun x33 => (lt1 (x33 - 48) fun x34 => (lt1 (m_up g 0 8 ((g 0 8) + 1)) fun g35 => (f_X5_takes_L87 (fun x36 g37 => (wr g37 5 155 ((5 * (g37 0 10)) + v1) x36).bind fun g38 => (some (true, g38))) v1 v2 fuel0 x34 0 g35))) else some (false, g))) else (f_X5_isBetween 48 (48 + v2) g).bind fun x39 => ((if x39 then (rd g 4 60 (g 0 8)).bind fun x41 => (lt1 (x41 - 48) fun x42 => (lt1 (m_up g 0 8 ((g 0 8) + 1)) fun g43 => (f_X5_takes_L87 (fun x44 g45 => (wr g45 5 155 ((5 * (g45 0 10)) + v1) x44).bind fun g46 => (some (true, g46))) v1 v2 fuel0 x42 0 g43))) else some (false, g))))
def f_X5_takes (a1 : Int32) (a2 : Int32) (g : Mem) : Option (Bool × Mem) := (if a1 ≤ 1 then (if a2 ≤ 0 then (f_X5_isBetween 49 57 g).bind fun x3 => ((if x3 then (rd g 4 60 (g 0 8)).bind fun x5 => (lt1 (x5 - 48) fun x6 => (lt1 (m_up g 0 8 ((g 0 8) + 1)) fun g7 => (f_X5_takes_L87 (fun x16 g17 => (wr g17 5 155 ((5 * (g17 0 10)) + a1) x16).bind fun g18 => (some (true, g18))) a1 a2 fuel0 x6 0 g7))) else some (false, g))) else (f_X5_isBetween 48 (48 + a2) g).bind fun x19 => ((if x19 then (rd g 4 60 (g 0 8)).bind fun x21 => (lt1 (x21 - 48) fun x22 => (lt1 (m_up g 0 8 ((g 0 8) + 1)) fun g23 => (f_X5_takes_L87 (fun x24 g25 => (wr g25 5 155 ((5 * (g25 0 10)) + a1) x24).bind fun g26 => (some (true, g26))) a1 a2 fuel0 x22 0 g23))) else some (false, g)))) else (f_X5_isBetween 44 44 g).bind fun x27 => ((if x27 then lt1 (m_up g 0 8 ((g 0 8) + 1)) fun g29 => (f_X5_takes_J28 a1 a2 g29) else some (false, g))))
def f_X5_takesOrder_J135 (v1 : Int32) (s0 : Int32) (s1 : Int32) (g : Mem) : Option (Bool × Mem) := bd2 (f_X5_takes s1 s0 g) fun x10 g11 => ((if x10 then (if v1 = 121 then bd2 (f_X5_takes 2 5 g11) fun x36 g37 => (some (x36, g37)) else (if v1 = 118 then bd2 (f_X5_takes 2 0 g11) fun x15 g16 => ((if x15 then (if v1 = 118 then bd2 (f_X5_takes 3 0 g16) fun x22 g23 => ((if x22 then some (true, g23) else some (false, g23))) else bd2 (f_X5_takes 3 5 g16) fun x19 g20 => ((if x19 then some (true, g20) else some (false, g20)))) else some (false, g16))) else (if v1 = 97 then bd2 (f_X5_takes 2 0 g11) fun x26 g27 => ((if x26 then (if v1 = 118 then bd2 (f_X5_takes 3 0 g27) fun x33 g34 => ((if x33 then some (true, g34) else some (false, g34))) else bd2 (f_X5_takes 3 5 g27) fun x30 g31 => ((if x30 then some (true, g31) else some (false, g31)))) else some (false, g27))) else some (true, g11)))) else some (false, g11)))
def f_X5_takesOrder_J108 (v1 : Int32) (v2 : Int32) (s0 : Int32) (s1 : Int32) (g : Mem) : Option (Bool × Mem) := lt1 (m_up g 0 8 (s1 + s0)) fun g7 => ((if v2 = 0 then some (false, g7) else (if v1 = 100 then f_X5_takesOrder_J135 v1 5 1 g7 else (if v1 = 117 then f_X5_takesOrder_J135 v1 5 1 g7 else f_X5_takesOrder_J135 v1 2 1 g7))))
def f_X5_takesOrder_J93 (v1 : Int32) (s0 : Int32) (g : Mem) : Option (Bool × Mem) := (if s0 = 0 then f_X5_takesOrder_J108 v1 s0 0 (g 0 8) g else f_X5_takesOrder_J108 v1 s0 1 (g 0 8) g)
def f_X5_takesOrder  (g : Mem) : Option (Bool × Mem) := (if (g 0 8) = (g 0 6) then some (false, g) else (rd g 4 60 (g 0 8)).bind fun x2 => ((wr g 5 155 (5 * (g 0 10)) x2).bind fun g3 => ((wr g3 5 155 ((5 * (g3 0 10)) + 4) (g3 0 8)).bind fun g4 => ((if x2 = 110 then f_X5_takesOrder_J93 x2 1 g4 else (if x2 = 121 then f_X5_takesOrder_J93 x2 1 g4 else (if x2 = 118 then f_X5_takesOrder_J93 x2 1 g4 else (if x2 = 97 then f_X5_takesOrder_J93 x2 1 g4 else (if x2 = 100 then f_X5_takesOrder_J93 x2 1 g4 else (if x2 = 117 then f_X5_takesOrder_J93 x2 1 g4 else f_X5_takesOrder_J93 x2 0 g4))))))))))
def f_X5_isRead_L12 (k : Mem → Option (Bool × Mem)) : Nat → Int32 → Mem → Option (Bool × Mem)
  | 0, _, _ => none
  | n + 1, v1, g => (if v1 = 0 then k  g else bd2 (f_X5_takesOrder  g) fun x4 g5 => ((if x4 then lt1 (m_up g5 0 10 ((g5 0 10) + 1)) fun g7 => ((if (g7 0 6) ≤ (g7 0 8) then (if 0 = 0 then (if 0 = 0 then lt1 (m_up g7 0 8 ((g7 0 8) + 0)) fun g11 => (f_X5_isRead_L12 k n 0 g11) else lt1 (m_up g7 0 8 ((g7 0 8) + 1)) fun g12 => (f_X5_isRead_L12 k n 0 g12)) else (rd g7 4 60 (g7 0 8)).bind fun x13 => ((if x13 = 59 then (if 0 = 0 then lt1 (m_up g7 0 8 ((g7 0 8) + 0)) fun g16 => (f_X5_isRead_L12 k n 0 g16) else lt1 (m_up g7 0 8 ((g7 0 8) + 1)) fun g17 => (f_X5_isRead_L12 k n 0 g17)) else some (false, g7)))) else (if 1 = 0 then (if 1 = 0 then lt1 (m_up g7 0 8 ((g7 0 8) + 0)) fun g20 => (f_X5_isRead_L12 k n 1 g20) else lt1 (m_up g7 0 8 ((g7 0 8) + 1)) fun g21 => (f_X5_isRead_L12 k n 1 g21)) else (rd g7 4 60 (g7 0 8)).bind fun x22 => ((if x22 = 59 then (if 1 = 0 then lt1 (m_up g7 0 8 ((g7 0 8) + 0)) fun g25 => (f_X5_isRead_L12 k n 1 g25) else lt1 (m_up g7 0 8 ((g7 0 8) + 1)) fun g26 => (f_X5_isRead_L12 k n 1 g26)) else some (false, g7)))))) else some (false, g5))))
def f_X5_isRead  (g : Mem) : Option (Bool × Mem) := lt1 (m_up g 0 8 0) fun g1 => (lt1 (m_up g1 0 10 0) fun g2 => (f_X5_isRead_L12 (fun g27 => some (true, g27)) fuel0 1 g2))
def f_X5_does (a1 : Int32) (g : Mem) : Option (Int32 × Mem) := (rd g 5 155 ((5 * a1) + 1)).bind fun x1 => ((rd g 5 155 ((5 * a1) + 2)).bind fun x2 => ((rd g 5 155 ((5 * a1) + 3)).bind fun x3 => ((rd g 5 155 (5 * a1)).bind fun x4 => ((if x4 = 97 then (bd2 (f_X5_vote x1 x2 x3 g) fun x5 g6 => (some (x5, g6))) else if x4 = 110 then (bd2 (f_X5_prepare x1 g) fun x8 g9 => (some (x8, g9))) else if x4 = 118 then (bd2 (f_X5_propose x1 x2 x3 g) fun x11 g12 => (some (x11, g12))) else if x4 = 121 then (bd2 (f_X5_promise x1 x2 g) fun x14 g15 => (some (x14, g15))) else ((rd g 5 155 (5 * a1)).bind fun x17 => ((if x17 = 117 then bd2 (f_X5_setUp x1 true g) fun x21 g22 => (some (x21, g22)) else bd2 (f_X5_setUp x1 false g) fun x19 g20 => (some (x19, g20))))))))))
def f_X5_copies_L2 (k : Mem → Option Mem) (o1 : Nat) (o2 : Nat) : Nat → Int32 → Mem → Option Mem
  | 0, _, _ => none
  | n + 1, v3, g => (if 873 ≤ v3 then k  g else (rd g o1 873 v3).bind fun x2 => ((wr g o2 873 v3 x2).bind fun g3 => (lt1 (v3 + 1) fun x4 => (f_X5_copies_L2 k o1 o2 n x4 g3))))
def f_X5_copies (o1 : Nat) (o2 : Nat) (g : Mem) : Option Mem := f_X5_copies_L2 (fun g5 => some g5) o1 o2 fuel0 0 g
def f_X5_perform_L36 (k : Int32 → Int32 → Mem → Option (Int32 × Mem)) : Nat → Int32 → Int32 → Mem → Option (Int32 × Mem)
  | 0, _, _, _ => none
  | n + 1, v1, v2, g => (if (g 0 10) ≤ v2 then k v1 v2 g else (if 0 ≤ v1 then bd2 (f_X5_does v2 g) fun x8 g9 => (lt1 (v2 + 1) fun x10 => (f_X5_perform_L36 k n x8 x10 g9)) else (if v1 = (-5) then bd2 (f_X5_does v2 g) fun x12 g13 => (lt1 (v2 + 1) fun x14 => (f_X5_perform_L36 k n x12 x14 g13)) else k v1 v2 g)))
def f_X5_perform_L127 (k : Mem → Option (Int32 × Mem)) : Nat → Int32 → Mem → Option (Int32 × Mem)
  | 0, _, _ => none
  | n + 1, v3, g => (if 873 ≤ v3 then k  g else (rd g 1 873 v3).bind fun x21 => ((rd g 6 873 v3).bind fun x22 => ((wr g 1 873 v3 x22).bind fun g23 => ((wr g23 6 873 v3 x21).bind fun g24 => (lt1 (v3 + 1) fun x25 => (f_X5_perform_L127 k n x25 g24))))))
def f_X5_perform  (g : Mem) : Option (Int32 × Mem) := bd2 (f_X5_isRead  g) fun x1 g2 => ((if x1 then (f_X5_copies 1 6 g2).bind fun g4 => (lt1 (m_up g4 0 5 1) fun g5 => (f_X5_perform_L36 (fun x15 x16 g17 => lt1 (m_up g17 0 5 0) fun g18 => ((if 0 ≤ x15 then f_X5_perform_L127 (fun g26 => (f_X5_record  g26).bind fun g27 => ((f_X5_copies 6 1 g27).bind fun g28 => (some ((g28 0 10), g28)))) fuel0 0 g18 else (if x15 = (-5) then f_X5_perform_L127 (fun g30 => (f_X5_record  g30).bind fun g31 => ((f_X5_copies 6 1 g31).bind fun g32 => (some ((g32 0 10), g32)))) fuel0 0 g18 else (f_X5_copies 6 1 g18).bind fun g33 => (lt1 (m_up g33 0 11 (x16 - 1)) fun g34 => (lt1 (m_up g34 0 12 x15) fun g35 => ((rd g35 5 155 ((5 * (g35 0 11)) + 4)).bind fun x36 => (lt1 (m_up g35 0 13 x36) fun g37 => (some ((-4), g37)))))))))) fuel0 0 0 g5)) else some (((-100) - (g2 0 8)), g2)))
def f_X5_refusal (a1 : Int32) (g : Mem) : Int32 := (if (f_X5_in a1 0 2) then (if 0 ≤ (g 0 11) then (if a1 = 0 then (g 0 11) else (if a1 = 1 then (g 0 12) else (g 0 13))) else (-5)) else (-2))
def f_X5_undo_L22 (k : Mem → Option (Int32 × Mem)) : Nat → Int32 → Mem → Option (Int32 × Mem)
  | 0, _, _ => none
  | n + 1, v1, g => (if 873 ≤ v1 then k  g else (rd g 2 3492 ((873 * (g 0 2)) + v1)).bind fun x4 => ((wr g 1 873 v1 x4).bind fun g5 => (lt1 (v1 + 1) fun x6 => (f_X5_undo_L22 k n x6 g5))))
def f_X5_undo  (g : Mem) : Option (Int32 × Mem) := (if (g 0 2) = 0 then some ((-5), g) else lt1 (m_up g 0 2 ((g 0 2) - 1)) fun g2 => (f_X5_undo_L22 (fun g7 => some ((g7 0 2), g7)) fuel0 0 g2))
def f_X5_keep  (g : Mem) : Option (Int32 × Mem) := (f_X5_copies 1 3 g).bind fun g1 => (lt1 (m_up g1 0 4 1) fun g2 => ((f_X5_prefix  g2).bind fun x3 => (some (x3, g2))))
def f_X5_restore  (g : Mem) : Option (Int32 × Mem) := (if (g 0 4) = 0 then some ((-5), g) else (f_X5_record  g).bind fun g2 => ((f_X5_copies 3 1 g2).bind fun g3 => ((f_X5_prefix  g3).bind fun x4 => (some (x4, g3)))))
def f_X5_votes_L4 (k : Int32 → Option Int32) (v1 : Int32) (g : Mem) : Nat → Int32 → Int32 → Option Int32
  | 0, _, _ => none
  | n + 1, v2, v3 => (if 16 < v3 then k v2 else (rd g 1 873 (f_X5_voteAt v1 v3)).bind fun x2 => ((if x2 ≤ 0 then lt1 (v2 + 0) fun x4 => (lt1 (v3 + 1) fun x5 => (f_X5_votes_L4 k v1 g n x4 x5)) else lt1 (v2 + 1) fun x6 => (lt1 (v3 + 1) fun x7 => (f_X5_votes_L4 k v1 g n x6 x7)))))
def f_X5_votes (a1 : Int32) (g : Mem) : Option Int32 := f_X5_votes_L4 (fun x8 => some x8) a1 g fuel0 0 1
def f_X5_acceptor (a1 : Int32) (a2 : Int32) (g : Mem) : Option Int32 := (if (f_X5_noAcceptor a1) then some (-1) else (if a2 = 0 then ((rd g 1 873 (0 + a1)).bind fun x2 => (some x2)) else if a2 = 1 then ((rd g 1 873 (6 + a1)).bind fun x4 => (some x4)) else if a2 = 2 then ((f_X5_votes a1 g).bind fun x6 => (some x6)) else (some (-2))))
def f_X5_voted (a1 : Int32) (a2 : Int32) (a3 : Int32) (g : Mem) : Option Int32 := (if (f_X5_noAcceptor a1) then some (-1) else (if (f_X5_noSlot a2) then some (-1) else (if (f_X5_in a3 0 1) then lt1 (f_X5_voteAt a1 a2) fun x4 => ((rd g 1 873 x4).bind fun x5 => ((if x5 = 0 then some (-5) else (rd g 1 873 (x4 + a3)).bind fun x7 => (some x7)))) else some (-2))))
def f_X5_proposals_L4 (k : Int32 → Option Int32) (v1 : Int32) (g : Mem) : Nat → Int32 → Int32 → Option Int32
  | 0, _, _ => none
  | n + 1, v2, v3 => (if 16 < v3 then k v2 else (rd g 1 873 (f_X5_proposedAt v1 v3)).bind fun x2 => ((if x2 ≤ 0 then lt1 (v2 + 0) fun x4 => (lt1 (v3 + 1) fun x5 => (f_X5_proposals_L4 k v1 g n x4 x5)) else lt1 (v2 + 1) fun x6 => (lt1 (v3 + 1) fun x7 => (f_X5_proposals_L4 k v1 g n x6 x7)))))
def f_X5_proposals (a1 : Int32) (g : Mem) : Option Int32 := f_X5_proposals_L4 (fun x8 => some x8) a1 g fuel0 0 1
def f_X5_proposer (a1 : Int32) (a2 : Int32) (g : Mem) : Option Int32 := (if (f_X5_noProposer a1) then some (-1) else (if a2 = 0 then ((rd g 1 873 (204 + a1)).bind fun x2 => (some x2)) else if a2 = 1 then ((rd g 1 873 (207 + a1)).bind fun x4 => (some x4)) else if a2 = 2 then ((rd g 1 873 (210 + a1)).bind fun x6 => (some x6)) else if a2 = 3 then ((f_X5_proposals a1 g).bind fun x8 => (some x8)) else (some (-2))))
def f_X5_proposed (a1 : Int32) (a2 : Int32) (a3 : Int32) (g : Mem) : Option Int32 := (if (f_X5_noProposer a1) then some (-1) else (if (f_X5_noSlot a2) then some (-1) else (if (f_X5_in a3 0 2) then (if a3 = 0 then (rd g 1 873 (f_X5_proposedAt a1 a2)).bind fun x10 => ((if x10 = 0 then some (-5) else some x10)) else (f_X5_isOpen a2 g).bind fun x5 => ((if x5 then (if a3 = 1 then (f_X5_bound a1 a2 g).bind fun x9 => (some x9) else (f_X5_lacking a1 a2 g).bind fun x8 => (some x8)) else some (-5)))) else some (-2))))
def f_X5_slot (a1 : Int32) (a2 : Int32) (g : Mem) : Option Int32 := (if (f_X5_noSlot a1) then some (-1) else (if a2 = 0 then ((f_X5_chosen a1 g).bind fun x2 => ((if x2 = 0 then some (-5) else (f_X5_chosen a1 g).bind fun x4 => (some x4)))) else if a2 = 1 then ((f_X5_chosen a1 g).bind fun x6 => ((if x6 = 0 then some (-5) else (rd g 1 873 ((853 + a1) - 1)).bind fun x8 => (some x8)))) else if a2 = 2 then ((f_X5_isOpen a1 g).bind fun x10 => ((if x10 then (f_X5_voters a1 g).bind fun x12 => (some x12) else some (-5)))) else if a2 = 3 then ((f_X5_isOpen a1 g).bind fun x14 => ((if x14 then (f_X5_firstSize a1 g).bind fun x16 => (some x16) else some (-5)))) else if a2 = 4 then ((f_X5_isOpen a1 g).bind fun x18 => ((if x18 then (f_X5_secondSize a1 g).bind fun x20 => (some x20) else some (-5)))) else if a2 = 5 then ((f_X5_isTrimmed a1 g).bind fun x22 => ((if x22 then some 1 else some 0))) else (some (-2))))
def f_X5_could_L47 (k : Int32 → Option Int32) (v1 : Int32) (v2 : Int32) (g : Mem) : Nat → Int32 → Int32 → Option Int32
  | 0, _, _ => none
  | n + 1, v3, v4 => (if 6 ≤ v4 then k v3 else (f_X5_voters v1 g).bind fun x8 => ((if (f_X5_isIn x8 v4) then (rd g 1 873 (f_X5_voteAt v4 v1)).bind fun x12 => ((if x12 = v2 then lt1 (v3 + 1) fun x14 => (lt1 (v4 + 1) fun x15 => (f_X5_could_L47 k v1 v2 g n x14 x15)) else (rd g 1 873 (6 + v4)).bind fun x16 => ((if v2 < x16 then lt1 (v3 + 0) fun x18 => (lt1 (v4 + 1) fun x19 => (f_X5_could_L47 k v1 v2 g n x18 x19)) else lt1 (v3 + 1) fun x20 => (lt1 (v4 + 1) fun x21 => (f_X5_could_L47 k v1 v2 g n x20 x21)))))) else lt1 (v3 + 0) fun x10 => (lt1 (v4 + 1) fun x11 => (f_X5_could_L47 k v1 v2 g n x10 x11)))))
def f_X5_could (a1 : Int32) (a2 : Int32) (g : Mem) : Option Int32 := (if (f_X5_noSlot a1) then some (-1) else (if (f_X5_in a2 1 999) then (f_X5_isTrimmed a1 g).bind fun x3 => ((if x3 then some (-4) else (f_X5_isOpen a1 g).bind fun x5 => ((if x5 then f_X5_could_L47 (fun x22 => (f_X5_secondSize a1 g).bind fun x23 => ((if x22 < x23 then some 0 else some 1))) a1 a2 g fuel0 0 0 else some (-4))))) else some (-2)))
def f_X5_witness_L65 (k : Int32 → Int32 → Option Int32) (v1 : Int32) (v2 : Int32) (v3 : Int32) (v4 : Int32) : Nat → Int32 → Int32 → Int32 → Option Int32
  | 0, _, _, _ => none
  | n + 1, v5, v6, v7 => (if 6 ≤ v7 then k v5 v6 else (if (f_X5_isIn v1 v7) then (f_X5_bits v5).bind fun x16 => ((if v2 ≤ x16 then (if (f_X5_isIn v1 v7) then (f_X5_bits v6).bind fun x20 => ((if v3 ≤ x20 then lt1 (v7 + 1) fun x22 => (f_X5_witness_L65 k v1 v2 v3 v4 n v5 v6 x22) else lt1 (v6 ||| (1 <<< (v7 &&& 31))) fun x23 => (lt1 (v7 + 1) fun x24 => (f_X5_witness_L65 k v1 v2 v3 v4 n v5 x23 x24)))) else lt1 (v7 + 1) fun x19 => (f_X5_witness_L65 k v1 v2 v3 v4 n v5 v6 x19)) else lt1 (v5 ||| (1 <<< (v7 &&& 31))) fun x25 => (lt1 (v7 + 1) fun x26 => (f_X5_witness_L65 k v1 v2 v3 v4 n x25 v6 x26)))) else (if (f_X5_isIn v1 v7) then (f_X5_bits v6).bind fun x11 => ((if v3 ≤ x11 then lt1 (v7 + 1) fun x13 => (f_X5_witness_L65 k v1 v2 v3 v4 n v5 v6 x13) else lt1 (v6 ||| (1 <<< (v7 &&& 31))) fun x14 => (lt1 (v7 + 1) fun x15 => (f_X5_witness_L65 k v1 v2 v3 v4 n v5 x14 x15)))) else lt1 (v7 + 1) fun x10 => (f_X5_witness_L65 k v1 v2 v3 v4 n v5 v6 x10))))
def f_X5_witness (a1 : Int32) (a2 : Int32) (a3 : Int32) (a4 : Int32) : Option Int32 := (if (f_X5_in a1 1 63) then (if (f_X5_in a2 1 6) then (if (f_X5_in a3 1 6) then (if (f_X5_in a4 0 1) then (f_X5_bits a1).bind fun x5 => ((if (a2 + a3) ≤ x5 then f_X5_witness_L65 (fun x27 x28 => (if a4 = 0 then some x27 else some x28)) a1 a2 a3 a4 fuel0 0 0 0 else some (-5))) else some (-2)) else some (-2)) else some (-2)) else some (-2))
def f_X5_slots_L4 (k : Int32 → Option Int32) (v1 : Int32) (g : Mem) : Nat → Int32 → Int32 → Option Int32
  | 0, _, _ => none
  | n + 1, v2, v3 => (if 16 < v3 then k v2 else (f_X5_chosen v3 g).bind fun x2 => ((if v1 = 0 then (if x2 ≤ 0 then lt1 (v2 + 0) fun x10 => (lt1 (v3 + 1) fun x11 => (f_X5_slots_L4 k v1 g n x10 x11)) else lt1 (v2 + 1) fun x12 => (lt1 (v3 + 1) fun x13 => (f_X5_slots_L4 k v1 g n x12 x13))) else (if x2 ≤ 100 then lt1 (v2 + 0) fun x5 => (lt1 (v3 + 1) fun x6 => (f_X5_slots_L4 k v1 g n x5 x6)) else lt1 (v2 + 1) fun x7 => (lt1 (v3 + 1) fun x8 => (f_X5_slots_L4 k v1 g n x7 x8))))))
def f_X5_slots (a1 : Int32) (g : Mem) : Option Int32 := f_X5_slots_L4 (fun x14 => some x14) a1 g fuel0 0 1
def f_X5_count (a1 : Int32) (g : Mem) : Option Int32 := (if a1 = 0 then ((f_X5_prefix  g).bind fun x1 => (some x1)) else if a1 = 1 then ((f_X5_slots 0 g).bind fun x3 => (some x3)) else if a1 = 2 then ((rd g 1 873 869).bind fun x5 => (some x5)) else if a1 = 3 then ((rd g 1 873 870).bind fun x7 => (some x7)) else if a1 = 4 then ((f_X5_ups  g).bind fun x9 => (some x9)) else if a1 = 5 then ((f_X5_prefix  g).bind fun x11 => ((if 16 ≤ (x11 + 3) then some 16 else (f_X5_prefix  g).bind fun x13 => (some (x13 + 3))))) else if a1 = 6 then ((rd g 1 873 871).bind fun x15 => (some x15)) else if a1 = 7 then ((rd g 1 873 872).bind fun x17 => (some x17)) else if a1 = 8 then ((f_X5_slots 1 g).bind fun x19 => (some x19)) else if a1 = 9 then (some (g 0 2)) else if a1 = 10 then (some (g 0 6)) else (some (-2)))
end
