-- ===== PART A: goes FIRST, ahead of the names: the tables' words, and 'selects' of the private methods out of them =====
/-- a private method of a class that the tables say can be made, by its rows of tables_1 -/
def lw_okq (q : MethodName × Nat) : Prop := (q.1.cls ≠ "java/lang/invoke/MethodHandle" ∧ q.1.cls ≠ "java/lang/invoke/VarHandle") ∧ Cond.instantiable q.1.cls q.2 ∈ tables_1 ∧ Cond.privateMethod q.1 ∈ tables_1 ∧ Cond.instanceMethod q.1 ∈ tables_1
theorem lw_p0 : lw_okq (⟨"SelfCheckSteps", "isRefusedAtTheStation", "(I)Z"⟩, 5) := ⟨⟨by decide +kernel, by decide +kernel⟩, List.mem_of_getElem? (i := 9) (by decide +kernel), List.mem_of_getElem? (i := 168) (by decide +kernel), List.mem_of_getElem? (i := 169) (by decide +kernel)⟩
theorem lw_p1 : lw_okq (⟨"SelfCheckSteps", "refusalOffline", "()I"⟩, 5) := ⟨⟨by decide +kernel, by decide +kernel⟩, List.mem_of_getElem? (i := 9) (by decide +kernel), List.mem_of_getElem? (i := 201) (by decide +kernel), List.mem_of_getElem? (i := 202) (by decide +kernel)⟩
theorem lw_p2 : lw_okq (⟨"SelfCheckSteps", "undoLatestLend", "()V"⟩, 5) := ⟨⟨by decide +kernel, by decide +kernel⟩, List.mem_of_getElem? (i := 9) (by decide +kernel), List.mem_of_getElem? (i := 243) (by decide +kernel), List.mem_of_getElem? (i := 244) (by decide +kernel)⟩
theorem lw_p3 : lw_okq (⟨"SelfCheckSteps$RowList", "removeRange", "(II)V"⟩, 3) := ⟨⟨by decide +kernel, by decide +kernel⟩, List.mem_of_getElem? (i := 71) (by decide +kernel), List.mem_of_getElem? (i := 259) (by decide +kernel), List.mem_of_getElem? (i := 260) (by decide +kernel)⟩
theorem lw_p4 : lw_okq (⟨"SelfCheckSteps", "joinRow", "(II)V"⟩, 5) := ⟨⟨by decide +kernel, by decide +kernel⟩, List.mem_of_getElem? (i := 9) (by decide +kernel), List.mem_of_getElem? (i := 275) (by decide +kernel), List.mem_of_getElem? (i := 276) (by decide +kernel)⟩
theorem lw_p5 : lw_okq (⟨"SelfCheckStepsModel", "isBlocked", "(I)Z"⟩, 24) := ⟨⟨by decide +kernel, by decide +kernel⟩, List.mem_of_getElem? (i := 323) (by decide +kernel), List.mem_of_getElem? (i := 413) (by decide +kernel), List.mem_of_getElem? (i := 414) (by decide +kernel)⟩
theorem lw_p6 : lw_okq (⟨"SelfCheckStepsModel", "against", "(II)I"⟩, 24) := ⟨⟨by decide +kernel, by decide +kernel⟩, List.mem_of_getElem? (i := 323) (by decide +kernel), List.mem_of_getElem? (i := 444) (by decide +kernel), List.mem_of_getElem? (i := 445) (by decide +kernel)⟩
theorem lw_p7 : lw_okq (⟨"SelfCheckStepsModel", "has", "(I)I"⟩, 24) := ⟨⟨by decide +kernel, by decide +kernel⟩, List.mem_of_getElem? (i := 323) (by decide +kernel), List.mem_of_getElem? (i := 448) (by decide +kernel), List.mem_of_getElem? (i := 449) (by decide +kernel)⟩
theorem lw_p8 : lw_okq (⟨"SelfCheckStepsModel", "goesOut", "(II)V"⟩, 24) := ⟨⟨by decide +kernel, by decide +kernel⟩, List.mem_of_getElem? (i := 323) (by decide +kernel), List.mem_of_getElem? (i := 452) (by decide +kernel), List.mem_of_getElem? (i := 453) (by decide +kernel)⟩
theorem lw_p9 : lw_okq (⟨"SelfCheckStepsModel", "leaveLocker", "(I)V"⟩, 24) := ⟨⟨by decide +kernel, by decide +kernel⟩, List.mem_of_getElem? (i := 323) (by decide +kernel), List.mem_of_getElem? (i := 456) (by decide +kernel), List.mem_of_getElem? (i := 457) (by decide +kernel)⟩
theorem lw_p10 : lw_okq (⟨"SelfCheckStepsModel", "comesBack", "(I)I"⟩, 24) := ⟨⟨by decide +kernel, by decide +kernel⟩, List.mem_of_getElem? (i := 323) (by decide +kernel), List.mem_of_getElem? (i := 464) (by decide +kernel), List.mem_of_getElem? (i := 465) (by decide +kernel)⟩
theorem lw_p11 : lw_okq (⟨"SelfCheckStepsModel", "drop", "(I)V"⟩, 24) := ⟨⟨by decide +kernel, by decide +kernel⟩, List.mem_of_getElem? (i := 323) (by decide +kernel), List.mem_of_getElem? (i := 472) (by decide +kernel), List.mem_of_getElem? (i := 473) (by decide +kernel)⟩
def lw_privs_1 : List (MethodName × Nat) := [(⟨"SelfCheckSteps", "isRefusedAtTheStation", "(I)Z"⟩, 5), (⟨"SelfCheckSteps", "refusalOffline", "()I"⟩, 5), (⟨"SelfCheckSteps", "undoLatestLend", "()V"⟩, 5), (⟨"SelfCheckSteps$RowList", "removeRange", "(II)V"⟩, 3), (⟨"SelfCheckSteps", "joinRow", "(II)V"⟩, 5), (⟨"SelfCheckStepsModel", "isBlocked", "(I)Z"⟩, 24), (⟨"SelfCheckStepsModel", "against", "(II)I"⟩, 24), (⟨"SelfCheckStepsModel", "has", "(I)I"⟩, 24), (⟨"SelfCheckStepsModel", "goesOut", "(II)V"⟩, 24), (⟨"SelfCheckStepsModel", "leaveLocker", "(I)V"⟩, 24), (⟨"SelfCheckStepsModel", "comesBack", "(I)I"⟩, 24), (⟨"SelfCheckStepsModel", "drop", "(I)V"⟩, 24)]
theorem lw_r1 : ∀ q ∈ lw_privs_1, lw_okq q := List.forall_mem_cons.mpr ⟨lw_p0, List.forall_mem_cons.mpr ⟨lw_p1, List.forall_mem_cons.mpr ⟨lw_p2, List.forall_mem_cons.mpr ⟨lw_p3, List.forall_mem_cons.mpr ⟨lw_p4, List.forall_mem_cons.mpr ⟨lw_p5, List.forall_mem_cons.mpr ⟨lw_p6, List.forall_mem_cons.mpr ⟨lw_p7, List.forall_mem_cons.mpr ⟨lw_p8, List.forall_mem_cons.mpr ⟨lw_p9, List.forall_mem_cons.mpr ⟨lw_p10, List.forall_mem_cons.mpr ⟨lw_p11, fun _ h => absurd h List.not_mem_nil⟩⟩⟩⟩⟩⟩⟩⟩⟩⟩⟩⟩
def lw_privs : List (MethodName × Nat) := lw_privs_1
def lw_tbl : List Cond := k2_sels lw_privs ++ tables_1
theorem lw_privs_ok : ∀ q ∈ lw_privs, lw_okq q := lw_r1

/-! NAMES: by names_real.py -/
def tb_ok (w : Cond) : Bool := match w with
  | .fieldLinkNest .. => true
  | .methodLinkNest .. => true
  | w => goodWord w
def lw_ok : List Cond := lw_tbl.filter tb_ok
def R_House : String := "SelfCheckSteps$House"
def R_Row : String := "SelfCheckSteps$RowList"
def R_Ses : String := "SelfCheckSteps$Session"
def R_Main : String := "SelfCheckSteps"
def R_Mod : String := "SelfCheckStepsModel"
def R_Arr : String := "java/util/Arrays"
def R_Math : String := "java/lang/Math"
def R_Obj : String := "java/lang/Object"
def R_Law : String := "SelfCheckStepsLaw"
def T_House : u_T := fun k => match k with
  | 0 => ("SelfCheckSteps$House", "codes", "[I", true)
  | 1 => ("SelfCheckSteps$House", "languages", "[I", true)
  | 2 => ("SelfCheckSteps$House", "barred", "[Z", true)
  | 3 => ("SelfCheckSteps$House", "wrongCodes", "[I", true)
  | 4 => ("SelfCheckSteps$House", "holders", "[I", true)
  | 5 => ("SelfCheckSteps$House", "reservedFor", "[I", true)
  | 6 => ("SelfCheckSteps$House", "marked", "[Z", true)
  | 7 => ("SelfCheckSteps$House", "lockerOf", "[I", true)
  | _ => ("SelfCheckSteps$House", "lockers", "[I", true)
def ty_House : Nat → FieldType := fun k => match k with
  | 0 => .array .int
  | 1 => .array .int
  | 2 => .array .boolean
  | 3 => .array .int
  | 4 => .array .int
  | 5 => .array .int
  | 6 => .array .boolean
  | 7 => .array .int
  | _ => .array .int
theorem nm_House : ∀ a, a < 9 → ∀ b, b < 9 → a ≠ b → (T_House a).2.1 ≠ (T_House b).2.1 := by decide +kernel
theorem tyok_House : ∀ k, k < 9 → parseFieldDescriptor (T_House k).2.2.1 = some (ty_House k) := by decide +kernel
theorem in_House : ∀ w ∈ u_ws R_House T_House 9, w ∈ lw_ok := by decide +kernel
def T_Row : u_T := fun k => match k with
  | 0 => ("SelfCheckSteps$RowList", "items", "[I", true)
  | 1 => ("SelfCheckSteps$RowList", "persons", "[I", true)
  | _ => ("SelfCheckSteps$RowList", "count", "I", false)
def ty_Row : Nat → FieldType := fun k => match k with
  | 0 => .array .int
  | 1 => .array .int
  | _ => .int
theorem nm_Row : ∀ a, a < 3 → ∀ b, b < 3 → a ≠ b → (T_Row a).2.1 ≠ (T_Row b).2.1 := by decide +kernel
theorem tyok_Row : ∀ k, k < 3 → parseFieldDescriptor (T_Row k).2.2.1 = some (ty_Row k) := by decide +kernel
theorem in_Row : ∀ w ∈ u_ws R_Row T_Row 3, w ∈ lw_ok := by decide +kernel
def T_Ses : u_T := fun k => match k with
  | 0 => ("SelfCheckSteps$Session", "lent", "[I", true)
  | 1 => ("SelfCheckSteps$Session", "lentCount", "I", false)
  | 2 => ("SelfCheckSteps$Session", "state", "I", false)
  | 3 => ("SelfCheckSteps$Session", "person", "I", false)
  | 4 => ("SelfCheckSteps$Session", "latest", "I", false)
  | _ => ("SelfCheckSteps$Session", "latestIsDone", "Z", false)
def ty_Ses : Nat → FieldType := fun k => match k with
  | 0 => .array .int
  | 1 => .int
  | 2 => .int
  | 3 => .int
  | 4 => .int
  | _ => .boolean
theorem nm_Ses : ∀ a, a < 6 → ∀ b, b < 6 → a ≠ b → (T_Ses a).2.1 ≠ (T_Ses b).2.1 := by decide +kernel
theorem tyok_Ses : ∀ k, k < 6 → parseFieldDescriptor (T_Ses k).2.2.1 = some (ty_Ses k) := by decide +kernel
theorem in_Ses : ∀ w ∈ u_ws R_Ses T_Ses 6, w ∈ lw_ok := by decide +kernel
def T_Main : u_T := fun k => match k with
  | 0 => ("SelfCheckSteps", "house", "LSelfCheckSteps$House;", true)
  | 1 => ("SelfCheckSteps", "kept", "LSelfCheckSteps$RowList;", true)
  | 2 => ("SelfCheckSteps", "clashes", "LSelfCheckSteps$RowList;", true)
  | 3 => ("SelfCheckSteps", "session", "LSelfCheckSteps$Session;", true)
  | _ => ("SelfCheckSteps", "isOffline", "Z", false)
def ty_Main : Nat → FieldType := fun k => match k with
  | 0 => .object "SelfCheckSteps$House"
  | 1 => .object "SelfCheckSteps$RowList"
  | 2 => .object "SelfCheckSteps$RowList"
  | 3 => .object "SelfCheckSteps$Session"
  | _ => .boolean
theorem nm_Main : ∀ a, a < 5 → ∀ b, b < 5 → a ≠ b → (T_Main a).2.1 ≠ (T_Main b).2.1 := by decide +kernel
theorem tyok_Main : ∀ k, k < 5 → parseFieldDescriptor (T_Main k).2.2.1 = some (ty_Main k) := by decide +kernel
theorem in_Main : ∀ w ∈ u_ws R_Main T_Main 5, w ∈ lw_ok := by decide +kernel
def T_Mod : u_T := fun k => match k with
  | 0 => ("SelfCheckStepsModel", "thrown", "I", false)
  | 1 => ("SelfCheckStepsModel", "most", "I", true)
  | 2 => ("SelfCheckStepsModel", "codes", "[I", true)
  | 3 => ("SelfCheckStepsModel", "languages", "[I", true)
  | 4 => ("SelfCheckStepsModel", "blocked", "[Z", true)
  | 5 => ("SelfCheckStepsModel", "byCodes", "[Z", true)
  | 6 => ("SelfCheckStepsModel", "wrong", "[I", true)
  | 7 => ("SelfCheckStepsModel", "holder", "[I", true)
  | 8 => ("SelfCheckStepsModel", "reserved", "[I", true)
  | 9 => ("SelfCheckStepsModel", "off", "[Z", true)
  | 10 => ("SelfCheckStepsModel", "lockerOf", "[I", true)
  | 11 => ("SelfCheckStepsModel", "lockers", "[I", true)
  | 12 => ("SelfCheckStepsModel", "state", "I", false)
  | 13 => ("SelfCheckStepsModel", "person", "I", false)
  | 14 => ("SelfCheckStepsModel", "offline", "Z", false)
  | 15 => ("SelfCheckStepsModel", "receipt", "[I", true)
  | 16 => ("SelfCheckStepsModel", "lent", "I", false)
  | 17 => ("SelfCheckStepsModel", "scanned", "I", false)
  | 18 => ("SelfCheckStepsModel", "done", "Z", false)
  | 19 => ("SelfCheckStepsModel", "rowItem", "[I", true)
  | 20 => ("SelfCheckStepsModel", "rowPerson", "[I", true)
  | 21 => ("SelfCheckStepsModel", "rows", "I", false)
  | 22 => ("SelfCheckStepsModel", "clashes", "[I", true)
  | _ => ("SelfCheckStepsModel", "clashCount", "I", false)
def ty_Mod : Nat → FieldType := fun k => match k with
  | 0 => .int
  | 1 => .int
  | 2 => .array .int
  | 3 => .array .int
  | 4 => .array .boolean
  | 5 => .array .boolean
  | 6 => .array .int
  | 7 => .array .int
  | 8 => .array .int
  | 9 => .array .boolean
  | 10 => .array .int
  | 11 => .array .int
  | 12 => .int
  | 13 => .int
  | 14 => .boolean
  | 15 => .array .int
  | 16 => .int
  | 17 => .int
  | 18 => .boolean
  | 19 => .array .int
  | 20 => .array .int
  | 21 => .int
  | 22 => .array .int
  | _ => .int
theorem nm_Mod : ∀ a, a < 24 → ∀ b, b < 24 → a ≠ b → (T_Mod a).2.1 ≠ (T_Mod b).2.1 := by decide +kernel
theorem tyok_Mod : ∀ k, k < 24 → parseFieldDescriptor (T_Mod k).2.2.1 = some (ty_Mod k) := by decide +kernel
theorem in_Mod : ∀ w ∈ u_ws R_Mod T_Mod 24, w ∈ lw_ok := by decide +kernel
abbrev vwCl : List vw_C := [(R_House, T_House, 9), (R_Row, T_Row, 3), (R_Ses, T_Ses, 6), (R_Main, T_Main, 5), (R_Mod, T_Mod, 24)]
def y_isPerson : MethodName := ⟨R_Main, "isPerson", "(I)Z"⟩
def y_isItem : MethodName := ⟨R_Main, "isItem", "(I)Z"⟩
def y_isBBC : MethodName := ⟨R_House, "isBlockedByCodes", "(I)Z"⟩
def y_isBl : MethodName := ⟨R_House, "isBlocked", "(I)Z"⟩
def y_cntI : MethodName := ⟨R_House, "countItemsOf", "(I)I"⟩
def y_refu : MethodName := ⟨R_House, "refusal", "(II)I"⟩
def y_giveO : MethodName := ⟨R_House, "giveOut", "(II)V"⟩
def y_takeB : MethodName := ⟨R_House, "takeBack", "(I)I"⟩
def y_mayG : MethodName := ⟨R_House, "mayGoToLocker", "(I)Z"⟩
def y_fel : MethodName := ⟨R_House, "firstEmptyLocker", "()I"⟩
def y_isFull : MethodName := ⟨R_Row, "isFull", "()Z"⟩
def y_isLend : MethodName := ⟨R_Row, "isLend", "(I)Z"⟩
def y_rAdd : MethodName := ⟨R_Row, "add", "(II)V"⟩
def y_sBegin : MethodName := ⟨R_Ses, "begin", "()V"⟩
def y_sClose : MethodName := ⟨R_Ses, "close", "()V"⟩
def y_hasI : MethodName := ⟨R_Ses, "hasItemToLend", "()Z"⟩
def y_addL : MethodName := ⟨R_Ses, "addLent", "()V"⟩
def y_remLL : MethodName := ⟨R_Ses, "removeLatestLent", "()I"⟩
def y_remR : MethodName := ⟨R_Row, "removeRange", "(II)V"⟩
def y_remF : MethodName := ⟨R_Row, "removeFirst", "(I)V"⟩
def y_rLL : MethodName := ⟨R_Row, "removeLatestLend", "()V"⟩
def y_isRef : MethodName := ⟨R_Main, "isRefusedAtTheStation", "(I)Z"⟩
def y_refO : MethodName := ⟨R_Main, "refusalOffline", "()I"⟩
def y_person : MethodName := ⟨R_Main, "person", "(III)I"⟩
def y_block : MethodName := ⟨R_Main, "block", "(IZ)Z"⟩
def y_reserve : MethodName := ⟨R_Main, "reserve", "(II)I"⟩
def y_card : MethodName := ⟨R_Main, "card", "(I)I"⟩
def y_codeM : MethodName := ⟨R_Main, "code", "(I)I"⟩
def y_scan : MethodName := ⟨R_Main, "scan", "(I)I"⟩
def y_twice : MethodName := ⟨R_Main, "twice", "()I"⟩
def y_lend : MethodName := ⟨R_Main, "lend", "()I"⟩
def y_back : MethodName := ⟨R_Main, "back", "(I)I"⟩
def y_undo : MethodName := ⟨R_Main, "undoLatestLend", "()V"⟩
def y_endM : MethodName := ⟨R_Main, "end", "(Z)I"⟩
def y_offl : MethodName := ⟨R_Main, "offline", "(Z)Z"⟩
def y_clash : MethodName := ⟨R_Main, "clash", "(II)I"⟩
def y_locker : MethodName := ⟨R_Main, "locker", "(I)I"⟩
def y_opn : MethodName := ⟨R_Main, "open", "(II)I"⟩
def y_door : MethodName := ⟨R_Main, "door", "(I)Z"⟩
def y_receipt : MethodName := ⟨R_Main, "receipt", "(I)I"⟩
def y_screen : MethodName := ⟨R_Main, "screen", "()I"⟩
def y_itemM : MethodName := ⟨R_Main, "item", "(II)I"⟩
def y_rowsM : MethodName := ⟨R_Main, "rows", "()I"⟩
def y_joinR : MethodName := ⟨R_Main, "joinRow", "(II)V"⟩
def y_join : MethodName := ⟨R_Main, "join", "(I)I"⟩
def y_fill : MethodName := ⟨R_Arr, "fill", "([II)V"⟩
def y_HouseI : MethodName := ⟨R_House, "<init>", "()V"⟩
def y_RowI : MethodName := ⟨R_Row, "<init>", "(I)V"⟩
def y_SesI : MethodName := ⟨R_Ses, "<init>", "()V"⟩
def y_MainI : MethodName := ⟨R_Main, "<init>", "(I)V"⟩
def y_mIsP : MethodName := ⟨R_Mod, "isPerson", "(I)Z"⟩
def y_mIsI : MethodName := ⟨R_Mod, "isItem", "(I)Z"⟩
def y_mIsB : MethodName := ⟨R_Mod, "isBlocked", "(I)Z"⟩
def y_mHas : MethodName := ⟨R_Mod, "has", "(I)I"⟩
def y_mLeave : MethodName := ⟨R_Mod, "leaveLocker", "(I)V"⟩
def y_mAg : MethodName := ⟨R_Mod, "against", "(II)I"⟩
def y_mGo : MethodName := ⟨R_Mod, "goesOut", "(II)V"⟩
def y_mCome : MethodName := ⟨R_Mod, "comesBack", "(I)I"⟩
def y_mPerson : MethodName := ⟨R_Mod, "person", "(III)I"⟩
def y_mBlock : MethodName := ⟨R_Mod, "block", "(IZ)Z"⟩
def y_mReserve : MethodName := ⟨R_Mod, "reserve", "(II)I"⟩
def y_mCard : MethodName := ⟨R_Mod, "card", "(I)I"⟩
def y_mCode : MethodName := ⟨R_Mod, "code", "(I)I"⟩
def y_mScan : MethodName := ⟨R_Mod, "scan", "(I)I"⟩
def y_mTwice : MethodName := ⟨R_Mod, "twice", "()I"⟩
def y_mLend : MethodName := ⟨R_Mod, "lend", "()I"⟩
def y_mBack : MethodName := ⟨R_Mod, "back", "(I)I"⟩
def y_mDrop : MethodName := ⟨R_Mod, "drop", "(I)V"⟩
def y_mEnd : MethodName := ⟨R_Mod, "end", "(Z)I"⟩
def y_mOffl : MethodName := ⟨R_Mod, "offline", "(Z)Z"⟩
def y_mJoin : MethodName := ⟨R_Mod, "join", "(I)I"⟩
def y_mClash : MethodName := ⟨R_Mod, "clash", "(II)I"⟩
def y_mLocker : MethodName := ⟨R_Mod, "locker", "(I)I"⟩
def y_mOpn : MethodName := ⟨R_Mod, "open", "(II)I"⟩
def y_mDoor : MethodName := ⟨R_Mod, "door", "(I)Z"⟩
def y_mReceipt : MethodName := ⟨R_Mod, "receipt", "(I)I"⟩
def y_mScreen : MethodName := ⟨R_Mod, "screen", "()I"⟩
def y_mItem : MethodName := ⟨R_Mod, "item", "(II)I"⟩
def y_mRows : MethodName := ⟨R_Mod, "rows", "()I"⟩
def y_ModI : MethodName := ⟨R_Mod, "<init>", "(I)V"⟩
def y_cell : MethodName := ⟨R_Law, "cell", "([II)I"⟩
