-- ===== PART A: goes FIRST, ahead of the names: the tables' words, and 'selects' of the private methods out of them =====
def lw_okq (q : MethodName × Nat) : Prop := (q.1.cls ≠ "java/lang/invoke/MethodHandle" ∧ q.1.cls ≠ "java/lang/invoke/VarHandle") ∧ Cond.instantiable q.1.cls q.2 ∈ tables_1 ∧ Cond.privateMethod q.1 ∈ tables_1 ∧ Cond.instanceMethod q.1 ∈ tables_1
def lw_privs_1 : List (MethodName × Nat) := [(⟨"MarketHall$Slate", "readNumber", "(IZ[II)I"⟩, 2), (⟨"MarketHall$Slate", "isSign", "(IC)Z"⟩, 2), (⟨"MarketHall$Slate", "isFigure", "(I)Z"⟩, 2), (⟨"MarketHall", "doTasks", "()I"⟩, 7), (⟨"MarketHall$Season", "tellGoods", "()V"⟩, 3), (⟨"MarketHall$Season", "draw", "(I)I"⟩, 3), (⟨"MarketHall$Season", "tellStores", "()V"⟩, 3), (⟨"MarketHall$Season", "tellBuyers", "()V"⟩, 3), (⟨"MarketHall$Season", "tellClocks", "()V"⟩, 3), (⟨"MarketHall$Season", "tellCarriers", "()V"⟩, 3), (⟨"MarketHall$Season", "tellRounds", "()V"⟩, 3), (⟨"MarketHall$Hall", "letHours", "(I)I"⟩, 19), (⟨"java/lang/Throwable", "fillInStackTrace", "(I)Ljava/lang/Throwable;"⟩, 6), (⟨"MarketHall", "deed", "(IIIIIII)I"⟩, 7), (⟨"MarketHall$Hall", "howMany", "([[IIII)I"⟩, 19), (⟨"MarketHallModel", "begin", "()V"⟩, 52)]
def lw_privs_2 : List (MethodName × Nat) := [(⟨"MarketHallModel", "dBegin", "()V"⟩, 52), (⟨"MarketHallModel", "rBegin", "()V"⟩, 52), (⟨"MarketHallModel", "bBegin", "()V"⟩, 52), (⟨"MarketHallModel", "tBegin", "()V"⟩, 52), (⟨"MarketHallModel", "iBegin", "()V"⟩, 52), (⟨"MarketHallModel", "kBegin", "()V"⟩, 52), (⟨"MarketHallModel", "fails", "(ZI)Z"⟩, 52), (⟨"MarketHallModel", "deed", "(IIIIIII)V"⟩, 52), (⟨"MarketHallModel", "xKeep", "(I)V"⟩, 52), (⟨"MarketHallModel", "xRecord", "(IIIIIII)V"⟩, 52), (⟨"MarketHallModel", "dSort", "(IIIII)I"⟩, 52), (⟨"MarketHallModel", "dGrower", "(II)I"⟩, 52), (⟨"MarketHallModel", "isGrower", "(I)Z"⟩, 52), (⟨"MarketHallModel", "isSort", "(I)Z"⟩, 52), (⟨"MarketHallModel", "dFloorLeft", "()I"⟩, 52), (⟨"MarketHallModel", "isThere", "(I)Z"⟩, 52)]
def lw_privs_3 : List (MethodName × Nat) := [(⟨"MarketHallModel", "pal", "(II)I"⟩, 52), (⟨"MarketHallModel", "dPallet", "(IIIIII)I"⟩, 52), (⟨"MarketHallModel", "now", "()I"⟩, 52), (⟨"MarketHallModel", "isPallet", "(I)Z"⟩, 52), (⟨"MarketHallModel", "seed", "(I)V"⟩, 52), (⟨"MarketHallModel", "dFound", "(III)I"⟩, 52), (⟨"MarketHallModel", "draw", "(I)I"⟩, 52), (⟨"MarketHallModel", "dLeast", "(I)I"⟩, 52), (⟨"MarketHallModel", "mStage", "(II)I"⟩, 52), (⟨"MarketHallModel", "kSample", "(II)V"⟩, 52), (⟨"MarketHallModel", "kEnter", "(IIII)V"⟩, 52), (⟨"MarketHallModel", "dGrown", "(II)I"⟩, 52), (⟨"MarketHallModel", "dAdds", "(II)I"⟩, 52), (⟨"MarketHallModel", "dSoldOf", "(I)I"⟩, 52), (⟨"MarketHallModel", "today", "()I"⟩, 52), (⟨"MarketHallModel", "rOutside", "(I)I"⟩, 52)]
def lw_privs_4 : List (MethodName × Nat) := [(⟨"MarketHallModel", "rRoom", "(IIII)I"⟩, 52), (⟨"MarketHallModel", "isRoom", "(I)Z"⟩, 52), (⟨"MarketHallModel", "rMayPut", "(II)Z"⟩, 52), (⟨"MarketHallModel", "isShut", "(I)Z"⟩, 52), (⟨"MarketHallModel", "rLeft", "(I)I"⟩, 52), (⟨"MarketHallModel", "rStanding", "(I)I"⟩, 52), (⟨"MarketHallModel", "rInto", "(II)V"⟩, 52), (⟨"MarketHallModel", "rDoor", "(I)V"⟩, 52), (⟨"MarketHallModel", "mGone", "(II)V"⟩, 52), (⟨"MarketHallModel", "cUnqueue", "(I)V"⟩, 52), (⟨"MarketHallModel", "cOf", "(I)I"⟩, 52), (⟨"MarketHallModel", "cPlace", "(II)I"⟩, 52), (⟨"MarketHallModel", "cTakeOut", "(II)V"⟩, 52), (⟨"MarketHallModel", "rOut", "(I)V"⟩, 52), (⟨"MarketHallModel", "isWaitingOf", "(II)Z"⟩, 52), (⟨"MarketHallModel", "mLost", "(I)V"⟩, 52)]
def lw_privs_5 : List (MethodName × Nat) := [(⟨"MarketHallModel", "mCleared", "(I)V"⟩, 52), (⟨"MarketHallModel", "mWaiting", "(I)I"⟩, 52), (⟨"MarketHallModel", "bLost", "(I)V"⟩, 52), (⟨"MarketHallModel", "gross", "(I)I"⟩, 52), (⟨"MarketHallModel", "kLost", "(I)V"⟩, 52), (⟨"MarketHallModel", "rKept", "(II)I"⟩, 52), (⟨"MarketHallModel", "rPallet", "(II)I"⟩, 52), (⟨"MarketHallModel", "rRipe", "(III)I"⟩, 52), (⟨"MarketHallModel", "hold", "(I)V"⟩, 52), (⟨"MarketHallModel", "rAlone", "(I)V"⟩, 52), (⟨"MarketHallModel", "rHour", "()V"⟩, 52), (⟨"MarketHallModel", "rWarms", "(I)V"⟩, 52), (⟨"MarketHallModel", "rPalletAges", "(I)V"⟩, 52), (⟨"MarketHallModel", "rRipens", "(IIII)I"⟩, 52), (⟨"MarketHallModel", "rHarms", "(III)I"⟩, 52), (⟨"MarketHallModel", "rParcelAges", "(I)V"⟩, 52)]
def lw_privs_6 : List (MethodName × Nat) := [(⟨"MarketHallModel", "tWarmth", "(I)I"⟩, 52), (⟨"MarketHallModel", "release", "(I)V"⟩, 52), (⟨"MarketHallModel", "rFindBest", "(I)V"⟩, 52), (⟨"MarketHallModel", "rFindThree", "()V"⟩, 52), (⟨"MarketHallModel", "rWays", "()I"⟩, 52), (⟨"MarketHallModel", "rDoes", "(I)Z"⟩, 52), (⟨"MarketHallModel", "rFigure", "(II)I"⟩, 52), (⟨"MarketHallModel", "rFine", "()I"⟩, 52), (⟨"MarketHallModel", "isBuyer", "(I)Z"⟩, 52), (⟨"MarketHallModel", "isOrder", "(I)Z"⟩, 52), (⟨"MarketHallModel", "kPaid", "(I)V"⟩, 52), (⟨"MarketHallModel", "bTaker", "(II)I"⟩, 52), (⟨"MarketHallModel", "bFits", "(II)Z"⟩, 52), (⟨"MarketHallModel", "bAsks", "(I)Z"⟩, 52), (⟨"MarketHallModel", "bBuyer", "(I)I"⟩, 52), (⟨"MarketHallModel", "bIsToday", "(I)Z"⟩, 52)]
def lw_privs_7 : List (MethodName × Nat) := [(⟨"MarketHallModel", "weekday", "()I"⟩, 52), (⟨"MarketHallModel", "bLeft", "(I)I"⟩, 52), (⟨"MarketHallModel", "bUnpaid", "(I)I"⟩, 52), (⟨"MarketHallModel", "bOverdue", "(I)I"⟩, 52), (⟨"MarketHallModel", "bOpenBills", "(I)I"⟩, 52), (⟨"MarketHallModel", "bCrates", "(III)I"⟩, 52), (⟨"MarketHallModel", "bOrders", "(I)I"⟩, 52), (⟨"MarketHallModel", "bAsking", "()I"⟩, 52), (⟨"MarketHallModel", "bFill", "()V"⟩, 52), (⟨"MarketHallModel", "bLayFilling", "()V"⟩, 52), (⟨"MarketHallModel", "bNextToServe", "()I"⟩, 52), (⟨"MarketHallModel", "bGetsOne", "(I)Z"⟩, 52), (⟨"MarketHallModel", "bShifts", "(I)V"⟩, 52), (⟨"MarketHallModel", "cClock", "(IIIII)I"⟩, 52), (⟨"MarketHallModel", "isClock", "(I)Z"⟩, 52), (⟨"MarketHallModel", "cQueue", "(IIII)V"⟩, 52)]
def lw_privs_8 : List (MethodName × Nat) := [(⟨"MarketHallModel", "isOpen", "(I)Z"⟩, 52), (⟨"MarketHallModel", "hour", "()I"⟩, 52), (⟨"MarketHallModel", "cTry", "(II)V"⟩, 52), (⟨"MarketHallModel", "cSell", "(I)V"⟩, 52), (⟨"MarketHallModel", "bTakes", "(III)I"⟩, 52), (⟨"MarketHallModel", "mSold", "(IIII)I"⟩, 52), (⟨"MarketHallModel", "bSold", "(I)V"⟩, 52), (⟨"MarketHallModel", "kSold", "(I)V"⟩, 52), (⟨"MarketHallModel", "kGrowerOf", "(I)I"⟩, 52), (⟨"MarketHallModel", "kFee", "(I)I"⟩, 52), (⟨"MarketHallModel", "dCut", "(I)I"⟩, 52), (⟨"MarketHallModel", "cFind", "(I)V"⟩, 52), (⟨"MarketHallModel", "cFirstRow", "(II)V"⟩, 52), (⟨"MarketHallModel", "cLayRow", "(II)V"⟩, 52), (⟨"MarketHallModel", "cNextRow", "(I)Z"⟩, 52), (⟨"MarketHallModel", "cSwap", "(II)V"⟩, 52)]
def lw_privs_9 : List (MethodName × Nat) := [(⟨"MarketHallModel", "cFindStart", "(III)V"⟩, 52), (⟨"MarketHallModel", "tAtDocks", "()I"⟩, 52), (⟨"MarketHallModel", "isAtDock", "(I)Z"⟩, 52), (⟨"MarketHallModel", "isOut", "(I)Z"⟩, 52), (⟨"MarketHallModel", "tLoad", "(IZ)I"⟩, 52), (⟨"MarketHallModel", "isIn", "(II)Z"⟩, 52), (⟨"MarketHallModel", "isParcel", "(I)Z"⟩, 52), (⟨"MarketHallModel", "isTruck", "(I)Z"⟩, 52), (⟨"MarketHallModel", "mayLoad", "(II)Z"⟩, 52), (⟨"MarketHallModel", "tLongNow", "(I)I"⟩, 52), (⟨"MarketHallModel", "tTowns", "(I)I"⟩, 52), (⟨"MarketHallModel", "tTownOf", "(I)I"⟩, 52), (⟨"MarketHallModel", "bTown", "(I)I"⟩, 52), (⟨"MarketHallModel", "tFindTrip", "(I)V"⟩, 52), (⟨"MarketHallModel", "tHoursOfRow", "()I"⟩, 52), (⟨"MarketHallModel", "tNextRow", "()Z"⟩, 52)]
def lw_privs_10 : List (MethodName × Nat) := [(⟨"MarketHallModel", "tNext", "(I)I"⟩, 52), (⟨"MarketHallModel", "qRipe", "(I)I"⟩, 52), (⟨"MarketHallModel", "qHarm", "(I)I"⟩, 52), (⟨"MarketHallModel", "tLayParts", "(I)V"⟩, 52), (⟨"MarketHallModel", "areParts", "(I)Z"⟩, 52), (⟨"MarketHallModel", "tFewest", "(I)I"⟩, 52), (⟨"MarketHallModel", "tWith", "(III)I"⟩, 52), (⟨"MarketHallModel", "iInspector", "(II)I"⟩, 52), (⟨"MarketHallModel", "isInspector", "(I)Z"⟩, 52), (⟨"MarketHallModel", "iIsRow", "(I)Z"⟩, 52), (⟨"MarketHallModel", "iLooked", "(II)I"⟩, 52), (⟨"MarketHallModel", "iNext", "(I)I"⟩, 52), (⟨"MarketHallModel", "iFigureAt", "(II)I"⟩, 52), (⟨"MarketHallModel", "iFindMost", "(II)V"⟩, 52), (⟨"MarketHallModel", "iPlace", "(I)I"⟩, 52), (⟨"MarketHallModel", "iSearch", "(II)I"⟩, 52)]
def lw_privs_11 : List (MethodName × Nat) := [(⟨"MarketHallModel", "iLook", "(II)I"⟩, 52), (⟨"MarketHallModel", "iKind", "(II)I"⟩, 52), (⟨"MarketHallModel", "iFinds", "(IIII)V"⟩, 52), (⟨"MarketHallModel", "iKeep", "(IIIII)V"⟩, 52), (⟨"MarketHallModel", "kFinding", "(I)V"⟩, 52), (⟨"MarketHallModel", "kMayQuarrel", "(I)Z"⟩, 52), (⟨"MarketHallModel", "kAward", "(II)I"⟩, 52), (⟨"MarketHallModel", "kStage", "(I)I"⟩, 52), (⟨"MarketHallModel", "kBears", "(IIII)I"⟩, 52), (⟨"MarketHallModel", "kWeight", "(III)I"⟩, 52), (⟨"MarketHallModel", "kRipened", "(II)I"⟩, 52), (⟨"MarketHallModel", "well", "()V"⟩, 52), (⟨"MarketHallModel", "xFault", "([II)I"⟩, 52), (⟨"MarketHallModel", "xTask", "([II)Z"⟩, 52), (⟨"MarketHallModel", "xNumber", "([IIII)Z"⟩, 52), (⟨"MarketHallModel", "xDoAll", "([III)I"⟩, 52)]
def lw_privs_12 : List (MethodName × Nat) := [(⟨"MarketHallModel", "xDoes", "(I)V"⟩, 52), (⟨"MarketHallModel", "xRecordSigns", "(I)V"⟩, 52), (⟨"MarketHallModel", "xSeason", "(II)V"⟩, 52), (⟨"MarketHallModel", "dSeason", "(I)V"⟩, 52), (⟨"MarketHallModel", "rSeason", "()V"⟩, 52), (⟨"MarketHallModel", "bSeason", "(I)V"⟩, 52), (⟨"MarketHallModel", "cSeason", "(I)V"⟩, 52), (⟨"MarketHallModel", "tSeason", "(I)V"⟩, 52), (⟨"MarketHallModel", "iSeason", "()V"⟩, 52), (⟨"MarketHallModel", "xHour", "()V"⟩, 52), (⟨"MarketHallModel", "tArrive", "()V"⟩, 52), (⟨"MarketHallModel", "tArrives", "(I)V"⟩, 52), (⟨"MarketHallModel", "tIsAt", "(II)V"⟩, 52), (⟨"MarketHallModel", "mCome", "(I)V"⟩, 52), (⟨"MarketHallModel", "bCome", "(I)V"⟩, 52), (⟨"MarketHallModel", "kHauled", "(I)V"⟩, 52)]
def lw_privs_13 : List (MethodName × Nat) := [(⟨"MarketHallModel", "iHour", "()V"⟩, 52), (⟨"MarketHallModel", "cHour", "()V"⟩, 52), (⟨"MarketHallModel", "tGo", "()V"⟩, 52), (⟨"MarketHallModel", "tGoes", "(I)V"⟩, 52), (⟨"MarketHallModel", "bClose", "(I)V"⟩, 52), (⟨"MarketHallModel", "bPays", "(II)V"⟩, 52), (⟨"MarketHallModel", "bFirstDue", "(IIII)I"⟩, 52), (⟨"MarketHallModel", "kClose", "(I)V"⟩, 52), (⟨"MarketHallModel", "rWorked", "()I"⟩, 52), (⟨"MarketHallModel", "rClosed", "()V"⟩, 52), (⟨"MarketHallModel", "kJudges", "(I)V"⟩, 52), (⟨"MarketHallModel", "bGiven", "(II)V"⟩, 52), (⟨"MarketHallModel", "kPaysGrowers", "()V"⟩, 52), (⟨"MarketHallModel", "kToResult", "(I)V"⟩, 52), (⟨"MarketHallModel", "xIsSound", "(I)Z"⟩, 52), (⟨"MarketHallModel", "dSound", "()Z"⟩, 52)]
def lw_privs_14 : List (MethodName × Nat) := [(⟨"MarketHallModel", "dIsWell", "(I)Z"⟩, 52), (⟨"MarketHallModel", "rSound", "()Z"⟩, 52), (⟨"MarketHallModel", "rIsPlaced", "(I)Z"⟩, 52), (⟨"MarketHallModel", "rIsOlder", "(I)Z"⟩, 52), (⟨"MarketHallModel", "bSound", "()Z"⟩, 52), (⟨"MarketHallModel", "bBuyerSound", "(I)Z"⟩, 52), (⟨"MarketHallModel", "cSound", "()Z"⟩, 52), (⟨"MarketHallModel", "tSound", "()Z"⟩, 52), (⟨"MarketHallModel", "tTruckSound", "(I)Z"⟩, 52), (⟨"MarketHallModel", "tLongBySets", "(I)I"⟩, 52), (⟨"MarketHallModel", "tTo", "(II)I"⟩, 52), (⟨"MarketHallModel", "tIsYet", "(II)Z"⟩, 52), (⟨"MarketHallModel", "iSound", "()Z"⟩, 52), (⟨"MarketHallModel", "iSeized", "()I"⟩, 52), (⟨"MarketHallModel", "iIsWell", "(I)Z"⟩, 52), (⟨"MarketHallModel", "kSound", "()Z"⟩, 52)]
def lw_privs_15 : List (MethodName × Nat) := [(⟨"MarketHallModel", "kQuarrelsSound", "()Z"⟩, 52), (⟨"MarketHallModel", "xSound", "()Z"⟩, 52), (⟨"MarketHallModel", "xIsAsWorked", "()Z"⟩, 52), (⟨"MarketHallModel", "xAgain", "(I)V"⟩, 52), (⟨"MarketHallModel", "xAgainMore", "(I)V"⟩, 52), (⟨"MarketHallModel", "xPallets", "(I)I"⟩, 52), (⟨"MarketHallModel", "xParcels", "(I)I"⟩, 52), (⟨"MarketHallModel", "tTrucks", "()I"⟩, 52), (⟨"MarketHallModel", "iInspectors", "()I"⟩, 52), (⟨"MarketHallModel", "kQuarrels", "()I"⟩, 52)]
def lw_privs : List (MethodName × Nat) := lw_privs_1 ++ (lw_privs_2 ++ (lw_privs_3 ++ (lw_privs_4 ++ (lw_privs_5 ++ (lw_privs_6 ++ (lw_privs_7 ++ (lw_privs_8 ++ (lw_privs_9 ++ (lw_privs_10 ++ (lw_privs_11 ++ (lw_privs_12 ++ (lw_privs_13 ++ (lw_privs_14 ++ (lw_privs_15))))))))))))))
def lw_tbl : List Cond := k2_sels lw_privs ++ tables_1
def va_AOA (ty : FieldType) (U : State) : Prop := (Cond.arrayOver (.array ty)).before #[] U = true
def vr_up {α : Type} (f : Nat → α) (l : List Nat) (v : α) : Nat → α := fun a => if a ∈ l then v else f a
section VGM
variable {p : Program} {l : Launch} {e : Env} {R : Room} {s : State} {m : MethodId} {args : Array Value} {below : List Frame} {meth : Method} {c : Code} {H : Heap} {locs : List Loc} {cells slots : Nat} {Q : State → Prop}
variable {cc : ByteArray} {pc : Nat} {ls : Array Slot} {rest : List Value} {D : va_G} {cl : List vw_C} {A : Nat → Prop} {a : Nat} {tys : List (ClassId × FieldType)} {ws : va_W} {H0 : Heap}
end VGM
section VXA
def vx_T (XC : String → State → State → Prop) (st : State) (q : Addr) (t : State) (mc ms : Nat) (free : Addr → Prop) : Prop :=
  ∃ (E : String) (ce : Cell) (L : List Loc), XC E st t ∧ t.heap[q]? = some ce ∧ ce.vm = .none ∧ st.vm.findClass E = some ce.cls ∧ st.WarmedH t.vm ∧ st.sameButNew ({ t with vm := st.vm } : State) L mc ms ∧ ∀ z ∈ L, free z.base
def vx_Q (Qc : Array Value → State → Outcome → State → Prop) (XC : String → State → State → Prop) (mc ms : Nat) (free : Addr → Prop) : Array Value → State → Outcome → State → Prop := fun a st o t =>
  (Qc a st o t ∧ ∃ L, FrameEnd st o t L mc ms ∧ ∀ q ∈ L, free q.base) ∨ ∃ q, o = .threw q ∧ vx_T XC st q t mc ms free
def vx_Met (l : Launch) (y : MethodName) (ws : List Cond) (rm : Room) (Pc : Array Value → State → Prop) (Qc : Array Value → State → Outcome → State → Prop) (XC : String → State → State → Prop) (mc ms : Nat) (free : Addr → Prop) : Prop :=
  MetFree l y (headSpec ws rm) Pc (fun _ _ _ _ _ => True) (vx_Q Qc XC mc ms free)
def vx_Post (XC : String → State → State → Prop) (mc ms : Nat) (free : Addr → Prop) : Pt → Array Value → Addr → Pt → Prop := fun A a q B =>
  ∃ (g : JFrame) (mk : MethodId) (t : State) (L : List Loc) (E : String) (ce : Cell), B.U.heap = t.heap ∧ B.U.vm = t.vm ∧ XC E (A.U.calling g mk a) t ∧ t.heap[q]? = some ce ∧ ce.vm = .none ∧ A.U.vm.findClass E = some ce.cls ∧ B.locs = A.locs ++ L ∧ (∀ z ∈ L, free z.base) ∧ B.cells = A.cells + mc ∧ B.slots = A.slots + ms
def vx_Back (l : Launch) (R : Room) (p : Program) (e : Env) (below : List Frame) (s : State) (sargs : Array Value) (y : MethodName) (len W9 : Nat)
    (Pre : Pt → Array Value → Prop) (Post : Pt → Array Value → Option Value → Pt → Prop) (PostX : Pt → Array Value → Addr → Pt → Prop) : Prop :=
  ∀ (m : MethodId) (meth : Method) (c : Code) (A : Pt) (g : JFrame) (ig : Instr) (mk : MethodId) (a : Array Value),
    Stand p l e R s m sargs below meth c A.U A.locs A.cells A.slots → g.method = m → g.locals.size = c.maxLocals → decode c.code g.pc = .ok (ig, len) →
    2 * g.monitorRoom + (g.stack.map fun v => v.category).sum ≤ W9 → A.U.methodNamed? y = some mk → Pre A a →
    (∃ (v : Option Value) (B : Pt), Stand p l e R s m sargs below meth c B.U B.locs B.cells B.slots ∧ Post A a v B ∧
      Steps p.tables e below (doInvoke e (A.U.setTop g) [] mk a).1 (B.U.setTop { g with pc := g.pc + len, stack := v.toList ++ g.stack })) ∨
    (∃ (q : Addr) (B : Pt), Stand p l e R s m sargs below meth c B.U B.locs B.cells B.slots ∧ PostX A a q B ∧
      Steps p.tables e below (doInvoke e (A.U.setTop g) [] mk a).1 ((B.U.setTop g).pushFrame (.throwing q)))
section Payer
variable {l : Launch} {R : Room} {p : Program} {e : Env} {below : List Frame} {s : State} {sargs : Array Value} {y : MethodName} {len W9 : Nat}
end Payer
section Calls
variable {p : Program} {l : Launch} {e : Env} {R : Room} {s : State} {m : MethodId} {args : Array Value} {below : List Frame} {meth : Method} {c : Code} {T : State} {locs : List Loc} {cells slots : Nat}
end Calls
def vx_W (p : Program) (l : Launch) (e : Env) (R : Room) (s : State) (m : MethodId) (args : Array Value) (below : List Frame) (meth : Method) (c : Code) (H : Heap) (locs : List Loc) (cells slots : Nat) (Q : State → Prop) (g : JFrame) (q : Addr) : Prop :=
  ∀ T : State, T.heap = H → Stand p l e R s m args below meth c T locs cells slots → ∃ t, Steps p.tables e below ((T.setTop g).pushFrame (.throwing q)) t ∧ Q t
def vx_Run (p : Program) (l : Launch) (e : Env) (R : Room) (s : State) (m : MethodId) (args : Array Value) (below : List Frame) (meth : Method) (c : Code) (H : Heap) (locs : List Loc) (cells slots mc ms : Nat) (g : JFrame) (rest : List Value) (Qa : State → Outcome → State → Prop) (XC : String → State → State → Prop) (free : Addr → Prop) : Prop :=
  ∀ T : State, T.heap = H → Stand p l e R s m args below meth c T locs cells slots →
    (∃ (v : Option Value) (st₀ t T' : State) (L : List Loc), st₀.heap = H ∧ Stand p l e R s m args below meth c T' (locs ++ L) (cells + mc) (slots + ms) ∧ (∀ q ∈ L, free q.base) ∧ T'.heap = t.heap ∧ T'.vm = t.vm ∧ Qa st₀ (.returned v) t ∧
      Goes p e below T g T' { g with pc := g.pc + 3, stack := v.toList ++ rest }) ∨
    (∃ (q : Addr) (st₀ t T' : State) (L : List Loc) (E : String) (ce : Cell), st₀.heap = H ∧ Stand p l e R s m args below meth c T' (locs ++ L) (cells + mc) (slots + ms) ∧ (∀ z ∈ L, free z.base) ∧ T'.heap = t.heap ∧ T'.vm = t.vm ∧ XC E st₀ t ∧ t.heap[q]? = some ce ∧ ce.vm = .none ∧ s.vm.findClass E = some ce.cls ∧
      Steps p.tables e below (T.setTop g) ((T'.setTop { g with stack := rest }).pushFrame (.throwing q)))
def vx_X {S : Type} (px : S → Prop) (B : String → S → State → Prop) (A : Nat → Prop) : String → State → State → Prop := fun E st t => ∃ u : S, px u ∧ B E u t ∧ va_F A st t
section Runs
variable {p : Program} {l : Launch} {e : Env} {R : Room} {s : State} {m : MethodId} {args : Array Value} {below : List Frame} {meth : Method} {c : Code} {H : Heap} {locs : List Loc} {cells slots : Nat}
variable {y : MethodName} {bytes cc : ByteArray} {maxL nL mc ms n index : Nat} {ret : Option FieldType} {ws : List Cond} {rm : Room} {Pc : Array Value → State → Prop} {Qc : Array Value → State → Outcome → State → Prop} {XC : String → State → State → Prop} {free : Addr → Prop} {Ts : List Cond} {own C : String} {b : Addr} {As rest : List Value} {g : JFrame}
end Runs
section Rows
variable {p : Program} {l : Launch} {e : Env} {R : Room} {s : State} {m : MethodId} {args : Array Value} {below : List Frame} {meth : Method} {c : Code} {H : Heap} {locs : List Loc} {cells slots : Nat} {Q : State → Prop}
variable {mc ms : Nat} {free : Addr → Prop} {A0 A1 : Nat → Prop} {H0 : Heap} {a : Array Value} {pc : Nat} {ls : Array Slot} {st0 rest : List Value}
end Rows
section Ends
variable {p : Program} {l : Launch} {e : Env} {R : Room} {s : State} {m : MethodId} {args : Array Value} {below : List Frame} {meth : Method} {c : Code} {H : Heap} {locs : List Loc} {cells slots : Nat} {Q : State → Prop}
variable {mc ms : Nat} {free : Addr → Prop} {A0 A1 : Nat → Prop} {H0 : Heap} {a : Array Value} {ls : Array Slot} {st0 rest : List Value}
variable {Qc : Array Value → State → Outcome → State → Prop} {XC : String → State → State → Prop}
def vx_MQ (below : List Frame) (Qc : Array Value → State → Outcome → State → Prop) (XC : String → State → State → Prop) (a : Array Value) (s : State) (mc ms : Nat) (free : Addr → Prop) : State → Prop := fun t =>
  ∃ o, t.status = .running ∧ Ended t below o ∧ vx_Q Qc XC mc ms free a s o t
def vx_no (w : Cond) : Bool := decide (w ≠ .isRef (.static Bundle.tN "UNASSIGNED_STACK" Bundle.steD)) && decide (w ≠ .isRef (.static Bundle.tN "SUPPRESSED_SENTINEL" Bundle.listD)) && decide (w ≠ .laysStatic Bundle.tN "UNASSIGNED_STACK" Bundle.steD) && decide (w ≠ .laysStatic Bundle.tN "SUPPRESSED_SENTINEL" Bundle.listD)
def vx_at0 (own : String) (ic : Nat) (X : String) (names : List String) : List Cond := (Bundle.ownAtoms0 own ic X names).filter vx_no
def vx_atS (own : String) (ic : Nat) (X : String) (names : List String) : List Cond := (Bundle.ownAtoms own ic X names).filter vx_no
def vx_ot (w : Cond) : Bool := w.onTables || goodWord w
def vx_L (C n d : String) (A : Nat → Prop) (U : State) (H : Heap) : Prop := ∃ (c : ClassId) (k : Class) (i : Nat) (f : Field) (a : Nat) (cell : Cell), U.vm.findClass C = some c ∧ U.fieldFound? C n d = some (c, k, i, f) ∧ f.isStatic = true ∧ k.statics = some a ∧ H[a]? = some cell ∧ cell.vm.isStatics = true ∧ cell.cls = c ∧ f.slot < cell.slots.size ∧ k.staticTypes[f.slot]? = some f.type ∧ ¬ A a
def vx_Zq (C n d : String) (A : Nat → Prop) (U : State) (H : Heap) : Prop := va_Zq C n d A U H ∧ vx_L C n d A U H
end Ends
section Bodies
variable {l : Launch}
end Bodies
end VXA
section VXS
variable {p : Program} {l : Launch} {e : Env} {R : Room} {s : State} {m : MethodId} {args : Array Value} {below : List Frame} {meth : Method} {c : Code} {T : State} {H : Heap} {locs : List Loc} {cells slots : Nat}
abbrev vx_CSW (R : Room) (s : State) (args : Array Value) (own : String) (index : Nat) (y : MethodName) (bytes : ByteArray) (maxL : Nat) (ret : Option FieldType) (hh : List (Nat × Nat × Nat × Nat)) (ws : List Cond) (rm : Room) (mc ms n : Nat) : Prop :=
  (rm.cells = mc ∧ rm.slots = ms ∧ rm.frames + 1 ≤ R.frames ∧ 8 + (maxL + 11) + rm.locals ≤ R.locals ∧ (∀ w ∈ ws, ∀ (a' : Array Value) (U : State), s.WarmedH U.vm → w.before a' U = true) ∧ Cond.codeWith y bytes maxL ret hh ∈ ws) ∧
  (Cond.codeWith y bytes maxL ret hh).before args s = true ∧ (Cond.initialized y.cls).before args s = true ∧ (y.cls ≠ "java/lang/invoke/MethodHandle" ∧ y.cls ≠ "java/lang/invoke/VarHandle") ∧
  (∀ sig, parseMethodDescriptor y.desc = some sig → n = sig.parameters.length) ∧ (Cond.methodLink own index y).before args s = true ∧ (Cond.static y).before args s = true
end VXS
section VXH
section
variable {l : Launch} {R : Room} {p : Program} {e : Env} {below : List Frame} {s : State} {sargs : Array Value} {y : MethodName} {len W9 : Nat}
end
variable {p : Program} {l : Launch} {e : Env} {R : Room} {s : State} {m : MethodId} {args : Array Value} {below : List Frame} {meth : Method} {c : Code} {T : State} {H : Heap} {locs : List Loc} {cells slots : Nat}
abbrev vx_CVW (R : Room) (s : State) (args : Array Value) (own C : String) (index : Nat) (y : MethodName) (bytes : ByteArray) (maxL : Nat) (ret : Option FieldType) (hh : List (Nat × Nat × Nat × Nat)) (ws : List Cond) (rm : Room) (mc ms n : Nat) : Prop :=
  (rm.cells = mc ∧ rm.slots = ms ∧ rm.frames + 1 ≤ R.frames ∧ 8 + (maxL + 11) + rm.locals ≤ R.locals ∧ (∀ w ∈ ws, ∀ (a' : Array Value) (U : State), s.WarmedH U.vm → w.before a' U = true) ∧ Cond.codeWith y bytes maxL ret hh ∈ ws) ∧
  (Cond.codeWith y bytes maxL ret hh).before args s = true ∧ (Cond.initialized y.cls).before args s = true ∧ (y.cls ≠ "java/lang/invoke/MethodHandle" ∧ y.cls ≠ "java/lang/invoke/VarHandle") ∧
  (∀ sig, parseMethodDescriptor y.desc = some sig → n = sig.parameters.length) ∧ (Cond.methodLink own index y).before args s = true ∧ (Cond.instanceMethod y).before args s = true ∧ (Cond.selects C y y).before args s = true
section
variable {y : MethodName} {bytes cc : ByteArray} {maxL nL mc ms n index : Nat} {ret : Option FieldType} {ws : List Cond} {rm : Room} {Pc : Array Value → State → Prop} {Qc : Array Value → State → Outcome → State → Prop} {XC : String → State → State → Prop} {free : Addr → Prop} {Ts : List Cond} {own C : String} {b : Addr} {As rest : List Value} {g : JFrame}
end
end VXH
def RX0 : String := "MarketHall$Books"
def TX0 : u_T := fun k => match k with
  | _ => ("", "", "", false)
def tyX0 : Nat → FieldType := fun k => match k with
  | _ => .int
abbrev wsX00 : List Cond := u_ws RX0 TX0 0
abbrev cX0_enter : ByteArray := prog_2_method_2_code
def yX0_enter : MethodName := ⟨RX0, "enter", "(LMarketHall$Hall;IIII)V"⟩
abbrev cX0_enterSold : ByteArray := prog_2_method_3_code
def yX0_enterSold : MethodName := ⟨RX0, "enterSold", "(LMarketHall$Hall;[I)V"⟩
abbrev cX0_canQuarrel : ByteArray := prog_2_method_4_code
def yX0_canQuarrel : MethodName := ⟨RX0, "canQuarrel", "(LMarketHall$Hall;I)Z"⟩
abbrev cX0_addQuarrel : ByteArray := prog_2_method_5_code
def yX0_addQuarrel : MethodName := ⟨RX0, "addQuarrel", "(LMarketHall$Hall;II)I"⟩
abbrev cX0_award : ByteArray := prog_2_method_6_code
def yX0_award : MethodName := ⟨RX0, "award", "(LMarketHall$Hall;[II)I"⟩
abbrev cX0_shareAward : ByteArray := prog_2_method_7_code
def yX0_shareAward : MethodName := ⟨RX0, "shareAward", "(LMarketHall$Hall;[III[I)V"⟩
abbrev cX0_share : ByteArray := prog_2_method_8_code
def yX0_share : MethodName := ⟨RX0, "share", "(IIII[I)V"⟩
abbrev cX0_closeDay : ByteArray := prog_2_method_9_code
def yX0_closeDay : MethodName := ⟨RX0, "closeDay", "(LMarketHall$Hall;)V"⟩
abbrev cX0_judge : ByteArray := prog_2_method_10_code
def yX0_judge : MethodName := ⟨RX0, "judge", "(LMarketHall$Hall;[I)V"⟩
abbrev cX0_payOut : ByteArray := prog_2_method_11_code
def yX0_payOut : MethodName := ⟨RX0, "payOut", "(LMarketHall$Hall;)V"⟩
abbrev cX0_areSound : ByteArray := prog_2_method_12_code
def yX0_areSound : MethodName := ⟨RX0, "areSound", "(LMarketHall$Hall;)Z"⟩
def RX1 : String := "MarketHall$Buyers"
def TX1 : u_T := fun k => match k with
  | _ => ("", "", "", false)
def tyX1 : Nat → FieldType := fun k => match k with
  | _ => .int
abbrev wsX10 : List Cond := u_ws RX1 TX1 0
abbrev cX1_addBuyer : ByteArray := prog_3_method_2_code
def yX1_addBuyer : MethodName := ⟨RX1, "addBuyer", "(LMarketHall$Hall;III)I"⟩
abbrev cX1_addOrder : ByteArray := prog_3_method_3_code
def yX1_addOrder : MethodName := ⟨RX1, "addOrder", "(LMarketHall$Hall;IIIIII)I"⟩
abbrev cX1_cancelFault : ByteArray := prog_3_method_4_code
def yX1_cancelFault : MethodName := ⟨RX1, "cancelFault", "(LMarketHall$Hall;I)I"⟩
abbrev cX1_cancelOrder : ByteArray := prog_3_method_5_code
def yX1_cancelOrder : MethodName := ⟨RX1, "cancelOrder", "(LMarketHall$Hall;I)I"⟩
abbrev cX1_payIn : ByteArray := prog_3_method_6_code
def yX1_payIn : MethodName := ⟨RX1, "payIn", "(LMarketHall$Hall;II)I"⟩
abbrev cX1_left : ByteArray := prog_3_method_7_code
def yX1_left : MethodName := ⟨RX1, "left", "([I)I"⟩
abbrev cX1_tellBuyer : ByteArray := prog_3_method_8_code
def yX1_tellBuyer : MethodName := ⟨RX1, "tellBuyer", "(LMarketHall$Hall;II)I"⟩
abbrev cX1_tellParcel : ByteArray := prog_3_method_9_code
def yX1_tellParcel : MethodName := ⟨RX1, "tellParcel", "(LMarketHall$Hall;[II)I"⟩
abbrev cX1_asks : ByteArray := prog_3_method_10_code
def yX1_asks : MethodName := ⟨RX1, "asks", "(LMarketHall$Hall;[I)Z"⟩
abbrev cX1_suits : ByteArray := prog_3_method_11_code
def yX1_suits : MethodName := ⟨RX1, "suits", "([I[I)Z"⟩
abbrev cX1_highestOf : ByteArray := prog_3_method_12_code
def yX1_highestOf : MethodName := ⟨RX1, "highestOf", "(LMarketHall$Hall;[I[I)I"⟩
abbrev cX1_highestPrice : ByteArray := prog_3_method_13_code
def yX1_highestPrice : MethodName := ⟨RX1, "highestPrice", "(LMarketHall$Hall;[I)I"⟩
abbrev cX1_takerOf : ByteArray := prog_3_method_14_code
def yX1_takerOf : MethodName := ⟨RX1, "takerOf", "(LMarketHall$Hall;[II)I"⟩
abbrev cX1_sell : ByteArray := prog_3_method_15_code
def yX1_sell : MethodName := ⟨RX1, "sell", "(LMarketHall$Hall;III)[I"⟩
abbrev cX1_enterLost : ByteArray := prog_3_method_16_code
def yX1_enterLost : MethodName := ⟨RX1, "enterLost", "(LMarketHall$Hall;[I)V"⟩
abbrev cX1_come : ByteArray := prog_3_method_17_code
def yX1_come : MethodName := ⟨RX1, "come", "(LMarketHall$Hall;[I)V"⟩
abbrev cX1_giveBack : ByteArray := prog_3_method_18_code
def yX1_giveBack : MethodName := ⟨RX1, "giveBack", "(LMarketHall$Hall;[II)V"⟩
abbrev cX1_closeDay : ByteArray := prog_3_method_19_code
def yX1_closeDay : MethodName := ⟨RX1, "closeDay", "(LMarketHall$Hall;)V"⟩
abbrev cX1_payBillsOf : ByteArray := prog_3_method_20_code
def yX1_payBillsOf : MethodName := ⟨RX1, "payBillsOf", "(LMarketHall$Hall;II)V"⟩
abbrev cX1_fill : ByteArray := prog_3_method_21_code
def yX1_fill : MethodName := ⟨RX1, "fill", "(LMarketHall$Hall;[I)I"⟩
abbrev cX1_findSupply : ByteArray := prog_3_method_22_code
def yX1_findSupply : MethodName := ⟨RX1, "findSupply", "(LMarketHall$Hall;[I)V"⟩
abbrev cX1_nextToFill : ByteArray := prog_3_method_23_code
def yX1_nextToFill : MethodName := ⟨RX1, "nextToFill", "(LMarketHall$Hall;[I)I"⟩
abbrev cX1_giveFrom : ByteArray := prog_3_method_24_code
def yX1_giveFrom : MethodName := ⟨RX1, "giveFrom", "([I[I)I"⟩
abbrev cX1_cratesGiven : ByteArray := prog_3_method_25_code
def yX1_cratesGiven : MethodName := ⟨RX1, "cratesGiven", "(LMarketHall$Hall;[I)I"⟩
abbrev cX1_howManyAsk : ByteArray := prog_3_method_26_code
def yX1_howManyAsk : MethodName := ⟨RX1, "howManyAsk", "(LMarketHall$Hall;)I"⟩
abbrev cX1_areSound : ByteArray := prog_3_method_27_code
def yX1_areSound : MethodName := ⟨RX1, "areSound", "(LMarketHall$Hall;)Z"⟩
def RX2 : String := "MarketHall$Carriers"
def TX2 : u_T := fun k => match k with
  | _ => ("", "", "", false)
def tyX2 : Nat → FieldType := fun k => match k with
  | _ => .int
abbrev wsX20 : List Cond := u_ws RX2 TX2 0
abbrev cX2_changeWay : ByteArray := prog_4_method_2_code
def yX2_changeWay : MethodName := ⟨RX2, "changeWay", "(LMarketHall$Hall;III)I"⟩
abbrev cX2_addTruck : ByteArray := prog_4_method_3_code
def yX2_addTruck : MethodName := ⟨RX2, "addTruck", "(LMarketHall$Hall;II)I"⟩
abbrev cX2_cratesIn : ByteArray := prog_4_method_4_code
def yX2_cratesIn : MethodName := ⟨RX2, "cratesIn", "(LMarketHall$Hall;I)I"⟩
abbrev cX2_parcelsIn : ByteArray := prog_4_method_5_code
def yX2_parcelsIn : MethodName := ⟨RX2, "parcelsIn", "(LMarketHall$Hall;I)I"⟩
abbrev cX2_atDocks : ByteArray := prog_4_method_6_code
def yX2_atDocks : MethodName := ⟨RX2, "atDocks", "(LMarketHall$Hall;)I"⟩
abbrev cX2_loadFault : ByteArray := prog_4_method_7_code
def yX2_loadFault : MethodName := ⟨RX2, "loadFault", "(LMarketHall$Hall;II)I"⟩
abbrev cX2_loadParcel : ByteArray := prog_4_method_8_code
def yX2_loadParcel : MethodName := ⟨RX2, "loadParcel", "(LMarketHall$Hall;II)I"⟩
abbrev cX2_sendFault : ByteArray := prog_4_method_9_code
def yX2_sendFault : MethodName := ⟨RX2, "sendFault", "(LMarketHall$Hall;II)I"⟩
abbrev cX2_townsOf : ByteArray := prog_4_method_10_code
def yX2_townsOf : MethodName := ⟨RX2, "townsOf", "(LMarketHall$Hall;I)I"⟩
abbrev cX2_townOf : ByteArray := prog_4_method_11_code
def yX2_townOf : MethodName := ⟨RX2, "townOf", "(LMarketHall$Hall;[I)I"⟩
abbrev cX2_shortestTrip : ByteArray := prog_4_method_12_code
def yX2_shortestTrip : MethodName := ⟨RX2, "shortestTrip", "(LMarketHall$Hall;I[I)I"⟩
abbrev cX2_hoursOf : ByteArray := prog_4_method_13_code
def yX2_hoursOf : MethodName := ⟨RX2, "hoursOf", "(LMarketHall$Hall;[II)I"⟩
abbrev cX2_longBySets : ByteArray := prog_4_method_14_code
def yX2_longBySets : MethodName := ⟨RX2, "longBySets", "(LMarketHall$Hall;I)I"⟩
abbrev cX2_goIfDue : ByteArray := prog_4_method_15_code
def yX2_goIfDue : MethodName := ⟨RX2, "goIfDue", "(LMarketHall$Hall;I)V"⟩
abbrev cX2_arrive : ByteArray := prog_4_method_16_code
def yX2_arrive : MethodName := ⟨RX2, "arrive", "(LMarketHall$Hall;)V"⟩
abbrev cX2_bring : ByteArray := prog_4_method_17_code
def yX2_bring : MethodName := ⟨RX2, "bring", "(LMarketHall$Hall;II)V"⟩
abbrev cX2_tellTruck : ByteArray := prog_4_method_18_code
def yX2_tellTruck : MethodName := ⟨RX2, "tellTruck", "(LMarketHall$Hall;II)I"⟩
abbrev cX2_nextDue : ByteArray := prog_4_method_19_code
def yX2_nextDue : MethodName := ⟨RX2, "nextDue", "(LMarketHall$Hall;[I)I"⟩
abbrev cX2_partedFor : ByteArray := prog_4_method_20_code
def yX2_partedFor : MethodName := ⟨RX2, "partedFor", "(LMarketHall$Hall;I[I)I"⟩
abbrev cX2_greatest : ByteArray := prog_4_method_21_code
def yX2_greatest : MethodName := ⟨RX2, "greatest", "([II)I"⟩
abbrev cX2_fewestLoads : ByteArray := prog_4_method_22_code
def yX2_fewestLoads : MethodName := ⟨RX2, "fewestLoads", "([III[I)I"⟩
abbrev cX2_areSound : ByteArray := prog_4_method_23_code
def yX2_areSound : MethodName := ⟨RX2, "areSound", "(LMarketHall$Hall;)Z"⟩
abbrev cX2_isDue : ByteArray := prog_4_method_24_code
def yX2_isDue : MethodName := ⟨RX2, "isDue", "(LMarketHall$Hall;[I)Z"⟩
def RX3 : String := "MarketHall$Clocks"
def TX3 : u_T := fun k => match k with
  | _ => ("", "", "", false)
def tyX3 : Nat → FieldType := fun k => match k with
  | _ => .int
abbrev wsX30 : List Cond := u_ws RX3 TX3 0
abbrev cX3_addClock : ByteArray := prog_5_method_2_code
def yX3_addClock : MethodName := ⟨RX3, "addClock", "(LMarketHall$Hall;IIIII)I"⟩
abbrev cX3_queueFault : ByteArray := prog_5_method_3_code
def yX3_queueFault : MethodName := ⟨RX3, "queueFault", "(LMarketHall$Hall;IIII)I"⟩
abbrev cX3_queuePallet : ByteArray := prog_5_method_4_code
def yX3_queuePallet : MethodName := ⟨RX3, "queuePallet", "(LMarketHall$Hall;IIII)I"⟩
abbrev cX3_writeLot : ByteArray := prog_5_method_5_code
def yX3_writeLot : MethodName := ⟨RX3, "writeLot", "(LMarketHall$Hall;IIII)V"⟩
abbrev cX3_withdrawFault : ByteArray := prog_5_method_6_code
def yX3_withdrawFault : MethodName := ⟨RX3, "withdrawFault", "(LMarketHall$Hall;I)I"⟩
abbrev cX3_takeOut : ByteArray := prog_5_method_7_code
def yX3_takeOut : MethodName := ⟨RX3, "takeOut", "(LMarketHall$Hall;I)I"⟩
abbrev cX3_moveUp : ByteArray := prog_5_method_8_code
def yX3_moveUp : MethodName := ⟨RX3, "moveUp", "(LMarketHall$Hall;II)V"⟩
abbrev cX3_isOpen : ByteArray := prog_5_method_9_code
def yX3_isOpen : MethodName := ⟨RX3, "isOpen", "(LMarketHall$Hall;I)Z"⟩
abbrev cX3_lotsDue : ByteArray := prog_5_method_10_code
def yX3_lotsDue : MethodName := ⟨RX3, "lotsDue", "(LMarketHall$Hall;I)I"⟩
abbrev cX3_sellFirst : ByteArray := prog_5_method_11_code
def yX3_sellFirst : MethodName := ⟨RX3, "sellFirst", "(LMarketHall$Hall;I)V"⟩
abbrev cX3_sellOn : ByteArray := prog_5_method_12_code
def yX3_sellOn : MethodName := ⟨RX3, "sellOn", "(LMarketHall$Hall;II)I"⟩
abbrev cX3_tellTakings : ByteArray := prog_5_method_13_code
def yX3_tellTakings : MethodName := ⟨RX3, "tellTakings", "(LMarketHall$Hall;LMarketHall$Hall;III)I"⟩
abbrev cX3_bestRowOf : ByteArray := prog_5_method_14_code
def yX3_bestRowOf : MethodName := ⟨RX3, "bestRowOf", "(LMarketHall$Hall;LMarketHall$Hall;I[I)I"⟩
abbrev cX3_insert : ByteArray := prog_5_method_15_code
def yX3_insert : MethodName := ⟨RX3, "insert", "([III)V"⟩
abbrev cX3_lotOf : ByteArray := prog_5_method_16_code
def yX3_lotOf : MethodName := ⟨RX3, "lotOf", "(LMarketHall$Hall;II)[I"⟩
abbrev cX3_nextRow : ByteArray := prog_5_method_17_code
def yX3_nextRow : MethodName := ⟨RX3, "nextRow", "([II)Z"⟩
abbrev cX3_swap : ByteArray := prog_5_method_18_code
def yX3_swap : MethodName := ⟨RX3, "swap", "([III)V"⟩
abbrev cX3_bestStartOf : ByteArray := prog_5_method_19_code
def yX3_bestStartOf : MethodName := ⟨RX3, "bestStartOf", "(LMarketHall$Hall;LMarketHall$Hall;III[I)I"⟩
abbrev cX3_areSound : ByteArray := prog_5_method_20_code
def yX3_areSound : MethodName := ⟨RX3, "areSound", "(LMarketHall$Hall;LMarketHall$Hall;[I)Z"⟩
abbrev cX3_lotsOf : ByteArray := prog_5_method_21_code
def yX3_lotsOf : MethodName := ⟨RX3, "lotsOf", "(LMarketHall$Hall;I)I"⟩
def RX4 : String := "MarketHall$Deeds"
def TX4 : u_T := fun k => match k with
  | 0 => ("MarketHall$Deeds", "acts", "[[I", true)
  | 1 => ("MarketHall$Deeds", "chain", "[I", true)
  | 2 => ("MarketHall$Deeds", "nothing", "LMarketHall$Hall;", true)
  | 3 => ("MarketHall$Deeds", "before", "[LMarketHall$Hall;", true)
  | 4 => ("MarketHall$Deeds", "images", "[LMarketHall$Hall;", true)
  | 5 => ("MarketHall$Deeds", "isKept", "[Z", true)
  | 6 => ("MarketHall$Deeds", "many", "I", false)
  | 7 => ("MarketHall$Deeds", "newest", "I", false)
  | _ => ("MarketHall$Deeds", "undoable", "I", false)
def tyX4 : Nat → FieldType := fun k => match k with
  | 0 => .array (.array .int)
  | 1 => .array .int
  | 2 => .object "MarketHall$Hall"
  | 3 => .array (.object "MarketHall$Hall")
  | 4 => .array (.object "MarketHall$Hall")
  | 5 => .array .boolean
  | 6 => .int
  | 7 => .int
  | _ => .int
abbrev wsX40 : List Cond := u_ws RX4 TX4 9
abbrev cX4_init : ByteArray := prog_6_method_1_code
def yX4_init : MethodName := ⟨RX4, "<init>", "()V"⟩
abbrev cX4_begin : ByteArray := prog_6_method_2_code
def yX4_begin : MethodName := ⟨RX4, "begin", "(LMarketHall$Hall;)V"⟩
abbrev cX4_record : ByteArray := prog_6_method_3_code
def yX4_record : MethodName := ⟨RX4, "record", "(LMarketHall$Hall;[I)V"⟩
abbrev cX4_takeBack : ByteArray := prog_6_method_4_code
def yX4_takeBack : MethodName := ⟨RX4, "takeBack", "(LMarketHall$Hall;)I"⟩
abbrev cX4_keepImage : ByteArray := prog_6_method_5_code
def yX4_keepImage : MethodName := ⟨RX4, "keepImage", "(LMarketHall$Hall;I)V"⟩
abbrev cX4_goOnFrom : ByteArray := prog_6_method_6_code
def yX4_goOnFrom : MethodName := ⟨RX4, "goOnFrom", "(LMarketHall$Hall;I)V"⟩
abbrev cX4_leadTo : ByteArray := prog_6_method_7_code
def yX4_leadTo : MethodName := ⟨RX4, "leadTo", "(LMarketHall$Hall;LMarketHall$Hall;)Z"⟩
def RX5 : String := "MarketHall$Goods"
def TX5 : u_T := fun k => match k with
  | _ => ("", "", "", false)
def tyX5 : Nat → FieldType := fun k => match k with
  | _ => .int
abbrev wsX50 : List Cond := u_ws RX5 TX5 0
abbrev cX5_addSort : ByteArray := prog_7_method_2_code
def yX5_addSort : MethodName := ⟨RX5, "addSort", "(LMarketHall$Hall;IIIII)I"⟩
abbrev cX5_addGrower : ByteArray := prog_7_method_3_code
def yX5_addGrower : MethodName := ⟨RX5, "addGrower", "(LMarketHall$Hall;II)I"⟩
abbrev cX5_addPallet : ByteArray := prog_7_method_4_code
def yX5_addPallet : MethodName := ⟨RX5, "addPallet", "(LMarketHall$Hall;IIIII)I"⟩
abbrev cX5_stage : ByteArray := prog_7_method_5_code
def yX5_stage : MethodName := ⟨RX5, "stage", "(LMarketHall$Hall;II)I"⟩
abbrev cX5_least : ByteArray := prog_7_method_6_code
def yX5_least : MethodName := ⟨RX5, "least", "(LMarketHall$Hall;[I)I"⟩
abbrev cX5_nextSeed : ByteArray := prog_7_method_7_code
def yX5_nextSeed : MethodName := ⟨RX5, "nextSeed", "(I)I"⟩
abbrev cX5_gradePallet : ByteArray := prog_7_method_8_code
def yX5_gradePallet : MethodName := ⟨RX5, "gradePallet", "(LMarketHall$Hall;IIII)I"⟩
abbrev cX5_gradeBy : ByteArray := prog_7_method_9_code
def yX5_gradeBy : MethodName := ⟨RX5, "gradeBy", "(II)I"⟩
abbrev cX5_isThere : ByteArray := prog_7_method_10_code
def yX5_isThere : MethodName := ⟨RX5, "isThere", "([I)Z"⟩
abbrev cX5_waitingOf : ByteArray := prog_7_method_11_code
def yX5_waitingOf : MethodName := ⟨RX5, "waitingOf", "(LMarketHall$Hall;I)I"⟩
abbrev cX5_soldOf : ByteArray := prog_7_method_12_code
def yX5_soldOf : MethodName := ⟨RX5, "soldOf", "(LMarketHall$Hall;I)I"⟩
abbrev cX5_takeAway : ByteArray := prog_7_method_13_code
def yX5_takeAway : MethodName := ⟨RX5, "takeAway", "(LMarketHall$Hall;II)I"⟩
abbrev cX5_clearIfDone : ByteArray := prog_7_method_14_code
def yX5_clearIfDone : MethodName := ⟨RX5, "clearIfDone", "(LMarketHall$Hall;I)V"⟩
abbrev cX5_tellPallet : ByteArray := prog_7_method_15_code
def yX5_tellPallet : MethodName := ⟨RX5, "tellPallet", "(LMarketHall$Hall;II)I"⟩
abbrev cX5_tellGrower : ByteArray := prog_7_method_16_code
def yX5_tellGrower : MethodName := ⟨RX5, "tellGrower", "(LMarketHall$Hall;II)I"⟩
abbrev cX5_tellForGrower : ByteArray := prog_7_method_17_code
def yX5_tellForGrower : MethodName := ⟨RX5, "tellForGrower", "(LMarketHall$Hall;II)I"⟩
abbrev cX5_choose : ByteArray := prog_7_method_18_code
def yX5_choose : MethodName := ⟨RX5, "choose", "(II)J"⟩
abbrev cX5_waysFoundAtMost : ByteArray := prog_7_method_19_code
def yX5_waysFoundAtMost : MethodName := ⟨RX5, "waysFoundAtMost", "(IIII)J"⟩
abbrev cX5_commonDivisor : ByteArray := prog_7_method_20_code
def yX5_commonDivisor : MethodName := ⟨RX5, "commonDivisor", "(JJ)J"⟩
abbrev cX5_leastPlan : ByteArray := prog_7_method_21_code
def yX5_leastPlan : MethodName := ⟨RX5, "leastPlan", "(III)I"⟩
abbrev cX5_areSound : ByteArray := prog_7_method_22_code
def yX5_areSound : MethodName := ⟨RX5, "areSound", "(LMarketHall$Hall;)Z"⟩
abbrev cX5_isInRanges : ByteArray := prog_7_method_23_code
def yX5_isInRanges : MethodName := ⟨RX5, "isInRanges", "([I)Z"⟩
abbrev cX5_isFrom : ByteArray := prog_7_method_24_code
def yX5_isFrom : MethodName := ⟨RX5, "isFrom", "(III)Z"⟩
abbrev cX5_haveNoLeftovers : ByteArray := prog_7_method_25_code
def yX5_haveNoLeftovers : MethodName := ⟨RX5, "haveNoLeftovers", "(LMarketHall$Hall;)Z"⟩
def RX6 : String := "MarketHall$Hall"
def TX6 : u_T := fun k => match k with
  | 0 => ("MarketHall$Hall", "of", "[I", true)
  | 1 => ("MarketHall$Hall", "outside", "[I", true)
  | 2 => ("MarketHall$Hall", "tariffs", "[I", true)
  | 3 => ("MarketHall$Hall", "accounts", "[I", true)
  | 4 => ("MarketHall$Hall", "ways", "[[I", true)
  | 5 => ("MarketHall$Hall", "sorts", "[[I", true)
  | 6 => ("MarketHall$Hall", "growers", "[[I", true)
  | 7 => ("MarketHall$Hall", "rooms", "[[I", true)
  | 8 => ("MarketHall$Hall", "pallets", "[[I", true)
  | 9 => ("MarketHall$Hall", "buyers", "[[I", true)
  | 10 => ("MarketHall$Hall", "orders", "[[I", true)
  | 11 => ("MarketHall$Hall", "parcels", "[[I", true)
  | 12 => ("MarketHall$Hall", "clocks", "[[I", true)
  | 13 => ("MarketHall$Hall", "lots", "[[I", true)
  | 14 => ("MarketHall$Hall", "trucks", "[[I", true)
  | 15 => ("MarketHall$Hall", "inspectors", "[[I", true)
  | 16 => ("MarketHall$Hall", "findings", "[[I", true)
  | 17 => ("MarketHall$Hall", "entries", "[[I", true)
  | _ => ("MarketHall$Hall", "quarrels", "[[I", true)
def tyX6 : Nat → FieldType := fun k => match k with
  | 0 => .array .int
  | 1 => .array .int
  | 2 => .array .int
  | 3 => .array .int
  | 4 => .array (.array .int)
  | 5 => .array (.array .int)
  | 6 => .array (.array .int)
  | 7 => .array (.array .int)
  | 8 => .array (.array .int)
  | 9 => .array (.array .int)
  | 10 => .array (.array .int)
  | 11 => .array (.array .int)
  | 12 => .array (.array .int)
  | 13 => .array (.array .int)
  | 14 => .array (.array .int)
  | 15 => .array (.array .int)
  | 16 => .array (.array .int)
  | 17 => .array (.array .int)
  | _ => .array (.array .int)
abbrev wsX60 : List Cond := u_ws RX6 TX6 19
abbrev cX6_init : ByteArray := prog_8_method_1_code
def yX6_init : MethodName := ⟨RX6, "<init>", "()V"⟩
abbrev cX6_copy : ByteArray := prog_8_method_2_code
def yX6_copy : MethodName := ⟨RX6, "copy", "(LMarketHall$Hall;)V"⟩
abbrev cX6_copyRows : ByteArray := prog_8_method_3_code
def yX6_copyRows : MethodName := ⟨RX6, "copyRows", "([[I[[I)V"⟩
abbrev cX6_copyRow : ByteArray := prog_8_method_4_code
def yX6_copyRow : MethodName := ⟨RX6, "copyRow", "([I[I)V"⟩
abbrev cX6_isLike : ByteArray := prog_8_method_5_code
def yX6_isLike : MethodName := ⟨RX6, "isLike", "(LMarketHall$Hall;)Z"⟩
abbrev cX6_likeRows : ByteArray := prog_8_method_6_code
def yX6_likeRows : MethodName := ⟨RX6, "likeRows", "([[I[[I)Z"⟩
abbrev cX6_likeRow : ByteArray := prog_8_method_7_code
def yX6_likeRow : MethodName := ⟨RX6, "likeRow", "([I[II)Z"⟩
abbrev cX6_today : ByteArray := prog_8_method_8_code
def yX6_today : MethodName := ⟨RX6, "today", "()I"⟩
abbrev cX6_isToday : ByteArray := prog_8_method_9_code
def yX6_isToday : MethodName := ⟨RX6, "isToday", "(I)Z"⟩
abbrev cX6_taskFault : ByteArray := prog_8_method_10_code
def yX6_taskFault : MethodName := ⟨RX6, "taskFault", "([I)I"⟩
abbrev cX6_perform : ByteArray := prog_8_method_11_code
def yX6_perform : MethodName := ⟨RX6, "perform", "([I)I"⟩
abbrev cX6_swap : ByteArray := prog_8_method_12_code
def yX6_swap : MethodName := ⟨RX6, "swap", "([III)I"⟩
abbrev cX6_letHours : ByteArray := prog_8_method_13_code
def yX6_letHours : MethodName := ⟨RX6, "letHours", "(I)I"⟩
abbrev cX6_tellSum : ByteArray := prog_8_method_14_code
def yX6_tellSum : MethodName := ⟨RX6, "tellSum", "(I)I"⟩
abbrev cX6_howMany : ByteArray := prog_8_method_15_code
def yX6_howMany : MethodName := ⟨RX6, "howMany", "([[IIII)I"⟩
def RX7 : String := "MarketHall$Rounds"
def TX7 : u_T := fun k => match k with
  | _ => ("", "", "", false)
def tyX7 : Nat → FieldType := fun k => match k with
  | _ => .int
abbrev wsX70 : List Cond := u_ws RX7 TX7 0
abbrev cX7_addInspector : ByteArray := prog_9_method_2_code
def yX7_addInspector : MethodName := ⟨RX7, "addInspector", "(LMarketHall$Hall;II)I"⟩
abbrev cX7_areStops : ByteArray := prog_9_method_3_code
def yX7_areStops : MethodName := ⟨RX7, "areStops", "(LMarketHall$Hall;I)Z"⟩
abbrev cX7_changeRound : ByteArray := prog_9_method_4_code
def yX7_changeRound : MethodName := ⟨RX7, "changeRound", "(LMarketHall$Hall;III)I"⟩
abbrev cX7_howManyStops : ByteArray := prog_9_method_5_code
def yX7_howManyStops : MethodName := ⟨RX7, "howManyStops", "(I)I"⟩
abbrev cX7_stopAt : ByteArray := prog_9_method_6_code
def yX7_stopAt : MethodName := ⟨RX7, "stopAt", "([II)I"⟩
abbrev cX7_kindOf : ByteArray := prog_9_method_7_code
def yX7_kindOf : MethodName := ⟨RX7, "kindOf", "(LMarketHall$Hall;[I[I)I"⟩
abbrev cX7_look : ByteArray := prog_9_method_8_code
def yX7_look : MethodName := ⟨RX7, "look", "(LMarketHall$Hall;II)I"⟩
abbrev cX7_writeFinding : ByteArray := prog_9_method_9_code
def yX7_writeFinding : MethodName := ⟨RX7, "writeFinding", "(LMarketHall$Hall;IIII)V"⟩
abbrev cX7_findingBack : ByteArray := prog_9_method_10_code
def yX7_findingBack : MethodName := ⟨RX7, "findingBack", "(LMarketHall$Hall;I)[I"⟩
abbrev cX7_tellInspector : ByteArray := prog_9_method_11_code
def yX7_tellInspector : MethodName := ⟨RX7, "tellInspector", "(LMarketHall$Hall;[II)I"⟩
abbrev cX7_search : ByteArray := prog_9_method_12_code
def yX7_search : MethodName := ⟨RX7, "search", "(LMarketHall$Hall;I[LMarketHall$Hall;[I)V"⟩
abbrev cX7_isStop : ByteArray := prog_9_method_13_code
def yX7_isStop : MethodName := ⟨RX7, "isStop", "(LMarketHall$Hall;I)Z"⟩
abbrev cX7_anHourLater : ByteArray := prog_9_method_14_code
def yX7_anHourLater : MethodName := ⟨RX7, "anHourLater", "(LMarketHall$Hall;)V"⟩
abbrev cX7_lookAhead : ByteArray := prog_9_method_15_code
def yX7_lookAhead : MethodName := ⟨RX7, "lookAhead", "(LMarketHall$Hall;LMarketHall$Hall;II)I"⟩
abbrev cX7_findingsAt : ByteArray := prog_9_method_16_code
def yX7_findingsAt : MethodName := ⟨RX7, "findingsAt", "(LMarketHall$Hall;II)I"⟩
abbrev cX7_areSound : ByteArray := prog_9_method_17_code
def yX7_areSound : MethodName := ⟨RX7, "areSound", "(LMarketHall$Hall;)Z"⟩
def RX8 : String := "MarketHall$Season"
def TX8 : u_T := fun k => match k with
  | 0 => ("MarketHall$Season", "h", "LMarketHall$Hall;", true)
  | 1 => ("MarketHall$Season", "size", "I", true)
  | _ => ("MarketHall$Season", "x", "I", false)
def tyX8 : Nat → FieldType := fun k => match k with
  | 0 => .object "MarketHall$Hall"
  | 1 => .int
  | _ => .int
abbrev wsX80 : List Cond := u_ws RX8 TX8 3
abbrev cX8_init : ByteArray := prog_10_method_1_code
def yX8_init : MethodName := ⟨RX8, "<init>", "(LMarketHall$Hall;II)V"⟩
abbrev cX8_draw : ByteArray := prog_10_method_2_code
def yX8_draw : MethodName := ⟨RX8, "draw", "(I)I"⟩
abbrev cX8_tellAll : ByteArray := prog_10_method_3_code
def yX8_tellAll : MethodName := ⟨RX8, "tellAll", "()I"⟩
abbrev cX8_tellGoods : ByteArray := prog_10_method_4_code
def yX8_tellGoods : MethodName := ⟨RX8, "tellGoods", "()V"⟩
abbrev cX8_tellStores : ByteArray := prog_10_method_5_code
def yX8_tellStores : MethodName := ⟨RX8, "tellStores", "()V"⟩
abbrev cX8_tellBuyers : ByteArray := prog_10_method_6_code
def yX8_tellBuyers : MethodName := ⟨RX8, "tellBuyers", "()V"⟩
abbrev cX8_tellClocks : ByteArray := prog_10_method_7_code
def yX8_tellClocks : MethodName := ⟨RX8, "tellClocks", "()V"⟩
abbrev cX8_tellCarriers : ByteArray := prog_10_method_8_code
def yX8_tellCarriers : MethodName := ⟨RX8, "tellCarriers", "()V"⟩
abbrev cX8_tellRounds : ByteArray := prog_10_method_9_code
def yX8_tellRounds : MethodName := ⟨RX8, "tellRounds", "()V"⟩
def RX9 : String := "MarketHall$Slate"
def TX9 : u_T := fun k => match k with
  | 0 => ("MarketHall$Slate", "signs", "[I", true)
  | _ => ("MarketHall$Slate", "length", "I", false)
def tyX9 : Nat → FieldType := fun k => match k with
  | 0 => .array .int
  | _ => .int
abbrev wsX90 : List Cond := u_ws RX9 TX9 2
abbrev cX9_init : ByteArray := prog_11_method_1_code
def yX9_init : MethodName := ⟨RX9, "<init>", "()V"⟩
abbrev cX9_write : ByteArray := prog_11_method_2_code
def yX9_write : MethodName := ⟨RX9, "write", "(I)I"⟩
abbrev cX9_fault : ByteArray := prog_11_method_3_code
def yX9_fault : MethodName := ⟨RX9, "fault", "([I)I"⟩
abbrev cX9_readTask : ByteArray := prog_11_method_4_code
def yX9_readTask : MethodName := ⟨RX9, "readTask", "(I[I)I"⟩
abbrev cX9_isSign : ByteArray := prog_11_method_5_code
def yX9_isSign : MethodName := ⟨RX9, "isSign", "(IC)Z"⟩
abbrev cX9_isFigure : ByteArray := prog_11_method_6_code
def yX9_isFigure : MethodName := ⟨RX9, "isFigure", "(I)Z"⟩
abbrev cX9_readNumber : ByteArray := prog_11_method_7_code
def yX9_readNumber : MethodName := ⟨RX9, "readNumber", "(IZ[II)I"⟩
abbrev cX9_kindOf : ByteArray := prog_11_method_8_code
def yX9_kindOf : MethodName := ⟨RX9, "kindOf", "(I)I"⟩
abbrev cX9_howManyNumbers : ByteArray := prog_11_method_9_code
def yX9_howManyNumbers : MethodName := ⟨RX9, "howManyNumbers", "(I)I"⟩
def RX10 : String := "MarketHall$Stores"
def TX10 : u_T := fun k => match k with
  | _ => ("", "", "", false)
def tyX10 : Nat → FieldType := fun k => match k with
  | _ => .int
abbrev wsX100 : List Cond := u_ws RX10 TX10 0
abbrev cX10_addRoom : ByteArray := prog_12_method_2_code
def yX10_addRoom : MethodName := ⟨RX10, "addRoom", "(LMarketHall$Hall;III)I"⟩
abbrev cX10_standing : ByteArray := prog_12_method_3_code
def yX10_standing : MethodName := ⟨RX10, "standing", "(LMarketHall$Hall;I)I"⟩
abbrev cX10_placesLeft : ByteArray := prog_12_method_4_code
def yX10_placesLeft : MethodName := ⟨RX10, "placesLeft", "(LMarketHall$Hall;I)I"⟩
abbrev cX10_isShut : ByteArray := prog_12_method_5_code
def yX10_isShut : MethodName := ⟨RX10, "isShut", "(LMarketHall$Hall;I)Z"⟩
abbrev cX10_putFault : ByteArray := prog_12_method_6_code
def yX10_putFault : MethodName := ⟨RX10, "putFault", "(LMarketHall$Hall;II)I"⟩
abbrev cX10_putPallet : ByteArray := prog_12_method_7_code
def yX10_putPallet : MethodName := ⟨RX10, "putPallet", "(LMarketHall$Hall;II)I"⟩
abbrev cX10_dumpFault : ByteArray := prog_12_method_8_code
def yX10_dumpFault : MethodName := ⟨RX10, "dumpFault", "(LMarketHall$Hall;I)I"⟩
abbrev cX10_move : ByteArray := prog_12_method_9_code
def yX10_move : MethodName := ⟨RX10, "move", "(LMarketHall$Hall;[II)V"⟩
abbrev cX10_tellRoom : ByteArray := prog_12_method_10_code
def yX10_tellRoom : MethodName := ⟨RX10, "tellRoom", "(LMarketHall$Hall;II)I"⟩
abbrev cX10_towards : ByteArray := prog_12_method_11_code
def yX10_towards : MethodName := ⟨RX10, "towards", "(III)I"⟩
abbrev cX10_leaked : ByteArray := prog_12_method_12_code
def yX10_leaked : MethodName := ⟨RX10, "leaked", "([IIII)I"⟩
abbrev cX10_powered : ByteArray := prog_12_method_13_code
def yX10_powered : MethodName := ⟨RX10, "powered", "([II)I"⟩
abbrev cX10_riper : ByteArray := prog_12_method_14_code
def yX10_riper : MethodName := ⟨RX10, "riper", "([IIIZ)I"⟩
abbrev cX10_harmed : ByteArray := prog_12_method_15_code
def yX10_harmed : MethodName := ⟨RX10, "harmed", "([III)I"⟩
abbrev cX10_growOlder : ByteArray := prog_12_method_16_code
def yX10_growOlder : MethodName := ⟨RX10, "growOlder", "(LMarketHall$Hall;)V"⟩
abbrev cX10_findWarmth : ByteArray := prog_12_method_17_code
def yX10_findWarmth : MethodName := ⟨RX10, "findWarmth", "([II)V"⟩
abbrev cX10_ripeAt : ByteArray := prog_12_method_18_code
def yX10_ripeAt : MethodName := ⟨RX10, "ripeAt", "(LMarketHall$Hall;IIII)I"⟩
abbrev cX10_fineAt : ByteArray := prog_12_method_19_code
def yX10_fineAt : MethodName := ⟨RX10, "fineAt", "(LMarketHall$Hall;IIII)I"⟩
abbrev cX10_bestWay : ByteArray := prog_12_method_20_code
def yX10_bestWay : MethodName := ⟨RX10, "bestWay", "(LMarketHall$Hall;I[I)V"⟩
abbrev cX10_findThree : ByteArray := prog_12_method_21_code
def yX10_findThree : MethodName := ⟨RX10, "findThree", "(LMarketHall$Hall;I[I)I"⟩
abbrev cX10_findFine : ByteArray := prog_12_method_22_code
def yX10_findFine : MethodName := ⟨RX10, "findFine", "(LMarketHall$Hall;I[I[I[I)V"⟩
abbrev cX10_canGo : ByteArray := prog_12_method_23_code
def yX10_canGo : MethodName := ⟨RX10, "canGo", "(LMarketHall$Hall;[I[I)Z"⟩
abbrev cX10_comeTo : ByteArray := prog_12_method_24_code
def yX10_comeTo : MethodName := ⟨RX10, "comeTo", "([III)I"⟩
abbrev cX10_fineBy : ByteArray := prog_12_method_25_code
def yX10_fineBy : MethodName := ⟨RX10, "fineBy", "([I[I[I[I)I"⟩
abbrev cX10_areSound : ByteArray := prog_12_method_26_code
def yX10_areSound : MethodName := ⟨RX10, "areSound", "(LMarketHall$Hall;)Z"⟩
def RX11 : String := "MarketHall"
def TX11 : u_T := fun k => match k with
  | 0 => ("MarketHall", "hall", "LMarketHall$Hall;", true)
  | 1 => ("MarketHall", "deeds", "LMarketHall$Deeds;", true)
  | 2 => ("MarketHall", "slate", "LMarketHall$Slate;", true)
  | 3 => ("MarketHall", "spares", "[LMarketHall$Hall;", true)
  | 4 => ("MarketHall", "act", "[I", true)
  | 5 => ("MarketHall", "several", "[I", true)
  | _ => ("MarketHall", "loads", "[I", true)
def tyX11 : Nat → FieldType := fun k => match k with
  | 0 => .object "MarketHall$Hall"
  | 1 => .object "MarketHall$Deeds"
  | 2 => .object "MarketHall$Slate"
  | 3 => .array (.object "MarketHall$Hall")
  | 4 => .array .int
  | 5 => .array .int
  | _ => .array .int
abbrev wsX110 : List Cond := u_ws RX11 TX11 7
abbrev cX11_init : ByteArray := prog_1_method_1_code
def yX11_init : MethodName := ⟨RX11, "<init>", "()V"⟩
abbrev cX11_sort : ByteArray := prog_1_method_2_code
def yX11_sort : MethodName := ⟨RX11, "sort", "(IIIII)I"⟩
abbrev cX11_grower : ByteArray := prog_1_method_3_code
def yX11_grower : MethodName := ⟨RX11, "grower", "(II)I"⟩
abbrev cX11_deliver : ByteArray := prog_1_method_4_code
def yX11_deliver : MethodName := ⟨RX11, "deliver", "(IIIII)I"⟩
abbrev cX11_grade : ByteArray := prog_1_method_5_code
def yX11_grade : MethodName := ⟨RX11, "grade", "(IIII)I"⟩
abbrev cX11_odds : ByteArray := prog_1_method_6_code
def yX11_odds : MethodName := ⟨RX11, "odds", "(IIIII)J"⟩
abbrev cX11_plan : ByteArray := prog_1_method_7_code
def yX11_plan : MethodName := ⟨RX11, "plan", "(IIII)I"⟩
abbrev cX11_grown : ByteArray := prog_1_method_8_code
def yX11_grown : MethodName := ⟨RX11, "grown", "(II)I"⟩
abbrev cX11_room : ByteArray := prog_1_method_9_code
def yX11_room : MethodName := ⟨RX11, "room", "(III)I"⟩
abbrev cX11_set : ByteArray := prog_1_method_10_code
def yX11_set : MethodName := ⟨RX11, "set", "(II)I"⟩
abbrev cX11_gas : ByteArray := prog_1_method_11_code
def yX11_gas : MethodName := ⟨RX11, "gas", "(IZ)Z"⟩
abbrev cX11_outside : ByteArray := prog_1_method_12_code
def yX11_outside : MethodName := ⟨RX11, "outside", "(II)I"⟩
abbrev cX11_put : ByteArray := prog_1_method_13_code
def yX11_put : MethodName := ⟨RX11, "put", "(II)I"⟩
abbrev cX11_dump : ByteArray := prog_1_method_14_code
def yX11_dump : MethodName := ⟨RX11, "dump", "(I)I"⟩
abbrev cX11_kept : ByteArray := prog_1_method_15_code
def yX11_kept : MethodName := ⟨RX11, "kept", "(II)I"⟩
abbrev cX11_pallet : ByteArray := prog_1_method_16_code
def yX11_pallet : MethodName := ⟨RX11, "pallet", "(II)I"⟩
abbrev cX11_ripe : ByteArray := prog_1_method_17_code
def yX11_ripe : MethodName := ⟨RX11, "ripe", "(III)I"⟩
abbrev cX11_best : ByteArray := prog_1_method_18_code
def yX11_best : MethodName := ⟨RX11, "best", "(II)I"⟩
abbrev cX11_buyer : ByteArray := prog_1_method_19_code
def yX11_buyer : MethodName := ⟨RX11, "buyer", "(III)I"⟩
abbrev cX11_order : ByteArray := prog_1_method_20_code
def yX11_order : MethodName := ⟨RX11, "order", "(IIIIII)I"⟩
abbrev cX11_cancel : ByteArray := prog_1_method_21_code
def yX11_cancel : MethodName := ⟨RX11, "cancel", "(I)I"⟩
abbrev cX11_pay : ByteArray := prog_1_method_22_code
def yX11_pay : MethodName := ⟨RX11, "pay", "(II)I"⟩
abbrev cX11_owes : ByteArray := prog_1_method_23_code
def yX11_owes : MethodName := ⟨RX11, "owes", "(II)I"⟩
abbrev cX11_ordered : ByteArray := prog_1_method_24_code
def yX11_ordered : MethodName := ⟨RX11, "ordered", "(II)I"⟩
abbrev cX11_taker : ByteArray := prog_1_method_25_code
def yX11_taker : MethodName := ⟨RX11, "taker", "(II)I"⟩
abbrev cX11_match : ByteArray := prog_1_method_26_code
def yX11_match : MethodName := ⟨RX11, "match", "(I)I"⟩
abbrev cX11_clock : ByteArray := prog_1_method_27_code
def yX11_clock : MethodName := ⟨RX11, "clock", "(IIIII)I"⟩
abbrev cX11_queue : ByteArray := prog_1_method_28_code
def yX11_queue : MethodName := ⟨RX11, "queue", "(IIII)I"⟩
abbrev cX11_withdraw : ByteArray := prog_1_method_29_code
def yX11_withdraw : MethodName := ⟨RX11, "withdraw", "(I)I"⟩
abbrev cX11_hand : ByteArray := prog_1_method_30_code
def yX11_hand : MethodName := ⟨RX11, "hand", "(II)I"⟩
abbrev cX11_lot : ByteArray := prog_1_method_31_code
def yX11_lot : MethodName := ⟨RX11, "lot", "(III)I"⟩
abbrev cX11_takings : ByteArray := prog_1_method_32_code
def yX11_takings : MethodName := ⟨RX11, "takings", "(III)I"⟩
abbrev cX11_bestRow : ByteArray := prog_1_method_33_code
def yX11_bestRow : MethodName := ⟨RX11, "bestRow", "(II)I"⟩
abbrev cX11_bestStart : ByteArray := prog_1_method_34_code
def yX11_bestStart : MethodName := ⟨RX11, "bestStart", "(IIII)I"⟩
abbrev cX11_way : ByteArray := prog_1_method_35_code
def yX11_way : MethodName := ⟨RX11, "way", "(III)I"⟩
abbrev cX11_docks : ByteArray := prog_1_method_36_code
def yX11_docks : MethodName := ⟨RX11, "docks", "(I)I"⟩
abbrev cX11_truck : ByteArray := prog_1_method_37_code
def yX11_truck : MethodName := ⟨RX11, "truck", "(II)I"⟩
abbrev cX11_load : ByteArray := prog_1_method_38_code
def yX11_load : MethodName := ⟨RX11, "load", "(II)I"⟩
abbrev cX11_send : ByteArray := prog_1_method_39_code
def yX11_send : MethodName := ⟨RX11, "send", "(II)I"⟩
abbrev cX11_haul : ByteArray := prog_1_method_40_code
def yX11_haul : MethodName := ⟨RX11, "haul", "(II)I"⟩
abbrev cX11_parcel : ByteArray := prog_1_method_41_code
def yX11_parcel : MethodName := ⟨RX11, "parcel", "(II)I"⟩
abbrev cX11_trip : ByteArray := prog_1_method_42_code
def yX11_trip : MethodName := ⟨RX11, "trip", "(II)I"⟩
abbrev cX11_fewest : ByteArray := prog_1_method_43_code
def yX11_fewest : MethodName := ⟨RX11, "fewest", "(II)I"⟩
abbrev cX11_inspector : ByteArray := prog_1_method_44_code
def yX11_inspector : MethodName := ⟨RX11, "inspector", "(II)I"⟩
abbrev cX11_round : ByteArray := prog_1_method_45_code
def yX11_round : MethodName := ⟨RX11, "round", "(III)I"⟩
abbrev cX11_looked : ByteArray := prog_1_method_46_code
def yX11_looked : MethodName := ⟨RX11, "looked", "(II)I"⟩
abbrev cX11_found : ByteArray := prog_1_method_47_code
def yX11_found : MethodName := ⟨RX11, "found", "(II)I"⟩
abbrev cX11_worst : ByteArray := prog_1_method_48_code
def yX11_worst : MethodName := ⟨RX11, "worst", "(II)I"⟩
abbrev cX11_tariff : ByteArray := prog_1_method_49_code
def yX11_tariff : MethodName := ⟨RX11, "tariff", "(II)I"⟩
abbrev cX11_account : ByteArray := prog_1_method_50_code
def yX11_account : MethodName := ⟨RX11, "account", "(I)I"⟩
abbrev cX11_entry : ByteArray := prog_1_method_51_code
def yX11_entry : MethodName := ⟨RX11, "entry", "(II)I"⟩
abbrev cX11_owed : ByteArray := prog_1_method_52_code
def yX11_owed : MethodName := ⟨RX11, "owed", "(II)I"⟩
abbrev cX11_quarrel : ByteArray := prog_1_method_53_code
def yX11_quarrel : MethodName := ⟨RX11, "quarrel", "(II)I"⟩
abbrev cX11_quarrelled : ByteArray := prog_1_method_54_code
def yX11_quarrelled : MethodName := ⟨RX11, "quarrelled", "(II)I"⟩
abbrev cX11_blame : ByteArray := prog_1_method_55_code
def yX11_blame : MethodName := ⟨RX11, "blame", "(III)I"⟩
abbrev cX11_shares : ByteArray := prog_1_method_56_code
def yX11_shares : MethodName := ⟨RX11, "shares", "(IIIII)I"⟩
abbrev cX11_sign : ByteArray := prog_1_method_57_code
def yX11_sign : MethodName := ⟨RX11, "sign", "(I)I"⟩
abbrev cX11_tasks : ByteArray := prog_1_method_58_code
def yX11_tasks : MethodName := ⟨RX11, "tasks", "()I"⟩
abbrev cX11_season : ByteArray := prog_1_method_59_code
def yX11_season : MethodName := ⟨RX11, "season", "(II)I"⟩
abbrev cX11_pass : ByteArray := prog_1_method_60_code
def yX11_pass : MethodName := ⟨RX11, "pass", "(I)I"⟩
abbrev cX11_undo : ByteArray := prog_1_method_61_code
def yX11_undo : MethodName := ⟨RX11, "undo", "()I"⟩
abbrev cX11_keep : ByteArray := prog_1_method_62_code
def yX11_keep : MethodName := ⟨RX11, "keep", "(I)I"⟩
abbrev cX11_again : ByteArray := prog_1_method_63_code
def yX11_again : MethodName := ⟨RX11, "again", "(I)I"⟩
abbrev cX11_isSound : ByteArray := prog_1_method_64_code
def yX11_isSound : MethodName := ⟨RX11, "isSound", "(I)Z"⟩
abbrev cX11_sum : ByteArray := prog_1_method_65_code
def yX11_sum : MethodName := ⟨RX11, "sum", "(I)I"⟩
abbrev cX11_thing : ByteArray := prog_1_method_66_code
def yX11_thing : MethodName := ⟨RX11, "thing", "(II)V"⟩
abbrev cX11_inRange : ByteArray := prog_1_method_67_code
def yX11_inRange : MethodName := ⟨RX11, "inRange", "(III)V"⟩
abbrev cX11_inTime : ByteArray := prog_1_method_68_code
def yX11_inTime : MethodName := ⟨RX11, "inTime", "(Z)V"⟩
abbrev cX11_refuse : ByteArray := prog_1_method_69_code
def yX11_refuse : MethodName := ⟨RX11, "refuse", "(I)V"⟩
abbrev cX11_deed : ByteArray := prog_1_method_70_code
def yX11_deed : MethodName := ⟨RX11, "deed", "(IIIIIII)I"⟩
abbrev cX11_doTasks : ByteArray := prog_1_method_71_code
def yX11_doTasks : MethodName := ⟨RX11, "doTasks", "()I"⟩
def RX12 : String := "MarketHallModel"
def TX12 : u_T := fun k => match k with
  | 0 => ("MarketHallModel", "s", "[I", true)
  | 1 => ("MarketHallModel", "held", "[I", true)
  | 2 => ("MarketHallModel", "thrown", "I", false)
  | 3 => ("MarketHallModel", "lots", "I", false)
  | 4 => ("MarketHallModel", "rThree", "[I", true)
  | 5 => ("MarketHallModel", "rThreeMany", "I", false)
  | 6 => ("MarketHallModel", "rBestFine", "I", false)
  | 7 => ("MarketHallModel", "rBestWay", "I", false)
  | 8 => ("MarketHallModel", "bGiven", "[I", true)
  | 9 => ("MarketHallModel", "bSpare", "[I", true)
  | 10 => ("MarketHallModel", "bMay", "[Z", true)
  | 11 => ("MarketHallModel", "bFrom", "[I", true)
  | 12 => ("MarketHallModel", "bVia", "[I", true)
  | 13 => ("MarketHallModel", "bLine", "[I", true)
  | 14 => ("MarketHallModel", "bTotal", "[I", true)
  | 15 => ("MarketHallModel", "bServed", "[Z", true)
  | 16 => ("MarketHallModel", "cWould", "[I", true)
  | 17 => ("MarketHallModel", "cRow", "[I", true)
  | 18 => ("MarketHallModel", "cBest", "[I", true)
  | 19 => ("MarketHallModel", "cOld", "[I", true)
  | 20 => ("MarketHallModel", "cMost", "I", false)
  | 21 => ("MarketHallModel", "cStart", "I", false)
  | 22 => ("MarketHallModel", "tRow", "[I", true)
  | 23 => ("MarketHallModel", "tBest", "[I", true)
  | 24 => ("MarketHallModel", "tMany", "I", false)
  | 25 => ("MarketHallModel", "tLong", "I", false)
  | 26 => ("MarketHallModel", "tBySets", "[I", true)
  | 27 => ("MarketHallModel", "tCrates", "[I", true)
  | 28 => ("MarketHallModel", "tParts", "I", false)
  | 29 => ("MarketHallModel", "tFull", "[I", true)
  | 30 => ("MarketHallModel", "iAhead", "[I", true)
  | 31 => ("MarketHallModel", "iMost", "I", false)
  | 32 => ("MarketHallModel", "iMostStops", "I", false)
  | 33 => ("MarketHallModel", "past", "[I", true)
  | 34 => ("MarketHallModel", "pastMany", "I", false)
  | 35 => ("MarketHallModel", "isQuiet", "Z", false)
  | 36 => ("MarketHallModel", "rec", "[I", false)
  | 37 => ("MarketHallModel", "recMany", "I", false)
  | 38 => ("MarketHallModel", "recSigns", "[I", false)
  | 39 => ("MarketHallModel", "recSignMany", "I", false)
  | 40 => ("MarketHallModel", "imaged", "[I", true)
  | 41 => ("MarketHallModel", "imageRec0", "[I", false)
  | 42 => ("MarketHallModel", "imageRec1", "[I", false)
  | 43 => ("MarketHallModel", "imageSigns0", "[I", false)
  | 44 => ("MarketHallModel", "imageSigns1", "[I", false)
  | 45 => ("MarketHallModel", "imageMany", "[I", true)
  | 46 => ("MarketHallModel", "imageSignMany", "[I", true)
  | 47 => ("MarketHallModel", "isImage", "[I", true)
  | 48 => ("MarketHallModel", "slate", "[I", true)
  | 49 => ("MarketHallModel", "slateMany", "I", false)
  | 50 => ("MarketHallModel", "xAt", "I", false)
  | _ => ("MarketHallModel", "xTold", "[I", true)
def tyX12 : Nat → FieldType := fun k => match k with
  | 0 => .array .int
  | 1 => .array .int
  | 2 => .int
  | 3 => .int
  | 4 => .array .int
  | 5 => .int
  | 6 => .int
  | 7 => .int
  | 8 => .array .int
  | 9 => .array .int
  | 10 => .array .boolean
  | 11 => .array .int
  | 12 => .array .int
  | 13 => .array .int
  | 14 => .array .int
  | 15 => .array .boolean
  | 16 => .array .int
  | 17 => .array .int
  | 18 => .array .int
  | 19 => .array .int
  | 20 => .int
  | 21 => .int
  | 22 => .array .int
  | 23 => .array .int
  | 24 => .int
  | 25 => .int
  | 26 => .array .int
  | 27 => .array .int
  | 28 => .int
  | 29 => .array .int
  | 30 => .array .int
  | 31 => .int
  | 32 => .int
  | 33 => .array .int
  | 34 => .int
  | 35 => .boolean
  | 36 => .array .int
  | 37 => .int
  | 38 => .array .int
  | 39 => .int
  | 40 => .array .int
  | 41 => .array .int
  | 42 => .array .int
  | 43 => .array .int
  | 44 => .array .int
  | 45 => .array .int
  | 46 => .array .int
  | 47 => .array .int
  | 48 => .array .int
  | 49 => .int
  | 50 => .int
  | _ => .array .int
abbrev wsX120 : List Cond := u_ws RX12 TX12 52
abbrev cX12_init : ByteArray := prog_14_method_1_code
def yX12_init : MethodName := ⟨RX12, "<init>", "()V"⟩
abbrev cX12_thrown : ByteArray := prog_14_method_2_code
def yX12_thrown : MethodName := ⟨RX12, "thrown", "()I"⟩
abbrev cX12_begin : ByteArray := prog_14_method_3_code
def yX12_begin : MethodName := ⟨RX12, "begin", "()V"⟩
abbrev cX12_fails : ByteArray := prog_14_method_4_code
def yX12_fails : MethodName := ⟨RX12, "fails", "(ZI)Z"⟩
abbrev cX12_well : ByteArray := prog_14_method_5_code
def yX12_well : MethodName := ⟨RX12, "well", "()V"⟩
abbrev cX12_in : ByteArray := prog_14_method_6_code
def yX12_in : MethodName := ⟨RX12, "in", "(III)Z"⟩
abbrev cX12_now : ByteArray := prog_14_method_7_code
def yX12_now : MethodName := ⟨RX12, "now", "()I"⟩
abbrev cX12_today : ByteArray := prog_14_method_8_code
def yX12_today : MethodName := ⟨RX12, "today", "()I"⟩
abbrev cX12_hour : ByteArray := prog_14_method_9_code
def yX12_hour : MethodName := ⟨RX12, "hour", "()I"⟩
abbrev cX12_weekday : ByteArray := prog_14_method_10_code
def yX12_weekday : MethodName := ⟨RX12, "weekday", "()I"⟩
abbrev cX12_seed : ByteArray := prog_14_method_11_code
def yX12_seed : MethodName := ⟨RX12, "seed", "(I)V"⟩
abbrev cX12_draw : ByteArray := prog_14_method_12_code
def yX12_draw : MethodName := ⟨RX12, "draw", "(I)I"⟩
abbrev cX12_hold : ByteArray := prog_14_method_13_code
def yX12_hold : MethodName := ⟨RX12, "hold", "(I)V"⟩
abbrev cX12_release : ByteArray := prog_14_method_14_code
def yX12_release : MethodName := ⟨RX12, "release", "(I)V"⟩
abbrev cX12_mStage : ByteArray := prog_14_method_15_code
def yX12_mStage : MethodName := ⟨RX12, "mStage", "(II)I"⟩
abbrev cX12_pAt : ByteArray := prog_14_method_16_code
def yX12_pAt : MethodName := ⟨RX12, "pAt", "(II)I"⟩
abbrev cX12_pal : ByteArray := prog_14_method_17_code
def yX12_pal : MethodName := ⟨RX12, "pal", "(II)I"⟩
abbrev cX12_isPallet : ByteArray := prog_14_method_18_code
def yX12_isPallet : MethodName := ⟨RX12, "isPallet", "(I)Z"⟩
abbrev cX12_isThere : ByteArray := prog_14_method_19_code
def yX12_isThere : MethodName := ⟨RX12, "isThere", "(I)Z"⟩
abbrev cX12_qAt : ByteArray := prog_14_method_20_code
def yX12_qAt : MethodName := ⟨RX12, "qAt", "(II)I"⟩
abbrev cX12_isParcel : ByteArray := prog_14_method_21_code
def yX12_isParcel : MethodName := ⟨RX12, "isParcel", "(I)Z"⟩
abbrev cX12_isWaitingOf : ByteArray := prog_14_method_22_code
def yX12_isWaitingOf : MethodName := ⟨RX12, "isWaitingOf", "(II)Z"⟩
abbrev cX12_mWaiting : ByteArray := prog_14_method_23_code
def yX12_mWaiting : MethodName := ⟨RX12, "mWaiting", "(I)I"⟩
abbrev cX12_qRipe : ByteArray := prog_14_method_24_code
def yX12_qRipe : MethodName := ⟨RX12, "qRipe", "(I)I"⟩
abbrev cX12_qHarm : ByteArray := prog_14_method_25_code
def yX12_qHarm : MethodName := ⟨RX12, "qHarm", "(I)I"⟩
abbrev cX12_gross : ByteArray := prog_14_method_26_code
def yX12_gross : MethodName := ⟨RX12, "gross", "(I)I"⟩
abbrev cX12_mCleared : ByteArray := prog_14_method_27_code
def yX12_mCleared : MethodName := ⟨RX12, "mCleared", "(I)V"⟩
abbrev cX12_mSold : ByteArray := prog_14_method_28_code
def yX12_mSold : MethodName := ⟨RX12, "mSold", "(IIII)I"⟩
abbrev cX12_mLost : ByteArray := prog_14_method_29_code
def yX12_mLost : MethodName := ⟨RX12, "mLost", "(I)V"⟩
abbrev cX12_mCome : ByteArray := prog_14_method_30_code
def yX12_mCome : MethodName := ⟨RX12, "mCome", "(I)V"⟩
abbrev cX12_mGone : ByteArray := prog_14_method_31_code
def yX12_mGone : MethodName := ⟨RX12, "mGone", "(II)V"⟩
abbrev cX12_dBegin : ByteArray := prog_14_method_32_code
def yX12_dBegin : MethodName := ⟨RX12, "dBegin", "()V"⟩
abbrev cX12_isSort : ByteArray := prog_14_method_33_code
def yX12_isSort : MethodName := ⟨RX12, "isSort", "(I)Z"⟩
abbrev cX12_isGrower : ByteArray := prog_14_method_34_code
def yX12_isGrower : MethodName := ⟨RX12, "isGrower", "(I)Z"⟩
abbrev cX12_dCut : ByteArray := prog_14_method_35_code
def yX12_dCut : MethodName := ⟨RX12, "dCut", "(I)I"⟩
abbrev cX12_dLeast : ByteArray := prog_14_method_36_code
def yX12_dLeast : MethodName := ⟨RX12, "dLeast", "(I)I"⟩
abbrev cX12_dFloorLeft : ByteArray := prog_14_method_37_code
def yX12_dFloorLeft : MethodName := ⟨RX12, "dFloorLeft", "()I"⟩
abbrev cX12_dSort : ByteArray := prog_14_method_38_code
def yX12_dSort : MethodName := ⟨RX12, "dSort", "(IIIII)I"⟩
abbrev cX12_dGrower : ByteArray := prog_14_method_39_code
def yX12_dGrower : MethodName := ⟨RX12, "dGrower", "(II)I"⟩
abbrev cX12_dPallet : ByteArray := prog_14_method_40_code
def yX12_dPallet : MethodName := ⟨RX12, "dPallet", "(IIIIII)I"⟩
abbrev cX12_sort : ByteArray := prog_14_method_41_code
def yX12_sort : MethodName := ⟨RX12, "sort", "(IIIII)I"⟩
abbrev cX12_grower : ByteArray := prog_14_method_42_code
def yX12_grower : MethodName := ⟨RX12, "grower", "(II)I"⟩
abbrev cX12_deliver : ByteArray := prog_14_method_43_code
def yX12_deliver : MethodName := ⟨RX12, "deliver", "(IIIII)I"⟩
abbrev cX12_dFound : ByteArray := prog_14_method_44_code
def yX12_dFound : MethodName := ⟨RX12, "dFound", "(III)I"⟩
abbrev cX12_grade : ByteArray := prog_14_method_45_code
def yX12_grade : MethodName := ⟨RX12, "grade", "(IIII)I"⟩
abbrev cX12_dChoose : ByteArray := prog_14_method_46_code
def yX12_dChoose : MethodName := ⟨RX12, "dChoose", "(II)J"⟩
abbrev cX12_dWays : ByteArray := prog_14_method_47_code
def yX12_dWays : MethodName := ⟨RX12, "dWays", "(IIII)J"⟩
abbrev cX12_dTerm : ByteArray := prog_14_method_48_code
def yX12_dTerm : MethodName := ⟨RX12, "dTerm", "(JJI)J"⟩
abbrev cX12_odds : ByteArray := prog_14_method_49_code
def yX12_odds : MethodName := ⟨RX12, "odds", "(IIIII)J"⟩
abbrev cX12_plan : ByteArray := prog_14_method_50_code
def yX12_plan : MethodName := ⟨RX12, "plan", "(IIII)I"⟩
abbrev cX12_dSoldOf : ByteArray := prog_14_method_51_code
def yX12_dSoldOf : MethodName := ⟨RX12, "dSoldOf", "(I)I"⟩
abbrev cX12_dAdds : ByteArray := prog_14_method_52_code
def yX12_dAdds : MethodName := ⟨RX12, "dAdds", "(II)I"⟩
abbrev cX12_dGrown : ByteArray := prog_14_method_53_code
def yX12_dGrown : MethodName := ⟨RX12, "dGrown", "(II)I"⟩
abbrev cX12_grown : ByteArray := prog_14_method_54_code
def yX12_grown : MethodName := ⟨RX12, "grown", "(II)I"⟩
abbrev cX12_dSeason : ByteArray := prog_14_method_55_code
def yX12_dSeason : MethodName := ⟨RX12, "dSeason", "(I)V"⟩
abbrev cX12_dIsWell : ByteArray := prog_14_method_56_code
def yX12_dIsWell : MethodName := ⟨RX12, "dIsWell", "(I)Z"⟩
abbrev cX12_dSound : ByteArray := prog_14_method_57_code
def yX12_dSound : MethodName := ⟨RX12, "dSound", "()Z"⟩
abbrev cX12_rBegin : ByteArray := prog_14_method_58_code
def yX12_rBegin : MethodName := ⟨RX12, "rBegin", "()V"⟩
abbrev cX12_isRoom : ByteArray := prog_14_method_59_code
def yX12_isRoom : MethodName := ⟨RX12, "isRoom", "(I)Z"⟩
abbrev cX12_rAt : ByteArray := prog_14_method_60_code
def yX12_rAt : MethodName := ⟨RX12, "rAt", "(II)I"⟩
abbrev cX12_rOutside : ByteArray := prog_14_method_61_code
def yX12_rOutside : MethodName := ⟨RX12, "rOutside", "(I)I"⟩
abbrev cX12_rStanding : ByteArray := prog_14_method_62_code
def yX12_rStanding : MethodName := ⟨RX12, "rStanding", "(I)I"⟩
abbrev cX12_rLeft : ByteArray := prog_14_method_63_code
def yX12_rLeft : MethodName := ⟨RX12, "rLeft", "(I)I"⟩
abbrev cX12_rDoor : ByteArray := prog_14_method_64_code
def yX12_rDoor : MethodName := ⟨RX12, "rDoor", "(I)V"⟩
abbrev cX12_rInto : ByteArray := prog_14_method_65_code
def yX12_rInto : MethodName := ⟨RX12, "rInto", "(II)V"⟩
abbrev cX12_rOut : ByteArray := prog_14_method_66_code
def yX12_rOut : MethodName := ⟨RX12, "rOut", "(I)V"⟩
abbrev cX12_rTowards : ByteArray := prog_14_method_67_code
def yX12_rTowards : MethodName := ⟨RX12, "rTowards", "(III)I"⟩
abbrev cX12_rWarms : ByteArray := prog_14_method_68_code
def yX12_rWarms : MethodName := ⟨RX12, "rWarms", "(I)V"⟩
abbrev cX12_rRipens : ByteArray := prog_14_method_69_code
def yX12_rRipens : MethodName := ⟨RX12, "rRipens", "(IIII)I"⟩
abbrev cX12_rHarms : ByteArray := prog_14_method_70_code
def yX12_rHarms : MethodName := ⟨RX12, "rHarms", "(III)I"⟩
abbrev cX12_rPalletAges : ByteArray := prog_14_method_71_code
def yX12_rPalletAges : MethodName := ⟨RX12, "rPalletAges", "(I)V"⟩
abbrev cX12_rParcelAges : ByteArray := prog_14_method_72_code
def yX12_rParcelAges : MethodName := ⟨RX12, "rParcelAges", "(I)V"⟩
abbrev cX12_rHour : ByteArray := prog_14_method_73_code
def yX12_rHour : MethodName := ⟨RX12, "rHour", "()V"⟩
abbrev cX12_rAlone : ByteArray := prog_14_method_74_code
def yX12_rAlone : MethodName := ⟨RX12, "rAlone", "(I)V"⟩
abbrev cX12_rWorked : ByteArray := prog_14_method_75_code
def yX12_rWorked : MethodName := ⟨RX12, "rWorked", "()I"⟩
abbrev cX12_rClosed : ByteArray := prog_14_method_76_code
def yX12_rClosed : MethodName := ⟨RX12, "rClosed", "()V"⟩
abbrev cX12_rRoom : ByteArray := prog_14_method_77_code
def yX12_rRoom : MethodName := ⟨RX12, "rRoom", "(IIII)I"⟩
abbrev cX12_room : ByteArray := prog_14_method_78_code
def yX12_room : MethodName := ⟨RX12, "room", "(III)I"⟩
abbrev cX12_set : ByteArray := prog_14_method_79_code
def yX12_set : MethodName := ⟨RX12, "set", "(II)I"⟩
abbrev cX12_gas : ByteArray := prog_14_method_80_code
def yX12_gas : MethodName := ⟨RX12, "gas", "(IZ)Z"⟩
abbrev cX12_outside : ByteArray := prog_14_method_81_code
def yX12_outside : MethodName := ⟨RX12, "outside", "(II)I"⟩
abbrev cX12_rMayPut : ByteArray := prog_14_method_82_code
def yX12_rMayPut : MethodName := ⟨RX12, "rMayPut", "(II)Z"⟩
abbrev cX12_put : ByteArray := prog_14_method_83_code
def yX12_put : MethodName := ⟨RX12, "put", "(II)I"⟩
abbrev cX12_dump : ByteArray := prog_14_method_84_code
def yX12_dump : MethodName := ⟨RX12, "dump", "(I)I"⟩
abbrev cX12_rKept : ByteArray := prog_14_method_85_code
def yX12_rKept : MethodName := ⟨RX12, "rKept", "(II)I"⟩
abbrev cX12_kept : ByteArray := prog_14_method_86_code
def yX12_kept : MethodName := ⟨RX12, "kept", "(II)I"⟩
abbrev cX12_rPallet : ByteArray := prog_14_method_87_code
def yX12_rPallet : MethodName := ⟨RX12, "rPallet", "(II)I"⟩
abbrev cX12_pallet : ByteArray := prog_14_method_88_code
def yX12_pallet : MethodName := ⟨RX12, "pallet", "(II)I"⟩
abbrev cX12_rRipe : ByteArray := prog_14_method_89_code
def yX12_rRipe : MethodName := ⟨RX12, "rRipe", "(III)I"⟩
abbrev cX12_ripe : ByteArray := prog_14_method_90_code
def yX12_ripe : MethodName := ⟨RX12, "ripe", "(III)I"⟩
abbrev cX12_rFindThree : ByteArray := prog_14_method_91_code
def yX12_rFindThree : MethodName := ⟨RX12, "rFindThree", "()V"⟩
abbrev cX12_rFigure : ByteArray := prog_14_method_92_code
def yX12_rFigure : MethodName := ⟨RX12, "rFigure", "(II)I"⟩
abbrev cX12_rWays : ByteArray := prog_14_method_93_code
def yX12_rWays : MethodName := ⟨RX12, "rWays", "()I"⟩
abbrev cX12_rDoes : ByteArray := prog_14_method_94_code
def yX12_rDoes : MethodName := ⟨RX12, "rDoes", "(I)Z"⟩
abbrev cX12_rFine : ByteArray := prog_14_method_95_code
def yX12_rFine : MethodName := ⟨RX12, "rFine", "()I"⟩
abbrev cX12_rFindBest : ByteArray := prog_14_method_96_code
def yX12_rFindBest : MethodName := ⟨RX12, "rFindBest", "(I)V"⟩
abbrev cX12_best : ByteArray := prog_14_method_97_code
def yX12_best : MethodName := ⟨RX12, "best", "(II)I"⟩
abbrev cX12_rSeason : ByteArray := prog_14_method_98_code
def yX12_rSeason : MethodName := ⟨RX12, "rSeason", "()V"⟩
abbrev cX12_rIsPlaced : ByteArray := prog_14_method_99_code
def yX12_rIsPlaced : MethodName := ⟨RX12, "rIsPlaced", "(I)Z"⟩
abbrev cX12_rIsOlder : ByteArray := prog_14_method_100_code
def yX12_rIsOlder : MethodName := ⟨RX12, "rIsOlder", "(I)Z"⟩
abbrev cX12_rSound : ByteArray := prog_14_method_101_code
def yX12_rSound : MethodName := ⟨RX12, "rSound", "()Z"⟩
abbrev cX12_bBegin : ByteArray := prog_14_method_102_code
def yX12_bBegin : MethodName := ⟨RX12, "bBegin", "()V"⟩
abbrev cX12_bAt : ByteArray := prog_14_method_103_code
def yX12_bAt : MethodName := ⟨RX12, "bAt", "(II)I"⟩
abbrev cX12_oAt : ByteArray := prog_14_method_104_code
def yX12_oAt : MethodName := ⟨RX12, "oAt", "(II)I"⟩
abbrev cX12_uAt : ByteArray := prog_14_method_105_code
def yX12_uAt : MethodName := ⟨RX12, "uAt", "(I)I"⟩
abbrev cX12_isBuyer : ByteArray := prog_14_method_106_code
def yX12_isBuyer : MethodName := ⟨RX12, "isBuyer", "(I)Z"⟩
abbrev cX12_isOrder : ByteArray := prog_14_method_107_code
def yX12_isOrder : MethodName := ⟨RX12, "isOrder", "(I)Z"⟩
abbrev cX12_bTown : ByteArray := prog_14_method_108_code
def yX12_bTown : MethodName := ⟨RX12, "bTown", "(I)I"⟩
abbrev cX12_bBuyer : ByteArray := prog_14_method_109_code
def yX12_bBuyer : MethodName := ⟨RX12, "bBuyer", "(I)I"⟩
abbrev cX12_bUnpaid : ByteArray := prog_14_method_110_code
def yX12_bUnpaid : MethodName := ⟨RX12, "bUnpaid", "(I)I"⟩
abbrev cX12_bLeft : ByteArray := prog_14_method_111_code
def yX12_bLeft : MethodName := ⟨RX12, "bLeft", "(I)I"⟩
abbrev cX12_buyer : ByteArray := prog_14_method_112_code
def yX12_buyer : MethodName := ⟨RX12, "buyer", "(III)I"⟩
abbrev cX12_order : ByteArray := prog_14_method_113_code
def yX12_order : MethodName := ⟨RX12, "order", "(IIIIII)I"⟩
abbrev cX12_cancel : ByteArray := prog_14_method_114_code
def yX12_cancel : MethodName := ⟨RX12, "cancel", "(I)I"⟩
abbrev cX12_pay : ByteArray := prog_14_method_115_code
def yX12_pay : MethodName := ⟨RX12, "pay", "(II)I"⟩
abbrev cX12_bSold : ByteArray := prog_14_method_116_code
def yX12_bSold : MethodName := ⟨RX12, "bSold", "(I)V"⟩
abbrev cX12_bLost : ByteArray := prog_14_method_117_code
def yX12_bLost : MethodName := ⟨RX12, "bLost", "(I)V"⟩
abbrev cX12_bCome : ByteArray := prog_14_method_118_code
def yX12_bCome : MethodName := ⟨RX12, "bCome", "(I)V"⟩
abbrev cX12_bGiven : ByteArray := prog_14_method_119_code
def yX12_bGiven : MethodName := ⟨RX12, "bGiven", "(II)V"⟩
abbrev cX12_bFirstDue : ByteArray := prog_14_method_120_code
def yX12_bFirstDue : MethodName := ⟨RX12, "bFirstDue", "(IIII)I"⟩
abbrev cX12_bPays : ByteArray := prog_14_method_121_code
def yX12_bPays : MethodName := ⟨RX12, "bPays", "(II)V"⟩
abbrev cX12_bIsToday : ByteArray := prog_14_method_122_code
def yX12_bIsToday : MethodName := ⟨RX12, "bIsToday", "(I)Z"⟩
abbrev cX12_bClose : ByteArray := prog_14_method_123_code
def yX12_bClose : MethodName := ⟨RX12, "bClose", "(I)V"⟩
abbrev cX12_bFits : ByteArray := prog_14_method_124_code
def yX12_bFits : MethodName := ⟨RX12, "bFits", "(II)Z"⟩
abbrev cX12_bAsks : ByteArray := prog_14_method_125_code
def yX12_bAsks : MethodName := ⟨RX12, "bAsks", "(I)Z"⟩
abbrev cX12_bTaker : ByteArray := prog_14_method_126_code
def yX12_bTaker : MethodName := ⟨RX12, "bTaker", "(II)I"⟩
abbrev cX12_bTakes : ByteArray := prog_14_method_127_code
def yX12_bTakes : MethodName := ⟨RX12, "bTakes", "(III)I"⟩
abbrev cX12_taker : ByteArray := prog_14_method_128_code
def yX12_taker : MethodName := ⟨RX12, "taker", "(II)I"⟩
abbrev cX12_bCrates : ByteArray := prog_14_method_129_code
def yX12_bCrates : MethodName := ⟨RX12, "bCrates", "(III)I"⟩
abbrev cX12_bOverdue : ByteArray := prog_14_method_130_code
def yX12_bOverdue : MethodName := ⟨RX12, "bOverdue", "(I)I"⟩
abbrev cX12_bOpenBills : ByteArray := prog_14_method_131_code
def yX12_bOpenBills : MethodName := ⟨RX12, "bOpenBills", "(I)I"⟩
abbrev cX12_bOrders : ByteArray := prog_14_method_132_code
def yX12_bOrders : MethodName := ⟨RX12, "bOrders", "(I)I"⟩
abbrev cX12_owes : ByteArray := prog_14_method_133_code
def yX12_owes : MethodName := ⟨RX12, "owes", "(II)I"⟩
abbrev cX12_ordered : ByteArray := prog_14_method_134_code
def yX12_ordered : MethodName := ⟨RX12, "ordered", "(II)I"⟩
abbrev cX12_bLayFilling : ByteArray := prog_14_method_135_code
def yX12_bLayFilling : MethodName := ⟨RX12, "bLayFilling", "()V"⟩
abbrev cX12_bShifts : ByteArray := prog_14_method_136_code
def yX12_bShifts : MethodName := ⟨RX12, "bShifts", "(I)V"⟩
abbrev cX12_bGetsOne : ByteArray := prog_14_method_137_code
def yX12_bGetsOne : MethodName := ⟨RX12, "bGetsOne", "(I)Z"⟩
abbrev cX12_bNextToServe : ByteArray := prog_14_method_138_code
def yX12_bNextToServe : MethodName := ⟨RX12, "bNextToServe", "()I"⟩
abbrev cX12_bFill : ByteArray := prog_14_method_139_code
def yX12_bFill : MethodName := ⟨RX12, "bFill", "()V"⟩
abbrev cX12_bAsking : ByteArray := prog_14_method_140_code
def yX12_bAsking : MethodName := ⟨RX12, "bAsking", "()I"⟩
abbrev cX12_match : ByteArray := prog_14_method_141_code
def yX12_match : MethodName := ⟨RX12, "match", "(I)I"⟩
abbrev cX12_bSeason : ByteArray := prog_14_method_142_code
def yX12_bSeason : MethodName := ⟨RX12, "bSeason", "(I)V"⟩
abbrev cX12_bBuyerSound : ByteArray := prog_14_method_143_code
def yX12_bBuyerSound : MethodName := ⟨RX12, "bBuyerSound", "(I)Z"⟩
abbrev cX12_bSound : ByteArray := prog_14_method_144_code
def yX12_bSound : MethodName := ⟨RX12, "bSound", "()Z"⟩
abbrev cX12_cAt : ByteArray := prog_14_method_145_code
def yX12_cAt : MethodName := ⟨RX12, "cAt", "(II)I"⟩
abbrev cX12_cLot : ByteArray := prog_14_method_146_code
def yX12_cLot : MethodName := ⟨RX12, "cLot", "(III)I"⟩
abbrev cX12_isClock : ByteArray := prog_14_method_147_code
def yX12_isClock : MethodName := ⟨RX12, "isClock", "(I)Z"⟩
abbrev cX12_isOpen : ByteArray := prog_14_method_148_code
def yX12_isOpen : MethodName := ⟨RX12, "isOpen", "(I)Z"⟩
abbrev cX12_cClock : ByteArray := prog_14_method_149_code
def yX12_cClock : MethodName := ⟨RX12, "cClock", "(IIIII)I"⟩
abbrev cX12_cQueue : ByteArray := prog_14_method_150_code
def yX12_cQueue : MethodName := ⟨RX12, "cQueue", "(IIII)V"⟩
abbrev cX12_cTakeOut : ByteArray := prog_14_method_151_code
def yX12_cTakeOut : MethodName := ⟨RX12, "cTakeOut", "(II)V"⟩
abbrev cX12_cPlace : ByteArray := prog_14_method_152_code
def yX12_cPlace : MethodName := ⟨RX12, "cPlace", "(II)I"⟩
abbrev cX12_cOf : ByteArray := prog_14_method_153_code
def yX12_cOf : MethodName := ⟨RX12, "cOf", "(I)I"⟩
abbrev cX12_cUnqueue : ByteArray := prog_14_method_154_code
def yX12_cUnqueue : MethodName := ⟨RX12, "cUnqueue", "(I)V"⟩
abbrev cX12_cSell : ByteArray := prog_14_method_155_code
def yX12_cSell : MethodName := ⟨RX12, "cSell", "(I)V"⟩
abbrev cX12_cHour : ByteArray := prog_14_method_156_code
def yX12_cHour : MethodName := ⟨RX12, "cHour", "()V"⟩
abbrev cX12_cTry : ByteArray := prog_14_method_157_code
def yX12_cTry : MethodName := ⟨RX12, "cTry", "(II)V"⟩
abbrev cX12_cNextRow : ByteArray := prog_14_method_158_code
def yX12_cNextRow : MethodName := ⟨RX12, "cNextRow", "(I)Z"⟩
abbrev cX12_cSwap : ByteArray := prog_14_method_159_code
def yX12_cSwap : MethodName := ⟨RX12, "cSwap", "(II)V"⟩
abbrev cX12_cFirstRow : ByteArray := prog_14_method_160_code
def yX12_cFirstRow : MethodName := ⟨RX12, "cFirstRow", "(II)V"⟩
abbrev cX12_cLayRow : ByteArray := prog_14_method_161_code
def yX12_cLayRow : MethodName := ⟨RX12, "cLayRow", "(II)V"⟩
abbrev cX12_cFind : ByteArray := prog_14_method_162_code
def yX12_cFind : MethodName := ⟨RX12, "cFind", "(I)V"⟩
abbrev cX12_cFindStart : ByteArray := prog_14_method_163_code
def yX12_cFindStart : MethodName := ⟨RX12, "cFindStart", "(III)V"⟩
abbrev cX12_clock : ByteArray := prog_14_method_164_code
def yX12_clock : MethodName := ⟨RX12, "clock", "(IIIII)I"⟩
abbrev cX12_queue : ByteArray := prog_14_method_165_code
def yX12_queue : MethodName := ⟨RX12, "queue", "(IIII)I"⟩
abbrev cX12_withdraw : ByteArray := prog_14_method_166_code
def yX12_withdraw : MethodName := ⟨RX12, "withdraw", "(I)I"⟩
abbrev cX12_hand : ByteArray := prog_14_method_167_code
def yX12_hand : MethodName := ⟨RX12, "hand", "(II)I"⟩
abbrev cX12_lot : ByteArray := prog_14_method_168_code
def yX12_lot : MethodName := ⟨RX12, "lot", "(III)I"⟩
abbrev cX12_takings : ByteArray := prog_14_method_169_code
def yX12_takings : MethodName := ⟨RX12, "takings", "(III)I"⟩
abbrev cX12_bestRow : ByteArray := prog_14_method_170_code
def yX12_bestRow : MethodName := ⟨RX12, "bestRow", "(II)I"⟩
abbrev cX12_bestStart : ByteArray := prog_14_method_171_code
def yX12_bestStart : MethodName := ⟨RX12, "bestStart", "(IIII)I"⟩
abbrev cX12_cSeason : ByteArray := prog_14_method_172_code
def yX12_cSeason : MethodName := ⟨RX12, "cSeason", "(I)V"⟩
abbrev cX12_cSound : ByteArray := prog_14_method_173_code
def yX12_cSound : MethodName := ⟨RX12, "cSound", "()Z"⟩
abbrev cX12_wAt : ByteArray := prog_14_method_174_code
def yX12_wAt : MethodName := ⟨RX12, "wAt", "(II)I"⟩
abbrev cX12_tAt : ByteArray := prog_14_method_175_code
def yX12_tAt : MethodName := ⟨RX12, "tAt", "(II)I"⟩
abbrev cX12_tBegin : ByteArray := prog_14_method_176_code
def yX12_tBegin : MethodName := ⟨RX12, "tBegin", "()V"⟩
abbrev cX12_tTrucks : ByteArray := prog_14_method_177_code
def yX12_tTrucks : MethodName := ⟨RX12, "tTrucks", "()I"⟩
abbrev cX12_isTruck : ByteArray := prog_14_method_178_code
def yX12_isTruck : MethodName := ⟨RX12, "isTruck", "(I)Z"⟩
abbrev cX12_isOut : ByteArray := prog_14_method_179_code
def yX12_isOut : MethodName := ⟨RX12, "isOut", "(I)Z"⟩
abbrev cX12_tWarmth : ByteArray := prog_14_method_180_code
def yX12_tWarmth : MethodName := ⟨RX12, "tWarmth", "(I)I"⟩
abbrev cX12_isIn : ByteArray := prog_14_method_181_code
def yX12_isIn : MethodName := ⟨RX12, "isIn", "(II)Z"⟩
abbrev cX12_tTownOf : ByteArray := prog_14_method_182_code
def yX12_tTownOf : MethodName := ⟨RX12, "tTownOf", "(I)I"⟩
abbrev cX12_tLoad : ByteArray := prog_14_method_183_code
def yX12_tLoad : MethodName := ⟨RX12, "tLoad", "(IZ)I"⟩
abbrev cX12_isAtDock : ByteArray := prog_14_method_184_code
def yX12_isAtDock : MethodName := ⟨RX12, "isAtDock", "(I)Z"⟩
abbrev cX12_tAtDocks : ByteArray := prog_14_method_185_code
def yX12_tAtDocks : MethodName := ⟨RX12, "tAtDocks", "()I"⟩
abbrev cX12_way : ByteArray := prog_14_method_186_code
def yX12_way : MethodName := ⟨RX12, "way", "(III)I"⟩
abbrev cX12_docks : ByteArray := prog_14_method_187_code
def yX12_docks : MethodName := ⟨RX12, "docks", "(I)I"⟩
abbrev cX12_truck : ByteArray := prog_14_method_188_code
def yX12_truck : MethodName := ⟨RX12, "truck", "(II)I"⟩
abbrev cX12_mayLoad : ByteArray := prog_14_method_189_code
def yX12_mayLoad : MethodName := ⟨RX12, "mayLoad", "(II)Z"⟩
abbrev cX12_load : ByteArray := prog_14_method_190_code
def yX12_load : MethodName := ⟨RX12, "load", "(II)I"⟩
abbrev cX12_send : ByteArray := prog_14_method_191_code
def yX12_send : MethodName := ⟨RX12, "send", "(II)I"⟩
abbrev cX12_tTowns : ByteArray := prog_14_method_192_code
def yX12_tTowns : MethodName := ⟨RX12, "tTowns", "(I)I"⟩
abbrev cX12_tHoursOfRow : ByteArray := prog_14_method_193_code
def yX12_tHoursOfRow : MethodName := ⟨RX12, "tHoursOfRow", "()I"⟩
abbrev cX12_tNextRow : ByteArray := prog_14_method_194_code
def yX12_tNextRow : MethodName := ⟨RX12, "tNextRow", "()Z"⟩
abbrev cX12_tFindTrip : ByteArray := prog_14_method_195_code
def yX12_tFindTrip : MethodName := ⟨RX12, "tFindTrip", "(I)V"⟩
abbrev cX12_tTo : ByteArray := prog_14_method_196_code
def yX12_tTo : MethodName := ⟨RX12, "tTo", "(II)I"⟩
abbrev cX12_tLongBySets : ByteArray := prog_14_method_197_code
def yX12_tLongBySets : MethodName := ⟨RX12, "tLongBySets", "(I)I"⟩
abbrev cX12_tGoes : ByteArray := prog_14_method_198_code
def yX12_tGoes : MethodName := ⟨RX12, "tGoes", "(I)V"⟩
abbrev cX12_tGo : ByteArray := prog_14_method_199_code
def yX12_tGo : MethodName := ⟨RX12, "tGo", "()V"⟩
abbrev cX12_tIsAt : ByteArray := prog_14_method_200_code
def yX12_tIsAt : MethodName := ⟨RX12, "tIsAt", "(II)V"⟩
abbrev cX12_tArrives : ByteArray := prog_14_method_201_code
def yX12_tArrives : MethodName := ⟨RX12, "tArrives", "(I)V"⟩
abbrev cX12_tArrive : ByteArray := prog_14_method_202_code
def yX12_tArrive : MethodName := ⟨RX12, "tArrive", "()V"⟩
abbrev cX12_tNext : ByteArray := prog_14_method_203_code
def yX12_tNext : MethodName := ⟨RX12, "tNext", "(I)I"⟩
abbrev cX12_tLongNow : ByteArray := prog_14_method_204_code
def yX12_tLongNow : MethodName := ⟨RX12, "tLongNow", "(I)I"⟩
abbrev cX12_haul : ByteArray := prog_14_method_205_code
def yX12_haul : MethodName := ⟨RX12, "haul", "(II)I"⟩
abbrev cX12_parcel : ByteArray := prog_14_method_206_code
def yX12_parcel : MethodName := ⟨RX12, "parcel", "(II)I"⟩
abbrev cX12_trip : ByteArray := prog_14_method_207_code
def yX12_trip : MethodName := ⟨RX12, "trip", "(II)I"⟩
abbrev cX12_tLayParts : ByteArray := prog_14_method_208_code
def yX12_tLayParts : MethodName := ⟨RX12, "tLayParts", "(I)V"⟩
abbrev cX12_areParts : ByteArray := prog_14_method_209_code
def yX12_areParts : MethodName := ⟨RX12, "areParts", "(I)Z"⟩
abbrev cX12_tWith : ByteArray := prog_14_method_210_code
def yX12_tWith : MethodName := ⟨RX12, "tWith", "(III)I"⟩
abbrev cX12_tFewest : ByteArray := prog_14_method_211_code
def yX12_tFewest : MethodName := ⟨RX12, "tFewest", "(I)I"⟩
abbrev cX12_fewest : ByteArray := prog_14_method_212_code
def yX12_fewest : MethodName := ⟨RX12, "fewest", "(II)I"⟩
abbrev cX12_tSeason : ByteArray := prog_14_method_213_code
def yX12_tSeason : MethodName := ⟨RX12, "tSeason", "(I)V"⟩
abbrev cX12_tIsYet : ByteArray := prog_14_method_214_code
def yX12_tIsYet : MethodName := ⟨RX12, "tIsYet", "(II)Z"⟩
abbrev cX12_tTruckSound : ByteArray := prog_14_method_215_code
def yX12_tTruckSound : MethodName := ⟨RX12, "tTruckSound", "(I)Z"⟩
abbrev cX12_tSound : ByteArray := prog_14_method_216_code
def yX12_tSound : MethodName := ⟨RX12, "tSound", "()Z"⟩
abbrev cX12_iBegin : ByteArray := prog_14_method_217_code
def yX12_iBegin : MethodName := ⟨RX12, "iBegin", "()V"⟩
abbrev cX12_iInspectors : ByteArray := prog_14_method_218_code
def yX12_iInspectors : MethodName := ⟨RX12, "iInspectors", "()I"⟩
abbrev cX12_isInspector : ByteArray := prog_14_method_219_code
def yX12_isInspector : MethodName := ⟨RX12, "isInspector", "(I)Z"⟩
abbrev cX12_iAt : ByteArray := prog_14_method_220_code
def yX12_iAt : MethodName := ⟨RX12, "iAt", "(II)I"⟩
abbrev cX12_isShut : ByteArray := prog_14_method_221_code
def yX12_isShut : MethodName := ⟨RX12, "isShut", "(I)Z"⟩
abbrev cX12_iStops : ByteArray := prog_14_method_222_code
def yX12_iStops : MethodName := ⟨RX12, "iStops", "(I)I"⟩
abbrev cX12_iStop : ByteArray := prog_14_method_223_code
def yX12_iStop : MethodName := ⟨RX12, "iStop", "(II)I"⟩
abbrev cX12_iIsRow : ByteArray := prog_14_method_224_code
def yX12_iIsRow : MethodName := ⟨RX12, "iIsRow", "(I)Z"⟩
abbrev cX12_iKind : ByteArray := prog_14_method_225_code
def yX12_iKind : MethodName := ⟨RX12, "iKind", "(II)I"⟩
abbrev cX12_iKeep : ByteArray := prog_14_method_226_code
def yX12_iKeep : MethodName := ⟨RX12, "iKeep", "(IIIII)V"⟩
abbrev cX12_iFinds : ByteArray := prog_14_method_227_code
def yX12_iFinds : MethodName := ⟨RX12, "iFinds", "(IIII)V"⟩
abbrev cX12_iLook : ByteArray := prog_14_method_228_code
def yX12_iLook : MethodName := ⟨RX12, "iLook", "(II)I"⟩
abbrev cX12_iFigureAt : ByteArray := prog_14_method_229_code
def yX12_iFigureAt : MethodName := ⟨RX12, "iFigureAt", "(II)I"⟩
abbrev cX12_iHour : ByteArray := prog_14_method_230_code
def yX12_iHour : MethodName := ⟨RX12, "iHour", "()V"⟩
abbrev cX12_iInspector : ByteArray := prog_14_method_231_code
def yX12_iInspector : MethodName := ⟨RX12, "iInspector", "(II)I"⟩
abbrev cX12_inspector : ByteArray := prog_14_method_232_code
def yX12_inspector : MethodName := ⟨RX12, "inspector", "(II)I"⟩
abbrev cX12_round : ByteArray := prog_14_method_233_code
def yX12_round : MethodName := ⟨RX12, "round", "(III)I"⟩
abbrev cX12_iNext : ByteArray := prog_14_method_234_code
def yX12_iNext : MethodName := ⟨RX12, "iNext", "(I)I"⟩
abbrev cX12_iLooked : ByteArray := prog_14_method_235_code
def yX12_iLooked : MethodName := ⟨RX12, "iLooked", "(II)I"⟩
abbrev cX12_looked : ByteArray := prog_14_method_236_code
def yX12_looked : MethodName := ⟨RX12, "looked", "(II)I"⟩
abbrev cX12_found : ByteArray := prog_14_method_237_code
def yX12_found : MethodName := ⟨RX12, "found", "(II)I"⟩
abbrev cX12_iPlace : ByteArray := prog_14_method_238_code
def yX12_iPlace : MethodName := ⟨RX12, "iPlace", "(I)I"⟩
abbrev cX12_iSearch : ByteArray := prog_14_method_239_code
def yX12_iSearch : MethodName := ⟨RX12, "iSearch", "(II)I"⟩
abbrev cX12_iFindMost : ByteArray := prog_14_method_240_code
def yX12_iFindMost : MethodName := ⟨RX12, "iFindMost", "(II)V"⟩
abbrev cX12_worst : ByteArray := prog_14_method_241_code
def yX12_worst : MethodName := ⟨RX12, "worst", "(II)I"⟩
abbrev cX12_iSeason : ByteArray := prog_14_method_242_code
def yX12_iSeason : MethodName := ⟨RX12, "iSeason", "()V"⟩
abbrev cX12_iSeized : ByteArray := prog_14_method_243_code
def yX12_iSeized : MethodName := ⟨RX12, "iSeized", "()I"⟩
abbrev cX12_iIsWell : ByteArray := prog_14_method_244_code
def yX12_iIsWell : MethodName := ⟨RX12, "iIsWell", "(I)Z"⟩
abbrev cX12_iSound : ByteArray := prog_14_method_245_code
def yX12_iSound : MethodName := ⟨RX12, "iSound", "()Z"⟩
abbrev cX12_kBegin : ByteArray := prog_14_method_246_code
def yX12_kBegin : MethodName := ⟨RX12, "kBegin", "()V"⟩
abbrev cX12_gAt : ByteArray := prog_14_method_247_code
def yX12_gAt : MethodName := ⟨RX12, "gAt", "(II)I"⟩
abbrev cX12_kAt : ByteArray := prog_14_method_248_code
def yX12_kAt : MethodName := ⟨RX12, "kAt", "(II)I"⟩
abbrev cX12_kQuarrels : ByteArray := prog_14_method_249_code
def yX12_kQuarrels : MethodName := ⟨RX12, "kQuarrels", "()I"⟩
abbrev cX12_kEnter : ByteArray := prog_14_method_250_code
def yX12_kEnter : MethodName := ⟨RX12, "kEnter", "(IIII)V"⟩
abbrev cX12_kGrowerOf : ByteArray := prog_14_method_251_code
def yX12_kGrowerOf : MethodName := ⟨RX12, "kGrowerOf", "(I)I"⟩
abbrev cX12_kFee : ByteArray := prog_14_method_252_code
def yX12_kFee : MethodName := ⟨RX12, "kFee", "(I)I"⟩
abbrev cX12_kSample : ByteArray := prog_14_method_253_code
def yX12_kSample : MethodName := ⟨RX12, "kSample", "(II)V"⟩
abbrev cX12_kSold : ByteArray := prog_14_method_254_code
def yX12_kSold : MethodName := ⟨RX12, "kSold", "(I)V"⟩
abbrev cX12_kLost : ByteArray := prog_14_method_255_code
def yX12_kLost : MethodName := ⟨RX12, "kLost", "(I)V"⟩
abbrev cX12_kPaid : ByteArray := prog_14_method_256_code
def yX12_kPaid : MethodName := ⟨RX12, "kPaid", "(I)V"⟩
abbrev cX12_kHauled : ByteArray := prog_14_method_257_code
def yX12_kHauled : MethodName := ⟨RX12, "kHauled", "(I)V"⟩
abbrev cX12_kFinding : ByteArray := prog_14_method_258_code
def yX12_kFinding : MethodName := ⟨RX12, "kFinding", "(I)V"⟩
abbrev cX12_tariff : ByteArray := prog_14_method_259_code
def yX12_tariff : MethodName := ⟨RX12, "tariff", "(II)I"⟩
abbrev cX12_account : ByteArray := prog_14_method_260_code
def yX12_account : MethodName := ⟨RX12, "account", "(I)I"⟩
abbrev cX12_entry : ByteArray := prog_14_method_261_code
def yX12_entry : MethodName := ⟨RX12, "entry", "(II)I"⟩
abbrev cX12_owed : ByteArray := prog_14_method_262_code
def yX12_owed : MethodName := ⟨RX12, "owed", "(II)I"⟩
abbrev cX12_kStage : ByteArray := prog_14_method_263_code
def yX12_kStage : MethodName := ⟨RX12, "kStage", "(I)I"⟩
abbrev cX12_kBound : ByteArray := prog_14_method_264_code
def yX12_kBound : MethodName := ⟨RX12, "kBound", "(I)I"⟩
abbrev cX12_kAward : ByteArray := prog_14_method_265_code
def yX12_kAward : MethodName := ⟨RX12, "kAward", "(II)I"⟩
abbrev cX12_kRipened : ByteArray := prog_14_method_266_code
def yX12_kRipened : MethodName := ⟨RX12, "kRipened", "(II)I"⟩
abbrev cX12_kWeight : ByteArray := prog_14_method_267_code
def yX12_kWeight : MethodName := ⟨RX12, "kWeight", "(III)I"⟩
abbrev cX12_kAhead : ByteArray := prog_14_method_268_code
def yX12_kAhead : MethodName := ⟨RX12, "kAhead", "(IIII)Z"⟩
abbrev cX12_kOne : ByteArray := prog_14_method_269_code
def yX12_kOne : MethodName := ⟨RX12, "kOne", "(IIII)I"⟩
abbrev cX12_kShare : ByteArray := prog_14_method_270_code
def yX12_kShare : MethodName := ⟨RX12, "kShare", "(IIIII)I"⟩
abbrev cX12_kBears : ByteArray := prog_14_method_271_code
def yX12_kBears : MethodName := ⟨RX12, "kBears", "(IIII)I"⟩
abbrev cX12_quarrel : ByteArray := prog_14_method_272_code
def yX12_quarrel : MethodName := ⟨RX12, "quarrel", "(II)I"⟩
abbrev cX12_kMayQuarrel : ByteArray := prog_14_method_273_code
def yX12_kMayQuarrel : MethodName := ⟨RX12, "kMayQuarrel", "(I)Z"⟩
abbrev cX12_quarrelled : ByteArray := prog_14_method_274_code
def yX12_quarrelled : MethodName := ⟨RX12, "quarrelled", "(II)I"⟩
abbrev cX12_blame : ByteArray := prog_14_method_275_code
def yX12_blame : MethodName := ⟨RX12, "blame", "(III)I"⟩
abbrev cX12_shares : ByteArray := prog_14_method_276_code
def yX12_shares : MethodName := ⟨RX12, "shares", "(IIIII)I"⟩
abbrev cX12_kJudges : ByteArray := prog_14_method_277_code
def yX12_kJudges : MethodName := ⟨RX12, "kJudges", "(I)V"⟩
abbrev cX12_kPaysGrowers : ByteArray := prog_14_method_278_code
def yX12_kPaysGrowers : MethodName := ⟨RX12, "kPaysGrowers", "()V"⟩
abbrev cX12_kToResult : ByteArray := prog_14_method_279_code
def yX12_kToResult : MethodName := ⟨RX12, "kToResult", "(I)V"⟩
abbrev cX12_kClose : ByteArray := prog_14_method_280_code
def yX12_kClose : MethodName := ⟨RX12, "kClose", "(I)V"⟩
abbrev cX12_kQuarrelsSound : ByteArray := prog_14_method_281_code
def yX12_kQuarrelsSound : MethodName := ⟨RX12, "kQuarrelsSound", "()Z"⟩
abbrev cX12_kSound : ByteArray := prog_14_method_282_code
def yX12_kSound : MethodName := ⟨RX12, "kSound", "()Z"⟩
abbrev cX12_xRow : ByteArray := prog_14_method_283_code
def yX12_xRow : MethodName := ⟨RX12, "xRow", "([III)[I"⟩
abbrev cX12_xKeep : ByteArray := prog_14_method_284_code
def yX12_xKeep : MethodName := ⟨RX12, "xKeep", "(I)V"⟩
abbrev cX12_xRecord : ByteArray := prog_14_method_285_code
def yX12_xRecord : MethodName := ⟨RX12, "xRecord", "(IIIIIII)V"⟩
abbrev cX12_deed : ByteArray := prog_14_method_286_code
def yX12_deed : MethodName := ⟨RX12, "deed", "(IIIIIII)V"⟩
abbrev cX12_xNumbers : ByteArray := prog_14_method_287_code
def yX12_xNumbers : MethodName := ⟨RX12, "xNumbers", "(I)I"⟩
abbrev cX12_xMayBeNone : ByteArray := prog_14_method_288_code
def yX12_xMayBeNone : MethodName := ⟨RX12, "xMayBeNone", "(II)Z"⟩
abbrev cX12_xIsFigure : ByteArray := prog_14_method_289_code
def yX12_xIsFigure : MethodName := ⟨RX12, "xIsFigure", "(I)Z"⟩
abbrev cX12_xNumber : ByteArray := prog_14_method_290_code
def yX12_xNumber : MethodName := ⟨RX12, "xNumber", "([IIII)Z"⟩
abbrev cX12_xTask : ByteArray := prog_14_method_291_code
def yX12_xTask : MethodName := ⟨RX12, "xTask", "([II)Z"⟩
abbrev cX12_xFault : ByteArray := prog_14_method_292_code
def yX12_xFault : MethodName := ⟨RX12, "xFault", "([II)I"⟩
abbrev cX12_xDoes : ByteArray := prog_14_method_293_code
def yX12_xDoes : MethodName := ⟨RX12, "xDoes", "(I)V"⟩
abbrev cX12_xDoAll : ByteArray := prog_14_method_294_code
def yX12_xDoAll : MethodName := ⟨RX12, "xDoAll", "([III)I"⟩
abbrev cX12_sign : ByteArray := prog_14_method_295_code
def yX12_sign : MethodName := ⟨RX12, "sign", "(I)I"⟩
abbrev cX12_tasks : ByteArray := prog_14_method_296_code
def yX12_tasks : MethodName := ⟨RX12, "tasks", "()I"⟩
abbrev cX12_xRecordSigns : ByteArray := prog_14_method_297_code
def yX12_xRecordSigns : MethodName := ⟨RX12, "xRecordSigns", "(I)V"⟩
abbrev cX12_season : ByteArray := prog_14_method_298_code
def yX12_season : MethodName := ⟨RX12, "season", "(II)I"⟩
abbrev cX12_xSeason : ByteArray := prog_14_method_299_code
def yX12_xSeason : MethodName := ⟨RX12, "xSeason", "(II)V"⟩
abbrev cX12_xHour : ByteArray := prog_14_method_300_code
def yX12_xHour : MethodName := ⟨RX12, "xHour", "()V"⟩
abbrev cX12_pass : ByteArray := prog_14_method_301_code
def yX12_pass : MethodName := ⟨RX12, "pass", "(I)I"⟩
abbrev cX12_undo : ByteArray := prog_14_method_302_code
def yX12_undo : MethodName := ⟨RX12, "undo", "()I"⟩
abbrev cX12_keep : ByteArray := prog_14_method_303_code
def yX12_keep : MethodName := ⟨RX12, "keep", "(I)I"⟩
abbrev cX12_again : ByteArray := prog_14_method_304_code
def yX12_again : MethodName := ⟨RX12, "again", "(I)I"⟩
abbrev cX12_xAgain : ByteArray := prog_14_method_305_code
def yX12_xAgain : MethodName := ⟨RX12, "xAgain", "(I)V"⟩
abbrev cX12_xAgainMore : ByteArray := prog_14_method_306_code
def yX12_xAgainMore : MethodName := ⟨RX12, "xAgainMore", "(I)V"⟩
abbrev cX12_xIsAsWorked : ByteArray := prog_14_method_307_code
def yX12_xIsAsWorked : MethodName := ⟨RX12, "xIsAsWorked", "()Z"⟩
abbrev cX12_xSound : ByteArray := prog_14_method_308_code
def yX12_xSound : MethodName := ⟨RX12, "xSound", "()Z"⟩
abbrev cX12_xIsSound : ByteArray := prog_14_method_309_code
def yX12_xIsSound : MethodName := ⟨RX12, "xIsSound", "(I)Z"⟩
abbrev cX12_isSound : ByteArray := prog_14_method_310_code
def yX12_isSound : MethodName := ⟨RX12, "isSound", "(I)Z"⟩
abbrev cX12_xPallets : ByteArray := prog_14_method_311_code
def yX12_xPallets : MethodName := ⟨RX12, "xPallets", "(I)I"⟩
abbrev cX12_xParcels : ByteArray := prog_14_method_312_code
def yX12_xParcels : MethodName := ⟨RX12, "xParcels", "(I)I"⟩
abbrev cX12_sum : ByteArray := prog_14_method_313_code
def yX12_sum : MethodName := ⟨RX12, "sum", "(I)I"⟩
def RJ11 : String := "java/lang/Character"
def TJ11 : u_T := fun k => match k with
  | _ => ("", "", "", false)
def tyJ11 : Nat → FieldType := fun k => match k with
  | _ => .int
abbrev wsJ110 : List Cond := u_ws RJ11 TJ11 0
abbrev cJ11_isValidCodePoint_9a6ad : ByteArray := prog_15_method_11_code
def yJ11_isValidCodePoint_9a6ad : MethodName := ⟨RJ11, "isValidCodePoint", "(I)Z"⟩
abbrev cJ11_highSurrogate_5068e : ByteArray := prog_15_method_28_code
def yJ11_highSurrogate_5068e : MethodName := ⟨RJ11, "highSurrogate", "(I)C"⟩
abbrev cJ11_lowSurrogate_5068e : ByteArray := prog_15_method_29_code
def yJ11_lowSurrogate_5068e : MethodName := ⟨RJ11, "lowSurrogate", "(I)C"⟩
def RJ9 : String := "java/lang/Math"
def TJ9 : u_T := fun k => match k with
  | _ => ("", "", "", false)
def tyJ9 : Nat → FieldType := fun k => match k with
  | _ => .int
abbrev wsJ90 : List Cond := u_ws RJ9 TJ9 0
abbrev cJ9_max_7cf53 : ByteArray := prog_20_method_65_code
def yJ9_max_7cf53 : MethodName := ⟨RJ9, "max", "(II)I"⟩
abbrev cJ9_max_f86c9 : ByteArray := prog_20_method_66_code
def yJ9_max_f86c9 : MethodName := ⟨RJ9, "max", "(JJ)J"⟩
abbrev cJ9_min_7cf53 : ByteArray := prog_20_method_69_code
def yJ9_min_7cf53 : MethodName := ⟨RJ9, "min", "(II)I"⟩
def RJ0 : String := "java/lang/String"
def TJ0 : u_T := fun k => match k with
  | _ => ("", "", "", false)
def tyJ0 : Nat → FieldType := fun k => match k with
  | _ => .int
abbrev wsJ00 : List Cond := u_ws RJ0 TJ0 0
abbrev cJ0_length_8abf5 : ByteArray := prog_22_method_54_code
def yJ0_length_8abf5 : MethodName := ⟨RJ0, "length", "()I"⟩
abbrev cJ0_indexOf_0f7a4 : ByteArray := prog_22_method_79_code
def yJ0_indexOf_0f7a4 : MethodName := ⟨RJ0, "indexOf", "(I)I"⟩
abbrev cJ0_indexOf_7cf53 : ByteArray := prog_22_method_80_code
def yJ0_indexOf_7cf53 : MethodName := ⟨RJ0, "indexOf", "(II)I"⟩
abbrev cJ0_coder_7d493 : ByteArray := prog_22_method_152_code
def yJ0_coder_7d493 : MethodName := ⟨RJ0, "coder", "()B"⟩
abbrev cJ0_isLatin1_aae02 : ByteArray := prog_22_method_154_code
def yJ0_isLatin1_aae02 : MethodName := ⟨RJ0, "isLatin1", "()Z"⟩
abbrev cJ0_checkBoundsBeginEnd_23922 : ByteArray := prog_22_method_158_code
def yJ0_checkBoundsBeginEnd_23922 : MethodName := ⟨RJ0, "checkBoundsBeginEnd", "(III)V"⟩
def RJ1 : String := "java/lang/StringLatin1"
def TJ1 : u_T := fun k => match k with
  | _ => ("", "", "", false)
def tyJ1 : Nat → FieldType := fun k => match k with
  | _ => .int
abbrev wsJ10 : List Cond := u_ws RJ1 TJ1 0
abbrev cJ1_canEncode_9a6ad : ByteArray := prog_23_method_4_code
def yJ1_canEncode_9a6ad : MethodName := ⟨RJ1, "canEncode", "(I)Z"⟩
abbrev cJ1_indexOf_4cfef : ByteArray := prog_23_method_22_code
def yJ1_indexOf_4cfef : MethodName := ⟨RJ1, "indexOf", "([BIII)I"⟩
abbrev cJ1_indexOfChar_4cfef : ByteArray := prog_23_method_23_code
def yJ1_indexOfChar_4cfef : MethodName := ⟨RJ1, "indexOfChar", "([BIII)I"⟩
def RJ2 : String := "java/lang/StringUTF16"
def TJ2 : u_T := fun k => match k with
  | _ => ("", "", "", false)
def tyJ2 : Nat → FieldType := fun k => match k with
  | _ => .int
abbrev wsJ20 : List Cond := u_ws RJ2 TJ2 0
abbrev cJ2_getChar_3b067 : ByteArray := prog_24_method_5_code
def yJ2_getChar_3b067 : MethodName := ⟨RJ2, "getChar", "([BI)C"⟩
abbrev cJ2_length_9d52b : ByteArray := prog_24_method_6_code
def yJ2_length_9d52b : MethodName := ⟨RJ2, "length", "([B)I"⟩
abbrev cJ2_indexOf_4cfef : ByteArray := prog_24_method_40_code
def yJ2_indexOf_4cfef : MethodName := ⟨RJ2, "indexOf", "([BIII)I"⟩
abbrev cJ2_indexOfChar_4cfef : ByteArray := prog_24_method_47_code
def yJ2_indexOfChar_4cfef : MethodName := ⟨RJ2, "indexOfChar", "([BIII)I"⟩
abbrev cJ2_indexOfCharUnsafe_4cfef : ByteArray := prog_24_method_48_code
def yJ2_indexOfCharUnsafe_4cfef : MethodName := ⟨RJ2, "indexOfCharUnsafe", "([BIII)I"⟩
abbrev cJ2_indexOfSupplementary_4cfef : ByteArray := prog_24_method_49_code
def yJ2_indexOfSupplementary_4cfef : MethodName := ⟨RJ2, "indexOfSupplementary", "([BIII)I"⟩
abbrev cJ2_checkBoundsBeginEnd_d044e : ByteArray := prog_24_method_93_code
def yJ2_checkBoundsBeginEnd_d044e : MethodName := ⟨RJ2, "checkBoundsBeginEnd", "(II[B)V"⟩
def RJ10 : String := "java/lang/System"
def TJ10 : u_T := fun k => match k with
  | _ => ("", "", "", false)
def tyJ10 : Nat → FieldType := fun k => match k with
  | _ => .int
abbrev wsJ100 : List Cond := u_ws RJ10 TJ10 0
def RJ3 : String := "jdk/internal/util/Preconditions"
def TJ3 : u_T := fun k => match k with
  | _ => ("", "", "", false)
def tyJ3 : Nat → FieldType := fun k => match k with
  | _ => .int
abbrev wsJ30 : List Cond := u_ws RJ3 TJ3 0
abbrev cJ3_checkFromToIndex_8c36e : ByteArray := prog_27_method_12_code
def yJ3_checkFromToIndex_8c36e : MethodName := ⟨RJ3, "checkFromToIndex", "(IIILjava/util/function/BiFunction;)I"⟩
def RL : String := "MarketHallLaw"
abbrev cL_sort : ByteArray := method_3_code
def yL_sort : MethodName := ⟨RL, "sort", "(LMarketHall;IIIII[J)I"⟩
abbrev cL_grower : ByteArray := method_4_code
def yL_grower : MethodName := ⟨RL, "grower", "(LMarketHall;II[J)I"⟩
abbrev cL_deliver : ByteArray := method_5_code
def yL_deliver : MethodName := ⟨RL, "deliver", "(LMarketHall;IIIII[J)I"⟩
abbrev cL_grade : ByteArray := method_6_code
def yL_grade : MethodName := ⟨RL, "grade", "(LMarketHall;IIII[J)I"⟩
abbrev cL_odds : ByteArray := method_7_code
def yL_odds : MethodName := ⟨RL, "odds", "(LMarketHall;IIIII[J)I"⟩
abbrev cL_plan : ByteArray := method_8_code
def yL_plan : MethodName := ⟨RL, "plan", "(LMarketHall;IIII[J)I"⟩
abbrev cL_grown : ByteArray := method_9_code
def yL_grown : MethodName := ⟨RL, "grown", "(LMarketHall;II[J)I"⟩
abbrev cL_room : ByteArray := method_10_code
def yL_room : MethodName := ⟨RL, "room", "(LMarketHall;III[J)I"⟩
abbrev cL_set : ByteArray := method_11_code
def yL_set : MethodName := ⟨RL, "set", "(LMarketHall;II[J)I"⟩
abbrev cL_gas : ByteArray := method_12_code
def yL_gas : MethodName := ⟨RL, "gas", "(LMarketHall;IZ[J)I"⟩
abbrev cL_outside : ByteArray := method_13_code
def yL_outside : MethodName := ⟨RL, "outside", "(LMarketHall;II[J)I"⟩
abbrev cL_put : ByteArray := method_14_code
def yL_put : MethodName := ⟨RL, "put", "(LMarketHall;II[J)I"⟩
abbrev cL_dump : ByteArray := method_15_code
def yL_dump : MethodName := ⟨RL, "dump", "(LMarketHall;I[J)I"⟩
abbrev cL_kept : ByteArray := method_16_code
def yL_kept : MethodName := ⟨RL, "kept", "(LMarketHall;II[J)I"⟩
abbrev cL_pallet : ByteArray := method_17_code
def yL_pallet : MethodName := ⟨RL, "pallet", "(LMarketHall;II[J)I"⟩
abbrev cL_ripe : ByteArray := method_18_code
def yL_ripe : MethodName := ⟨RL, "ripe", "(LMarketHall;III[J)I"⟩
abbrev cL_best : ByteArray := method_19_code
def yL_best : MethodName := ⟨RL, "best", "(LMarketHall;II[J)I"⟩
abbrev cL_buyer : ByteArray := method_20_code
def yL_buyer : MethodName := ⟨RL, "buyer", "(LMarketHall;III[J)I"⟩
abbrev cL_order : ByteArray := method_21_code
def yL_order : MethodName := ⟨RL, "order", "(LMarketHall;IIIIII[J)I"⟩
abbrev cL_cancel : ByteArray := method_22_code
def yL_cancel : MethodName := ⟨RL, "cancel", "(LMarketHall;I[J)I"⟩
abbrev cL_pay : ByteArray := method_23_code
def yL_pay : MethodName := ⟨RL, "pay", "(LMarketHall;II[J)I"⟩
abbrev cL_owes : ByteArray := method_24_code
def yL_owes : MethodName := ⟨RL, "owes", "(LMarketHall;II[J)I"⟩
abbrev cL_ordered : ByteArray := method_25_code
def yL_ordered : MethodName := ⟨RL, "ordered", "(LMarketHall;II[J)I"⟩
abbrev cL_taker : ByteArray := method_26_code
def yL_taker : MethodName := ⟨RL, "taker", "(LMarketHall;II[J)I"⟩
abbrev cL_match : ByteArray := method_27_code
def yL_match : MethodName := ⟨RL, "match", "(LMarketHall;I[J)I"⟩
abbrev cL_clock : ByteArray := method_28_code
def yL_clock : MethodName := ⟨RL, "clock", "(LMarketHall;IIIII[J)I"⟩
abbrev cL_queue : ByteArray := method_29_code
def yL_queue : MethodName := ⟨RL, "queue", "(LMarketHall;IIII[J)I"⟩
abbrev cL_withdraw : ByteArray := method_30_code
def yL_withdraw : MethodName := ⟨RL, "withdraw", "(LMarketHall;I[J)I"⟩
abbrev cL_hand : ByteArray := method_31_code
def yL_hand : MethodName := ⟨RL, "hand", "(LMarketHall;II[J)I"⟩
abbrev cL_lot : ByteArray := method_32_code
def yL_lot : MethodName := ⟨RL, "lot", "(LMarketHall;III[J)I"⟩
abbrev cL_takings : ByteArray := method_33_code
def yL_takings : MethodName := ⟨RL, "takings", "(LMarketHall;III[J)I"⟩
abbrev cL_bestRow : ByteArray := method_34_code
def yL_bestRow : MethodName := ⟨RL, "bestRow", "(LMarketHall;II[J)I"⟩
abbrev cL_bestStart : ByteArray := method_35_code
def yL_bestStart : MethodName := ⟨RL, "bestStart", "(LMarketHall;IIII[J)I"⟩
abbrev cL_way : ByteArray := method_36_code
def yL_way : MethodName := ⟨RL, "way", "(LMarketHall;III[J)I"⟩
abbrev cL_docks : ByteArray := method_37_code
def yL_docks : MethodName := ⟨RL, "docks", "(LMarketHall;I[J)I"⟩
abbrev cL_truck : ByteArray := method_38_code
def yL_truck : MethodName := ⟨RL, "truck", "(LMarketHall;II[J)I"⟩
abbrev cL_load : ByteArray := method_39_code
def yL_load : MethodName := ⟨RL, "load", "(LMarketHall;II[J)I"⟩
abbrev cL_send : ByteArray := method_40_code
def yL_send : MethodName := ⟨RL, "send", "(LMarketHall;II[J)I"⟩
abbrev cL_haul : ByteArray := method_41_code
def yL_haul : MethodName := ⟨RL, "haul", "(LMarketHall;II[J)I"⟩
abbrev cL_parcel : ByteArray := method_42_code
def yL_parcel : MethodName := ⟨RL, "parcel", "(LMarketHall;II[J)I"⟩
abbrev cL_trip : ByteArray := method_43_code
def yL_trip : MethodName := ⟨RL, "trip", "(LMarketHall;II[J)I"⟩
abbrev cL_fewest : ByteArray := method_44_code
def yL_fewest : MethodName := ⟨RL, "fewest", "(LMarketHall;II[J)I"⟩
abbrev cL_inspector : ByteArray := method_45_code
def yL_inspector : MethodName := ⟨RL, "inspector", "(LMarketHall;II[J)I"⟩
abbrev cL_round : ByteArray := method_46_code
def yL_round : MethodName := ⟨RL, "round", "(LMarketHall;III[J)I"⟩
abbrev cL_looked : ByteArray := method_47_code
def yL_looked : MethodName := ⟨RL, "looked", "(LMarketHall;II[J)I"⟩
abbrev cL_found : ByteArray := method_48_code
def yL_found : MethodName := ⟨RL, "found", "(LMarketHall;II[J)I"⟩
abbrev cL_worst : ByteArray := method_49_code
def yL_worst : MethodName := ⟨RL, "worst", "(LMarketHall;II[J)I"⟩
abbrev cL_tariff : ByteArray := method_50_code
def yL_tariff : MethodName := ⟨RL, "tariff", "(LMarketHall;II[J)I"⟩
abbrev cL_account : ByteArray := method_51_code
def yL_account : MethodName := ⟨RL, "account", "(LMarketHall;I[J)I"⟩
abbrev cL_entry : ByteArray := method_52_code
def yL_entry : MethodName := ⟨RL, "entry", "(LMarketHall;II[J)I"⟩
abbrev cL_owed : ByteArray := method_53_code
def yL_owed : MethodName := ⟨RL, "owed", "(LMarketHall;II[J)I"⟩
abbrev cL_quarrel : ByteArray := method_54_code
def yL_quarrel : MethodName := ⟨RL, "quarrel", "(LMarketHall;II[J)I"⟩
abbrev cL_quarrelled : ByteArray := method_55_code
def yL_quarrelled : MethodName := ⟨RL, "quarrelled", "(LMarketHall;II[J)I"⟩
abbrev cL_blame : ByteArray := method_56_code
def yL_blame : MethodName := ⟨RL, "blame", "(LMarketHall;III[J)I"⟩
abbrev cL_shares : ByteArray := method_57_code
def yL_shares : MethodName := ⟨RL, "shares", "(LMarketHall;IIIII[J)I"⟩
abbrev cL_sign : ByteArray := method_58_code
def yL_sign : MethodName := ⟨RL, "sign", "(LMarketHall;I[J)I"⟩
abbrev cL_season : ByteArray := method_59_code
def yL_season : MethodName := ⟨RL, "season", "(LMarketHall;II[J)I"⟩
abbrev cL_pass : ByteArray := method_60_code
def yL_pass : MethodName := ⟨RL, "pass", "(LMarketHall;I[J)I"⟩
abbrev cL_undo : ByteArray := method_61_code
def yL_undo : MethodName := ⟨RL, "undo", "(LMarketHall;[J)I"⟩
abbrev cL_keep : ByteArray := method_62_code
def yL_keep : MethodName := ⟨RL, "keep", "(LMarketHall;I[J)I"⟩
abbrev cL_again : ByteArray := method_63_code
def yL_again : MethodName := ⟨RL, "again", "(LMarketHall;I[J)I"⟩
abbrev cL_isSound : ByteArray := method_64_code
def yL_isSound : MethodName := ⟨RL, "isSound", "(LMarketHall;I[J)I"⟩
abbrev cL_sum : ByteArray := method_65_code
def yL_sum : MethodName := ⟨RL, "sum", "(LMarketHall;I[J)I"⟩
abbrev cL_law : ByteArray := code
def yL_law : MethodName := ⟨RL, "law", "([I)Z"⟩
def wsL_law0_r1 : List Cond := [Cond.classLink RL 8 RX11, Cond.instantiable RX11 7, Cond.initialized RX11, Cond.classLink RL 215 RX12, Cond.instantiable RX12 52, Cond.initialized RX12, Cond.arrayClass .long, Cond.methodLink RL 214 yX11_init, Cond.instanceMethod yX11_init, Cond.code yX11_init cX11_init 1 none, Cond.methodLink RX11 1 objectInit, Cond.instanceMethod objectInit, Cond.code objectInit ⟨#[0xb1]⟩ 1 none, Cond.classLink RX11 7 RX6, Cond.instantiable RX6 19, Cond.initialized RX6, Cond.fieldLink RX11 10 "MarketHall" "hall" "LMarketHall$Hall;", Cond.classLink RX11 16 RX4, Cond.instantiable RX4 9, Cond.initialized RX4, Cond.fieldLink RX11 19 "MarketHall" "deeds" "LMarketHall$Deeds;", Cond.classLink RX11 23 RX9, Cond.instantiable RX9 2, Cond.initialized RX9]
def wsL_law0_r2 : List Cond := [Cond.fieldLink RX11 26 "MarketHall" "slate" "LMarketHall$Slate;", Cond.fieldLink RX11 30 "MarketHall" "spares" "[LMarketHall$Hall;", Cond.arrayClass .int, Cond.fieldLink RX11 34 "MarketHall" "act" "[I", Cond.fieldLink RX11 38 "MarketHall" "several" "[I", Cond.fieldLink RX11 43 "MarketHall" "loads" "[I", Cond.methodLink RX11 9 yX6_init, Cond.instanceMethod yX6_init, Cond.code yX6_init cX6_init 3 none, Cond.methodLink RX6 3 objectInit, Cond.fieldLink RX6 9 "MarketHall$Hall" "of" "[I", Cond.fieldLink RX6 15 "MarketHall$Hall" "outside" "[I", Cond.fieldLink RX6 18 "MarketHall$Hall" "tariffs" "[I", Cond.fieldLink RX6 23 "MarketHall$Hall" "accounts" "[I", Cond.classLink RX6 26 "[[I", Cond.fieldLink RX6 28 "MarketHall$Hall" "ways" "[[I", Cond.fieldLink RX6 31 "MarketHall$Hall" "sorts" "[[I", Cond.fieldLink RX6 34 "MarketHall$Hall" "growers" "[[I", Cond.fieldLink RX6 37 "MarketHall$Hall" "rooms" "[[I", Cond.fieldLink RX6 40 "MarketHall$Hall" "pallets" "[[I", Cond.fieldLink RX6 43 "MarketHall$Hall" "buyers" "[[I", Cond.fieldLink RX6 46 "MarketHall$Hall" "orders" "[[I", Cond.fieldLink RX6 49 "MarketHall$Hall" "parcels" "[[I", Cond.fieldLink RX6 52 "MarketHall$Hall" "clocks" "[[I"]
def wsL_law0_r3 : List Cond := [Cond.fieldLink RX6 55 "MarketHall$Hall" "lots" "[[I", Cond.fieldLink RX6 58 "MarketHall$Hall" "trucks" "[[I", Cond.fieldLink RX6 61 "MarketHall$Hall" "inspectors" "[[I", Cond.fieldLink RX6 64 "MarketHall$Hall" "findings" "[[I", Cond.fieldLink RX6 67 "MarketHall$Hall" "entries" "[[I", Cond.fieldLink RX6 70 "MarketHall$Hall" "quarrels" "[[I", Cond.instanceMethod yX4_init, Cond.code yX4_init cX4_init 1 none, Cond.methodLink RX4 3 objectInit, Cond.classLink RX4 11 "[[I", Cond.fieldLink RX4 13 "MarketHall$Deeds" "acts" "[[I", Cond.fieldLink RX4 16 "MarketHall$Deeds" "chain" "[I", Cond.classLink RX4 20 RX6, Cond.fieldLink RX4 23 "MarketHall$Deeds" "nothing" "LMarketHall$Hall;", Cond.fieldLink RX4 27 "MarketHall$Deeds" "before" "[LMarketHall$Hall;", Cond.fieldLink RX4 31 "MarketHall$Deeds" "images" "[LMarketHall$Hall;", Cond.arrayClass .boolean, Cond.fieldLink RX4 34 "MarketHall$Deeds" "isKept" "[Z", Cond.fieldLink RX4 38 "MarketHall$Deeds" "many" "I", Cond.fieldLink RX4 42 "MarketHall$Deeds" "newest" "I", Cond.fieldLink RX4 45 "MarketHall$Deeds" "undoable" "I", Cond.methodLink RX4 22 yX6_init, Cond.instanceMethod yX9_init, Cond.code yX9_init cX9_init 1 none]
def wsL_law0_r4 : List Cond := [Cond.methodLink RX9 3 objectInit, Cond.fieldLink RX9 9 "MarketHall$Slate" "signs" "[I", Cond.fieldLink RX9 15 "MarketHall$Slate" "length" "I", Cond.methodLink RL 217 yX12_init, Cond.instanceMethod yX12_init, Cond.code yX12_init cX12_init 1 none, Cond.methodLink RX12 1 objectInit, Cond.fieldLink RX12 9 "MarketHallModel" "s" "[I", Cond.fieldLink RX12 13 "MarketHallModel" "held" "[I", Cond.fieldLink RX12 16 "MarketHallModel" "rThree" "[I", Cond.fieldLink RX12 19 "MarketHallModel" "bGiven" "[I", Cond.fieldLink RX12 22 "MarketHallModel" "bSpare" "[I", Cond.fieldLink RX12 25 "MarketHallModel" "bMay" "[Z", Cond.fieldLink RX12 29 "MarketHallModel" "bFrom" "[I", Cond.fieldLink RX12 32 "MarketHallModel" "bVia" "[I", Cond.fieldLink RX12 35 "MarketHallModel" "bLine" "[I", Cond.fieldLink RX12 38 "MarketHallModel" "bTotal" "[I", Cond.fieldLink RX12 41 "MarketHallModel" "bServed" "[Z", Cond.fieldLink RX12 44 "MarketHallModel" "cWould" "[I", Cond.fieldLink RX12 47 "MarketHallModel" "cRow" "[I", Cond.fieldLink RX12 50 "MarketHallModel" "cBest" "[I", Cond.fieldLink RX12 53 "MarketHallModel" "cOld" "[I", Cond.fieldLink RX12 56 "MarketHallModel" "tRow" "[I", Cond.fieldLink RX12 59 "MarketHallModel" "tBest" "[I"]
def wsL_law0_r5 : List Cond := [Cond.fieldLink RX12 62 "MarketHallModel" "tBySets" "[I", Cond.fieldLink RX12 65 "MarketHallModel" "tCrates" "[I", Cond.fieldLink RX12 68 "MarketHallModel" "tFull" "[I", Cond.fieldLink RX12 71 "MarketHallModel" "iAhead" "[I", Cond.constant RX12 74 (35200), Cond.fieldLink RX12 75 "MarketHallModel" "past" "[I", Cond.fieldLink RX12 78 "MarketHallModel" "rec" "[I", Cond.fieldLink RX12 81 "MarketHallModel" "recSigns" "[I", Cond.fieldLink RX12 84 "MarketHallModel" "imaged" "[I", Cond.fieldLink RX12 87 "MarketHallModel" "imageRec0" "[I", Cond.fieldLink RX12 90 "MarketHallModel" "imageRec1" "[I", Cond.fieldLink RX12 93 "MarketHallModel" "imageSigns0" "[I", Cond.fieldLink RX12 96 "MarketHallModel" "imageSigns1" "[I", Cond.fieldLink RX12 99 "MarketHallModel" "imageMany" "[I", Cond.fieldLink RX12 102 "MarketHallModel" "imageSignMany" "[I", Cond.fieldLink RX12 105 "MarketHallModel" "isImage" "[I", Cond.fieldLink RX12 108 "MarketHallModel" "slate" "[I", Cond.fieldLink RX12 111 "MarketHallModel" "xTold" "[I", Cond.methodLink RX12 114 yX12_begin, Cond.instanceMethod yX12_begin, Cond.selects RX12 yX12_begin yX12_begin, Cond.code yX12_begin cX12_begin 2 none, Cond.methodLink RX12 121 yX12_dBegin, Cond.instanceMethod yX12_dBegin]
def wsL_law0_r6 : List Cond := [Cond.selects RX12 yX12_dBegin yX12_dBegin, Cond.code yX12_dBegin cX12_dBegin 1 none, Cond.methodLink RX12 124 yX12_rBegin, Cond.instanceMethod yX12_rBegin, Cond.selects RX12 yX12_rBegin yX12_rBegin, Cond.code yX12_rBegin cX12_rBegin 2 none, Cond.methodLink RX12 127 yX12_bBegin, Cond.instanceMethod yX12_bBegin, Cond.selects RX12 yX12_bBegin yX12_bBegin, Cond.code yX12_bBegin cX12_bBegin 1 none, Cond.methodLink RX12 130 yX12_tBegin, Cond.instanceMethod yX12_tBegin, Cond.selects RX12 yX12_tBegin yX12_tBegin, Cond.code yX12_tBegin cX12_tBegin 2 none, Cond.methodLink RX12 133 yX12_iBegin, Cond.instanceMethod yX12_iBegin, Cond.selects RX12 yX12_iBegin yX12_iBegin, Cond.code yX12_iBegin cX12_iBegin 1 none, Cond.methodLink RX12 136 yX12_kBegin, Cond.instanceMethod yX12_kBegin, Cond.selects RX12 yX12_kBegin yX12_kBegin, Cond.code yX12_kBegin cX12_kBegin 1 none, Cond.methodLink RL 218 yL_sort, Cond.static yL_sort]
def wsL_law0_r7 : List Cond := [Cond.initialized RL, Cond.codeWith yL_sort cL_sort 8 (some .int) [(0, 16, 19, 13), (0, 16, 23, 15)], Cond.classLink RL 13 "java/lang/IllegalArgumentException", Cond.classLink RL 15 "java/lang/IllegalStateException", Cond.methodLink RL 7 yX11_sort, Cond.instanceMethod yX11_sort, Cond.selects RX11 yX11_sort yX11_sort, Cond.code yX11_sort cX11_sort 6 (some .int), Cond.fieldLink RX11 50 "MarketHall$Hall" "of" "[I", Cond.methodLink RX11 46 yX11_inRange, Cond.static yX11_inRange, Cond.code yX11_inRange cX11_inRange 3 none, Cond.methodLink RX11 111 yX11_refuse, Cond.static yX11_refuse, Cond.code yX11_refuse cX11_refuse 1 none, Cond.classLink RX11 339 "java/lang/IndexOutOfBoundsException", Cond.initialized "java/lang/IndexOutOfBoundsException", Cond.classLink RX11 346 "java/lang/IllegalArgumentException", Cond.initialized "java/lang/IllegalArgumentException", Cond.classLink RX11 351 "java/lang/IllegalStateException", Cond.initialized "java/lang/IllegalStateException", Cond.methodLink RX11 53 yX11_inTime, Cond.static yX11_inTime, Cond.code yX11_inTime cX11_inTime 1 none]
def wsL_law0_r8 : List Cond := [Cond.methodLink RX11 57 yX11_deed, Cond.instanceMethod yX11_deed, Cond.selects RX11 yX11_deed yX11_deed, Cond.code yX11_deed cX11_deed 8 (some .int), Cond.methodLink RX11 356 yX4_begin, Cond.instanceMethod yX4_begin, Cond.selects RX4 yX4_begin yX4_begin, Cond.code yX4_begin cX4_begin 2 none, Cond.methodLink RX4 52 Lib.Math.min.name, Cond.static Lib.Math.min.name, Cond.initialized "java/lang/Math", Cond.code Lib.Math.min.name Lib.Math.min.code 2 (some .int), Cond.fieldLink RX4 58 "MarketHall$Hall" "of" "[I", Cond.methodLink RX4 48 yX6_copy, Cond.instanceMethod yX6_copy, Cond.selects RX6 yX6_copy yX6_copy, Cond.code yX6_copy cX6_copy 2 none, Cond.methodLink RX6 73 yX6_copyRow, Cond.static yX6_copyRow, Cond.code yX6_copyRow cX6_copyRow 2 none, Cond.methodLink RX6 81 Lib.Math.min.name, Cond.methodLink RX6 87 arraycopyName, Cond.native arraycopyName, Cond.static arraycopyName]
def wsL_law0_r9 : List Cond := [Cond.initialized "java/lang/System", Cond.methodLink RX6 77 yX6_copyRows, Cond.static yX6_copyRows, Cond.code yX6_copyRows cX6_copyRows 3 none, Cond.methodLink RX11 360 yX4_record, Cond.instanceMethod yX4_record, Cond.selects RX4 yX4_record yX4_record, Cond.code yX4_record cX4_record 3 none, Cond.methodLink RX4 61 arraycopyName, Cond.methodLink RX11 364 yX6_perform, Cond.instanceMethod yX6_perform, Cond.selects RX6 yX6_perform yX6_perform, Cond.code yX6_perform cX6_perform 2 (some .int), Cond.classLink RX6 204 RX8, Cond.instantiable RX8 3, Cond.initialized RX8, Cond.methodLink RX6 133 yX5_addSort, Cond.static yX5_addSort, Cond.initialized RX5, Cond.code yX5_addSort cX5_addSort 7 (some .int), Cond.fieldLink RX5 9 "MarketHall$Hall" "sorts" "[[I", Cond.fieldLink RX5 15 "MarketHall$Hall" "of" "[I", Cond.methodLink RX6 139 yX5_addGrower, Cond.static yX5_addGrower]
def wsL_law0_r10 : List Cond := [Cond.code yX5_addGrower cX5_addGrower 4 (some .int), Cond.fieldLink RX5 19 "MarketHall$Hall" "growers" "[[I", Cond.methodLink RX6 142 yX5_addPallet, Cond.static yX5_addPallet, Cond.code yX5_addPallet cX5_addPallet 7 (some .int), Cond.fieldLink RX5 22 "MarketHall$Hall" "pallets" "[[I", Cond.methodLink RX6 145 yX5_gradePallet, Cond.static yX5_gradePallet, Cond.code yX5_gradePallet cX5_gradePallet 11 (some .int), Cond.methodLink RX5 44 Lib.Math.max.name, Cond.static Lib.Math.max.name, Cond.code Lib.Math.max.name Lib.Math.max.code 2 (some .int), Cond.fieldLink RX5 51 "MarketHall$Hall" "tariffs" "[I", Cond.methodLink RX5 32 yX5_nextSeed, Cond.static yX5_nextSeed, Cond.code yX5_nextSeed cX5_nextSeed 1 (some .int), Cond.constant RX5 31 (65536), Cond.methodLink RX5 36 yX5_gradeBy, Cond.static yX5_gradeBy, Cond.code yX5_gradeBy cX5_gradeBy 2 (some .int), Cond.methodLink RX5 40 yX5_least, Cond.static yX5_least, Cond.code yX5_least cX5_least 3 (some .int), Cond.methodLink RX5 25 yX5_stage]
def wsL_law0_r11 : List Cond := [Cond.static yX5_stage, Cond.code yX5_stage cX5_stage 5 (some .int), Cond.methodLink RX5 54 yX0_enter, Cond.static yX0_enter, Cond.initialized RX0, Cond.code yX0_enter cX0_enter 6 none, Cond.fieldLink RX0 9 "MarketHall$Hall" "accounts" "[I", Cond.fieldLink RX0 15 "MarketHall$Hall" "entries" "[[I", Cond.fieldLink RX0 19 "MarketHall$Hall" "of" "[I", Cond.methodLink RX6 148 yX10_addRoom, Cond.static yX10_addRoom, Cond.initialized RX10, Cond.code yX10_addRoom cX10_addRoom 5 (some .int), Cond.fieldLink RX10 9 "MarketHall$Hall" "rooms" "[[I", Cond.fieldLink RX10 15 "MarketHall$Hall" "of" "[I", Cond.fieldLink RX10 19 "MarketHall$Hall" "outside" "[I", Cond.methodLink RX10 22 yX6_today, Cond.instanceMethod yX6_today, Cond.selects RX6 yX6_today yX6_today, Cond.code yX6_today cX6_today 1 (some .int), Cond.methodLink RX6 152 yX6_swap, Cond.static yX6_swap, Cond.code yX6_swap cX6_swap 4 (some .int), Cond.methodLink RX6 156 yX10_putPallet]
def wsL_law0_r12 : List Cond := [Cond.static yX10_putPallet, Cond.code yX10_putPallet cX10_putPallet 4 (some .int), Cond.fieldLink RX10 26 "MarketHall$Hall" "pallets" "[[I", Cond.methodLink RX10 48 yX10_move, Cond.static yX10_move, Cond.code yX10_move cX10_move 4 none, Cond.methodLink RX10 45 yX10_placesLeft, Cond.static yX10_placesLeft, Cond.code yX10_placesLeft cX10_placesLeft 3 (some .int), Cond.methodLink RX10 29 yX10_standing, Cond.static yX10_standing, Cond.code yX10_standing cX10_standing 4 (some .int), Cond.methodLink RX6 159 yX5_takeAway, Cond.static yX5_takeAway, Cond.code yX5_takeAway cX5_takeAway 7 (some .int), Cond.fieldLink RX5 58 "MarketHall$Hall" "parcels" "[[I", Cond.methodLink RX5 61 yX3_takeOut, Cond.static yX3_takeOut, Cond.initialized RX3, Cond.code yX3_takeOut cX3_takeOut 4 (some .int), Cond.fieldLink RX3 15 "MarketHall$Hall" "of" "[I", Cond.fieldLink RX3 9 "MarketHall$Hall" "clocks" "[[I", Cond.fieldLink RX3 34 "MarketHall$Hall" "lots" "[[I", Cond.fieldLink RX3 19 "MarketHall$Hall" "pallets" "[[I"]
def wsL_law0_r13 : List Cond := [Cond.methodLink RX3 37 yX3_moveUp, Cond.static yX3_moveUp, Cond.code yX3_moveUp cX3_moveUp 6 none, Cond.methodLink RX5 67 yX10_move, Cond.methodLink RX5 73 yX1_enterLost, Cond.static yX1_enterLost, Cond.initialized RX1, Cond.code yX1_enterLost cX1_enterLost 5 none, Cond.fieldLink RX1 9 "MarketHall$Hall" "buyers" "[[I", Cond.fieldLink RX1 19 "MarketHall$Hall" "orders" "[[I", Cond.methodLink RX1 58 Lib.Math.min.name, Cond.methodLink RX6 162 yX1_addBuyer, Cond.static yX1_addBuyer, Cond.code yX1_addBuyer cX1_addBuyer 5 (some .int), Cond.fieldLink RX1 15 "MarketHall$Hall" "of" "[I", Cond.methodLink RX6 165 yX1_addOrder, Cond.static yX1_addOrder, Cond.code yX1_addOrder cX1_addOrder 8 (some .int), Cond.methodLink RX6 169 yX1_cancelOrder, Cond.static yX1_cancelOrder, Cond.code yX1_cancelOrder cX1_cancelOrder 4 (some .int), Cond.methodLink RX6 172 yX1_payIn, Cond.static yX1_payIn, Cond.code yX1_payIn cX1_payIn 4 (some .int)]
def wsL_law0_r14 : List Cond := [Cond.methodLink RX1 24 yX0_enter, Cond.methodLink RX6 175 yX3_addClock, Cond.static yX3_addClock, Cond.code yX3_addClock cX3_addClock 7 (some .int), Cond.methodLink RX6 178 yX3_queuePallet, Cond.static yX3_queuePallet, Cond.code yX3_queuePallet cX3_queuePallet 6 (some .int), Cond.methodLink RX3 28 yX3_writeLot, Cond.static yX3_writeLot, Cond.code yX3_writeLot cX3_writeLot 5 none, Cond.methodLink RX6 181 yX3_takeOut, Cond.methodLink RX6 184 yX2_changeWay, Cond.static yX2_changeWay, Cond.initialized RX2, Cond.code yX2_changeWay cX2_changeWay 5 (some .int), Cond.fieldLink RX2 9 "MarketHall$Hall" "ways" "[[I", Cond.methodLink RX6 187 yX2_addTruck, Cond.static yX2_addTruck, Cond.code yX2_addTruck cX2_addTruck 4 (some .int), Cond.fieldLink RX2 15 "MarketHall$Hall" "trucks" "[[I", Cond.fieldLink RX2 18 "MarketHall$Hall" "of" "[I", Cond.methodLink RX6 190 yX2_loadParcel, Cond.static yX2_loadParcel, Cond.code yX2_loadParcel cX2_loadParcel 5 (some .int)]
def wsL_law0_r15 : List Cond := [Cond.fieldLink RX2 22 "MarketHall$Hall" "parcels" "[[I", Cond.fieldLink RX2 31 "MarketHall$Hall" "pallets" "[[I", Cond.methodLink RX2 47 yX5_clearIfDone, Cond.static yX5_clearIfDone, Cond.code yX5_clearIfDone cX5_clearIfDone 3 none, Cond.methodLink RX5 79 yX5_waitingOf, Cond.static yX5_waitingOf, Cond.code yX5_waitingOf cX5_waitingOf 4 (some .int), Cond.methodLink RX2 40 yX2_cratesIn, Cond.static yX2_cratesIn, Cond.code yX2_cratesIn cX2_cratesIn 4 (some .int), Cond.methodLink RX6 193 yX7_addInspector, Cond.static yX7_addInspector, Cond.initialized RX7, Cond.code yX7_addInspector cX7_addInspector 4 (some .int), Cond.fieldLink RX7 9 "MarketHall$Hall" "inspectors" "[[I", Cond.fieldLink RX7 15 "MarketHall$Hall" "of" "[I", Cond.methodLink RX6 198 yX7_changeRound, Cond.static yX7_changeRound, Cond.code yX7_changeRound cX7_changeRound 4 (some .int), Cond.methodLink RX7 26 yX7_howManyStops, Cond.static yX7_howManyStops, Cond.code yX7_howManyStops cX7_howManyStops 3 (some .int), Cond.methodLink RX6 201 yX0_addQuarrel]
def wsL_law0_r16 : List Cond := [Cond.static yX0_addQuarrel, Cond.code yX0_addQuarrel cX0_addQuarrel 4 (some .int), Cond.fieldLink RX0 37 "MarketHall$Hall" "quarrels" "[[I", Cond.methodLink RX6 206 yX8_init, Cond.instanceMethod yX8_init, Cond.code yX8_init cX8_init 4 none, Cond.methodLink RX8 3 objectInit, Cond.fieldLink RX8 9 "MarketHall$Season" "h" "LMarketHall$Hall;", Cond.fieldLink RX8 15 "MarketHall$Season" "x" "I", Cond.fieldLink RX8 19 "MarketHall$Season" "size" "I", Cond.methodLink RX6 209 yX8_tellAll, Cond.instanceMethod yX8_tellAll, Cond.selects RX8 yX8_tellAll yX8_tellAll, Cond.code yX8_tellAll cX8_tellAll 1 (some .int), Cond.fieldLink RX8 52 "MarketHall$Hall" "of" "[I", Cond.methodLink RX8 34 yX8_tellGoods, Cond.instanceMethod yX8_tellGoods, Cond.selects RX8 yX8_tellGoods yX8_tellGoods, Cond.code yX8_tellGoods cX8_tellGoods 10 none, Cond.fieldLink RX8 69 "MarketHall$Hall" "growers" "[[I", Cond.fieldLink RX8 76 "MarketHall$Hall" "pallets" "[[I", Cond.methodLink RX8 58 yX8_draw, Cond.instanceMethod yX8_draw, Cond.selects RX8 yX8_draw yX8_draw]
def wsL_law0_r17 : List Cond := [Cond.code yX8_draw cX8_draw 2 (some .int), Cond.methodLink RX8 28 Lib.Math.max.name, Cond.methodLink RX8 22 yX5_nextSeed, Cond.methodLink RX8 61 yX5_addSort, Cond.methodLink RX8 65 yX5_addGrower, Cond.methodLink RX8 73 yX5_addPallet, Cond.methodLink RX8 37 yX8_tellStores, Cond.instanceMethod yX8_tellStores, Cond.selects RX8 yX8_tellStores yX8_tellStores, Cond.code yX8_tellStores cX8_tellStores 4 none, Cond.fieldLink RX8 85 "MarketHall$Hall" "rooms" "[[I", Cond.fieldLink RX8 88 "MarketHall$Hall" "outside" "[I", Cond.methodLink RX8 79 yX10_addRoom, Cond.methodLink RX8 91 yX10_placesLeft, Cond.methodLink RX8 95 yX10_putPallet, Cond.methodLink RX8 40 yX8_tellBuyers, Cond.instanceMethod yX8_tellBuyers, Cond.selects RX8 yX8_tellBuyers yX8_tellBuyers, Cond.code yX8_tellBuyers cX8_tellBuyers 2 none, Cond.constant RX8 98 (100000), Cond.methodLink RX8 99 yX1_addBuyer, Cond.methodLink RX8 104 yX1_addOrder, Cond.methodLink RX8 43 yX8_tellClocks, Cond.instanceMethod yX8_tellClocks]
def wsL_law0_r18 : List Cond := [Cond.selects RX8 yX8_tellClocks yX8_tellClocks, Cond.code yX8_tellClocks cX8_tellClocks 6 none, Cond.fieldLink RX8 113 "MarketHall$Hall" "clocks" "[[I", Cond.methodLink RX8 108 yX3_addClock, Cond.methodLink RX8 116 yX3_queueFault, Cond.static yX3_queueFault, Cond.code yX3_queueFault cX3_queueFault 7 (some .int), Cond.methodLink RX3 22 yX10_isShut, Cond.static yX10_isShut, Cond.code yX10_isShut cX10_isShut 2 (some .boolean), Cond.methodLink RX8 120 yX3_queuePallet, Cond.methodLink RX8 46 yX8_tellCarriers, Cond.instanceMethod yX8_tellCarriers, Cond.selects RX8 yX8_tellCarriers yX8_tellCarriers, Cond.code yX8_tellCarriers cX8_tellCarriers 3 none, Cond.methodLink RX8 123 yX2_changeWay, Cond.methodLink RX8 128 yX2_addTruck, Cond.methodLink RX8 49 yX8_tellRounds, Cond.instanceMethod yX8_tellRounds, Cond.selects RX8 yX8_tellRounds yX8_tellRounds, Cond.code yX8_tellRounds cX8_tellRounds 9 none, Cond.methodLink RX8 131 yX7_addInspector, Cond.methodLink RX8 136 yX7_changeRound, Cond.methodLink RX6 213 yX6_letHours]
def wsL_law0_r19 : List Cond := [Cond.instanceMethod yX6_letHours, Cond.selects RX6 yX6_letHours yX6_letHours, Cond.code yX6_letHours cX6_letHours 6 (some .int), Cond.methodLink RX6 217 yX2_arrive, Cond.static yX2_arrive, Cond.code yX2_arrive cX2_arrive 4 none, Cond.fieldLink RX2 93 "MarketHall$Hall" "tariffs" "[I", Cond.methodLink RX2 89 yX2_bring, Cond.static yX2_bring, Cond.code yX2_bring cX2_bring 5 none, Cond.methodLink RX2 53 yX2_townOf, Cond.static yX2_townOf, Cond.code yX2_townOf cX2_townOf 2 (some .int), Cond.fieldLink RX2 57 "MarketHall$Hall" "buyers" "[[I", Cond.methodLink RX2 102 yX1_come, Cond.static yX1_come, Cond.code yX1_come cX1_come 2 none, Cond.methodLink RX2 98 yX0_enter, Cond.methodLink RX6 221 yX10_growOlder, Cond.static yX10_growOlder, Cond.code yX10_growOlder cX10_growOlder 8 none, Cond.fieldLink RX10 69 "MarketHall$Hall" "sorts" "[[I", Cond.fieldLink RX10 80 "MarketHall$Hall" "parcels" "[[I", Cond.fieldLink RX10 83 "MarketHall$Hall" "trucks" "[[I"]
def wsL_law0_r20 : List Cond := [Cond.methodLink RX10 65 yX10_findWarmth, Cond.static yX10_findWarmth, Cond.code yX10_findWarmth cX10_findWarmth 4 none, Cond.methodLink RX10 86 yX10_leaked, Cond.static yX10_leaked, Cond.code yX10_leaked cX10_leaked 4 (some .int), Cond.methodLink RX10 52 yX10_towards, Cond.static yX10_towards, Cond.code yX10_towards cX10_towards 5 (some .int), Cond.methodLink RX10 90 yX10_powered, Cond.static yX10_powered, Cond.code yX10_powered cX10_powered 2 (some .int), Cond.methodLink RX10 72 yX10_riper, Cond.static yX10_riper, Cond.code yX10_riper cX10_riper 6 (some .int), Cond.methodLink RX10 56 Lib.Math.max.name, Cond.methodLink RX10 62 Lib.Math.min.name, Cond.methodLink RX10 76 yX10_harmed, Cond.static yX10_harmed, Cond.code yX10_harmed cX10_harmed 3 (some .int), Cond.methodLink RX6 224 yX7_stopAt, Cond.static yX7_stopAt, Cond.code yX7_stopAt cX7_stopAt 6 (some .int), Cond.methodLink RX6 228 yX7_look]
def wsL_law0_r21 : List Cond := [Cond.static yX7_look, Cond.code yX7_look cX7_look 9 (some .int), Cond.fieldLink RX7 36 "MarketHall$Hall" "pallets" "[[I", Cond.fieldLink RX7 53 "MarketHall$Hall" "tariffs" "[I", Cond.fieldLink RX7 59 "MarketHall$Hall" "rooms" "[[I", Cond.methodLink RX7 39 yX7_kindOf, Cond.static yX7_kindOf, Cond.code yX7_kindOf cX7_kindOf 5 (some .int), Cond.methodLink RX7 30 yX5_least, Cond.methodLink RX7 43 yX7_writeFinding, Cond.static yX7_writeFinding, Cond.code yX7_writeFinding cX7_writeFinding 6 none, Cond.fieldLink RX7 62 "MarketHall$Hall" "findings" "[[I", Cond.methodLink RX7 47 yX5_takeAway, Cond.methodLink RX7 56 yX0_enter, Cond.methodLink RX6 231 yX3_lotsDue, Cond.static yX3_lotsDue, Cond.code yX3_lotsDue cX3_lotsDue 3 (some .int), Cond.methodLink RX3 44 Lib.Math.min.name, Cond.methodLink RX3 41 yX3_isOpen, Cond.static yX3_isOpen, Cond.code yX3_isOpen cX3_isOpen 3 (some .boolean), Cond.methodLink RX6 234 yX3_sellFirst, Cond.static yX3_sellFirst]
def wsL_law0_r22 : List Cond := [Cond.code yX3_sellFirst cX3_sellFirst 16 none, Cond.methodLink RX3 50 Lib.Math.max.name, Cond.methodLink RX3 53 yX1_highestPrice, Cond.static yX1_highestPrice, Cond.code yX1_highestPrice cX1_highestPrice 4 (some .int), Cond.methodLink RX1 64 Lib.Math.max.name, Cond.methodLink RX1 67 yX1_asks, Cond.static yX1_asks, Cond.code yX1_asks cX1_asks 2 (some .boolean), Cond.methodLink RX1 50 yX6_isToday, Cond.instanceMethod yX6_isToday, Cond.selects RX6 yX6_isToday yX6_isToday, Cond.code yX6_isToday cX6_isToday 2 (some .boolean), Cond.methodLink RX1 71 yX1_highestOf, Cond.static yX1_highestOf, Cond.code yX1_highestOf cX1_highestOf 3 (some .int), Cond.methodLink RX1 54 yX1_suits, Cond.static yX1_suits, Cond.code yX1_suits cX1_suits 2 (some .boolean), Cond.methodLink RX1 28 yX1_left, Cond.static yX1_left, Cond.code yX1_left cX1_left 1 (some .int), Cond.methodLink RX3 59 yX1_takerOf, Cond.static yX1_takerOf]
def wsL_law0_r23 : List Cond := [Cond.code yX1_takerOf cX1_takerOf 7 (some .int), Cond.methodLink RX3 63 yX1_sell, Cond.static yX1_sell, Cond.code yX1_sell cX1_sell 9 (some (.array .int)), Cond.fieldLink RX1 41 "MarketHall$Hall" "pallets" "[[I", Cond.fieldLink RX1 34 "MarketHall$Hall" "parcels" "[[I", Cond.methodLink RX1 37 yX6_today, Cond.methodLink RX1 75 yX0_enterSold, Cond.static yX0_enterSold, Cond.code yX0_enterSold cX0_enterSold 6 none, Cond.fieldLink RX0 22 "MarketHall$Hall" "growers" "[[I", Cond.fieldLink RX0 25 "MarketHall$Hall" "pallets" "[[I", Cond.methodLink RX0 30 yX0_enter, Cond.methodLink RX6 238 yX2_goIfDue, Cond.static yX2_goIfDue, Cond.code yX2_goIfDue cX2_goIfDue 9 none, Cond.methodLink RX2 82 yX2_townsOf, Cond.static yX2_townsOf, Cond.code yX2_townsOf cX2_townsOf 4 (some .int), Cond.methodLink RX2 85 yX2_shortestTrip, Cond.static yX2_shortestTrip, Cond.code yX2_shortestTrip cX2_shortestTrip 9 (some .int), Cond.methodLink RX2 64 arraycopyName, Cond.methodLink RX2 60 yX2_hoursOf]
def wsL_law0_r24 : List Cond := [Cond.static yX2_hoursOf, Cond.code yX2_hoursOf cX2_hoursOf 6 (some .int), Cond.methodLink RX2 70 yX3_nextRow, Cond.static yX3_nextRow, Cond.code yX3_nextRow cX3_nextRow 6 (some .boolean), Cond.methodLink RX3 97 yX3_swap, Cond.static yX3_swap, Cond.code yX3_swap cX3_swap 4 none, Cond.methodLink RX6 241 yX1_closeDay, Cond.static yX1_closeDay, Cond.code yX1_closeDay cX1_closeDay 4 none, Cond.methodLink RX1 79 yX1_payBillsOf, Cond.static yX1_payBillsOf, Cond.code yX1_payBillsOf cX1_payBillsOf 7 none, Cond.methodLink RX6 244 yX0_closeDay, Cond.static yX0_closeDay, Cond.code yX0_closeDay cX0_closeDay 4 none, Cond.fieldLink RX0 67 "MarketHall$Hall" "rooms" "[[I", Cond.fieldLink RX0 70 "MarketHall$Hall" "tariffs" "[I", Cond.methodLink RX0 73 yX0_judge, Cond.static yX0_judge, Cond.code yX0_judge cX0_judge 7 none, Cond.fieldLink RX0 34 "MarketHall$Hall" "parcels" "[[I", Cond.methodLink RX0 93 arraycopyName]
def wsL_law0_r25 : List Cond := [Cond.methodLink RX0 85 yX0_award, Cond.static yX0_award, Cond.code yX0_award cX0_award 6 (some .int), Cond.methodLink RX0 46 Lib.Math.max.name, Cond.fieldLink RX0 52 "MarketHall$Books" "BAD_BORNE" "[I", Cond.methodLink RX0 55 Lib.Math.min.name, Cond.methodLink RX0 40 yX5_stage, Cond.methodLink RX0 89 yX0_shareAward, Cond.static yX0_shareAward, Cond.code yX0_shareAward cX0_shareAward 9 none, Cond.fieldLink RX0 58 "MarketHall$Hall" "sorts" "[[I", Cond.methodLink RX0 61 yX0_share, Cond.static yX0_share, Cond.code yX0_share cX0_share 13 none, Cond.constantLong RX0 65 (-1), Cond.methodLink RX0 99 yX1_giveBack, Cond.static yX1_giveBack, Cond.code yX1_giveBack cX1_giveBack 5 none, Cond.methodLink RX0 77 yX6_today, Cond.methodLink RX0 81 yX0_payOut, Cond.static yX0_payOut, Cond.code yX0_payOut cX0_payOut 3 none, Cond.methodLink RL 223 yX12_sort, Cond.instanceMethod yX12_sort]
def wsL_law0_r26 : List Cond := [Cond.selects RX12 yX12_sort yX12_sort, Cond.code yX12_sort cX12_sort 7 (some .int), Cond.methodLink RX12 147 yX12_in, Cond.static yX12_in, Cond.code yX12_in cX12_in 3 (some .boolean), Cond.methodLink RX12 207 yX12_fails, Cond.instanceMethod yX12_fails, Cond.selects RX12 yX12_fails yX12_fails, Cond.code yX12_fails cX12_fails 3 (some .boolean), Cond.fieldLink RX12 117 "MarketHallModel" "thrown" "I", Cond.methodLink RX12 211 yX12_deed, Cond.instanceMethod yX12_deed, Cond.selects RX12 yX12_deed yX12_deed, Cond.code yX12_deed cX12_deed 8 none, Cond.fieldLink RX12 825 "MarketHallModel" "isQuiet" "Z", Cond.methodLink RX12 829 yX12_xKeep, Cond.instanceMethod yX12_xKeep, Cond.selects RX12 yX12_xKeep yX12_xKeep, Cond.code yX12_xKeep cX12_xKeep 3 none, Cond.fieldLink RX12 815 "MarketHallModel" "pastMany" "I", Cond.methodLink RX12 832 yX12_xRecord, Cond.instanceMethod yX12_xRecord, Cond.selects RX12 yX12_xRecord yX12_xRecord, Cond.code yX12_xRecord cX12_xRecord 9 none]
def wsL_law0_r27 : List Cond := [Cond.fieldLink RX12 818 "MarketHallModel" "recMany" "I", Cond.methodLink RX12 821 yX12_xRow, Cond.static yX12_xRow, Cond.code yX12_xRow cX12_xRow 5 (some (.array .int)), Cond.methodLink RX12 215 yX12_dSort, Cond.instanceMethod yX12_dSort, Cond.selects RX12 yX12_dSort yX12_dSort, Cond.code yX12_dSort cX12_dSort 7 (some .int), Cond.methodLink RL 224 yX12_thrown, Cond.instanceMethod yX12_thrown, Cond.selects RX12 yX12_thrown yX12_thrown, Cond.code yX12_thrown cX12_thrown 1 (some .int), Cond.methodLink RL 227 yL_grower, Cond.static yL_grower, Cond.codeWith yL_grower cL_grower 5 (some .int) [(0, 10, 13, 13), (0, 10, 17, 15)], Cond.methodLink RL 17 yX11_grower, Cond.instanceMethod yX11_grower, Cond.selects RX11 yX11_grower yX11_grower, Cond.code yX11_grower cX11_grower 3 (some .int), Cond.methodLink RL 230 yX12_grower, Cond.instanceMethod yX12_grower, Cond.selects RX12 yX12_grower yX12_grower, Cond.code yX12_grower cX12_grower 3 (some .int), Cond.methodLink RX12 219 yX12_dGrower]
def wsL_law0_r28 : List Cond := [Cond.instanceMethod yX12_dGrower, Cond.selects RX12 yX12_dGrower yX12_dGrower, Cond.code yX12_dGrower cX12_dGrower 4 (some .int), Cond.methodLink RL 231 yL_deliver, Cond.static yL_deliver, Cond.codeWith yL_deliver cL_deliver 8 (some .int) [(0, 16, 19, 24), (0, 16, 23, 13), (0, 16, 27, 15)], Cond.classLink RL 24 "java/lang/IndexOutOfBoundsException", Cond.methodLink RL 21 yX11_deliver, Cond.instanceMethod yX11_deliver, Cond.selects RX11 yX11_deliver yX11_deliver, Cond.code yX11_deliver cX11_deliver 6 (some .int), Cond.methodLink RX11 61 yX11_thing, Cond.static yX11_thing, Cond.code yX11_thing cX11_thing 2 none, Cond.methodLink RX11 65 yX10_placesLeft, Cond.methodLink RL 233 yX12_deliver, Cond.instanceMethod yX12_deliver, Cond.selects RX12 yX12_deliver yX12_deliver, Cond.code yX12_deliver cX12_deliver 6 (some .int), Cond.methodLink RX12 222 yX12_isGrower, Cond.instanceMethod yX12_isGrower, Cond.selects RX12 yX12_isGrower yX12_isGrower, Cond.code yX12_isGrower cX12_isGrower 2 (some .boolean), Cond.methodLink RX12 225 yX12_isSort]
def wsL_law0_r29 : List Cond := [Cond.instanceMethod yX12_isSort, Cond.selects RX12 yX12_isSort yX12_isSort, Cond.code yX12_isSort cX12_isSort 2 (some .boolean), Cond.methodLink RX12 228 yX12_dFloorLeft, Cond.instanceMethod yX12_dFloorLeft, Cond.selects RX12 yX12_dFloorLeft yX12_dFloorLeft, Cond.code yX12_dFloorLeft cX12_dFloorLeft 3 (some .int), Cond.methodLink RX12 203 yX12_isThere, Cond.instanceMethod yX12_isThere, Cond.selects RX12 yX12_isThere yX12_isThere, Cond.code yX12_isThere cX12_isThere 2 (some .boolean), Cond.methodLink RX12 151 yX12_pal, Cond.instanceMethod yX12_pal, Cond.selects RX12 yX12_pal yX12_pal, Cond.code yX12_pal cX12_pal 3 (some .int), Cond.methodLink RX12 143 yX12_pAt, Cond.static yX12_pAt, Cond.code yX12_pAt cX12_pAt 2 (some .int), Cond.methodLink RX12 231 yX12_dPallet, Cond.instanceMethod yX12_dPallet, Cond.selects RX12 yX12_dPallet yX12_dPallet, Cond.code yX12_dPallet cX12_dPallet 9 (some .int), Cond.methodLink RX12 172 yX12_now, Cond.instanceMethod yX12_now]
def wsL_law0_r30 : List Cond := [Cond.selects RX12 yX12_now yX12_now, Cond.code yX12_now cX12_now 1 (some .int), Cond.methodLink RL 234 yL_grade, Cond.static yL_grade, Cond.codeWith yL_grade cL_grade 7 (some .int) [(0, 14, 17, 24), (0, 14, 21, 13), (0, 14, 25, 15)], Cond.methodLink RL 26 yX11_grade, Cond.instanceMethod yX11_grade, Cond.selects RX11 yX11_grade yX11_grade, Cond.code yX11_grade cX11_grade 5 (some .int), Cond.constant RX11 71 (65535), Cond.fieldLink RX11 72 "MarketHall$Hall" "pallets" "[[I", Cond.methodLink RL 237 yX12_grade, Cond.instanceMethod yX12_grade, Cond.selects RX12 yX12_grade yX12_grade, Cond.code yX12_grade cX12_grade 8 (some .int), Cond.constant RX12 241 (65535), Cond.methodLink RX12 238 yX12_isPallet, Cond.instanceMethod yX12_isPallet, Cond.selects RX12 yX12_isPallet yX12_isPallet, Cond.code yX12_isPallet cX12_isPallet 2 (some .boolean), Cond.methodLink RX12 242 yX12_seed, Cond.instanceMethod yX12_seed, Cond.selects RX12 yX12_seed yX12_seed, Cond.code yX12_seed cX12_seed 2 none]
def wsL_law0_r31 : List Cond := [Cond.fieldLink RX12 139 "MarketHallModel" "lots" "I", Cond.methodLink RX12 245 yX12_dFound, Cond.instanceMethod yX12_dFound, Cond.selects RX12 yX12_dFound yX12_dFound, Cond.code yX12_dFound cX12_dFound 6 (some .int), Cond.methodLink RX12 235 yX12_draw, Cond.instanceMethod yX12_draw, Cond.selects RX12 yX12_draw yX12_draw, Cond.code yX12_draw cX12_draw 2 (some .int), Cond.constant RX12 142 (65536), Cond.methodLink RX12 249 yX12_dLeast, Cond.instanceMethod yX12_dLeast, Cond.selects RX12 yX12_dLeast yX12_dLeast, Cond.code yX12_dLeast cX12_dLeast 3 (some .int), Cond.methodLink RX12 200 yX12_mStage, Cond.instanceMethod yX12_mStage, Cond.selects RX12 yX12_mStage yX12_mStage, Cond.code yX12_mStage cX12_mStage 5 (some .int), Cond.methodLink RX12 252 yX12_kSample, Cond.instanceMethod yX12_kSample, Cond.selects RX12 yX12_kSample yX12_kSample, Cond.code yX12_kSample cX12_kSample 3 none, Cond.methodLink RX12 750 yX12_kEnter, Cond.instanceMethod yX12_kEnter]
def wsL_law0_r32 : List Cond := [Cond.selects RX12 yX12_kEnter yX12_kEnter, Cond.code yX12_kEnter cX12_kEnter 6 none, Cond.methodLink RL 238 yL_odds, Cond.static yL_odds, Cond.codeWith yL_odds cL_odds 8 (some .int) [(0, 15, 18, 13)], Cond.methodLink RL 30 yX11_odds, Cond.instanceMethod yX11_odds, Cond.selects RX11 yX11_odds yX11_odds, Cond.code yX11_odds cX11_odds 12 (some .long), Cond.methodLink RX11 76 Lib.Math.min.name, Cond.methodLink RX11 82 yX5_waysFoundAtMost, Cond.static yX5_waysFoundAtMost, Cond.code yX5_waysFoundAtMost cX5_waysFoundAtMost 7 (some .long), Cond.methodLink RX5 92 yX5_choose, Cond.static yX5_choose, Cond.code yX5_choose cX5_choose 5 (some .long), Cond.methodLink RX11 88 yX5_choose, Cond.methodLink RX11 92 yX5_commonDivisor, Cond.static yX5_commonDivisor, Cond.code yX5_commonDivisor cX5_commonDivisor 11 (some .long), Cond.methodLink RX5 96 Lib.MathLoose.max_long.x, Cond.static Lib.MathLoose.max_long.x, Cond.code Lib.MathLoose.max_long.x Lib.MathLoose.max_long.code 4 (some .long), Cond.methodLink RL 240 yX12_odds]
def wsL_law0_r33 : List Cond := [Cond.instanceMethod yX12_odds, Cond.selects RX12 yX12_odds yX12_odds, Cond.code yX12_odds cX12_odds 7 (some .long), Cond.methodLink RX12 260 yX12_dWays, Cond.static yX12_dWays, Cond.code yX12_dWays cX12_dWays 7 (some .long), Cond.methodLink RX12 256 yX12_dChoose, Cond.static yX12_dChoose, Cond.code yX12_dChoose cX12_dChoose 5 (some .long), Cond.methodLink RX12 264 yX12_dTerm, Cond.static yX12_dTerm, Cond.code yX12_dTerm cX12_dTerm 11 (some .long), Cond.methodLink RL 241 yL_plan, Cond.static yL_plan, Cond.codeWith yL_plan cL_plan 7 (some .int) [(0, 14, 17, 13)], Cond.methodLink RL 34 yX11_plan, Cond.instanceMethod yX11_plan, Cond.selects RX11 yX11_plan yX11_plan, Cond.code yX11_plan cX11_plan 6 (some .int), Cond.methodLink RX11 96 yX5_leastPlan, Cond.static yX5_leastPlan, Cond.code yX5_leastPlan cX5_leastPlan 7 (some .int), Cond.constantLong RX5 99 (10), Cond.constantLong RX5 105 (9)]
def wsL_law0_r34 : List Cond := [Cond.methodLink RX5 101 yX5_waysFoundAtMost, Cond.methodLink RL 243 yX12_plan, Cond.instanceMethod yX12_plan, Cond.selects RX12 yX12_plan yX12_plan, Cond.code yX12_plan cX12_plan 10 (some .int), Cond.constantLong RX12 268 (10), Cond.constantLong RX12 270 (9), Cond.methodLink RL 244 yL_grown, Cond.static yL_grown, Cond.codeWith yL_grown cL_grown 5 (some .int) [(0, 10, 13, 24), (0, 10, 17, 13)], Cond.methodLink RL 37 yX11_grown, Cond.instanceMethod yX11_grown, Cond.selects RX11 yX11_grown yX11_grown, Cond.code yX11_grown cX11_grown 3 (some .int), Cond.methodLink RX11 100 yX5_tellGrower, Cond.static yX5_tellGrower, Cond.code yX5_tellGrower cX5_tellGrower 5 (some .int), Cond.methodLink RX5 82 yX5_tellForGrower, Cond.static yX5_tellForGrower, Cond.code yX5_tellForGrower cX5_tellForGrower 4 (some .int), Cond.methodLink RX5 85 yX5_soldOf, Cond.static yX5_soldOf, Cond.code yX5_soldOf cX5_soldOf 4 (some .int), Cond.methodLink RX5 88 yX5_isThere]
def wsL_law0_r35 : List Cond := [Cond.static yX5_isThere, Cond.code yX5_isThere cX5_isThere 1 (some .boolean), Cond.methodLink RL 246 yX12_grown, Cond.instanceMethod yX12_grown, Cond.selects RX12 yX12_grown yX12_grown, Cond.code yX12_grown cX12_grown 3 (some .int), Cond.methodLink RX12 278 yX12_dGrown, Cond.instanceMethod yX12_dGrown, Cond.selects RX12 yX12_dGrown yX12_dGrown, Cond.code yX12_dGrown cX12_dGrown 5 (some .int), Cond.methodLink RX12 275 yX12_dAdds, Cond.instanceMethod yX12_dAdds, Cond.selects RX12 yX12_dAdds yX12_dAdds, Cond.code yX12_dAdds cX12_dAdds 3 (some .int), Cond.methodLink RX12 272 yX12_dSoldOf, Cond.instanceMethod yX12_dSoldOf, Cond.selects RX12 yX12_dSoldOf yX12_dSoldOf, Cond.code yX12_dSoldOf cX12_dSoldOf 4 (some .int), Cond.methodLink RX12 154 yX12_qAt, Cond.static yX12_qAt, Cond.code yX12_qAt cX12_qAt 2 (some .int), Cond.methodLink RL 247 yL_room, Cond.static yL_room, Cond.codeWith yL_room cL_room 6 (some .int) [(0, 12, 15, 13), (0, 12, 19, 15)]]
def wsL_law0_r36 : List Cond := [Cond.methodLink RL 40 yX11_room, Cond.instanceMethod yX11_room, Cond.selects RX11 yX11_room yX11_room, Cond.code yX11_room cX11_room 4 (some .int), Cond.methodLink RL 250 yX12_room, Cond.instanceMethod yX12_room, Cond.selects RX12 yX12_room yX12_room, Cond.code yX12_room cX12_room 4 (some .int), Cond.methodLink RX12 293 yX12_today, Cond.instanceMethod yX12_today, Cond.selects RX12 yX12_today yX12_today, Cond.code yX12_today cX12_today 1 (some .int), Cond.methodLink RX12 296 yX12_rOutside, Cond.instanceMethod yX12_rOutside, Cond.selects RX12 yX12_rOutside yX12_rOutside, Cond.code yX12_rOutside cX12_rOutside 2 (some .int), Cond.methodLink RX12 324 yX12_rRoom, Cond.instanceMethod yX12_rRoom, Cond.selects RX12 yX12_rRoom yX12_rRoom, Cond.code yX12_rRoom cX12_rRoom 7 (some .int), Cond.methodLink RX12 284 yX12_rAt, Cond.static yX12_rAt, Cond.code yX12_rAt cX12_rAt 2 (some .int), Cond.methodLink RL 251 yL_set]
def wsL_law0_r37 : List Cond := [Cond.static yL_set, Cond.codeWith yL_set cL_set 5 (some .int) [(0, 10, 13, 24), (0, 10, 17, 13)], Cond.methodLink RL 44 yX11_set, Cond.instanceMethod yX11_set, Cond.selects RX11 yX11_set yX11_set, Cond.code yX11_set cX11_set 3 (some .int), Cond.methodLink RL 253 yX12_set, Cond.instanceMethod yX12_set, Cond.selects RX12 yX12_set yX12_set, Cond.code yX12_set cX12_set 4 (some .int), Cond.methodLink RX12 327 yX12_isRoom, Cond.instanceMethod yX12_isRoom, Cond.selects RX12 yX12_isRoom yX12_isRoom, Cond.code yX12_isRoom cX12_isRoom 2 (some .boolean), Cond.methodLink RL 254 yL_gas, Cond.static yL_gas, Cond.codeWith yL_gas cL_gas 5 (some .int) [(0, 17, 20, 24)], Cond.methodLink RL 47 yX11_gas, Cond.instanceMethod yX11_gas, Cond.selects RX11 yX11_gas yX11_gas, Cond.code yX11_gas cX11_gas 3 (some .boolean), Cond.methodLink RL 257 yX12_gas, Cond.instanceMethod yX12_gas, Cond.selects RX12 yX12_gas yX12_gas]
def wsL_law0_r38 : List Cond := [Cond.code yX12_gas cX12_gas 4 (some .boolean), Cond.methodLink RL 258 yL_outside, Cond.static yL_outside, Cond.codeWith yL_outside cL_outside 5 (some .int) [(0, 10, 13, 13), (0, 10, 17, 15)], Cond.methodLink RL 51 yX11_outside, Cond.instanceMethod yX11_outside, Cond.selects RX11 yX11_outside yX11_outside, Cond.code yX11_outside cX11_outside 3 (some .int), Cond.methodLink RX11 104 yX6_today, Cond.methodLink RL 260 yX12_outside, Cond.instanceMethod yX12_outside, Cond.selects RX12 yX12_outside yX12_outside, Cond.code yX12_outside cX12_outside 4 (some .int), Cond.methodLink RL 261 yL_put, Cond.static yL_put, Cond.codeWith yL_put cL_put 5 (some .int) [(0, 10, 13, 24), (0, 10, 17, 15)], Cond.methodLink RL 54 yX11_put, Cond.instanceMethod yX11_put, Cond.selects RX11 yX11_put yX11_put, Cond.code yX11_put cX11_put 3 (some .int), Cond.methodLink RX11 108 yX10_putFault, Cond.static yX10_putFault, Cond.code yX10_putFault cX10_putFault 6 (some .int), Cond.methodLink RX10 35 yX5_isThere]
def wsL_law0_r39 : List Cond := [Cond.methodLink RX10 41 yX10_isShut, Cond.methodLink RL 263 yX12_put, Cond.instanceMethod yX12_put, Cond.selects RX12 yX12_put yX12_put, Cond.code yX12_put cX12_put 4 (some .int), Cond.methodLink RX12 336 yX12_rMayPut, Cond.instanceMethod yX12_rMayPut, Cond.selects RX12 yX12_rMayPut yX12_rMayPut, Cond.code yX12_rMayPut cX12_rMayPut 4 (some .boolean), Cond.methodLink RX12 330 yX12_isShut, Cond.instanceMethod yX12_isShut, Cond.selects RX12 yX12_isShut yX12_isShut, Cond.code yX12_isShut cX12_isShut 2 (some .boolean), Cond.methodLink RX12 333 yX12_rLeft, Cond.instanceMethod yX12_rLeft, Cond.selects RX12 yX12_rLeft yX12_rLeft, Cond.code yX12_rLeft cX12_rLeft 2 (some .int), Cond.methodLink RX12 287 yX12_rStanding, Cond.instanceMethod yX12_rStanding, Cond.selects RX12 yX12_rStanding yX12_rStanding, Cond.code yX12_rStanding cX12_rStanding 4 (some .int), Cond.methodLink RX12 339 yX12_rInto, Cond.instanceMethod yX12_rInto, Cond.selects RX12 yX12_rInto yX12_rInto]
def wsL_law0_r40 : List Cond := [Cond.code yX12_rInto cX12_rInto 3 none, Cond.methodLink RX12 290 yX12_rDoor, Cond.instanceMethod yX12_rDoor, Cond.selects RX12 yX12_rDoor yX12_rDoor, Cond.code yX12_rDoor cX12_rDoor 2 none, Cond.methodLink RL 264 yL_dump, Cond.static yL_dump, Cond.codeWith yL_dump cL_dump 4 (some .int) [(0, 9, 12, 24), (0, 9, 15, 15)], Cond.methodLink RL 57 yX11_dump, Cond.instanceMethod yX11_dump, Cond.selects RX11 yX11_dump yX11_dump, Cond.code yX11_dump cX11_dump 2 (some .int), Cond.methodLink RX11 115 yX10_dumpFault, Cond.static yX10_dumpFault, Cond.code yX10_dumpFault cX10_dumpFault 2 (some .int), Cond.methodLink RL 267 yX12_dump, Cond.instanceMethod yX12_dump, Cond.selects RX12 yX12_dump yX12_dump, Cond.code yX12_dump cX12_dump 3 (some .int), Cond.methodLink RX12 342 yX12_mGone, Cond.instanceMethod yX12_mGone, Cond.selects RX12 yX12_mGone yX12_mGone, Cond.code yX12_mGone cX12_mGone 4 none, Cond.methodLink RX12 194 yX12_cUnqueue]
def wsL_law0_r41 : List Cond := [Cond.instanceMethod yX12_cUnqueue, Cond.selects RX12 yX12_cUnqueue yX12_cUnqueue, Cond.code yX12_cUnqueue cX12_cUnqueue 3 none, Cond.methodLink RX12 498 yX12_cOf, Cond.instanceMethod yX12_cOf, Cond.selects RX12 yX12_cOf yX12_cOf, Cond.code yX12_cOf cX12_cOf 4 (some .int), Cond.methodLink RX12 495 yX12_cPlace, Cond.instanceMethod yX12_cPlace, Cond.selects RX12 yX12_cPlace yX12_cPlace, Cond.code yX12_cPlace cX12_cPlace 5 (some .int), Cond.methodLink RX12 489 yX12_cAt, Cond.static yX12_cAt, Cond.code yX12_cAt cX12_cAt 2 (some .int), Cond.methodLink RX12 492 yX12_cLot, Cond.static yX12_cLot, Cond.code yX12_cLot cX12_cLot 3 (some .int), Cond.methodLink RX12 501 yX12_cTakeOut, Cond.instanceMethod yX12_cTakeOut, Cond.selects RX12 yX12_cTakeOut yX12_cTakeOut, Cond.code yX12_cTakeOut cX12_cTakeOut 5 none, Cond.methodLink RX12 165 yX12_rOut, Cond.instanceMethod yX12_rOut, Cond.selects RX12 yX12_rOut yX12_rOut]
def wsL_law0_r42 : List Cond := [Cond.code yX12_rOut cX12_rOut 2 none, Cond.methodLink RX12 157 yX12_isWaitingOf, Cond.instanceMethod yX12_isWaitingOf, Cond.selects RX12 yX12_isWaitingOf yX12_isWaitingOf, Cond.code yX12_isWaitingOf cX12_isWaitingOf 3 (some .boolean), Cond.methodLink RX12 197 yX12_mLost, Cond.instanceMethod yX12_mLost, Cond.selects RX12 yX12_mLost yX12_mLost, Cond.code yX12_mLost cX12_mLost 3 none, Cond.methodLink RX12 182 yX12_mCleared, Cond.instanceMethod yX12_mCleared, Cond.selects RX12 yX12_mCleared yX12_mCleared, Cond.code yX12_mCleared cX12_mCleared 2 none, Cond.methodLink RX12 161 yX12_mWaiting, Cond.instanceMethod yX12_mWaiting, Cond.selects RX12 yX12_mWaiting yX12_mWaiting, Cond.code yX12_mWaiting cX12_mWaiting 4 (some .int), Cond.methodLink RX12 185 yX12_bLost, Cond.instanceMethod yX12_bLost, Cond.selects RX12 yX12_bLost yX12_bLost, Cond.code yX12_bLost cX12_bLost 4 none, Cond.methodLink RX12 396 yX12_bAt, Cond.static yX12_bAt, Cond.code yX12_bAt cX12_bAt 2 (some .int)]
def wsL_law0_r43 : List Cond := [Cond.methodLink RX12 419 yX12_gross, Cond.instanceMethod yX12_gross, Cond.selects RX12 yX12_gross yX12_gross, Cond.code yX12_gross cX12_gross 2 (some .int), Cond.methodLink RX12 402 yX12_uAt, Cond.static yX12_uAt, Cond.code yX12_uAt cX12_uAt 1 (some .int), Cond.methodLink RX12 399 yX12_oAt, Cond.static yX12_oAt, Cond.code yX12_oAt cX12_oAt 2 (some .int), Cond.methodLink RX12 188 yX12_kLost, Cond.instanceMethod yX12_kLost, Cond.selects RX12 yX12_kLost yX12_kLost, Cond.code yX12_kLost cX12_kLost 2 none, Cond.methodLink RL 268 yL_kept, Cond.static yL_kept, Cond.codeWith yL_kept cL_kept 5 (some .int) [(0, 10, 13, 24), (0, 10, 17, 13)], Cond.methodLink RL 61 yX11_kept, Cond.instanceMethod yX11_kept, Cond.selects RX11 yX11_kept yX11_kept, Cond.code yX11_kept cX11_kept 3 (some .int), Cond.methodLink RX11 118 yX10_tellRoom, Cond.static yX10_tellRoom, Cond.code yX10_tellRoom cX10_tellRoom 4 (some .int)]
def wsL_law0_r44 : List Cond := [Cond.methodLink RL 270 yX12_kept, Cond.instanceMethod yX12_kept, Cond.selects RX12 yX12_kept yX12_kept, Cond.code yX12_kept cX12_kept 3 (some .int), Cond.methodLink RX12 345 yX12_rKept, Cond.instanceMethod yX12_rKept, Cond.selects RX12 yX12_rKept yX12_rKept, Cond.code yX12_rKept cX12_rKept 3 (some .int), Cond.methodLink RL 271 yL_pallet, Cond.static yL_pallet, Cond.codeWith yL_pallet cL_pallet 5 (some .int) [(0, 10, 13, 24), (0, 10, 17, 13)], Cond.methodLink RL 64 yX11_pallet, Cond.instanceMethod yX11_pallet, Cond.selects RX11 yX11_pallet yX11_pallet, Cond.code yX11_pallet cX11_pallet 3 (some .int), Cond.methodLink RX11 121 yX5_tellPallet, Cond.static yX5_tellPallet, Cond.code yX5_tellPallet cX5_tellPallet 4 (some .int), Cond.methodLink RL 273 yX12_pallet, Cond.instanceMethod yX12_pallet, Cond.selects RX12 yX12_pallet yX12_pallet, Cond.code yX12_pallet cX12_pallet 3 (some .int), Cond.methodLink RX12 348 yX12_rPallet, Cond.instanceMethod yX12_rPallet]
def wsL_law0_r45 : List Cond := [Cond.selects RX12 yX12_rPallet yX12_rPallet, Cond.code yX12_rPallet cX12_rPallet 3 (some .int), Cond.methodLink RL 274 yL_ripe, Cond.static yL_ripe, Cond.codeWith yL_ripe cL_ripe 6 (some .int) [(0, 12, 15, 24), (0, 12, 19, 13)], Cond.methodLink RL 67 yX11_ripe, Cond.instanceMethod yX11_ripe, Cond.selects RX11 yX11_ripe yX11_ripe, Cond.code yX11_ripe cX11_ripe 6 (some .int), Cond.methodLink RX11 124 yX10_ripeAt, Cond.static yX10_ripeAt, Cond.code yX10_ripeAt cX10_ripeAt 14 (some .int), Cond.methodLink RL 276 yX12_ripe, Cond.instanceMethod yX12_ripe, Cond.selects RX12 yX12_ripe yX12_ripe, Cond.code yX12_ripe cX12_ripe 4 (some .int), Cond.methodLink RX12 360 yX12_rRipe, Cond.instanceMethod yX12_rRipe, Cond.selects RX12 yX12_rRipe yX12_rRipe, Cond.code yX12_rRipe cX12_rRipe 5 (some .int), Cond.methodLink RX12 351 yX12_hold, Cond.instanceMethod yX12_hold, Cond.selects RX12 yX12_hold yX12_hold, Cond.code yX12_hold cX12_hold 3 none]
def wsL_law0_r46 : List Cond := [Cond.methodLink RX12 354 yX12_rAlone, Cond.instanceMethod yX12_rAlone, Cond.selects RX12 yX12_rAlone yX12_rAlone, Cond.code yX12_rAlone cX12_rAlone 2 none, Cond.methodLink RX12 321 yX12_rHour, Cond.instanceMethod yX12_rHour, Cond.selects RX12 yX12_rHour yX12_rHour, Cond.code yX12_rHour cX12_rHour 2 none, Cond.methodLink RX12 312 yX12_rWarms, Cond.instanceMethod yX12_rWarms, Cond.selects RX12 yX12_rWarms yX12_rWarms, Cond.code yX12_rWarms cX12_rWarms 4 none, Cond.methodLink RX12 299 yX12_rTowards, Cond.static yX12_rTowards, Cond.code yX12_rTowards cX12_rTowards 3 (some .int), Cond.methodLink RX12 315 yX12_rPalletAges, Cond.instanceMethod yX12_rPalletAges, Cond.selects RX12 yX12_rPalletAges yX12_rPalletAges, Cond.code yX12_rPalletAges cX12_rPalletAges 6 none, Cond.methodLink RX12 302 yX12_rRipens, Cond.instanceMethod yX12_rRipens, Cond.selects RX12 yX12_rRipens yX12_rRipens, Cond.code yX12_rRipens cX12_rRipens 7 (some .int), Cond.methodLink RX12 306 yX12_rHarms]
def wsL_law0_r47 : List Cond := [Cond.instanceMethod yX12_rHarms, Cond.selects RX12 yX12_rHarms yX12_rHarms, Cond.code yX12_rHarms cX12_rHarms 4 (some .int), Cond.methodLink RX12 318 yX12_rParcelAges, Cond.instanceMethod yX12_rParcelAges, Cond.selects RX12 yX12_rParcelAges yX12_rParcelAges, Cond.code yX12_rParcelAges cX12_rParcelAges 4 none, Cond.methodLink RX12 309 yX12_tWarmth, Cond.instanceMethod yX12_tWarmth, Cond.selects RX12 yX12_tWarmth yX12_tWarmth, Cond.code yX12_tWarmth cX12_tWarmth 2 (some .int), Cond.methodLink RX12 560 yX12_tAt, Cond.static yX12_tAt, Cond.code yX12_tAt cX12_tAt 2 (some .int), Cond.methodLink RX12 357 yX12_release, Cond.instanceMethod yX12_release, Cond.selects RX12 yX12_release yX12_release, Cond.code yX12_release cX12_release 3 none, Cond.methodLink RL 277 yL_best, Cond.static yL_best, Cond.codeWith yL_best cL_best 5 (some .int) [(0, 10, 13, 13)], Cond.methodLink RL 70 yX11_best, Cond.instanceMethod yX11_best, Cond.selects RX11 yX11_best yX11_best]
def wsL_law0_r48 : List Cond := [Cond.code yX11_best cX11_best 4 (some .int), Cond.methodLink RX11 128 yX10_bestWay, Cond.static yX10_bestWay, Cond.code yX10_bestWay cX10_bestWay 12 none, Cond.methodLink RX10 102 yX10_findThree, Cond.static yX10_findThree, Cond.code yX10_findThree cX10_findThree 6 (some .int), Cond.methodLink RX10 118 yX10_fineAt, Cond.static yX10_fineAt, Cond.code yX10_fineAt cX10_fineAt 6 (some .int), Cond.methodLink RX10 94 yX10_ripeAt, Cond.methodLink RX10 98 yX5_stage, Cond.methodLink RX10 106 yX10_findFine, Cond.static yX10_findFine, Cond.code yX10_findFine cX10_findFine 8 none, Cond.methodLink RX10 110 yX10_canGo, Cond.static yX10_canGo, Cond.code yX10_canGo cX10_canGo 6 (some .boolean), Cond.methodLink RX10 121 yX10_comeTo, Cond.static yX10_comeTo, Cond.code yX10_comeTo cX10_comeTo 5 (some .int), Cond.methodLink RX10 114 yX10_fineBy, Cond.static yX10_fineBy, Cond.code yX10_fineBy cX10_fineBy 8 (some .int)]
def wsL_law0_r49 : List Cond := [Cond.methodLink RL 279 yX12_best, Cond.instanceMethod yX12_best, Cond.selects RX12 yX12_best yX12_best, Cond.code yX12_best cX12_best 5 (some .int), Cond.fieldLink RX12 372 "MarketHallModel" "rBestFine" "I", Cond.fieldLink RX12 363 "MarketHallModel" "rThreeMany" "I", Cond.fieldLink RX12 384 "MarketHallModel" "rBestWay" "I", Cond.methodLink RX12 387 yX12_rFindBest, Cond.instanceMethod yX12_rFindBest, Cond.selects RX12 yX12_rFindBest yX12_rFindBest, Cond.code yX12_rFindBest cX12_rFindBest 5 none, Cond.methodLink RX12 369 yX12_rFindThree, Cond.instanceMethod yX12_rFindThree, Cond.selects RX12 yX12_rFindThree yX12_rFindThree, Cond.code yX12_rFindThree cX12_rFindThree 2 none, Cond.methodLink RX12 375 yX12_rWays, Cond.instanceMethod yX12_rWays, Cond.selects RX12 yX12_rWays yX12_rWays, Cond.code yX12_rWays cX12_rWays 3 (some .int), Cond.methodLink RX12 378 yX12_rDoes, Cond.instanceMethod yX12_rDoes, Cond.selects RX12 yX12_rDoes yX12_rDoes, Cond.code yX12_rDoes cX12_rDoes 5 (some .boolean), Cond.methodLink RX12 366 yX12_rFigure]
def wsL_law0_r50 : List Cond := [Cond.instanceMethod yX12_rFigure, Cond.selects RX12 yX12_rFigure yX12_rFigure, Cond.code yX12_rFigure cX12_rFigure 5 (some .int), Cond.methodLink RX12 381 yX12_rFine, Cond.instanceMethod yX12_rFine, Cond.selects RX12 yX12_rFine yX12_rFine, Cond.code yX12_rFine cX12_rFine 3 (some .int), Cond.methodLink RL 280 yL_buyer, Cond.static yL_buyer, Cond.codeWith yL_buyer cL_buyer 6 (some .int) [(0, 12, 15, 24), (0, 12, 19, 13), (0, 12, 23, 15)], Cond.methodLink RL 73 yX11_buyer, Cond.instanceMethod yX11_buyer, Cond.selects RX11 yX11_buyer yX11_buyer, Cond.code yX11_buyer cX11_buyer 4 (some .int), Cond.constant RX11 132 (9999999), Cond.methodLink RL 282 yX12_buyer, Cond.instanceMethod yX12_buyer, Cond.selects RX12 yX12_buyer yX12_buyer, Cond.code yX12_buyer cX12_buyer 5 (some .int), Cond.constant RX12 408 (9999999), Cond.methodLink RL 283 yL_order, Cond.static yL_order, Cond.codeWith yL_order cL_order 9 (some .int) [(0, 18, 21, 24), (0, 18, 25, 13), (0, 18, 29, 15)], Cond.methodLink RL 76 yX11_order]
def wsL_law0_r51 : List Cond := [Cond.instanceMethod yX11_order, Cond.selects RX11 yX11_order yX11_order, Cond.code yX11_order cX11_order 7 (some .int), Cond.methodLink RL 286 yX12_order, Cond.instanceMethod yX12_order, Cond.selects RX12 yX12_order yX12_order, Cond.code yX12_order cX12_order 9 (some .int), Cond.methodLink RX12 409 yX12_isBuyer, Cond.instanceMethod yX12_isBuyer, Cond.selects RX12 yX12_isBuyer yX12_isBuyer, Cond.code yX12_isBuyer cX12_isBuyer 2 (some .boolean), Cond.methodLink RL 287 yL_cancel, Cond.static yL_cancel, Cond.codeWith yL_cancel cL_cancel 4 (some .int) [(0, 9, 12, 24), (0, 9, 15, 15)], Cond.methodLink RL 80 yX11_cancel, Cond.instanceMethod yX11_cancel, Cond.selects RX11 yX11_cancel yX11_cancel, Cond.code yX11_cancel cX11_cancel 2 (some .int), Cond.methodLink RX11 133 yX1_cancelFault, Cond.static yX1_cancelFault, Cond.code yX1_cancelFault cX1_cancelFault 2 (some .int), Cond.methodLink RL 289 yX12_cancel, Cond.instanceMethod yX12_cancel, Cond.selects RX12 yX12_cancel yX12_cancel]
def wsL_law0_r52 : List Cond := [Cond.code yX12_cancel cX12_cancel 3 (some .int), Cond.methodLink RX12 412 yX12_isOrder, Cond.instanceMethod yX12_isOrder, Cond.selects RX12 yX12_isOrder yX12_isOrder, Cond.code yX12_isOrder cX12_isOrder 2 (some .boolean), Cond.methodLink RL 290 yL_pay, Cond.static yL_pay, Cond.codeWith yL_pay cL_pay 5 (some .int) [(0, 10, 13, 24), (0, 10, 17, 13), (0, 10, 21, 15)], Cond.methodLink RL 83 yX11_pay, Cond.instanceMethod yX11_pay, Cond.selects RX11 yX11_pay yX11_pay, Cond.code yX11_pay cX11_pay 3 (some .int), Cond.fieldLink RX11 138 "MarketHall$Hall" "buyers" "[[I", Cond.constant RX11 141 (99999999), Cond.methodLink RL 292 yX12_pay, Cond.instanceMethod yX12_pay, Cond.selects RX12 yX12_pay yX12_pay, Cond.code yX12_pay cX12_pay 3 (some .int), Cond.constant RX12 415 (99999999), Cond.methodLink RX12 416 yX12_kPaid, Cond.instanceMethod yX12_kPaid, Cond.selects RX12 yX12_kPaid yX12_kPaid, Cond.code yX12_kPaid cX12_kPaid 2 none, Cond.methodLink RL 293 yL_owes]
def wsL_law0_r53 : List Cond := [Cond.static yL_owes, Cond.codeWith yL_owes cL_owes 5 (some .int) [(0, 10, 13, 24), (0, 10, 17, 13)], Cond.methodLink RL 86 yX11_owes, Cond.instanceMethod yX11_owes, Cond.selects RX11 yX11_owes yX11_owes, Cond.code yX11_owes cX11_owes 3 (some .int), Cond.methodLink RX11 142 yX1_tellBuyer, Cond.static yX1_tellBuyer, Cond.code yX1_tellBuyer cX1_tellBuyer 7 (some .int), Cond.methodLink RL 295 yX12_owes, Cond.instanceMethod yX12_owes, Cond.selects RX12 yX12_owes yX12_owes, Cond.code yX12_owes cX12_owes 3 (some .int), Cond.methodLink RX12 405 yX12_bUnpaid, Cond.instanceMethod yX12_bUnpaid, Cond.selects RX12 yX12_bUnpaid yX12_bUnpaid, Cond.code yX12_bUnpaid cX12_bUnpaid 4 (some .int), Cond.methodLink RX12 440 yX12_bLeft, Cond.instanceMethod yX12_bLeft, Cond.selects RX12 yX12_bLeft yX12_bLeft, Cond.code yX12_bLeft cX12_bLeft 2 (some .int), Cond.methodLink RX12 446 yX12_bOverdue, Cond.instanceMethod yX12_bOverdue, Cond.selects RX12 yX12_bOverdue yX12_bOverdue]
def wsL_law0_r54 : List Cond := [Cond.code yX12_bOverdue cX12_bOverdue 4 (some .int), Cond.methodLink RX12 449 yX12_bOpenBills, Cond.instanceMethod yX12_bOpenBills, Cond.selects RX12 yX12_bOpenBills yX12_bOpenBills, Cond.code yX12_bOpenBills cX12_bOpenBills 4 (some .int), Cond.methodLink RX12 452 yX12_bCrates, Cond.instanceMethod yX12_bCrates, Cond.selects RX12 yX12_bCrates yX12_bCrates, Cond.code yX12_bCrates cX12_bCrates 7 (some .int), Cond.methodLink RX12 455 yX12_bOrders, Cond.instanceMethod yX12_bOrders, Cond.selects RX12 yX12_bOrders yX12_bOrders, Cond.code yX12_bOrders cX12_bOrders 4 (some .int), Cond.methodLink RX12 169 yX12_bBuyer, Cond.instanceMethod yX12_bBuyer, Cond.selects RX12 yX12_bBuyer yX12_bBuyer, Cond.code yX12_bBuyer cX12_bBuyer 2 (some .int), Cond.methodLink RL 296 yL_ordered, Cond.static yL_ordered, Cond.codeWith yL_ordered cL_ordered 5 (some .int) [(0, 10, 13, 24), (0, 10, 17, 13)], Cond.methodLink RL 89 yX11_ordered, Cond.instanceMethod yX11_ordered, Cond.selects RX11 yX11_ordered yX11_ordered, Cond.code yX11_ordered cX11_ordered 3 (some .int)]
def wsL_law0_r55 : List Cond := [Cond.fieldLink RX11 145 "MarketHall$Hall" "orders" "[[I", Cond.methodLink RX11 148 yX1_asks, Cond.methodLink RL 298 yX12_ordered, Cond.instanceMethod yX12_ordered, Cond.selects RX12 yX12_ordered yX12_ordered, Cond.code yX12_ordered cX12_ordered 3 (some .int), Cond.methodLink RX12 437 yX12_bAsks, Cond.instanceMethod yX12_bAsks, Cond.selects RX12 yX12_bAsks yX12_bAsks, Cond.code yX12_bAsks cX12_bAsks 2 (some .boolean), Cond.methodLink RX12 431 yX12_bIsToday, Cond.instanceMethod yX12_bIsToday, Cond.selects RX12 yX12_bIsToday yX12_bIsToday, Cond.code yX12_bIsToday cX12_bIsToday 2 (some .boolean), Cond.methodLink RX12 425 yX12_weekday, Cond.instanceMethod yX12_weekday, Cond.selects RX12 yX12_weekday yX12_weekday, Cond.code yX12_weekday cX12_weekday 1 (some .int), Cond.methodLink RL 299 yL_taker, Cond.static yL_taker, Cond.codeWith yL_taker cL_taker 5 (some .int) [(0, 10, 13, 24), (0, 10, 17, 13)], Cond.methodLink RL 92 yX11_taker, Cond.instanceMethod yX11_taker, Cond.selects RX11 yX11_taker yX11_taker]
def wsL_law0_r56 : List Cond := [Cond.code yX11_taker cX11_taker 3 (some .int), Cond.methodLink RX11 152 yX1_takerOf, Cond.methodLink RL 301 yX12_taker, Cond.instanceMethod yX12_taker, Cond.selects RX12 yX12_taker yX12_taker, Cond.code yX12_taker cX12_taker 3 (some .int), Cond.methodLink RX12 443 yX12_bTaker, Cond.instanceMethod yX12_bTaker, Cond.selects RX12 yX12_bTaker yX12_bTaker, Cond.code yX12_bTaker cX12_bTaker 6 (some .int), Cond.methodLink RX12 434 yX12_bFits, Cond.instanceMethod yX12_bFits, Cond.selects RX12 yX12_bFits yX12_bFits, Cond.code yX12_bFits cX12_bFits 4 (some .boolean), Cond.methodLink RL 302 yL_match, Cond.static yL_match, Cond.codeWith yL_match cL_match 4 (some .int) [(0, 9, 12, 13)], Cond.methodLink RL 95 yX11_match, Cond.instanceMethod yX11_match, Cond.selects RX11 yX11_match yX11_match, Cond.code yX11_match cX11_match 3 (some .int), Cond.methodLink RX11 156 yX1_fill, Cond.static yX1_fill, Cond.code yX1_fill cX1_fill 6 (some .int)]
def wsL_law0_r57 : List Cond := [Cond.methodLink RX1 83 yX1_findSupply, Cond.static yX1_findSupply, Cond.code yX1_findSupply cX1_findSupply 6 none, Cond.methodLink RX1 86 yX1_nextToFill, Cond.static yX1_nextToFill, Cond.code yX1_nextToFill cX1_nextToFill 4 (some .int), Cond.methodLink RX1 90 yX1_giveFrom, Cond.static yX1_giveFrom, Cond.code yX1_giveFrom cX1_giveFrom 5 (some .int), Cond.methodLink RX11 160 yX1_cratesGiven, Cond.static yX1_cratesGiven, Cond.code yX1_cratesGiven cX1_cratesGiven 4 (some .int), Cond.methodLink RX11 163 yX1_howManyAsk, Cond.static yX1_howManyAsk, Cond.code yX1_howManyAsk cX1_howManyAsk 3 (some .int), Cond.methodLink RL 304 yX12_match, Cond.instanceMethod yX12_match, Cond.selects RX12 yX12_match yX12_match, Cond.code yX12_match cX12_match 4 (some .int), Cond.methodLink RX12 470 yX12_bAsking, Cond.instanceMethod yX12_bAsking, Cond.selects RX12 yX12_bAsking yX12_bAsking, Cond.code yX12_bAsking cX12_bAsking 3 (some .int), Cond.methodLink RX12 473 yX12_bFill]
def wsL_law0_r58 : List Cond := [Cond.instanceMethod yX12_bFill, Cond.selects RX12 yX12_bFill yX12_bFill, Cond.code yX12_bFill cX12_bFill 2 none, Cond.methodLink RX12 461 yX12_bLayFilling, Cond.instanceMethod yX12_bLayFilling, Cond.selects RX12 yX12_bLayFilling yX12_bLayFilling, Cond.code yX12_bLayFilling cX12_bLayFilling 3 none, Cond.methodLink RX12 464 yX12_bNextToServe, Cond.instanceMethod yX12_bNextToServe, Cond.selects RX12 yX12_bNextToServe yX12_bNextToServe, Cond.code yX12_bNextToServe cX12_bNextToServe 3 (some .int), Cond.methodLink RX12 467 yX12_bGetsOne, Cond.instanceMethod yX12_bGetsOne, Cond.selects RX12 yX12_bGetsOne yX12_bGetsOne, Cond.code yX12_bGetsOne cX12_bGetsOne 7 (some .boolean), Cond.methodLink RX12 458 yX12_bShifts, Cond.instanceMethod yX12_bShifts, Cond.selects RX12 yX12_bShifts yX12_bShifts, Cond.code yX12_bShifts cX12_bShifts 4 none, Cond.methodLink RL 305 yL_clock, Cond.static yL_clock, Cond.codeWith yL_clock cL_clock 8 (some .int) [(0, 16, 19, 13), (0, 16, 23, 15)], Cond.methodLink RL 98 yX11_clock, Cond.instanceMethod yX11_clock]
def wsL_law0_r59 : List Cond := [Cond.selects RX11 yX11_clock yX11_clock, Cond.code yX11_clock cX11_clock 6 (some .int), Cond.methodLink RL 307 yX12_clock, Cond.instanceMethod yX12_clock, Cond.selects RX12 yX12_clock yX12_clock, Cond.code yX12_clock cX12_clock 7 (some .int), Cond.methodLink RX12 537 yX12_cClock, Cond.instanceMethod yX12_cClock, Cond.selects RX12 yX12_cClock yX12_cClock, Cond.code yX12_cClock cX12_cClock 7 (some .int), Cond.methodLink RL 308 yL_queue, Cond.static yL_queue, Cond.codeWith yL_queue cL_queue 7 (some .int) [(0, 14, 17, 24), (0, 14, 21, 13), (0, 14, 25, 15)], Cond.methodLink RL 101 yX11_queue, Cond.instanceMethod yX11_queue, Cond.selects RX11 yX11_queue yX11_queue, Cond.code yX11_queue cX11_queue 5 (some .int), Cond.methodLink RX11 167 yX3_queueFault, Cond.methodLink RL 310 yX12_queue, Cond.instanceMethod yX12_queue, Cond.selects RX12 yX12_queue yX12_queue, Cond.code yX12_queue cX12_queue 5 (some .int), Cond.methodLink RX12 540 yX12_isClock, Cond.instanceMethod yX12_isClock]
def wsL_law0_r60 : List Cond := [Cond.selects RX12 yX12_isClock yX12_isClock, Cond.code yX12_isClock cX12_isClock 2 (some .boolean), Cond.methodLink RX12 543 yX12_cQueue, Cond.instanceMethod yX12_cQueue, Cond.selects RX12 yX12_cQueue yX12_cQueue, Cond.code yX12_cQueue cX12_cQueue 6 none, Cond.methodLink RL 311 yL_withdraw, Cond.static yL_withdraw, Cond.codeWith yL_withdraw cL_withdraw 4 (some .int) [(0, 9, 12, 24), (0, 9, 15, 15)], Cond.methodLink RL 104 yX11_withdraw, Cond.instanceMethod yX11_withdraw, Cond.selects RX11 yX11_withdraw yX11_withdraw, Cond.code yX11_withdraw cX11_withdraw 2 (some .int), Cond.methodLink RX11 172 yX3_withdrawFault, Cond.static yX3_withdrawFault, Cond.code yX3_withdrawFault cX3_withdrawFault 2 (some .int), Cond.methodLink RL 313 yX12_withdraw, Cond.instanceMethod yX12_withdraw, Cond.selects RX12 yX12_withdraw yX12_withdraw, Cond.code yX12_withdraw cX12_withdraw 3 (some .int), Cond.methodLink RL 314 yL_hand, Cond.static yL_hand, Cond.codeWith yL_hand cL_hand 5 (some .int) [(0, 10, 13, 24), (0, 10, 17, 13)], Cond.methodLink RL 107 yX11_hand]
def wsL_law0_r61 : List Cond := [Cond.instanceMethod yX11_hand, Cond.selects RX11 yX11_hand yX11_hand, Cond.code yX11_hand cX11_hand 3 (some .int), Cond.fieldLink RX11 179 "MarketHall$Hall" "clocks" "[[I", Cond.methodLink RX11 175 yX3_isOpen, Cond.methodLink RL 316 yX12_hand, Cond.instanceMethod yX12_hand, Cond.selects RX12 yX12_hand yX12_hand, Cond.code yX12_hand cX12_hand 3 (some .int), Cond.methodLink RX12 510 yX12_isOpen, Cond.instanceMethod yX12_isOpen, Cond.selects RX12 yX12_isOpen yX12_isOpen, Cond.code yX12_isOpen cX12_isOpen 2 (some .boolean), Cond.methodLink RX12 486 yX12_hour, Cond.instanceMethod yX12_hour, Cond.selects RX12 yX12_hour yX12_hour, Cond.code yX12_hour cX12_hour 1 (some .int), Cond.methodLink RL 317 yL_lot, Cond.static yL_lot, Cond.codeWith yL_lot cL_lot 6 (some .int) [(0, 12, 15, 24), (0, 12, 19, 13)], Cond.methodLink RL 110 yX11_lot, Cond.instanceMethod yX11_lot, Cond.selects RX11 yX11_lot yX11_lot, Cond.code yX11_lot cX11_lot 4 (some .int)]
def wsL_law0_r62 : List Cond := [Cond.fieldLink RX11 182 "MarketHall$Hall" "lots" "[[I", Cond.methodLink RL 319 yX12_lot, Cond.instanceMethod yX12_lot, Cond.selects RX12 yX12_lot yX12_lot, Cond.code yX12_lot cX12_lot 4 (some .int), Cond.methodLink RL 320 yL_takings, Cond.static yL_takings, Cond.codeWith yL_takings cL_takings 6 (some .int) [(0, 12, 15, 24), (0, 12, 19, 13)], Cond.methodLink RL 113 yX11_takings, Cond.instanceMethod yX11_takings, Cond.selects RX11 yX11_takings yX11_takings, Cond.code yX11_takings cX11_takings 4 (some .int), Cond.methodLink RX11 185 yX3_tellTakings, Cond.static yX3_tellTakings, Cond.code yX3_tellTakings cX3_tellTakings 12 (some .int), Cond.methodLink RX3 71 yX6_copy, Cond.methodLink RX3 75 yX3_sellOn, Cond.static yX3_sellOn, Cond.code yX3_sellOn cX3_sellOn 5 (some .int), Cond.methodLink RX3 67 yX3_sellFirst, Cond.methodLink RL 322 yX12_takings, Cond.instanceMethod yX12_takings, Cond.selects RX12 yX12_takings yX12_takings, Cond.code yX12_takings cX12_takings 4 (some .int)]
def wsL_law0_r63 : List Cond := [Cond.methodLink RX12 528 yX12_cTry, Cond.instanceMethod yX12_cTry, Cond.selects RX12 yX12_cTry yX12_cTry, Cond.code yX12_cTry cX12_cTry 9 none, Cond.methodLink RX12 513 yX12_cSell, Cond.instanceMethod yX12_cSell, Cond.selects RX12 yX12_cSell yX12_cSell, Cond.code yX12_cSell cX12_cSell 11 none, Cond.methodLink RX12 504 yX12_bTakes, Cond.instanceMethod yX12_bTakes, Cond.selects RX12 yX12_bTakes yX12_bTakes, Cond.code yX12_bTakes cX12_bTakes 5 (some .int), Cond.methodLink RX12 507 yX12_mSold, Cond.instanceMethod yX12_mSold, Cond.selects RX12 yX12_mSold yX12_mSold, Cond.code yX12_mSold cX12_mSold 7 (some .int), Cond.methodLink RX12 176 yX12_bSold, Cond.instanceMethod yX12_bSold, Cond.selects RX12 yX12_bSold yX12_bSold, Cond.code yX12_bSold cX12_bSold 2 none, Cond.methodLink RX12 179 yX12_kSold, Cond.instanceMethod yX12_kSold, Cond.selects RX12 yX12_kSold yX12_kSold, Cond.code yX12_kSold cX12_kSold 4 none]
def wsL_law0_r64 : List Cond := [Cond.methodLink RX12 744 yX12_kGrowerOf, Cond.instanceMethod yX12_kGrowerOf, Cond.selects RX12 yX12_kGrowerOf yX12_kGrowerOf, Cond.code yX12_kGrowerOf cX12_kGrowerOf 2 (some .int), Cond.methodLink RX12 753 yX12_kFee, Cond.instanceMethod yX12_kFee, Cond.selects RX12 yX12_kFee yX12_kFee, Cond.code yX12_kFee cX12_kFee 2 (some .int), Cond.methodLink RX12 747 yX12_dCut, Cond.instanceMethod yX12_dCut, Cond.selects RX12 yX12_dCut yX12_dCut, Cond.code yX12_dCut cX12_dCut 2 (some .int), Cond.methodLink RX12 756 yX12_gAt, Cond.static yX12_gAt, Cond.code yX12_gAt cX12_gAt 2 (some .int), Cond.methodLink RL 323 yL_bestRow, Cond.static yL_bestRow, Cond.codeWith yL_bestRow cL_bestRow 5 (some .int) [(0, 10, 13, 24), (0, 10, 17, 15)], Cond.methodLink RL 116 yX11_bestRow, Cond.instanceMethod yX11_bestRow, Cond.selects RX11 yX11_bestRow yX11_bestRow, Cond.code yX11_bestRow cX11_bestRow 5 (some .int), Cond.methodLink RX11 189 yX3_bestRowOf, Cond.static yX3_bestRowOf]
def wsL_law0_r65 : List Cond := [Cond.code yX3_bestRowOf cX3_bestRowOf 11 (some .int), Cond.methodLink RX3 87 arraycopyName, Cond.methodLink RX3 79 yX3_insert, Cond.static yX3_insert, Cond.code yX3_insert cX3_insert 4 none, Cond.methodLink RX3 83 yX3_lotOf, Cond.static yX3_lotOf, Cond.code yX3_lotOf cX3_lotOf 5 (some (.array .int)), Cond.methodLink RX3 93 yX3_nextRow, Cond.methodLink RL 325 yX12_bestRow, Cond.instanceMethod yX12_bestRow, Cond.selects RX12 yX12_bestRow yX12_bestRow, Cond.code yX12_bestRow cX12_bestRow 3 (some .int), Cond.fieldLink RX12 522 "MarketHallModel" "cMost" "I", Cond.methodLink RX12 547 yX12_cFind, Cond.instanceMethod yX12_cFind, Cond.selects RX12 yX12_cFind yX12_cFind, Cond.code yX12_cFind cX12_cFind 5 none, Cond.methodLink RX12 519 yX12_cFirstRow, Cond.instanceMethod yX12_cFirstRow, Cond.selects RX12 yX12_cFirstRow yX12_cFirstRow, Cond.code yX12_cFirstRow cX12_cFirstRow 5 none, Cond.methodLink RX12 525 yX12_cLayRow, Cond.instanceMethod yX12_cLayRow]
def wsL_law0_r66 : List Cond := [Cond.selects RX12 yX12_cLayRow yX12_cLayRow, Cond.code yX12_cLayRow cX12_cLayRow 5 none, Cond.methodLink RX12 531 yX12_cNextRow, Cond.instanceMethod yX12_cNextRow, Cond.selects RX12 yX12_cNextRow yX12_cNextRow, Cond.code yX12_cNextRow cX12_cNextRow 6 (some .boolean), Cond.methodLink RX12 516 yX12_cSwap, Cond.instanceMethod yX12_cSwap, Cond.selects RX12 yX12_cSwap yX12_cSwap, Cond.code yX12_cSwap cX12_cSwap 4 none, Cond.methodLink RL 326 yL_bestStart, Cond.static yL_bestStart, Cond.codeWith yL_bestStart cL_bestStart 7 (some .int) [(0, 14, 17, 24), (0, 14, 21, 13), (0, 14, 25, 15)], Cond.methodLink RL 119 yX11_bestStart, Cond.instanceMethod yX11_bestStart, Cond.selects RX11 yX11_bestStart yX11_bestStart, Cond.code yX11_bestStart cX11_bestStart 6 (some .int), Cond.methodLink RX11 193 yX3_bestStartOf, Cond.static yX3_bestStartOf, Cond.code yX3_bestStartOf cX3_bestStartOf 10 (some .int), Cond.methodLink RL 328 yX12_bestStart, Cond.instanceMethod yX12_bestStart, Cond.selects RX12 yX12_bestStart yX12_bestStart, Cond.code yX12_bestStart cX12_bestStart 5 (some .int)]
def wsL_law0_r67 : List Cond := [Cond.fieldLink RX12 534 "MarketHallModel" "cStart" "I", Cond.methodLink RX12 550 yX12_cFindStart, Cond.instanceMethod yX12_cFindStart, Cond.selects RX12 yX12_cFindStart yX12_cFindStart, Cond.code yX12_cFindStart cX12_cFindStart 8 none, Cond.methodLink RL 329 yL_way, Cond.static yL_way, Cond.codeWith yL_way cL_way 6 (some .int) [(0, 12, 15, 24), (0, 12, 19, 13)], Cond.methodLink RL 122 yX11_way, Cond.instanceMethod yX11_way, Cond.selects RX11 yX11_way yX11_way, Cond.code yX11_way cX11_way 4 (some .int), Cond.methodLink RL 331 yX12_way, Cond.instanceMethod yX12_way, Cond.selects RX12 yX12_way yX12_way, Cond.code yX12_way cX12_way 5 (some .int), Cond.methodLink RX12 579 yX12_wAt, Cond.static yX12_wAt, Cond.code yX12_wAt cX12_wAt 2 (some .int), Cond.methodLink RL 332 yL_docks, Cond.static yL_docks, Cond.codeWith yL_docks cL_docks 4 (some .int) [(0, 9, 12, 13), (0, 9, 15, 15)], Cond.methodLink RL 125 yX11_docks, Cond.instanceMethod yX11_docks]
def wsL_law0_r68 : List Cond := [Cond.selects RX11 yX11_docks yX11_docks, Cond.code yX11_docks cX11_docks 2 (some .int), Cond.methodLink RX11 197 yX2_atDocks, Cond.static yX2_atDocks, Cond.code yX2_atDocks cX2_atDocks 3 (some .int), Cond.methodLink RX2 25 yX2_parcelsIn, Cond.static yX2_parcelsIn, Cond.code yX2_parcelsIn cX2_parcelsIn 4 (some .int), Cond.methodLink RL 334 yX12_docks, Cond.instanceMethod yX12_docks, Cond.selects RX12 yX12_docks yX12_docks, Cond.code yX12_docks cX12_docks 3 (some .int), Cond.methodLink RX12 582 yX12_tAtDocks, Cond.instanceMethod yX12_tAtDocks, Cond.selects RX12 yX12_tAtDocks yX12_tAtDocks, Cond.code yX12_tAtDocks cX12_tAtDocks 3 (some .int), Cond.methodLink RX12 576 yX12_isAtDock, Cond.instanceMethod yX12_isAtDock, Cond.selects RX12 yX12_isAtDock yX12_isAtDock, Cond.code yX12_isAtDock cX12_isAtDock 2 (some .boolean), Cond.methodLink RX12 569 yX12_isOut, Cond.instanceMethod yX12_isOut, Cond.selects RX12 yX12_isOut yX12_isOut, Cond.code yX12_isOut cX12_isOut 2 (some .boolean)]
def wsL_law0_r69 : List Cond := [Cond.methodLink RX12 572 yX12_tLoad, Cond.instanceMethod yX12_tLoad, Cond.selects RX12 yX12_tLoad yX12_tLoad, Cond.code yX12_tLoad cX12_tLoad 5 (some .int), Cond.methodLink RX12 566 yX12_isIn, Cond.instanceMethod yX12_isIn, Cond.selects RX12 yX12_isIn yX12_isIn, Cond.code yX12_isIn cX12_isIn 3 (some .boolean), Cond.methodLink RL 335 yL_truck, Cond.static yL_truck, Cond.codeWith yL_truck cL_truck 5 (some .int) [(0, 10, 13, 13), (0, 10, 17, 15)], Cond.methodLink RL 128 yX11_truck, Cond.instanceMethod yX11_truck, Cond.selects RX11 yX11_truck yX11_truck, Cond.code yX11_truck cX11_truck 3 (some .int), Cond.methodLink RL 337 yX12_truck, Cond.instanceMethod yX12_truck, Cond.selects RX12 yX12_truck yX12_truck, Cond.code yX12_truck cX12_truck 4 (some .int), Cond.methodLink RL 338 yL_load, Cond.static yL_load, Cond.codeWith yL_load cL_load 5 (some .int) [(0, 10, 13, 24), (0, 10, 17, 15)], Cond.methodLink RL 131 yX11_load, Cond.instanceMethod yX11_load]
def wsL_law0_r70 : List Cond := [Cond.selects RX11 yX11_load yX11_load, Cond.code yX11_load cX11_load 3 (some .int), Cond.methodLink RX11 200 yX2_loadFault, Cond.static yX2_loadFault, Cond.code yX2_loadFault cX2_loadFault 6 (some .int), Cond.methodLink RX2 34 yX10_isShut, Cond.methodLink RX2 43 yX2_atDocks, Cond.methodLink RL 340 yX12_load, Cond.instanceMethod yX12_load, Cond.selects RX12 yX12_load yX12_load, Cond.code yX12_load cX12_load 4 (some .int), Cond.methodLink RX12 585 yX12_isParcel, Cond.instanceMethod yX12_isParcel, Cond.selects RX12 yX12_isParcel yX12_isParcel, Cond.code yX12_isParcel cX12_isParcel 2 (some .boolean), Cond.methodLink RX12 588 yX12_isTruck, Cond.instanceMethod yX12_isTruck, Cond.selects RX12 yX12_isTruck yX12_isTruck, Cond.code yX12_isTruck cX12_isTruck 2 (some .boolean), Cond.methodLink RX12 591 yX12_mayLoad, Cond.instanceMethod yX12_mayLoad, Cond.selects RX12 yX12_mayLoad yX12_mayLoad, Cond.code yX12_mayLoad cX12_mayLoad 4 (some .boolean), Cond.methodLink RL 341 yL_send]
def wsL_law0_r71 : List Cond := [Cond.static yL_send, Cond.codeWith yL_send cL_send 5 (some .int) [(0, 10, 13, 24), (0, 10, 17, 13), (0, 10, 21, 15)], Cond.methodLink RL 134 yX11_send, Cond.instanceMethod yX11_send, Cond.selects RX11 yX11_send yX11_send, Cond.code yX11_send cX11_send 3 (some .int), Cond.methodLink RX11 203 yX2_sendFault, Cond.static yX2_sendFault, Cond.code yX2_sendFault cX2_sendFault 3 (some .int), Cond.methodLink RL 343 yX12_send, Cond.instanceMethod yX12_send, Cond.selects RX12 yX12_send yX12_send, Cond.code yX12_send cX12_send 4 (some .int), Cond.methodLink RL 344 yL_haul, Cond.static yL_haul, Cond.codeWith yL_haul cL_haul 5 (some .int) [(0, 10, 13, 24), (0, 10, 17, 13)], Cond.methodLink RL 137 yX11_haul, Cond.instanceMethod yX11_haul, Cond.selects RX11 yX11_haul yX11_haul, Cond.code yX11_haul cX11_haul 3 (some .int), Cond.methodLink RX11 206 yX2_tellTruck, Cond.static yX2_tellTruck, Cond.code yX2_tellTruck cX2_tellTruck 5 (some .int), Cond.methodLink RX2 108 yX2_nextDue]
def wsL_law0_r72 : List Cond := [Cond.static yX2_nextDue, Cond.code yX2_nextDue cX2_nextDue 4 (some .int), Cond.methodLink RL 346 yX12_haul, Cond.instanceMethod yX12_haul, Cond.selects RX12 yX12_haul yX12_haul, Cond.code yX12_haul cX12_haul 3 (some .int), Cond.methodLink RX12 634 yX12_tLongNow, Cond.instanceMethod yX12_tLongNow, Cond.selects RX12 yX12_tLongNow yX12_tLongNow, Cond.code yX12_tLongNow cX12_tLongNow 2 (some .int), Cond.fieldLink RX12 600 "MarketHallModel" "tLong" "I", Cond.methodLink RX12 613 yX12_tTowns, Cond.instanceMethod yX12_tTowns, Cond.selects RX12 yX12_tTowns yX12_tTowns, Cond.code yX12_tTowns cX12_tTowns 4 (some .int), Cond.methodLink RX12 594 yX12_tTownOf, Cond.instanceMethod yX12_tTownOf, Cond.selects RX12 yX12_tTownOf yX12_tTownOf, Cond.code yX12_tTownOf cX12_tTownOf 2 (some .int), Cond.methodLink RX12 563 yX12_bTown, Cond.instanceMethod yX12_bTown, Cond.selects RX12 yX12_bTown yX12_bTown, Cond.code yX12_bTown cX12_bTown 2 (some .int), Cond.methodLink RX12 616 yX12_tFindTrip]
def wsL_law0_r73 : List Cond := [Cond.instanceMethod yX12_tFindTrip, Cond.selects RX12 yX12_tFindTrip yX12_tFindTrip, Cond.code yX12_tFindTrip cX12_tFindTrip 5 none, Cond.fieldLink RX12 597 "MarketHallModel" "tMany" "I", Cond.methodLink RX12 603 yX12_tHoursOfRow, Cond.instanceMethod yX12_tHoursOfRow, Cond.selects RX12 yX12_tHoursOfRow yX12_tHoursOfRow, Cond.code yX12_tHoursOfRow cX12_tHoursOfRow 4 (some .int), Cond.methodLink RX12 606 yX12_tNextRow, Cond.instanceMethod yX12_tNextRow, Cond.selects RX12 yX12_tNextRow yX12_tNextRow, Cond.code yX12_tNextRow cX12_tNextRow 6 (some .boolean), Cond.methodLink RX12 637 yX12_tNext, Cond.instanceMethod yX12_tNext, Cond.selects RX12 yX12_tNext yX12_tNext, Cond.code yX12_tNext cX12_tNext 3 (some .int), Cond.methodLink RL 347 yL_parcel, Cond.static yL_parcel, Cond.codeWith yL_parcel cL_parcel 5 (some .int) [(0, 10, 13, 24), (0, 10, 17, 13)], Cond.methodLink RL 140 yX11_parcel, Cond.instanceMethod yX11_parcel, Cond.selects RX11 yX11_parcel yX11_parcel, Cond.code yX11_parcel cX11_parcel 3 (some .int), Cond.fieldLink RX11 209 "MarketHall$Hall" "parcels" "[[I"]
def wsL_law0_r74 : List Cond := [Cond.methodLink RX11 212 yX1_tellParcel, Cond.static yX1_tellParcel, Cond.code yX1_tellParcel cX1_tellParcel 6 (some .int), Cond.methodLink RX1 44 yX5_stage, Cond.methodLink RL 349 yX12_parcel, Cond.instanceMethod yX12_parcel, Cond.selects RX12 yX12_parcel yX12_parcel, Cond.code yX12_parcel cX12_parcel 3 (some .int), Cond.methodLink RX12 640 yX12_qRipe, Cond.instanceMethod yX12_qRipe, Cond.selects RX12 yX12_qRipe yX12_qRipe, Cond.code yX12_qRipe cX12_qRipe 2 (some .int), Cond.methodLink RX12 643 yX12_qHarm, Cond.instanceMethod yX12_qHarm, Cond.selects RX12 yX12_qHarm yX12_qHarm, Cond.code yX12_qHarm cX12_qHarm 2 (some .int), Cond.methodLink RL 350 yL_trip, Cond.static yL_trip, Cond.codeWith yL_trip cL_trip 5 (some .int) [(0, 10, 13, 24), (0, 10, 17, 13)], Cond.methodLink RL 143 yX11_trip, Cond.instanceMethod yX11_trip, Cond.selects RX11 yX11_trip yX11_trip, Cond.code yX11_trip cX11_trip 3 (some .int), Cond.fieldLink RX11 215 "MarketHall$Hall" "trucks" "[[I"]
def wsL_law0_r75 : List Cond := [Cond.methodLink RX11 218 yX2_townsOf, Cond.methodLink RX11 221 yX2_shortestTrip, Cond.methodLink RL 352 yX12_trip, Cond.instanceMethod yX12_trip, Cond.selects RX12 yX12_trip yX12_trip, Cond.code yX12_trip cX12_trip 3 (some .int), Cond.methodLink RL 353 yL_fewest, Cond.static yL_fewest, Cond.codeWith yL_fewest cL_fewest 5 (some .int) [(0, 10, 13, 24), (0, 10, 17, 13), (0, 10, 21, 15)], Cond.methodLink RL 146 yX11_fewest, Cond.instanceMethod yX11_fewest, Cond.selects RX11 yX11_fewest yX11_fewest, Cond.code yX11_fewest cX11_fewest 4 (some .int), Cond.methodLink RX11 225 yX2_partedFor, Cond.static yX2_partedFor, Cond.code yX2_partedFor cX2_partedFor 6 (some .int), Cond.methodLink RX11 228 yX2_greatest, Cond.static yX2_greatest, Cond.code yX2_greatest cX2_greatest 4 (some .int), Cond.methodLink RX2 111 Lib.Math.max.name, Cond.methodLink RX11 232 yX2_fewestLoads, Cond.static yX2_fewestLoads, Cond.code yX2_fewestLoads cX2_fewestLoads 9 (some .int), Cond.methodLink RX2 76 Lib.Math.min.name]
def wsL_law0_r76 : List Cond := [Cond.methodLink RL 355 yX12_fewest, Cond.instanceMethod yX12_fewest, Cond.selects RX12 yX12_fewest yX12_fewest, Cond.code yX12_fewest cX12_fewest 3 (some .int), Cond.methodLink RX12 652 yX12_tLayParts, Cond.instanceMethod yX12_tLayParts, Cond.selects RX12 yX12_tLayParts yX12_tLayParts, Cond.code yX12_tLayParts cX12_tLayParts 3 none, Cond.fieldLink RX12 646 "MarketHallModel" "tParts" "I", Cond.methodLink RX12 655 yX12_areParts, Cond.instanceMethod yX12_areParts, Cond.selects RX12 yX12_areParts yX12_areParts, Cond.code yX12_areParts cX12_areParts 4 (some .boolean), Cond.methodLink RX12 658 yX12_tFewest, Cond.instanceMethod yX12_tFewest, Cond.selects RX12 yX12_tFewest yX12_tFewest, Cond.code yX12_tFewest cX12_tFewest 6 (some .int), Cond.methodLink RX12 649 yX12_tWith, Cond.instanceMethod yX12_tWith, Cond.selects RX12 yX12_tWith yX12_tWith, Cond.code yX12_tWith cX12_tWith 5 (some .int), Cond.methodLink RL 356 yL_inspector, Cond.static yL_inspector, Cond.codeWith yL_inspector cL_inspector 5 (some .int) [(0, 10, 13, 13), (0, 10, 17, 15)]]
def wsL_law0_r77 : List Cond := [Cond.methodLink RL 149 yX11_inspector, Cond.instanceMethod yX11_inspector, Cond.selects RX11 yX11_inspector yX11_inspector, Cond.code yX11_inspector cX11_inspector 3 (some .int), Cond.methodLink RL 358 yX12_inspector, Cond.instanceMethod yX12_inspector, Cond.selects RX12 yX12_inspector yX12_inspector, Cond.code yX12_inspector cX12_inspector 3 (some .int), Cond.methodLink RX12 708 yX12_iInspector, Cond.instanceMethod yX12_iInspector, Cond.selects RX12 yX12_iInspector yX12_iInspector, Cond.code yX12_iInspector cX12_iInspector 5 (some .int), Cond.methodLink RX12 683 yX12_iAt, Cond.static yX12_iAt, Cond.code yX12_iAt cX12_iAt 2 (some .int), Cond.methodLink RL 359 yL_round, Cond.static yL_round, Cond.codeWith yL_round cL_round 6 (some .int) [(0, 12, 15, 24), (0, 12, 19, 13)], Cond.methodLink RL 152 yX11_round, Cond.instanceMethod yX11_round, Cond.selects RX11 yX11_round yX11_round, Cond.code yX11_round cX11_round 4 (some .int), Cond.methodLink RX11 236 yX7_areStops, Cond.static yX7_areStops]
def wsL_law0_r78 : List Cond := [Cond.code yX7_areStops cX7_areStops 4 (some .boolean), Cond.constant RX7 19 (999999), Cond.methodLink RX7 20 yX7_isStop, Cond.static yX7_isStop, Cond.code yX7_isStop cX7_isStop 2 (some .boolean), Cond.methodLink RX7 93 yX5_isFrom, Cond.static yX5_isFrom, Cond.code yX5_isFrom cX5_isFrom 3 (some .boolean), Cond.methodLink RL 361 yX12_round, Cond.instanceMethod yX12_round, Cond.selects RX12 yX12_round yX12_round, Cond.code yX12_round cX12_round 4 (some .int), Cond.methodLink RX12 711 yX12_isInspector, Cond.instanceMethod yX12_isInspector, Cond.selects RX12 yX12_isInspector yX12_isInspector, Cond.code yX12_isInspector cX12_isInspector 2 (some .boolean), Cond.methodLink RX12 714 yX12_iIsRow, Cond.instanceMethod yX12_iIsRow, Cond.selects RX12 yX12_iIsRow yX12_iIsRow, Cond.code yX12_iIsRow cX12_iIsRow 4 (some .boolean), Cond.constant RX12 682 (777777), Cond.methodLink RX12 679 yX12_iStops, Cond.static yX12_iStops, Cond.code yX12_iStops cX12_iStops 3 (some .int)]
def wsL_law0_r79 : List Cond := [Cond.methodLink RL 362 yL_looked, Cond.static yL_looked, Cond.codeWith yL_looked cL_looked 5 (some .int) [(0, 10, 13, 24), (0, 10, 17, 13)], Cond.methodLink RL 155 yX11_looked, Cond.instanceMethod yX11_looked, Cond.selects RX11 yX11_looked yX11_looked, Cond.code yX11_looked cX11_looked 3 (some .int), Cond.fieldLink RX11 241 "MarketHall$Hall" "inspectors" "[[I", Cond.methodLink RX11 244 yX7_tellInspector, Cond.static yX7_tellInspector, Cond.code yX7_tellInspector cX7_tellInspector 5 (some .int), Cond.methodLink RX7 71 yX7_stopAt, Cond.methodLink RL 364 yX12_looked, Cond.instanceMethod yX12_looked, Cond.selects RX12 yX12_looked yX12_looked, Cond.code yX12_looked cX12_looked 3 (some .int), Cond.methodLink RX12 720 yX12_iLooked, Cond.instanceMethod yX12_iLooked, Cond.selects RX12 yX12_iLooked yX12_iLooked, Cond.code yX12_iLooked cX12_iLooked 4 (some .int), Cond.methodLink RX12 717 yX12_iNext, Cond.instanceMethod yX12_iNext, Cond.selects RX12 yX12_iNext yX12_iNext, Cond.code yX12_iNext cX12_iNext 3 (some .int)]
def wsL_law0_r80 : List Cond := [Cond.methodLink RX12 702 yX12_iFigureAt, Cond.instanceMethod yX12_iFigureAt, Cond.selects RX12 yX12_iFigureAt yX12_iFigureAt, Cond.code yX12_iFigureAt cX12_iFigureAt 5 (some .int), Cond.methodLink RX12 699 yX12_iStop, Cond.static yX12_iStop, Cond.code yX12_iStop cX12_iStop 4 (some .int), Cond.methodLink RL 365 yL_found, Cond.static yL_found, Cond.codeWith yL_found cL_found 5 (some .int) [(0, 10, 13, 24), (0, 10, 17, 13)], Cond.methodLink RL 158 yX11_found, Cond.instanceMethod yX11_found, Cond.selects RX11 yX11_found yX11_found, Cond.code yX11_found cX11_found 3 (some .int), Cond.methodLink RX11 247 yX7_findingBack, Cond.static yX7_findingBack, Cond.code yX7_findingBack cX7_findingBack 3 (some (.array .int)), Cond.methodLink RX7 65 Lib.Math.max.name, Cond.methodLink RL 367 yX12_found, Cond.instanceMethod yX12_found, Cond.selects RX12 yX12_found yX12_found, Cond.code yX12_found cX12_found 3 (some .int), Cond.methodLink RL 368 yL_worst, Cond.static yL_worst]
def wsL_law0_r81 : List Cond := [Cond.codeWith yL_worst cL_worst 5 (some .int) [(0, 10, 13, 24), (0, 10, 17, 13)], Cond.methodLink RL 161 yX11_worst, Cond.instanceMethod yX11_worst, Cond.selects RX11 yX11_worst yX11_worst, Cond.code yX11_worst cX11_worst 3 (some .int), Cond.methodLink RX11 251 yX7_search, Cond.static yX7_search, Cond.code yX7_search cX7_search 12 none, Cond.methodLink RX7 75 yX6_today, Cond.methodLink RX7 79 yX6_copy, Cond.methodLink RX7 83 yX7_anHourLater, Cond.static yX7_anHourLater, Cond.code yX7_anHourLater cX7_anHourLater 1 none, Cond.methodLink RX7 97 yX10_growOlder, Cond.methodLink RX7 86 yX7_lookAhead, Cond.static yX7_lookAhead, Cond.code yX7_lookAhead cX7_lookAhead 5 (some .int), Cond.methodLink RX7 102 yX7_look, Cond.methodLink RX7 90 yX7_findingsAt, Cond.static yX7_findingsAt, Cond.code yX7_findingsAt cX7_findingsAt 6 (some .int), Cond.methodLink RL 370 yX12_worst, Cond.instanceMethod yX12_worst, Cond.selects RX12 yX12_worst yX12_worst]
def wsL_law0_r82 : List Cond := [Cond.code yX12_worst cX12_worst 4 (some .int), Cond.fieldLink RX12 723 "MarketHallModel" "iMost" "I", Cond.fieldLink RX12 732 "MarketHallModel" "iMostStops" "I", Cond.methodLink RX12 735 yX12_iFindMost, Cond.instanceMethod yX12_iFindMost, Cond.selects RX12 yX12_iFindMost yX12_iFindMost, Cond.code yX12_iFindMost cX12_iFindMost 7 none, Cond.methodLink RX12 726 yX12_iPlace, Cond.instanceMethod yX12_iPlace, Cond.selects RX12 yX12_iPlace yX12_iPlace, Cond.code yX12_iPlace cX12_iPlace 2 (some .int), Cond.methodLink RX12 729 yX12_iSearch, Cond.instanceMethod yX12_iSearch, Cond.selects RX12 yX12_iSearch yX12_iSearch, Cond.code yX12_iSearch cX12_iSearch 5 (some .int), Cond.methodLink RX12 705 yX12_iLook, Cond.instanceMethod yX12_iLook, Cond.selects RX12 yX12_iLook yX12_iLook, Cond.code yX12_iLook cX12_iLook 8 (some .int), Cond.methodLink RX12 693 yX12_iKind, Cond.instanceMethod yX12_iKind, Cond.selects RX12 yX12_iKind yX12_iKind, Cond.code yX12_iKind cX12_iKind 4 (some .int), Cond.methodLink RX12 696 yX12_iFinds]
def wsL_law0_r83 : List Cond := [Cond.instanceMethod yX12_iFinds, Cond.selects RX12 yX12_iFinds yX12_iFinds, Cond.code yX12_iFinds cX12_iFinds 6 none, Cond.methodLink RX12 686 yX12_iKeep, Cond.instanceMethod yX12_iKeep, Cond.selects RX12 yX12_iKeep yX12_iKeep, Cond.code yX12_iKeep cX12_iKeep 7 none, Cond.methodLink RX12 690 yX12_kFinding, Cond.instanceMethod yX12_kFinding, Cond.selects RX12 yX12_kFinding yX12_kFinding, Cond.code yX12_kFinding cX12_kFinding 2 none, Cond.methodLink RL 371 yL_tariff, Cond.static yL_tariff, Cond.codeWith yL_tariff cL_tariff 5 (some .int) [(0, 10, 13, 13)], Cond.methodLink RL 164 yX11_tariff, Cond.instanceMethod yX11_tariff, Cond.selects RX11 yX11_tariff yX11_tariff, Cond.code yX11_tariff cX11_tariff 3 (some .int), Cond.constant RX11 255 (99999), Cond.methodLink RL 373 yX12_tariff, Cond.instanceMethod yX12_tariff, Cond.selects RX12 yX12_tariff yX12_tariff, Cond.code yX12_tariff cX12_tariff 4 (some .int), Cond.constant RX12 759 (99999)]
def wsL_law0_r84 : List Cond := [Cond.methodLink RL 374 yL_account, Cond.static yL_account, Cond.codeWith yL_account cL_account 4 (some .int) [(0, 9, 12, 13)], Cond.methodLink RL 167 yX11_account, Cond.instanceMethod yX11_account, Cond.selects RX11 yX11_account yX11_account, Cond.code yX11_account cX11_account 2 (some .int), Cond.fieldLink RX11 258 "MarketHall$Hall" "accounts" "[I", Cond.methodLink RL 376 yX12_account, Cond.instanceMethod yX12_account, Cond.selects RX12 yX12_account yX12_account, Cond.code yX12_account cX12_account 2 (some .int), Cond.methodLink RL 377 yL_entry, Cond.static yL_entry, Cond.codeWith yL_entry cL_entry 5 (some .int) [(0, 10, 13, 24), (0, 10, 17, 13)], Cond.methodLink RL 170 yX11_entry, Cond.instanceMethod yX11_entry, Cond.selects RX11 yX11_entry yX11_entry, Cond.code yX11_entry cX11_entry 3 (some .int), Cond.fieldLink RX11 261 "MarketHall$Hall" "entries" "[[I", Cond.methodLink RL 379 yX12_entry, Cond.instanceMethod yX12_entry, Cond.selects RX12 yX12_entry yX12_entry, Cond.code yX12_entry cX12_entry 4 (some .int)]
def wsL_law0_r85 : List Cond := [Cond.methodLink RL 380 yL_owed, Cond.static yL_owed, Cond.codeWith yL_owed cL_owed 5 (some .int) [(0, 10, 13, 24), (0, 10, 17, 13)], Cond.methodLink RL 173 yX11_owed, Cond.instanceMethod yX11_owed, Cond.selects RX11 yX11_owed yX11_owed, Cond.code yX11_owed cX11_owed 3 (some .int), Cond.fieldLink RX11 264 "MarketHall$Hall" "growers" "[[I", Cond.methodLink RL 382 yX12_owed, Cond.instanceMethod yX12_owed, Cond.selects RX12 yX12_owed yX12_owed, Cond.code yX12_owed cX12_owed 3 (some .int), Cond.methodLink RL 383 yL_quarrel, Cond.static yL_quarrel, Cond.codeWith yL_quarrel cL_quarrel 5 (some .int) [(0, 10, 13, 24), (0, 10, 17, 13), (0, 10, 21, 15)], Cond.methodLink RL 176 yX11_quarrel, Cond.instanceMethod yX11_quarrel, Cond.selects RX11 yX11_quarrel yX11_quarrel, Cond.code yX11_quarrel cX11_quarrel 3 (some .int), Cond.methodLink RX11 267 yX0_canQuarrel, Cond.static yX0_canQuarrel, Cond.code yX0_canQuarrel cX0_canQuarrel 5 (some .boolean), Cond.methodLink RL 385 yX12_quarrel, Cond.instanceMethod yX12_quarrel]
def wsL_law0_r86 : List Cond := [Cond.selects RX12 yX12_quarrel yX12_quarrel, Cond.code yX12_quarrel cX12_quarrel 4 (some .int), Cond.methodLink RX12 782 yX12_kMayQuarrel, Cond.instanceMethod yX12_kMayQuarrel, Cond.selects RX12 yX12_kMayQuarrel yX12_kMayQuarrel, Cond.code yX12_kMayQuarrel cX12_kMayQuarrel 4 (some .boolean), Cond.methodLink RX12 785 yX12_kAt, Cond.static yX12_kAt, Cond.code yX12_kAt cX12_kAt 2 (some .int), Cond.methodLink RL 386 yL_quarrelled, Cond.static yL_quarrelled, Cond.codeWith yL_quarrelled cL_quarrelled 5 (some .int) [(0, 10, 13, 24), (0, 10, 17, 13)], Cond.methodLink RL 179 yX11_quarrelled, Cond.instanceMethod yX11_quarrelled, Cond.selects RX11 yX11_quarrelled yX11_quarrelled, Cond.code yX11_quarrelled cX11_quarrelled 3 (some .int), Cond.fieldLink RX11 270 "MarketHall$Hall" "quarrels" "[[I", Cond.methodLink RL 388 yX12_quarrelled, Cond.instanceMethod yX12_quarrelled, Cond.selects RX12 yX12_quarrelled yX12_quarrelled, Cond.code yX12_quarrelled cX12_quarrelled 3 (some .int), Cond.methodLink RL 389 yL_blame, Cond.static yL_blame, Cond.codeWith yL_blame cL_blame 6 (some .int) [(0, 12, 15, 24), (0, 12, 19, 13), (0, 12, 23, 15)]]
def wsL_law0_r87 : List Cond := [Cond.methodLink RL 182 yX11_blame, Cond.instanceMethod yX11_blame, Cond.selects RX11 yX11_blame yX11_blame, Cond.code yX11_blame cX11_blame 5 (some .int), Cond.methodLink RX11 273 yX0_award, Cond.methodLink RX11 276 yX0_shareAward, Cond.methodLink RL 391 yX12_blame, Cond.instanceMethod yX12_blame, Cond.selects RX12 yX12_blame yX12_blame, Cond.code yX12_blame cX12_blame 5 (some .int), Cond.methodLink RX12 788 yX12_kAward, Cond.instanceMethod yX12_kAward, Cond.selects RX12 yX12_kAward yX12_kAward, Cond.code yX12_kAward cX12_kAward 6 (some .int), Cond.methodLink RX12 760 yX12_kStage, Cond.instanceMethod yX12_kStage, Cond.selects RX12 yX12_kStage yX12_kStage, Cond.code yX12_kStage cX12_kStage 2 (some .int), Cond.methodLink RX12 763 yX12_kBound, Cond.static yX12_kBound, Cond.code yX12_kBound cX12_kBound 1 (some .int), Cond.methodLink RX12 791 yX12_kBears, Cond.instanceMethod yX12_kBears, Cond.selects RX12 yX12_kBears yX12_kBears]
def wsL_law0_r88 : List Cond := [Cond.code yX12_kBears cX12_kBears 8 (some .int), Cond.methodLink RX12 776 yX12_kWeight, Cond.instanceMethod yX12_kWeight, Cond.selects RX12 yX12_kWeight yX12_kWeight, Cond.code yX12_kWeight cX12_kWeight 6 (some .int), Cond.methodLink RX12 766 yX12_kRipened, Cond.instanceMethod yX12_kRipened, Cond.selects RX12 yX12_kRipened yX12_kRipened, Cond.code yX12_kRipened cX12_kRipened 6 (some .int), Cond.methodLink RX12 779 yX12_kShare, Cond.static yX12_kShare, Cond.code yX12_kShare cX12_kShare 11 (some .int), Cond.methodLink RX12 769 yX12_kOne, Cond.static yX12_kOne, Cond.code yX12_kOne cX12_kOne 4 (some .int), Cond.methodLink RX12 772 yX12_kAhead, Cond.static yX12_kAhead, Cond.code yX12_kAhead cX12_kAhead 4 (some .boolean), Cond.methodLink RL 392 yL_shares, Cond.static yL_shares, Cond.codeWith yL_shares cL_shares 8 (some .int) [(0, 16, 19, 13)], Cond.methodLink RL 185 yX11_shares, Cond.instanceMethod yX11_shares, Cond.selects RX11 yX11_shares yX11_shares]
def wsL_law0_r89 : List Cond := [Cond.code yX11_shares cX11_shares 6 (some .int), Cond.constant RX11 280 (999999), Cond.methodLink RX11 281 yX0_share, Cond.methodLink RL 394 yX12_shares, Cond.instanceMethod yX12_shares, Cond.selects RX12 yX12_shares yX12_shares, Cond.code yX12_shares cX12_shares 7 (some .int), Cond.constant RX12 794 (999999), Cond.methodLink RL 395 yL_sign, Cond.static yL_sign, Cond.codeWith yL_sign cL_sign 4 (some .int) [(0, 9, 12, 13), (0, 9, 15, 15)], Cond.methodLink RL 188 yX11_sign, Cond.instanceMethod yX11_sign, Cond.selects RX11 yX11_sign yX11_sign, Cond.code yX11_sign cX11_sign 2 (some .int), Cond.fieldLink RX11 285 "MarketHall$Slate" "length" "I", Cond.methodLink RX11 289 yX9_write, Cond.instanceMethod yX9_write, Cond.selects RX9 yX9_write yX9_write, Cond.code yX9_write cX9_write 2 (some .int), Cond.methodLink RL 397 yX12_sign, Cond.instanceMethod yX12_sign, Cond.selects RX12 yX12_sign yX12_sign, Cond.code yX12_sign cX12_sign 2 (some .int)]
def wsL_law0_r90 : List Cond := [Cond.fieldLink RX12 876 "MarketHallModel" "slateMany" "I", Cond.methodLink RL 398 yX11_tasks, Cond.instanceMethod yX11_tasks, Cond.selects RX11 yX11_tasks yX11_tasks, Cond.code yX11_tasks cX11_tasks 2 (some .int), Cond.methodLink RX11 293 yX9_fault, Cond.instanceMethod yX9_fault, Cond.selects RX9 yX9_fault yX9_fault, Cond.code yX9_fault cX9_fault 4 (some .int), Cond.methodLink RX9 19 yX9_readTask, Cond.instanceMethod yX9_readTask, Cond.selects RX9 yX9_readTask yX9_readTask, Cond.code yX9_readTask cX9_readTask 8 (some .int), Cond.methodLink RX9 25 yJ0_indexOf_0f7a4, Cond.instanceMethod yJ0_indexOf_0f7a4, Cond.selects RJ0 yJ0_indexOf_0f7a4 yJ0_indexOf_0f7a4, Cond.initialized RJ0, Cond.code yJ0_indexOf_0f7a4 cJ0_indexOf_0f7a4 2 (some .int), Cond.methodLink RJ0 633 yJ0_indexOf_7cf53, Cond.instanceMethod yJ0_indexOf_7cf53, Cond.selects RJ0 yJ0_indexOf_7cf53 yJ0_indexOf_7cf53, Cond.code yJ0_indexOf_7cf53 cJ0_indexOf_7cf53 3 (some .int), Cond.fieldLink RJ0 9 "java/lang/String" "value" "[B", Cond.methodLink RJ0 492 yJ0_isLatin1_aae02]
def wsL_law0_r91 : List Cond := [Cond.instanceMethod yJ0_isLatin1_aae02, Cond.selects RJ0 yJ0_isLatin1_aae02 yJ0_isLatin1_aae02, Cond.code yJ0_isLatin1_aae02 cJ0_isLatin1_aae02 1 (some .boolean), Cond.fieldLink RJ0 38 "java/lang/String" "COMPACT_STRINGS" "Z", Cond.fieldLink RJ0 15 "java/lang/String" "coder" "B", Cond.methodLink RJ0 505 yJ0_length_8abf5, Cond.instanceMethod yJ0_length_8abf5, Cond.selects RJ0 yJ0_length_8abf5 yJ0_length_8abf5, Cond.code yJ0_length_8abf5 cJ0_length_8abf5 1 (some .int), Cond.methodLink RJ0 335 yJ0_coder_7d493, Cond.instanceMethod yJ0_coder_7d493, Cond.selects RJ0 yJ0_coder_7d493 yJ0_coder_7d493, Cond.code yJ0_coder_7d493 cJ0_coder_7d493 1 (some .byte), Cond.methodLink RJ0 637 yJ1_indexOf_4cfef, Cond.static yJ1_indexOf_4cfef, Cond.initialized RJ1, Cond.code yJ1_indexOf_4cfef cJ1_indexOf_4cfef 4 (some .int), Cond.methodLink RJ1 92 Lib.Math.max.name, Cond.methodLink RJ1 38 Lib.Math.min.name, Cond.methodLink RJ1 88 yJ1_canEncode_9a6ad, Cond.static yJ1_canEncode_9a6ad, Cond.code yJ1_canEncode_9a6ad cJ1_canEncode_9a6ad 1 (some .boolean), Cond.methodLink RJ1 95 yJ1_indexOfChar_4cfef, Cond.static yJ1_indexOfChar_4cfef]
def wsL_law0_r92 : List Cond := [Cond.code yJ1_indexOfChar_4cfef cJ1_indexOfChar_4cfef 6 (some .int), Cond.methodLink RJ0 640 yJ2_indexOf_4cfef, Cond.static yJ2_indexOf_4cfef, Cond.initialized RJ2, Cond.code yJ2_indexOf_4cfef cJ2_indexOf_4cfef 4 (some .int), Cond.methodLink RJ2 224 Lib.Math.max.name, Cond.methodLink RJ2 183 Lib.Math.min.name, Cond.constant RJ2 227 (65536), Cond.methodLink RJ2 228 yJ2_indexOfChar_4cfef, Cond.static yJ2_indexOfChar_4cfef, Cond.code yJ2_indexOfChar_4cfef cJ2_indexOfChar_4cfef 4 (some .int), Cond.methodLink RJ2 96 yJ2_checkBoundsBeginEnd_d044e, Cond.static yJ2_checkBoundsBeginEnd_d044e, Cond.code yJ2_checkBoundsBeginEnd_d044e cJ2_checkBoundsBeginEnd_d044e 3 none, Cond.methodLink RJ2 48 yJ2_length_9d52b, Cond.static yJ2_length_9d52b, Cond.code yJ2_length_9d52b cJ2_length_9d52b 1 (some .int), Cond.methodLink RJ2 241 yJ0_checkBoundsBeginEnd_23922, Cond.static yJ0_checkBoundsBeginEnd_23922, Cond.code yJ0_checkBoundsBeginEnd_23922 cJ0_checkBoundsBeginEnd_23922 3 none, Cond.fieldLink RJ0 1053 "jdk/internal/util/Preconditions" "SIOOBE_FORMATTER" "Ljava/util/function/BiFunction;", Cond.methodLink RJ0 1062 yJ3_checkFromToIndex_8c36e, Cond.static yJ3_checkFromToIndex_8c36e, Cond.initialized RJ3]
def wsL_law0_r93 : List Cond := [Cond.code yJ3_checkFromToIndex_8c36e cJ3_checkFromToIndex_8c36e 4 (some .int), Cond.methodLink RJ2 244 yJ2_indexOfCharUnsafe_4cfef, Cond.static yJ2_indexOfCharUnsafe_4cfef, Cond.code yJ2_indexOfCharUnsafe_4cfef cJ2_indexOfCharUnsafe_4cfef 5 (some .int), Cond.methodLink RJ2 71 yJ2_getChar_3b067, Cond.static yJ2_getChar_3b067, Cond.code yJ2_getChar_3b067 cJ2_getChar_3b067 2 (some .char), Cond.fieldLink RJ2 44 "java/lang/StringUTF16" "$assertionsDisabled" "Z", Cond.fieldLink RJ2 59 "java/lang/StringUTF16" "HI_BYTE_SHIFT" "I", Cond.fieldLink RJ2 63 "java/lang/StringUTF16" "LO_BYTE_SHIFT" "I", Cond.methodLink RJ2 232 yJ2_indexOfSupplementary_4cfef, Cond.static yJ2_indexOfSupplementary_4cfef, Cond.code yJ2_indexOfSupplementary_4cfef cJ2_indexOfSupplementary_4cfef 7 (some .int), Cond.methodLink RJ2 164 yJ11_isValidCodePoint_9a6ad, Cond.static yJ11_isValidCodePoint_9a6ad, Cond.initialized RJ11, Cond.code yJ11_isValidCodePoint_9a6ad cJ11_isValidCodePoint_9a6ad 2 (some .boolean), Cond.methodLink RJ2 157 yJ11_highSurrogate_5068e, Cond.static yJ11_highSurrogate_5068e, Cond.code yJ11_highSurrogate_5068e cJ11_highSurrogate_5068e 1 (some .char), Cond.constant RJ11 110 (55232), Cond.methodLink RJ2 161 yJ11_lowSurrogate_5068e, Cond.static yJ11_lowSurrogate_5068e, Cond.code yJ11_lowSurrogate_5068e cJ11_lowSurrogate_5068e 1 (some .char)]
def wsL_law0_r94 : List Cond := [Cond.constant RJ11 76 (56320), Cond.methodLink RX9 31 yX9_kindOf, Cond.static yX9_kindOf, Cond.code yX9_kindOf cX9_kindOf 1 (some .int), Cond.methodLink RX9 34 yX9_howManyNumbers, Cond.static yX9_howManyNumbers, Cond.code yX9_howManyNumbers cX9_howManyNumbers 1 (some .int), Cond.methodLink RX9 37 yX9_readNumber, Cond.instanceMethod yX9_readNumber, Cond.selects RX9 yX9_readNumber yX9_readNumber, Cond.code yX9_readNumber cX9_readNumber 6 (some .int), Cond.methodLink RX9 41 yX9_isSign, Cond.instanceMethod yX9_isSign, Cond.selects RX9 yX9_isSign yX9_isSign, Cond.code yX9_isSign cX9_isSign 3 (some .boolean), Cond.methodLink RX9 45 yX9_isFigure, Cond.instanceMethod yX9_isFigure, Cond.selects RX9 yX9_isFigure yX9_isFigure, Cond.code yX9_isFigure cX9_isFigure 2 (some .boolean), Cond.methodLink RX11 297 yX11_doTasks, Cond.instanceMethod yX11_doTasks, Cond.selects RX11 yX11_doTasks yX11_doTasks, Cond.code yX11_doTasks cX11_doTasks 3 (some .int), Cond.methodLink RX11 367 yX9_readTask]
def wsL_law0_r95 : List Cond := [Cond.methodLink RX11 371 yX6_taskFault, Cond.instanceMethod yX6_taskFault, Cond.selects RX6 yX6_taskFault yX6_taskFault, Cond.code yX6_taskFault cX6_taskFault 2 (some .int), Cond.methodLink RX6 101 yX10_putFault, Cond.methodLink RX6 107 yX10_dumpFault, Cond.methodLink RX6 111 yX1_cancelFault, Cond.methodLink RX6 116 yX3_queueFault, Cond.methodLink RX6 122 yX3_withdrawFault, Cond.methodLink RX6 125 yX2_loadFault, Cond.methodLink RX6 130 yX2_sendFault, Cond.methodLink RL 401 yX12_tasks, Cond.instanceMethod yX12_tasks, Cond.selects RX12 yX12_tasks yX12_tasks, Cond.code yX12_tasks cX12_tasks 4 (some .int), Cond.methodLink RX12 879 yX12_well, Cond.instanceMethod yX12_well, Cond.selects RX12 yX12_well yX12_well, Cond.code yX12_well cX12_well 1 none, Cond.methodLink RX12 882 yX12_xFault, Cond.instanceMethod yX12_xFault, Cond.selects RX12 yX12_xFault yX12_xFault, Cond.code yX12_xFault cX12_xFault 3 (some .int), Cond.fieldLink RX12 835 "MarketHallModel" "xAt" "I"]
def wsL_law0_r96 : List Cond := [Cond.methodLink RX12 851 yX12_xTask, Cond.instanceMethod yX12_xTask, Cond.selects RX12 yX12_xTask yX12_xTask, Cond.code yX12_xTask cX12_xTask 6 (some .boolean), Cond.methodLink RX12 844 yX12_xNumbers, Cond.static yX12_xNumbers, Cond.code yX12_xNumbers cX12_xNumbers 1 (some .int), Cond.methodLink RX12 847 yX12_xNumber, Cond.instanceMethod yX12_xNumber, Cond.selects RX12 yX12_xNumber yX12_xNumber, Cond.code yX12_xNumber cX12_xNumber 7 (some .boolean), Cond.methodLink RX12 838 yX12_xMayBeNone, Cond.static yX12_xMayBeNone, Cond.code yX12_xMayBeNone cX12_xMayBeNone 2 (some .boolean), Cond.methodLink RX12 841 yX12_xIsFigure, Cond.static yX12_xIsFigure, Cond.code yX12_xIsFigure cX12_xIsFigure 1 (some .boolean), Cond.methodLink RX12 886 yX12_xDoAll, Cond.instanceMethod yX12_xDoAll, Cond.selects RX12 yX12_xDoAll yX12_xDoAll, Cond.code yX12_xDoAll cX12_xDoAll 8 (some .int), Cond.methodLink RX12 873 yX12_xDoes, Cond.instanceMethod yX12_xDoes, Cond.selects RX12 yX12_xDoes yX12_xDoes]
def wsL_law0_r97 : List Cond := [Cond.code yX12_xDoes cX12_xDoes 3 none, Cond.methodLink RX12 855 yX12_put, Cond.methodLink RX12 554 yX12_queue, Cond.methodLink RX12 858 yX12_withdraw, Cond.methodLink RX12 861 yX12_load, Cond.methodLink RX12 864 yX12_send, Cond.methodLink RX12 867 yX12_dump, Cond.methodLink RX12 870 yX12_cancel, Cond.methodLink RX12 890 yX12_xRecordSigns, Cond.instanceMethod yX12_xRecordSigns, Cond.selects RX12 yX12_xRecordSigns yX12_xRecordSigns, Cond.code yX12_xRecordSigns cX12_xRecordSigns 3 none, Cond.fieldLink RX12 893 "MarketHallModel" "recSignMany" "I", Cond.methodLink RL 402 yL_season, Cond.static yL_season, Cond.codeWith yL_season cL_season 5 (some .int) [(0, 10, 13, 13), (0, 10, 17, 15)], Cond.methodLink RL 191 yX11_season, Cond.instanceMethod yX11_season, Cond.selects RX11 yX11_season yX11_season, Cond.code yX11_season cX11_season 3 (some .int), Cond.methodLink RL 404 yX12_season, Cond.instanceMethod yX12_season, Cond.selects RX12 yX12_season yX12_season, Cond.code yX12_season cX12_season 3 (some .int)]
def wsL_law0_r98 : List Cond := [Cond.methodLink RX12 896 yX12_xSeason, Cond.instanceMethod yX12_xSeason, Cond.selects RX12 yX12_xSeason yX12_xSeason, Cond.code yX12_xSeason cX12_xSeason 4 none, Cond.methodLink RX12 899 yX12_dSeason, Cond.instanceMethod yX12_dSeason, Cond.selects RX12 yX12_dSeason yX12_dSeason, Cond.code yX12_dSeason cX12_dSeason 10 none, Cond.methodLink RX12 902 yX12_rSeason, Cond.instanceMethod yX12_rSeason, Cond.selects RX12 yX12_rSeason yX12_rSeason, Cond.code yX12_rSeason cX12_rSeason 6 none, Cond.methodLink RX12 905 yX12_bSeason, Cond.instanceMethod yX12_bSeason, Cond.selects RX12 yX12_bSeason yX12_bSeason, Cond.code yX12_bSeason cX12_bSeason 10 none, Cond.constant RX12 476 (100000), Cond.methodLink RX12 477 yX12_buyer, Cond.methodLink RX12 480 yX12_order, Cond.methodLink RX12 908 yX12_cSeason, Cond.instanceMethod yX12_cSeason, Cond.selects RX12 yX12_cSeason yX12_cSeason, Cond.code yX12_cSeason cX12_cSeason 8 none, Cond.methodLink RX12 911 yX12_tSeason]
def wsL_law0_r99 : List Cond := [Cond.instanceMethod yX12_tSeason, Cond.selects RX12 yX12_tSeason yX12_tSeason, Cond.code yX12_tSeason cX12_tSeason 5 none, Cond.methodLink RX12 661 yX12_way, Cond.methodLink RX12 664 yX12_docks, Cond.methodLink RX12 667 yX12_truck, Cond.methodLink RX12 914 yX12_iSeason, Cond.instanceMethod yX12_iSeason, Cond.selects RX12 yX12_iSeason yX12_iSeason, Cond.code yX12_iSeason cX12_iSeason 7 none, Cond.methodLink RL 405 yL_pass, Cond.static yL_pass, Cond.codeWith yL_pass cL_pass 4 (some .int) [(0, 9, 12, 13), (0, 9, 15, 15)], Cond.methodLink RL 194 yX11_pass, Cond.instanceMethod yX11_pass, Cond.selects RX11 yX11_pass yX11_pass, Cond.code yX11_pass cX11_pass 2 (some .int), Cond.methodLink RL 407 yX12_pass, Cond.instanceMethod yX12_pass, Cond.selects RX12 yX12_pass yX12_pass, Cond.code yX12_pass cX12_pass 3 (some .int), Cond.methodLink RX12 935 yX12_xHour, Cond.instanceMethod yX12_xHour, Cond.selects RX12 yX12_xHour yX12_xHour]
def wsL_law0_r100 : List Cond := [Cond.code yX12_xHour cX12_xHour 1 none, Cond.methodLink RX12 917 yX12_tArrive, Cond.instanceMethod yX12_tArrive, Cond.selects RX12 yX12_tArrive yX12_tArrive, Cond.code yX12_tArrive cX12_tArrive 2 none, Cond.methodLink RX12 631 yX12_tArrives, Cond.instanceMethod yX12_tArrives, Cond.selects RX12 yX12_tArrives yX12_tArrives, Cond.code yX12_tArrives cX12_tArrives 3 none, Cond.methodLink RX12 625 yX12_tIsAt, Cond.instanceMethod yX12_tIsAt, Cond.selects RX12 yX12_tIsAt yX12_tIsAt, Cond.code yX12_tIsAt cX12_tIsAt 4 none, Cond.methodLink RX12 622 yX12_mCome, Cond.instanceMethod yX12_mCome, Cond.selects RX12 yX12_mCome yX12_mCome, Cond.code yX12_mCome cX12_mCome 2 none, Cond.methodLink RX12 191 yX12_bCome, Cond.instanceMethod yX12_bCome, Cond.selects RX12 yX12_bCome yX12_bCome, Cond.code yX12_bCome cX12_bCome 2 none, Cond.methodLink RX12 628 yX12_kHauled, Cond.instanceMethod yX12_kHauled, Cond.selects RX12 yX12_kHauled yX12_kHauled]
def wsL_law0_r101 : List Cond := [Cond.code yX12_kHauled cX12_kHauled 2 none, Cond.methodLink RX12 920 yX12_iHour, Cond.instanceMethod yX12_iHour, Cond.selects RX12 yX12_iHour yX12_iHour, Cond.code yX12_iHour cX12_iHour 3 none, Cond.methodLink RX12 923 yX12_cHour, Cond.instanceMethod yX12_cHour, Cond.selects RX12 yX12_cHour yX12_cHour, Cond.code yX12_cHour cX12_cHour 3 none, Cond.methodLink RX12 926 yX12_tGo, Cond.instanceMethod yX12_tGo, Cond.selects RX12 yX12_tGo yX12_tGo, Cond.code yX12_tGo cX12_tGo 2 none, Cond.methodLink RX12 619 yX12_tGoes, Cond.instanceMethod yX12_tGoes, Cond.selects RX12 yX12_tGoes yX12_tGoes, Cond.code yX12_tGoes cX12_tGoes 5 none, Cond.methodLink RX12 929 yX12_bClose, Cond.instanceMethod yX12_bClose, Cond.selects RX12 yX12_bClose yX12_bClose, Cond.code yX12_bClose cX12_bClose 3 none, Cond.methodLink RX12 428 yX12_bPays, Cond.instanceMethod yX12_bPays, Cond.selects RX12 yX12_bPays yX12_bPays]
def wsL_law0_r102 : List Cond := [Cond.code yX12_bPays cX12_bPays 6 none, Cond.methodLink RX12 422 yX12_bFirstDue, Cond.instanceMethod yX12_bFirstDue, Cond.selects RX12 yX12_bFirstDue yX12_bFirstDue, Cond.code yX12_bFirstDue cX12_bFirstDue 9 (some .int), Cond.methodLink RX12 932 yX12_kClose, Cond.instanceMethod yX12_kClose, Cond.selects RX12 yX12_kClose yX12_kClose, Cond.code yX12_kClose cX12_kClose 3 none, Cond.methodLink RX12 797 yX12_rWorked, Cond.instanceMethod yX12_rWorked, Cond.selects RX12 yX12_rWorked yX12_rWorked, Cond.code yX12_rWorked cX12_rWorked 3 (some .int), Cond.methodLink RX12 800 yX12_rClosed, Cond.instanceMethod yX12_rClosed, Cond.selects RX12 yX12_rClosed yX12_rClosed, Cond.code yX12_rClosed cX12_rClosed 2 none, Cond.methodLink RX12 803 yX12_kJudges, Cond.instanceMethod yX12_kJudges, Cond.selects RX12 yX12_kJudges yX12_kJudges, Cond.code yX12_kJudges cX12_kJudges 7 none, Cond.methodLink RX12 795 yX12_bGiven, Cond.instanceMethod yX12_bGiven, Cond.selects RX12 yX12_bGiven yX12_bGiven]
def wsL_law0_r103 : List Cond := [Cond.code yX12_bGiven cX12_bGiven 5 none, Cond.methodLink RX12 806 yX12_kPaysGrowers, Cond.instanceMethod yX12_kPaysGrowers, Cond.selects RX12 yX12_kPaysGrowers yX12_kPaysGrowers, Cond.code yX12_kPaysGrowers cX12_kPaysGrowers 3 none, Cond.methodLink RX12 809 yX12_kToResult, Cond.instanceMethod yX12_kToResult, Cond.selects RX12 yX12_kToResult yX12_kToResult, Cond.code yX12_kToResult cX12_kToResult 3 none, Cond.methodLink RL 408 yL_undo, Cond.static yL_undo, Cond.codeWith yL_undo cL_undo 3 (some .int) [(0, 8, 11, 15)], Cond.methodLink RL 197 yX11_undo, Cond.instanceMethod yX11_undo, Cond.selects RX11 yX11_undo yX11_undo, Cond.code yX11_undo cX11_undo 1 (some .int), Cond.fieldLink RX11 300 "MarketHall$Deeds" "undoable" "I", Cond.methodLink RX11 303 yX4_takeBack, Cond.instanceMethod yX4_takeBack, Cond.selects RX4 yX4_takeBack yX4_takeBack, Cond.code yX4_takeBack cX4_takeBack 2 (some .int), Cond.methodLink RL 411 yX12_undo, Cond.instanceMethod yX12_undo, Cond.selects RX12 yX12_undo yX12_undo]
def wsL_law0_r104 : List Cond := [Cond.code yX12_undo cX12_undo 2 (some .int), Cond.methodLink RL 412 yL_keep, Cond.static yL_keep, Cond.codeWith yL_keep cL_keep 4 (some .int) [(0, 9, 12, 13)], Cond.methodLink RL 201 yX11_keep, Cond.instanceMethod yX11_keep, Cond.selects RX11 yX11_keep yX11_keep, Cond.code yX11_keep cX11_keep 2 (some .int), Cond.methodLink RX11 306 yX4_keepImage, Cond.instanceMethod yX4_keepImage, Cond.selects RX4 yX4_keepImage yX4_keepImage, Cond.code yX4_keepImage cX4_keepImage 3 none, Cond.methodLink RL 414 yX12_keep, Cond.instanceMethod yX12_keep, Cond.selects RX12 yX12_keep yX12_keep, Cond.code yX12_keep cX12_keep 4 (some .int), Cond.methodLink RL 415 yL_again, Cond.static yL_again, Cond.codeWith yL_again cL_again 4 (some .int) [(0, 9, 12, 13), (0, 9, 15, 15)], Cond.methodLink RL 204 yX11_again, Cond.instanceMethod yX11_again, Cond.selects RX11 yX11_again yX11_again, Cond.code yX11_again cX11_again 2 (some .int), Cond.fieldLink RX11 310 "MarketHall$Deeds" "isKept" "[Z"]
def wsL_law0_r105 : List Cond := [Cond.methodLink RX11 314 yX4_goOnFrom, Cond.instanceMethod yX4_goOnFrom, Cond.selects RX4 yX4_goOnFrom yX4_goOnFrom, Cond.code yX4_goOnFrom cX4_goOnFrom 3 none, Cond.methodLink RL 417 yX12_again, Cond.instanceMethod yX12_again, Cond.selects RX12 yX12_again yX12_again, Cond.code yX12_again cX12_again 3 (some .int), Cond.methodLink RL 418 yL_isSound, Cond.static yL_isSound, Cond.codeWith yL_isSound cL_isSound 4 (some .int) [(0, 16, 19, 13)], Cond.methodLink RL 207 yX11_isSound, Cond.instanceMethod yX11_isSound, Cond.selects RX11 yX11_isSound yX11_isSound, Cond.code yX11_isSound cX11_isSound 4 (some .boolean), Cond.methodLink RX11 317 yX5_areSound, Cond.static yX5_areSound, Cond.code yX5_areSound cX5_areSound 4 (some .boolean), Cond.methodLink RX5 107 yX10_standing, Cond.methodLink RX5 110 yX5_isInRanges, Cond.static yX5_isInRanges, Cond.code yX5_isInRanges cX5_isInRanges 1 (some .boolean), Cond.methodLink RX5 116 yX5_isFrom, Cond.methodLink RX5 113 yX5_tellGrower]
def wsL_law0_r106 : List Cond := [Cond.methodLink RX11 321 yX10_areSound, Cond.static yX10_areSound, Cond.code yX10_areSound cX10_areSound 6 (some .boolean), Cond.methodLink RX10 124 yX5_isFrom, Cond.methodLink RX11 322 yX1_areSound, Cond.static yX1_areSound, Cond.code yX1_areSound cX1_areSound 8 (some .boolean), Cond.methodLink RX1 94 yX5_isFrom, Cond.methodLink RX11 323 yX3_areSound, Cond.static yX3_areSound, Cond.code yX3_areSound cX3_areSound 9 (some .boolean), Cond.fieldLink RX3 104 "MarketHall$Hall" "parcels" "[[I", Cond.methodLink RX3 100 yX3_lotsOf, Cond.static yX3_lotsOf, Cond.code yX3_lotsOf cX3_lotsOf 5 (some .int), Cond.methodLink RX3 107 yX1_fill, Cond.methodLink RX3 110 yX3_tellTakings, Cond.methodLink RX3 114 yX3_bestRowOf, Cond.methodLink RX11 326 yX2_areSound, Cond.static yX2_areSound, Cond.code yX2_areSound cX2_areSound 7 (some .boolean), Cond.methodLink RX2 114 yX5_isFrom, Cond.methodLink RX2 118 yX2_isDue, Cond.static yX2_isDue]
def wsL_law0_r107 : List Cond := [Cond.code yX2_isDue cX2_isDue 5 (some .boolean), Cond.methodLink RX2 122 yX2_longBySets, Cond.static yX2_longBySets, Cond.code yX2_longBySets cX2_longBySets 8 (some .int), Cond.methodLink RX11 327 yX7_areSound, Cond.static yX7_areSound, Cond.code yX7_areSound cX7_areSound 8 (some .boolean), Cond.methodLink RX7 105 Lib.Math.min.name, Cond.methodLink RX7 108 yX6_tellSum, Cond.instanceMethod yX6_tellSum, Cond.selects RX6 yX6_tellSum yX6_tellSum, Cond.code yX6_tellSum cX6_tellSum 2 (some .int), Cond.methodLink RX6 245 yX6_howMany, Cond.instanceMethod yX6_howMany, Cond.selects RX6 yX6_howMany yX6_howMany, Cond.code yX6_howMany cX6_howMany 7 (some .int), Cond.methodLink RX7 111 yX7_findingBack, Cond.methodLink RX11 328 yX0_areSound, Cond.static yX0_areSound, Cond.code yX0_areSound cX0_areSound 10 (some .boolean), Cond.fieldLink RX0 105 "MarketHall$Hall" "buyers" "[[I", Cond.methodLink RX11 329 yX5_haveNoLeftovers, Cond.static yX5_haveNoLeftovers, Cond.code yX5_haveNoLeftovers cX5_haveNoLeftovers 4 (some .boolean)]
def wsL_law0_r108 : List Cond := [Cond.methodLink RX11 332 yX4_leadTo, Cond.instanceMethod yX4_leadTo, Cond.selects RX4 yX4_leadTo yX4_leadTo, Cond.code yX4_leadTo cX4_leadTo 6 (some .boolean), Cond.methodLink RX4 67 yX6_perform, Cond.methodLink RX4 71 yX6_isLike, Cond.instanceMethod yX6_isLike, Cond.selects RX6 yX6_isLike yX6_isLike, Cond.code yX6_isLike cX6_isLike 2 (some .boolean), Cond.methodLink RX6 93 yX6_likeRow, Cond.static yX6_likeRow, Cond.code yX6_likeRow cX6_likeRow 5 (some .boolean), Cond.methodLink RX6 97 yX6_likeRows, Cond.static yX6_likeRows, Cond.code yX6_likeRows cX6_likeRows 4 (some .boolean), Cond.methodLink RL 420 yX12_isSound, Cond.instanceMethod yX12_isSound, Cond.selects RX12 yX12_isSound yX12_isSound, Cond.code yX12_isSound cX12_isSound 4 (some .boolean), Cond.methodLink RX12 1017 yX12_xIsSound, Cond.instanceMethod yX12_xIsSound, Cond.selects RX12 yX12_xIsSound yX12_xIsSound, Cond.code yX12_xIsSound cX12_xIsSound 2 (some .boolean), Cond.methodLink RX12 993 yX12_dSound]
def wsL_law0_r109 : List Cond := [Cond.instanceMethod yX12_dSound, Cond.selects RX12 yX12_dSound yX12_dSound, Cond.code yX12_dSound cX12_dSound 3 (some .boolean), Cond.methodLink RX12 281 yX12_dIsWell, Cond.instanceMethod yX12_dIsWell, Cond.selects RX12 yX12_dIsWell yX12_dIsWell, Cond.code yX12_dIsWell cX12_dIsWell 3 (some .boolean), Cond.methodLink RX12 996 yX12_rSound, Cond.instanceMethod yX12_rSound, Cond.selects RX12 yX12_rSound yX12_rSound, Cond.code yX12_rSound cX12_rSound 3 (some .boolean), Cond.methodLink RX12 390 yX12_rIsPlaced, Cond.instanceMethod yX12_rIsPlaced, Cond.selects RX12 yX12_rIsPlaced yX12_rIsPlaced, Cond.code yX12_rIsPlaced cX12_rIsPlaced 3 (some .boolean), Cond.methodLink RX12 393 yX12_rIsOlder, Cond.instanceMethod yX12_rIsOlder, Cond.selects RX12 yX12_rIsOlder yX12_rIsOlder, Cond.code yX12_rIsOlder cX12_rIsOlder 3 (some .boolean), Cond.methodLink RX12 999 yX12_bSound, Cond.instanceMethod yX12_bSound, Cond.selects RX12 yX12_bSound yX12_bSound, Cond.code yX12_bSound cX12_bSound 3 (some .boolean), Cond.methodLink RX12 483 yX12_bBuyerSound]
def wsL_law0_r110 : List Cond := [Cond.instanceMethod yX12_bBuyerSound, Cond.selects RX12 yX12_bBuyerSound yX12_bBuyerSound, Cond.code yX12_bBuyerSound cX12_bBuyerSound 4 (some .boolean), Cond.methodLink RX12 1002 yX12_cSound, Cond.instanceMethod yX12_cSound, Cond.selects RX12 yX12_cSound yX12_cSound, Cond.code yX12_cSound cX12_cSound 7 (some .boolean), Cond.methodLink RX12 557 yX12_match, Cond.methodLink RX12 1005 yX12_tSound, Cond.instanceMethod yX12_tSound, Cond.selects RX12 yX12_tSound yX12_tSound, Cond.code yX12_tSound cX12_tSound 4 (some .boolean), Cond.methodLink RX12 676 yX12_tTruckSound, Cond.instanceMethod yX12_tTruckSound, Cond.selects RX12 yX12_tTruckSound yX12_tTruckSound, Cond.code yX12_tTruckSound cX12_tTruckSound 4 (some .boolean), Cond.methodLink RX12 670 yX12_tLongBySets, Cond.instanceMethod yX12_tLongBySets, Cond.selects RX12 yX12_tLongBySets yX12_tLongBySets, Cond.code yX12_tLongBySets cX12_tLongBySets 5 (some .int), Cond.methodLink RX12 610 yX12_tTo, Cond.instanceMethod yX12_tTo, Cond.selects RX12 yX12_tTo yX12_tTo, Cond.code yX12_tTo cX12_tTo 7 (some .int)]
def wsL_law0_r111 : List Cond := [Cond.methodLink RX12 673 yX12_tIsYet, Cond.instanceMethod yX12_tIsYet, Cond.selects RX12 yX12_tIsYet yX12_tIsYet, Cond.code yX12_tIsYet cX12_tIsYet 5 (some .boolean), Cond.methodLink RX12 1008 yX12_iSound, Cond.instanceMethod yX12_iSound, Cond.selects RX12 yX12_iSound yX12_iSound, Cond.code yX12_iSound cX12_iSound 5 (some .boolean), Cond.methodLink RX12 738 yX12_iSeized, Cond.instanceMethod yX12_iSeized, Cond.selects RX12 yX12_iSeized yX12_iSeized, Cond.code yX12_iSeized cX12_iSeized 3 (some .int), Cond.methodLink RX12 741 yX12_iIsWell, Cond.instanceMethod yX12_iIsWell, Cond.selects RX12 yX12_iIsWell yX12_iIsWell, Cond.code yX12_iIsWell cX12_iIsWell 3 (some .boolean), Cond.methodLink RX12 1011 yX12_kSound, Cond.instanceMethod yX12_kSound, Cond.selects RX12 yX12_kSound yX12_kSound, Cond.code yX12_kSound cX12_kSound 5 (some .boolean), Cond.methodLink RX12 812 yX12_kQuarrelsSound, Cond.instanceMethod yX12_kQuarrelsSound, Cond.selects RX12 yX12_kQuarrelsSound yX12_kQuarrelsSound, Cond.code yX12_kQuarrelsSound cX12_kQuarrelsSound 4 (some .boolean)]
def wsL_law0_r112 : List Cond := [Cond.methodLink RX12 1014 yX12_xSound, Cond.instanceMethod yX12_xSound, Cond.selects RX12 yX12_xSound yX12_xSound, Cond.code yX12_xSound cX12_xSound 3 (some .boolean), Cond.methodLink RX12 990 yX12_xIsAsWorked, Cond.instanceMethod yX12_xIsAsWorked, Cond.selects RX12 yX12_xIsAsWorked yX12_xIsAsWorked, Cond.code yX12_xIsAsWorked cX12_xIsAsWorked 3 (some .boolean), Cond.methodLink RX12 984 yX12_xAgain, Cond.instanceMethod yX12_xAgain, Cond.selects RX12 yX12_xAgain yX12_xAgain, Cond.code yX12_xAgain cX12_xAgain 9 none, Cond.methodLink RX12 938 yX12_sort, Cond.methodLink RX12 941 yX12_grower, Cond.methodLink RX12 944 yX12_deliver, Cond.methodLink RX12 947 yX12_grade, Cond.methodLink RX12 950 yX12_room, Cond.methodLink RX12 953 yX12_set, Cond.methodLink RX12 956 yX12_gas, Cond.methodLink RX12 960 yX12_outside, Cond.methodLink RX12 963 yX12_pay, Cond.methodLink RX12 987 yX12_xAgainMore, Cond.instanceMethod yX12_xAgainMore, Cond.selects RX12 yX12_xAgainMore yX12_xAgainMore]
def wsL_law0_r113 : List Cond := [Cond.code yX12_xAgainMore cX12_xAgainMore 6 none, Cond.methodLink RX12 966 yX12_clock, Cond.methodLink RX12 969 yX12_inspector, Cond.methodLink RX12 972 yX12_round, Cond.methodLink RX12 975 yX12_tariff, Cond.methodLink RX12 978 yX12_quarrel, Cond.methodLink RX12 981 yX12_pass, Cond.methodLink RL 421 yL_sum, Cond.static yL_sum, Cond.codeWith yL_sum cL_sum 4 (some .int) [(0, 9, 12, 13)], Cond.methodLink RL 211 yX11_sum, Cond.instanceMethod yX11_sum, Cond.selects RX11 yX11_sum yX11_sum, Cond.code yX11_sum cX11_sum 2 (some .int), Cond.methodLink RX11 336 yX6_tellSum, Cond.methodLink RL 423 yX12_sum, Cond.instanceMethod yX12_sum, Cond.selects RX12 yX12_sum yX12_sum, Cond.code yX12_sum cX12_sum 2 (some .int), Cond.methodLink RX12 1020 yX12_xPallets, Cond.instanceMethod yX12_xPallets, Cond.selects RX12 yX12_xPallets yX12_xPallets, Cond.code yX12_xPallets cX12_xPallets 4 (some .int), Cond.methodLink RX12 1023 yX12_xParcels]
def wsL_law0_r114 : List Cond := [Cond.instanceMethod yX12_xParcels, Cond.selects RX12 yX12_xParcels yX12_xParcels, Cond.code yX12_xParcels cX12_xParcels 4 (some .int), Cond.methodLink RX12 1026 yX12_tTrucks, Cond.instanceMethod yX12_tTrucks, Cond.selects RX12 yX12_tTrucks yX12_tTrucks, Cond.code yX12_tTrucks cX12_tTrucks 1 (some .int), Cond.methodLink RX12 1029 yX12_iInspectors, Cond.instanceMethod yX12_iInspectors, Cond.selects RX12 yX12_iInspectors yX12_iInspectors, Cond.code yX12_iInspectors cX12_iInspectors 1 (some .int), Cond.methodLink RX12 1032 yX12_kQuarrels, Cond.instanceMethod yX12_kQuarrels, Cond.selects RX12 yX12_kQuarrels yX12_kQuarrels, Cond.code yX12_kQuarrels cX12_kQuarrels 1 (some .int)]
def wsL_law0 : List Cond := (wsL_law0_r1 ++ (wsL_law0_r2 ++ (wsL_law0_r3 ++ (wsL_law0_r4 ++ (wsL_law0_r5 ++ (wsL_law0_r6 ++ (wsL_law0_r7 ++ (wsL_law0_r8 ++ (wsL_law0_r9 ++ (wsL_law0_r10 ++ (wsL_law0_r11 ++ (wsL_law0_r12 ++ (wsL_law0_r13 ++ (wsL_law0_r14 ++ (wsL_law0_r15 ++ (wsL_law0_r16 ++ (wsL_law0_r17 ++ (wsL_law0_r18 ++ (wsL_law0_r19 ++ (wsL_law0_r20 ++ (wsL_law0_r21 ++ (wsL_law0_r22 ++ (wsL_law0_r23 ++ (wsL_law0_r24 ++ (wsL_law0_r25 ++ (wsL_law0_r26 ++ (wsL_law0_r27 ++ (wsL_law0_r28 ++ (wsL_law0_r29 ++ (wsL_law0_r30 ++ (wsL_law0_r31 ++ (wsL_law0_r32 ++ (wsL_law0_r33 ++ (wsL_law0_r34 ++ (wsL_law0_r35 ++ (wsL_law0_r36 ++ (wsL_law0_r37 ++ (wsL_law0_r38 ++ (wsL_law0_r39 ++ (wsL_law0_r40 ++ (wsL_law0_r41 ++ (wsL_law0_r42 ++ (wsL_law0_r43 ++ (wsL_law0_r44 ++ (wsL_law0_r45 ++ (wsL_law0_r46 ++ (wsL_law0_r47 ++ (wsL_law0_r48 ++ (wsL_law0_r49 ++ (wsL_law0_r50 ++ (wsL_law0_r51 ++ (wsL_law0_r52 ++ (wsL_law0_r53 ++ (wsL_law0_r54 ++ (wsL_law0_r55 ++ (wsL_law0_r56 ++ (wsL_law0_r57 ++ (wsL_law0_r58 ++ (wsL_law0_r59 ++ (wsL_law0_r60 ++ (wsL_law0_r61 ++ (wsL_law0_r62 ++ (wsL_law0_r63 ++ (wsL_law0_r64 ++ (wsL_law0_r65 ++ (wsL_law0_r66 ++ (wsL_law0_r67 ++ (wsL_law0_r68 ++ (wsL_law0_r69 ++ (wsL_law0_r70 ++ (wsL_law0_r71 ++ (wsL_law0_r72 ++ (wsL_law0_r73 ++ (wsL_law0_r74 ++ (wsL_law0_r75 ++ (wsL_law0_r76 ++ (wsL_law0_r77 ++ (wsL_law0_r78 ++ (wsL_law0_r79 ++ (wsL_law0_r80 ++ (wsL_law0_r81 ++ (wsL_law0_r82 ++ (wsL_law0_r83 ++ (wsL_law0_r84 ++ (wsL_law0_r85 ++ (wsL_law0_r86 ++ (wsL_law0_r87 ++ (wsL_law0_r88 ++ (wsL_law0_r89 ++ (wsL_law0_r90 ++ (wsL_law0_r91 ++ (wsL_law0_r92 ++ (wsL_law0_r93 ++ (wsL_law0_r94 ++ (wsL_law0_r95 ++ (wsL_law0_r96 ++ (wsL_law0_r97 ++ (wsL_law0_r98 ++ (wsL_law0_r99 ++ (wsL_law0_r100 ++ (wsL_law0_r101 ++ (wsL_law0_r102 ++ (wsL_law0_r103 ++ (wsL_law0_r104 ++ (wsL_law0_r105 ++ (wsL_law0_r106 ++ (wsL_law0_r107 ++ (wsL_law0_r108 ++ (wsL_law0_r109 ++ (wsL_law0_r110 ++ (wsL_law0_r111 ++ (wsL_law0_r112 ++ (wsL_law0_r113 ++ wsL_law0_r114))))))))))))))))))))))))))))))))))))))))))))))))))))))))))))))))))))))))))))))))))))))))))))))))))))))))))))))))) ++ wsX110 ++ wsX120 ++ wsX60 ++ wsX40 ++ wsX90 ++ wsX80 ++ ([] : List Cond)
def wsL_law : List Cond := wsL_law0 ++ (vx_atS RX11 343 "java/lang/IndexOutOfBoundsException" ["java/lang/RuntimeException", "java/lang/Exception"]).filter goodWord ++ (vx_atS RX11 350 "java/lang/IllegalArgumentException" ["java/lang/RuntimeException", "java/lang/Exception"]).filter goodWord ++ (vx_atS RX11 355 "java/lang/IllegalStateException" ["java/lang/RuntimeException", "java/lang/Exception"]).filter goodWord
def pz_il (i : Instr) : Nat := match i with
  | .bipush _ | .iload _ | .lload _ | .aload _ | .istore _ | .lstore _ | .astore _ | .newarray _ | .ldc _ => 2
  | .sipush _ | .iinc _ _ | .ifCond _ _ | .if_icmp _ _ | .goto _ | .getfield _ | .putfield _ | .ldc_w _ | .ldc2_w _ | .new _ | .anewarray _ | .invokestatic _ | .invokevirtual _ | .invokespecial _ | .getstatic _ => 3
  | .multianewarray _ _ => 4
  | _ => 1
abbrev pz_M : Type := MethodName × ByteArray × Nat × Option FieldType × Nat × Nat × Nat × List (Nat × Nat × Nat × Nat) × Nat × Nat
abbrev pz_mN (M : pz_M) : MethodName := M.1
abbrev pz_mB (M : pz_M) : ByteArray := M.2.1
abbrev pz_mL (M : pz_M) : Nat := M.2.2.1
abbrev pz_mR (M : pz_M) : Option FieldType := M.2.2.2.1
abbrev pz_mP (M : pz_M) : Nat := M.2.2.2.2.1
abbrev pz_mK (M : pz_M) : Nat := M.2.2.2.2.2.1
abbrev pz_mT (M : pz_M) : Nat := M.2.2.2.2.2.2.1
abbrev pz_mH (M : pz_M) : List (Nat × Nat × Nat × Nat) := M.2.2.2.2.2.2.2.1
abbrev pz_mF (M : pz_M) : Nat := M.2.2.2.2.2.2.2.2.1
abbrev pz_mW (M : pz_M) : Nat := M.2.2.2.2.2.2.2.2.2
def pz_tix (E : Nat) : Nat × Nat × Nat := if E = 24 then (339, 341, 343) else if E = 13 then (346, 348, 350) else (351, 353, 355)
abbrev pz_Rw : Type := Nat × Instr × Nat × Nat × Nat
abbrev pz_Ey : Type := pz_M × List (List pz_Rw)
abbrev pz_All : Type := List (List pz_Ey)
abbrev pz_Lt : Type := List (List (Nat × Nat × Nat))
def pz_fl (idx : Nat) (l : List (Nat × Nat × Nat)) : Option (Nat × Nat) := match l with
  | [] => none
  | x :: r => bif Nat.beq x.1 idx then some x.2 else pz_fl idx r
def pz_lt (t : pz_Lt) (idx a b : Nat) : Bool := match pz_fl idx (t.getD (idx / 16) []) with
  | some (x, y) => Nat.beq x a && Nat.beq y b
  | none => false
abbrev pz_Ls : Type := pz_Lt × pz_Lt × pz_Lt × pz_Lt
def pz_tsw (i : Instr) : Bool := match i with | .tableswitch _ _ _ _ => true | _ => false
def pz_dec (cc : ByteArray) (pc : Nat) (i : Instr) (n : Nat) : Bool := decide (decode cc pc = .ok (i, n))
def pz_ckt (q : Nat) (cc : ByteArray) (pc E : Nat) : Bool := Nat.beq q 11 && (decide (E = 24 ∨ E = 13 ∨ E = 15) && (pz_dec cc pc (.new (pz_tix E).1) 3 && (pz_dec cc (pc + 3) .dup 1 && (pz_dec cc (pc + 4) (.ldc_w (pz_tix E).2.1) 3 && (pz_dec cc (pc + 7) (.invokespecial (pz_tix E).2.2) 3 && pz_dec cc (pc + 10) .athrow 1)))))
def pz_cki (q y4 y9 : Nat) (t : pz_Ls) (cc : ByteArray) (pc : Nat) (i : Instr) (n a b : Nat) : Bool := match i with
  | .ireturn | .lreturn | .areturn | .return_ | .iaload | .arraylength => Nat.beq n 1
  | .invokestatic idx => Nat.beq n 3 && (pz_lt t.2.1 idx a 0 && !Nat.beq a 632)
  | .invokevirtual idx => Nat.beq n 3 && (pz_lt t.2.1 idx a 0 && (Nat.blt a 10000 && !Nat.beq a 632))
  | .invokespecial idx => Nat.beq n 3 && (!Nat.beq a 632 && ((pz_lt t.2.1 idx a 0 && Nat.ble a 10004 && (Nat.blt a 10000 || Nat.beq a 10004)) || (Nat.beq q 11 && (Nat.blt a 10000 && ((Nat.beq idx 18 && Nat.beq a y4) || (Nat.beq idx 25 && Nat.beq a y9))))))
  | .new idx => Nat.beq n 3 && (bif Nat.blt a 100 then (Nat.blt a 6 && pz_lt t.2.2.1 idx a 0) else pz_ckt q cc pc (a - 100))
  | .getfield idx => Nat.beq n 3 && pz_lt t.1 idx a b
  | .putfield idx => Nat.beq n 3 && (pz_lt t.1 idx a b && !Nat.beq a 60)
  | .ldc idx => Nat.beq n 2 && pz_lt t.2.2.2 idx a 0
  | .ldc_w idx => Nat.beq n 3 && pz_lt t.2.2.2 idx a 0
  | .ldc2_w idx => Nat.beq n 3 && pz_lt t.2.2.2 idx a 1
  | .anewarray idx => Nat.beq n 3 && pz_lt t.2.2.1 idx 1 0
  | .multianewarray idx d => Nat.beq n 4 && (Nat.beq d 2 && pz_lt t.2.2.1 idx 51 0)
  | .tableswitch _ _ _ _ => true
  | i => Nat.beq n (pz_il i)
def pz_ckr (q y4 y9 : Nat) (t : pz_Ls) (cc : ByteArray) (x : pz_Rw) : Bool := pz_dec cc x.1 x.2.1 x.2.2.1 && pz_cki q y4 y9 t cc x.1 x.2.1 x.2.2.1 x.2.2.2.1 x.2.2.2.2
def pz_ckm (q y4 y9 : Nat) (t : pz_Ls) (cc : ByteArray) (rs : List (List pz_Rw)) : Bool := rs.all fun c => c.all (pz_ckr q y4 y9 t cc)
def pz_n60 (x : pz_Rw) : Bool := match x.2.1 with
  | .iaload | .arraylength => !Nat.beq x.2.2.2.1 60
  | _ => true
def pz_c60 (rs : List (List pz_Rw)) : Bool := rs.all fun c => c.all pz_n60
abbrev pz_R : Type := Nat × Nat
abbrev pz_V : Type := Int32 ⊕ (Int64 ⊕ Option pz_R)
abbrev pz_S : Type := Nat × (Nat → Nat × Nat × Nat) × (Nat → Nat → Nat → Option pz_R) × (Nat → Nat → Nat → Int32) × (Nat → Nat → Nat → Int64) × Nat × Nat
abbrev pz_L : Type := List (Option pz_V)
abbrev pz_O : Type := Option pz_V ⊕ Nat
abbrev pz_nf (σ : pz_S) : Nat := σ.1
abbrev pz_sh (σ : pz_S) : Nat → Nat × Nat × Nat := σ.2.1
abbrev pz_rr (σ : pz_S) : Nat → Nat → Nat → Option pz_R := σ.2.2.1
abbrev pz_mm (σ : pz_S) : Nat → Nat → Nat → Int32 := σ.2.2.2.1
abbrev pz_ml (σ : pz_S) : Nat → Nat → Nat → Int64 := σ.2.2.2.2.1
abbrev pz_kc (σ : pz_S) : Nat := σ.2.2.2.2.2.1
abbrev pz_ks (σ : pz_S) : Nat := σ.2.2.2.2.2.2
def pz_u3 {α : Type} (g : Nat → Nat → Nat → α) (a i j : Nat) (v : α) : Nat → Nat → Nat → α := fun a' i' j' => if a' = a ∧ i' = i ∧ j' = j then v else g a' i' j'
def pz_uf {α : Type} (g : Nat → α) (a : Nat) (v : α) : Nat → α := fun a' => if a' = a then v else g a'
def pz_wM (σ : pz_S) (a i j : Nat) (v : Int32) : pz_S := (σ.1, σ.2.1, σ.2.2.1, pz_u3 σ.2.2.2.1 a i j v, σ.2.2.2.2)
def pz_wR (σ : pz_S) (a i j : Nat) (v : Option pz_R) : pz_S := (σ.1, σ.2.1, pz_u3 σ.2.2.1 a i j v, σ.2.2.2)
def pz_wL (σ : pz_S) (a i j : Nat) (v : Int64) : pz_S := (σ.1, σ.2.1, σ.2.2.1, σ.2.2.2.1, pz_u3 σ.2.2.2.2.1 a i j v, σ.2.2.2.2.2)
def pz_al (σ : pz_S) (tag cnt len cells slots : Nat) (r : Nat → Nat → Option pz_R) : pz_S :=
  (σ.1 + 1, pz_uf σ.2.1 σ.1 (tag, cnt, len), pz_uf σ.2.2.1 σ.1 r, pz_uf σ.2.2.2.1 σ.1 (fun _ _ => 0), pz_uf σ.2.2.2.2.1 σ.1 (fun _ _ => 0), σ.2.2.2.2.2.1 + cells, σ.2.2.2.2.2.2 + slots)
-- classes whose objects the heap holds: by their tags 0 to 5; 50 int[], 51 long[], 52 boolean[], 53 int[][], 54 Hall[]
def pz_cls : List vw_C := [(RX4, TX4, 9), (RX6, TX6, 19), (RX8, TX8, 3), (RX9, TX9, 2), (RX11, TX11, 7), (RX12, TX12, 52)]
def pz_n (t : Nat) : Nat := match t with | 0 => 9 | 1 => 19 | 2 => 3 | 3 => 2 | 4 => 7 | _ => 52
def pz_ty (t k : Nat) : FieldType := match t with | 0 => tyX4 k | 1 => tyX6 k | 2 => tyX8 k | 3 => tyX9 k | 4 => tyX11 k | _ => tyX12 k
def pz_T (t : Nat) : u_T := match t with | 0 => TX4 | 1 => TX6 | 2 => TX8 | 3 => TX9 | 4 => TX11 | _ => TX12
def pz_C (t : Nat) : String := match t with | 0 => RX4 | 1 => RX6 | 2 => RX8 | 3 => RX9 | 4 => RX11 | _ => RX12
def pz_kd (ty : FieldType) : Nat := match ty with | .int => 0 | .boolean => 1 | .object _ => 2 | .array _ => 2 | _ => 3
def pz_c2 (v : pz_V) : Bool := match v with | .inr (.inl _) => true | _ => false
def pz_w1 (v : pz_V) : Nat := match v with | .inr (.inl _) => 2 | _ => 1
def pz_wt (st : List pz_V) : Nat := (st.map pz_w1).sum
def pz_kill (L : pz_L) (i : Nat) : pz_L := match i with
  | 0 => L
  | k + 1 => match L.getD k none with
    | some (.inr (.inl _)) => L.set k none
    | _ => L
def pz_st1 (L : pz_L) (i : Nat) (v : pz_V) : pz_L := (pz_kill L i).set i (some v)
def pz_st2 (L : pz_L) (i : Nat) (v : pz_V) : pz_L := ((pz_kill L i).set i (some v)).set (i + 1) none
abbrev pz_P : Type := Option (Nat × pz_L × List pz_V × pz_S)
section PZ
variable (pc : Nat) (L : pz_L) (st : List pz_V) (σ : pz_S)
def pz_push (n : Nat) (v : pz_V) : pz_P := some (pc + n, L, v :: st, σ)
def pz_ldi (n i : Nat) : pz_P := match L.getD i none with | some (.inl x) => some (pc + n, L, .inl x :: st, σ) | _ => none
def pz_ldl (n i : Nat) : pz_P := match L.getD i none with | some (.inr (.inl x)) => some (pc + n, L, .inr (.inl x) :: st, σ) | _ => none
def pz_lda (n i : Nat) : pz_P := match L.getD i none with | some (.inr (.inr (some x))) => some (pc + n, L, .inr (.inr (some x)) :: st, σ) | _ => none
def pz_sti (n i : Nat) : pz_P := match st with | .inl x :: r => if i < L.length then some (pc + n, pz_st1 L i (.inl x), r, σ) else none | _ => none
def pz_sta (n i : Nat) : pz_P := match st with | .inr (.inr (some x)) :: r => if i < L.length then some (pc + n, pz_st1 L i (.inr (.inr (some x))), r, σ) else none | _ => none
def pz_stl (n i : Nat) : pz_P := match st with | .inr (.inl x) :: r => if i + 1 < L.length then some (pc + n, pz_st2 L i (.inr (.inl x)), r, σ) else none | _ => none
def pz_inc (i : Nat) (k : Int) : pz_P := match L.getD i none with | some (.inl x) => if i < L.length then some (pc + 3, pz_st1 L i (.inl (x + Int32.ofInt k)), st, σ) else none | _ => none
def pz_bin (f : Int32 → Int32 → Int32) : pz_P := match st with | .inl y :: .inl x :: r => some (pc + 1, L, .inl (f x y) :: r, σ) | _ => none
def pz_dv (f : Int32 → Int32 → Int32) : pz_P := match st with | .inl y :: .inl x :: r => if y = 0 then none else some (pc + 1, L, .inl (f x y) :: r, σ) | _ => none
def pz_lbin (f : Int64 → Int64 → Int64) : pz_P := match st with | .inr (.inl y) :: .inr (.inl x) :: r => some (pc + 1, L, .inr (.inl (f x y)) :: r, σ) | _ => none
def pz_ldv (f : Int64 → Int64 → Int64) : pz_P := match st with | .inr (.inl y) :: .inr (.inl x) :: r => if y = 0 then none else some (pc + 1, L, .inr (.inl (f x y)) :: r, σ) | _ => none
def pz_un (f : Int32 → pz_V) : pz_P := match st with | .inl x :: r => some (pc + 1, L, f x :: r, σ) | _ => none
def pz_br (off : Int) (c : Bool) (r : List pz_V) : pz_P := if (pc : Int) + off < 0 then none else bif c then some (((pc : Int) + off).toNat, L, r, σ) else some (pc + 3, L, r, σ)
def pz_if (off : Int) (c : Int32 → Bool) : pz_P := match st with | .inl x :: r => pz_br pc L σ off (c x) r | _ => none
def pz_ic (off : Int) (c : Int32 → Int32 → Bool) : pz_P := match st with | .inl y :: .inl x :: r => pz_br pc L σ off (c x y) r | _ => none
def pz_sw (dflt lo hi : Int) (offs : Array Int) : pz_P := match st with
  | .inl x :: r => if x.toInt < lo ∨ hi < x.toInt then (if (pc : Int) + dflt < 0 then none else some (((pc : Int) + dflt).toNat, L, r, σ))
    else match offs[(x.toInt - lo).toNat]? with
      | some off => if (pc : Int) + off < 0 then none else some (((pc : Int) + off).toNat, L, r, σ)
      | none => none
  | _ => none
def pz_is (f i t : Nat) : Bool := Nat.beq (pz_sh σ f).1 t && Nat.blt i (pz_sh σ f).2.1
def pz_get (t k : Nat) : pz_P := match st with
  | .inr (.inr (some (f, i))) :: r => if pz_is σ f i t = true then (if pz_kd (pz_ty t k) = 2 then some (pc + 3, L, .inr (.inr (pz_rr σ f i k)) :: r, σ) else some (pc + 3, L, .inl (pz_mm σ f i k) :: r, σ)) else none
  | _ => none
def pz_put (t k : Nat) (fin : Bool) : pz_P := match st with
  | .inl v :: .inr (.inr (some (f, i))) :: r => if pz_is σ f i t = true ∧ ((pz_T t k).2.2.2 = true → fin = true) ∧ (pz_kd (pz_ty t k) = 0 ∨ pz_kd (pz_ty t k) = 1 ∧ (v = 0 ∨ v = 1)) then some (pc + 3, L, r, pz_wM σ f i k v) else none
  | .inr (.inr v) :: .inr (.inr (some (f, i))) :: r => if pz_is σ f i t = true ∧ ((pz_T t k).2.2.2 = true → fin = true) ∧ pz_kd (pz_ty t k) = 2 then some (pc + 3, L, r, pz_wR σ f i k v) else none
  | _ => none
def pz_out (j : Int32) (n : Nat) : Bool := decide (j < 0) || Nat.ble n j.toNatClampNeg
def pz_ilo (t : Nat) : pz_P := match st with
  | .inl j :: .inr (.inr (some (f, i))) :: r => if pz_is σ f i t = true ∧ pz_out j (pz_sh σ f).2.2 = false then some (pc + 1, L, .inl (pz_mm σ f i j.toNatClampNeg) :: r, σ) else none
  | _ => none
def pz_llo : pz_P := match st with
  | .inl j :: .inr (.inr (some (f, i))) :: r => if pz_is σ f i 51 = true ∧ pz_out j (pz_sh σ f).2.2 = false then some (pc + 1, L, .inr (.inl (pz_ml σ f i j.toNatClampNeg)) :: r, σ) else none
  | _ => none
def pz_alo : pz_P := match st with
  | .inl j :: .inr (.inr (some (f, i))) :: r => if (pz_is σ f i 53 || pz_is σ f i 54) = true ∧ pz_out j (pz_sh σ f).2.2 = false then some (pc + 1, L, .inr (.inr (pz_rr σ f i j.toNatClampNeg)) :: r, σ) else none
  | _ => none
def pz_isto : pz_P := match st with
  | .inl v :: .inl j :: .inr (.inr (some (f, i))) :: r => if pz_is σ f i 50 = true ∧ pz_out j (pz_sh σ f).2.2 = false then some (pc + 1, L, r, pz_wM σ f i j.toNatClampNeg v) else none
  | _ => none
def pz_bsto : pz_P := match st with
  | .inl v :: .inl j :: .inr (.inr (some (f, i))) :: r => if pz_is σ f i 52 = true ∧ pz_out j (pz_sh σ f).2.2 = false ∧ (v = 0 ∨ v = 1) then some (pc + 1, L, r, pz_wM σ f i j.toNatClampNeg v) else none
  | _ => none
def pz_lsto : pz_P := match st with
  | .inr (.inl v) :: .inl j :: .inr (.inr (some (f, i))) :: r => if pz_is σ f i 51 = true ∧ pz_out j (pz_sh σ f).2.2 = false then some (pc + 1, L, r, pz_wL σ f i j.toNatClampNeg v) else none
  | _ => none
def pz_asto : pz_P := match st with
  | .inr (.inr (some (g, k))) :: .inl j :: .inr (.inr (some (f, i))) :: r => if pz_is σ f i 54 = true ∧ pz_is σ g k 1 = true ∧ pz_out j (pz_sh σ f).2.2 = false then some (pc + 1, L, r, pz_wR σ f i j.toNatClampNeg (some (g, k))) else none
  | _ => none
def pz_arr (t : Nat) : Bool := Nat.ble 50 t && Nat.ble t 54
def pz_len : pz_P := match st with
  | .inr (.inr (some (f, i))) :: r => if pz_arr (pz_sh σ f).1 = true ∧ pz_is σ f i (pz_sh σ f).1 = true then some (pc + 1, L, .inl (Int32.ofNat (pz_sh σ f).2.2) :: r, σ) else none
  | _ => none
def pz_newa (len tag : Nat) : pz_P := match st with
  | .inl n :: r => if n < 0 ∨ 1000000 < n.toNatClampNeg then none else some (pc + len, L, .inr (.inr (some (σ.1, 0))) :: r, pz_al σ tag 1 n.toNatClampNeg 1 n.toNatClampNeg (fun _ _ => none))
  | _ => none
def pz_mnew : pz_P := match st with
  | .inl k :: .inl n :: r => if n < 0 ∨ k < 0 ∨ 1000 < n.toNatClampNeg ∨ 1000 < k.toNatClampNeg then none else
    some (pc + 4, L, .inr (.inr (some (σ.1 + 1, 0))) :: r, pz_al (pz_al σ 50 n.toNatClampNeg k.toNatClampNeg n.toNatClampNeg (n.toNatClampNeg * k.toNatClampNeg) (fun _ _ => none)) 53 1 n.toNatClampNeg 1 n.toNatClampNeg (fun _ j => if j < n.toNatClampNeg then some (σ.1, j) else none))
  | _ => none
def pz_new (t : Nat) : pz_P := some (pc + 3, L, .inr (.inr (some (σ.1, 0))) :: st, pz_al σ t 1 0 1 (pz_n t) (fun _ _ => none))
def pz_dup : pz_P := match st with | v :: r => if pz_w1 v = 1 then some (pc + 1, L, v :: v :: r, σ) else none | _ => none
def pz_pop : pz_P := match st with | v :: r => if pz_w1 v = 1 then some (pc + 1, L, r, σ) else none | _ => none
def pz_dupx1 : pz_P := match st with | a :: b :: r => if pz_w1 a = 1 ∧ pz_w1 b = 1 then some (pc + 1, L, a :: b :: a :: r, σ) else none | _ => none
def pz_dupx2 : pz_P := match st with | a :: b :: d :: r => if pz_w1 a = 1 ∧ pz_w1 b = 1 ∧ pz_w1 d = 1 then some (pc + 1, L, a :: b :: d :: a :: r, σ) else none | _ => none
def pz_dup2 : pz_P := match st with
  | a :: b :: r => if pz_w1 a = 1 ∧ pz_w1 b = 1 then some (pc + 1, L, a :: b :: a :: b :: r, σ) else if pz_w1 a = 2 then some (pc + 1, L, a :: a :: b :: r, σ) else none
  | [a] => if pz_w1 a = 2 then some (pc + 1, L, [a, a], σ) else none
  | _ => none
end PZ
def pz_lcs : List Int64 := [10, 9, -1]
def pz_step (fin : Bool) (i : Instr) (a b : Nat) (pc : Nat) (L : pz_L) (st : List pz_V) (σ : pz_S) : pz_P := match i with
  | .iconst n => pz_push pc L st σ 1 (.inl (Int32.ofInt n))
  | .bipush n => pz_push pc L st σ 2 (.inl (Int8.ofInt n).toInt32)
  | .sipush n => pz_push pc L st σ 3 (.inl (Int16.ofInt n).toInt32)
  | .lconst n => pz_push pc L st σ 1 (.inr (.inl (Int64.ofNat (n : Nat))))
  | .ldc _ => pz_push pc L st σ 2 (.inl (Int32.ofNat a))
  | .ldc_w _ => pz_push pc L st σ 3 (.inl (Int32.ofNat a))
  | .ldc2_w _ => pz_push pc L st σ 3 (.inr (.inl (pz_lcs.getD a 0)))
  | .iload k => pz_ldi pc L st σ 2 k
  | .iload_n k => pz_ldi pc L st σ 1 k
  | .lload k => pz_ldl pc L st σ 2 k
  | .lload_n k => pz_ldl pc L st σ 1 k
  | .aload k => pz_lda pc L st σ 2 k
  | .aload_n k => pz_lda pc L st σ 1 k
  | .istore k => pz_sti pc L st σ 2 k
  | .istore_n k => pz_sti pc L st σ 1 k
  | .lstore k => pz_stl pc L st σ 2 k
  | .lstore_n k => pz_stl pc L st σ 1 k
  | .astore k => pz_sta pc L st σ 2 k
  | .astore_n k => pz_sta pc L st σ 1 k
  | .iinc k n => pz_inc pc L st σ k n
  | .iadd => pz_bin pc L st σ (fun x y => x + y)
  | .isub => pz_bin pc L st σ (fun x y => x - y)
  | .imul => pz_bin pc L st σ (fun x y => x * y)
  | .iand => pz_bin pc L st σ (fun x y => x &&& y)
  | .ior => pz_bin pc L st σ (fun x y => x ||| y)
  | .ixor => pz_bin pc L st σ (fun x y => x ^^^ y)
  | .ishl => pz_bin pc L st σ (fun x y => x <<< (y &&& 31))
  | .ishr => pz_bin pc L st σ (fun x y => x >>> (y &&& 31))
  | .idiv => pz_dv pc L st σ (fun x y => x / y)
  | .irem => pz_dv pc L st σ (fun x y => x - x / y * y)
  | .ineg => pz_un pc L st σ (fun x => .inl (-x))
  | .i2l => pz_un pc L st σ (fun x => .inr (.inl x.toInt64))
  | .i2c => pz_un pc L st σ (fun x => .inl (x.toUInt32 % 65536).toInt32)
  | .l2i => match st with | .inr (.inl x) :: r => some (pc + 1, L, .inl x.toInt32 :: r, σ) | _ => none
  | .ladd => pz_lbin pc L st σ (fun x y => x + y)
  | .lsub => pz_lbin pc L st σ (fun x y => x - y)
  | .lmul => pz_lbin pc L st σ (fun x y => x * y)
  | .ldiv => pz_ldv pc L st σ (fun x y => x / y)
  | .lrem => pz_ldv pc L st σ (fun x y => x - x / y * y)
  | .lcmp => match st with | .inr (.inl y) :: .inr (.inl x) :: r => some (pc + 1, L, .inl (lg_cmp x y) :: r, σ) | _ => none
  | .dup => pz_dup pc L st σ
  | .pop => pz_pop pc L st σ
  | .dup_x1 => pz_dupx1 pc L st σ
  | .dup_x2 => pz_dupx2 pc L st σ
  | .dup2 => pz_dup2 pc L st σ
  | .ifCond .eq off => pz_if pc L st σ off (fun x => decide (x = 0))
  | .ifCond .ne off => pz_if pc L st σ off (fun x => !decide (x = 0))
  | .ifCond .lt off => pz_if pc L st σ off (fun x => decide (x < 0))
  | .ifCond .ge off => pz_if pc L st σ off (fun x => decide (0 ≤ x))
  | .ifCond .gt off => pz_if pc L st σ off (fun x => decide (0 < x))
  | .ifCond .le off => pz_if pc L st σ off (fun x => decide (x ≤ 0))
  | .if_icmp .eq off => pz_ic pc L st σ off (fun x y => decide (x = y))
  | .if_icmp .ne off => pz_ic pc L st σ off (fun x y => !decide (x = y))
  | .if_icmp .lt off => pz_ic pc L st σ off (fun x y => decide (x < y))
  | .if_icmp .ge off => pz_ic pc L st σ off (fun x y => decide (y ≤ x))
  | .if_icmp .gt off => pz_ic pc L st σ off (fun x y => decide (y < x))
  | .if_icmp .le off => pz_ic pc L st σ off (fun x y => decide (x ≤ y))
  | .goto off => if (pc : Int) + off < 0 then none else some (((pc : Int) + off).toNat, L, st, σ)
  | .tableswitch d lo hi offs => pz_sw pc L st σ d lo hi offs
  | .getfield _ => pz_get pc L st σ a b
  | .putfield _ => pz_put pc L st σ a b fin
  | .iaload => pz_ilo pc L st σ 50
  | .baload => pz_ilo pc L st σ 52
  | .laload => pz_llo pc L st σ
  | .aaload => pz_alo pc L st σ
  | .iastore => pz_isto pc L st σ
  | .bastore => pz_bsto pc L st σ
  | .lastore => pz_lsto pc L st σ
  | .aastore => pz_asto pc L st σ
  | .arraylength => pz_len pc L st σ
  | .newarray .int => pz_newa pc L st σ 2 50
  | .newarray .long => pz_newa pc L st σ 2 51
  | .newarray .boolean => pz_newa pc L st σ 2 52
  | .anewarray _ => pz_newa pc L st σ 3 54
  | .multianewarray _ _ => pz_mnew pc L st σ
  | .new _ => if a < 6 then pz_new pc L st σ a else none
  | _ => none
abbrev pz_Tb : Type := Nat → Nat → Option (Instr × Nat × Nat × Nat)
abbrev pz_Ib : Type := Nat → Option pz_M
abbrev pz_Rt : Type := Option (pz_S × pz_O)
abbrev pz_Rc : Type := Nat → Nat → pz_L → List pz_V → pz_S → pz_Rt
def pz_es (args : List pz_V) : pz_L := args.flatMap fun v => bif pz_c2 v then [some v, none] else [some v]
def pz_ent (args : List pz_V) (n : Nat) : pz_L := pz_es args ++ List.replicate (n - (pz_es args).length) none
def pz_hnd (hh : List (Nat × Nat × Nat × Nat)) (pc E : Nat) : Option Nat := match hh with
  | [] => none
  | (a, b, h, k) :: r => if (a ≤ pc ∧ pc < b) ∧ k = E then some h else pz_hnd r pc E
def pz_args (n : Nat) (st : List pz_V) : Option (List pz_V × List pz_V) := if n ≤ st.length then some ((st.take n).reverse, st.drop n) else none
def pz_fit (My Ma : pz_M) (args rest : List pz_V) : Bool := Nat.ble (pz_mF Ma + 1) (pz_mF My) && (Nat.ble (8 + (pz_mL Ma + 11) + pz_mW Ma) (pz_mW My) && (Nat.ble (pz_wt rest) 8 && Nat.ble (pz_es args).length (pz_mL Ma)))
def pz_rcv (σ : pz_S) (t : Nat) (args : List pz_V) : Bool := match args with
  | .inr (.inr (some (f, i))) :: _ => pz_is σ f i t && Nat.blt t 6
  | _ => false
def pz_back (rec : pz_Rc) (My : pz_M) (y pc : Nat) (L : pz_L) (rest : List pz_V) (k : Nat) (r : pz_Rt) : pz_Rt := match r with
  | none => none
  | some (σ1, .inl none) => rec y (pc + 3) L rest σ1
  | some (σ1, .inl (some v)) => rec y (pc + 3) L (v :: rest) σ1
  | some (σ1, .inr E) => bif Nat.beq k 2 then none else match pz_hnd (pz_mH My) pc E with
    | some h => rec y h L [.inr (.inr (some (σ1.1, 0)))] (pz_al σ1 99 0 0 0 0 (fun _ _ => none))
    | none => match pz_mH My with
      | [] => some (σ1, .inr E)
      | _ => none
def pz_inv (I : pz_Ib) (rec : pz_Rc) (My : pz_M) (y pc : Nat) (L : pz_L) (st : List pz_V) (σ : pz_S) (a k : Nat) : pz_Rt := match I a with
  | none => none
  | some Ma => bif Nat.beq (pz_mK Ma) k then
      (match pz_args (pz_mP Ma + (bif Nat.beq k 0 then 0 else 1)) st with
        | none => none
        | some (as, rest) => bif pz_fit My Ma as rest && (Nat.beq k 0 || pz_rcv σ (pz_mT Ma) as) then pz_back rec My y pc L rest k (rec a 0 (pz_ent as (pz_mL Ma)) [] σ) else none)
    else none
def pz_wC (σ : pz_S) (a i : Nat) (c : Nat → Int32) : pz_S := (σ.1, σ.2.1, σ.2.2.1, (fun a' i' => if a' = a ∧ i' = i then c else σ.2.2.2.1 a' i'), σ.2.2.2.2)
def pz_rm (My : pz_M) (n : Nat) (rest : List pz_V) : Bool := Nat.ble 1 (pz_mF My) && Nat.ble (pz_wt rest + n) (pz_mW My)
def pz_bi (rec : pz_Rc) (My : pz_M) (y pc : Nat) (L : pz_L) (st : List pz_V) (σ : pz_S) (a : Nat) : pz_Rt :=
  bif Nat.beq a 10000 then (match st with
    | .inl v :: .inl u :: r => bif pz_rm My 13 r then rec y (pc + 3) L (.inl (if v < u then v else u) :: r) σ else none
    | _ => none)
  else bif Nat.beq a 10001 then (match st with
    | .inl v :: .inl u :: r => bif pz_rm My 13 r then rec y (pc + 3) L (.inl (if u < v then v else u) :: r) σ else none
    | _ => none)
  else bif Nat.beq a 10002 then (match st with
    | .inr (.inl v) :: .inr (.inl u) :: r => bif pz_rm My 15 r then rec y (pc + 3) L (.inr (.inl (if v < u then u else v)) :: r) σ else none
    | _ => none)
  else bif Nat.beq a 10003 then (match st with
    | .inl n :: .inl dp :: .inr (.inr (some (g, j))) :: .inl sp :: .inr (.inr (some (f, i))) :: r =>
      if (pz_rm My 18 r && (pz_is σ f i 50 && pz_is σ g j 50)) = true ∧ ¬ sp < 0 ∧ ¬ dp < 0 ∧ ¬ n < 0 ∧ sp.toNatClampNeg + n.toNatClampNeg ≤ (pz_sh σ f).2.2 ∧ dp.toNatClampNeg + n.toNatClampNeg ≤ (pz_sh σ g).2.2 then
        rec y (pc + 3) L r (pz_wC σ g j (va_cpy (pz_mm σ f i) (pz_mm σ g j) sp.toNatClampNeg dp.toNatClampNeg n.toNatClampNeg))
      else none
    | _ => none)
  else none
def pz_oi (rec : pz_Rc) (My : pz_M) (y pc : Nat) (L : pz_L) (st : List pz_V) (σ : pz_S) : pz_Rt := match st with
  | .inr (.inr (some _)) :: r => bif pz_rm My 12 r then rec y (pc + 3) L r σ else none
  | _ => none
def pz_thr (My : pz_M) (L : pz_L) (st : List pz_V) (σ : pz_S) (E : Nat) : pz_Rt := match pz_mH My with
  | [] => bif Nat.ble 6 (pz_mF My) && (Nat.ble (pz_wt st + 82) (pz_mW My) && Nat.beq L.length (pz_mL My)) then some ((σ.1, σ.2.1, σ.2.2.1, σ.2.2.2.1, σ.2.2.2.2.1, σ.2.2.2.2.2.1 + 1, σ.2.2.2.2.2.2 + 6), .inr E) else none
  | _ => none
def pz_scl (pc : Nat) (L : pz_L) (st : List pz_V) (σ : pz_S) : pz_P := match st with
  | .inl j :: .inr (.inr (some (f, i))) :: r => if (Nat.beq f 0 && pz_is σ f i 60) = true ∧ pz_out j (pz_sh σ f).2.2 = false then some (pc + 1, L, .inl (pz_mm σ f i j.toNatClampNeg) :: r, σ) else none
  | _ => none
def pz_scn (pc : Nat) (L : pz_L) (st : List pz_V) (σ : pz_S) : pz_P := match st with
  | .inr (.inr (some (f, i))) :: r => if (Nat.beq f 0 && pz_is σ f i 60) = true then some (pc + 1, L, .inl (Int32.ofNat (pz_sh σ f).2.2) :: r, σ) else none
  | _ => none
def pz_go (rec : pz_Rc) (y : Nat) (x : pz_P) : pz_Rt := match x with
  | some (pc', L', st', σ') => rec y pc' L' st' σ'
  | none => none
def pz_rt (i : Instr) (My : pz_M) (st : List pz_V) : Option (Option pz_V) := match i with
  | .ireturn => (match st with
    | [.inl v] => if pz_mR My = some .int ∨ pz_mR My = some .boolean ∧ (v = 0 ∨ v = 1) then some (some (.inl v)) else none
    | _ => none)
  | .lreturn => (match st with
    | [.inr (.inl v)] => if pz_mR My = some .long then some (some (.inr (.inl v))) else none
    | _ => none)
  | .areturn => (match st with
    | [.inr (.inr v)] => (match pz_mR My with
      | some rt => if pz_kd rt = 2 then some (some (.inr (.inr v))) else none
      | none => none)
    | _ => none)
  | .return_ => (match st with
    | [] => if pz_mR My = none then some none else none
    | _ => none)
  | _ => none
def pz_rtn (σ : pz_S) (r : Option (Option pz_V)) : pz_Rt := match r with
  | some v => some (σ, .inl v)
  | none => none
def pz_sp (i : Instr) : Bool := match i with
  | .ireturn | .lreturn | .areturn | .return_ | .invokestatic _ | .invokevirtual _ | .invokespecial _ | .new _ | .iaload | .arraylength => true
  | _ => false
def pz_spc (I : pz_Ib) (rec : pz_Rc) (My : pz_M) (y pc : Nat) (L : pz_L) (st : List pz_V) (σ : pz_S) (i : Instr) (a b : Nat) : pz_Rt := match i with
  | .ireturn => pz_rtn σ (pz_rt .ireturn My st)
  | .lreturn => pz_rtn σ (pz_rt .lreturn My st)
  | .areturn => pz_rtn σ (pz_rt .areturn My st)
  | .return_ => pz_rtn σ (pz_rt .return_ My st)
  | .invokestatic _ => bif Nat.blt a 10000 then pz_inv I rec My y pc L st σ a 0 else pz_bi rec My y pc L st σ a
  | .invokevirtual _ => pz_inv I rec My y pc L st σ a 1
  | .invokespecial _ => bif Nat.blt a 10000 then pz_inv I rec My y pc L st σ a 2 else pz_oi rec My y pc L st σ
  | .new k => bif Nat.blt a 100 then pz_go rec y (pz_step false (.new k) a b pc L st σ) else pz_thr My L st σ (a - 100)
  | .iaload => bif Nat.beq a 60 then pz_go rec y (pz_scl pc L st σ) else pz_go rec y (pz_step false .iaload a b pc L st σ)
  | .arraylength => bif Nat.beq a 60 then pz_go rec y (pz_scn pc L st σ) else pz_go rec y (pz_step false .arraylength a b pc L st σ)
  | _ => none
def pz_body (T : pz_Tb) (I : pz_Ib) (rec : pz_Rc) : pz_Rc := fun y pc L st σ => match I y with
  | none => none
  | some My => match T y pc with
    | none => none
    | some (i, _, a, b) => bif pz_sp i then pz_spc I rec My y pc L st σ i a b else pz_go rec y (pz_step (Nat.beq (pz_mK My) 2 && Nat.beq (pz_mT My) a) i a b pc L st σ)
noncomputable def pz_run (T : pz_Tb) (I : pz_Ib) (n : Nat) : pz_Rc := Nat.rec (fun _ _ _ _ _ => none) (fun _ rec => pz_body T I rec) n
theorem pz_run_0 (T : pz_Tb) (I : pz_Ib) (y pc : Nat) (L : pz_L) (st : List pz_V) (σ : pz_S) : pz_run T I 0 y pc L st σ = none := by sorry
theorem pz_run_s (T : pz_Tb) (I : pz_Ib) (n : Nat) : pz_run T I (n + 1) = pz_body T I (pz_run T I n) := by sorry
