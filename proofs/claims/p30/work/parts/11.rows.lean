/-! SB: what the tables say, for every frame; Cx: what a frame stands on; Gd: the walk -/
def nestWs : List Cond := [(Jvm.Cond.methodLinkNest "Buddyfield" (9 : Nat) ({ cls := "Buddyfield$Ground", name := "<init>", desc := "()V" } : Jvm.MethodName) "Buddyfield"), (Jvm.Cond.fieldLinkNest "Buddyfield" (148 : Nat) "Buddyfield$Ground" "freeBlocks" "I" "Buddyfield"), (Jvm.Cond.methodLinkNest "Buddyfield" (18 : Nat) ({ cls := "Buddyfield$Directory", name := "<init>", desc := "()V" } : Jvm.MethodName) "Buddyfield"), (Jvm.Cond.methodLinkNest "Buddyfield$Directory" (11 : Nat) ({ cls := "Buddyfield$Leaf", name := "<init>", desc := "(IZ)V" } : Jvm.MethodName) "Buddyfield"), (Jvm.Cond.fieldLinkNest "Buddyfield$Directory" (58 : Nat) "Buddyfield$Leaf" "low" "I" "Buddyfield"), (Jvm.Cond.fieldLinkNest "Buddyfield$Directory" (32 : Nat) "Buddyfield$Leaf" "count" "I" "Buddyfield"), (Jvm.Cond.fieldLinkNest "Buddyfield$Directory" (65 : Nat) "Buddyfield$Leaf" "back" "LBuddyfield$Leaf;" "Buddyfield"), (Jvm.Cond.fieldLinkNest "Buddyfield$Directory" (55 : Nat) "Buddyfield$Leaf" "next" "LBuddyfield$Leaf;" "Buddyfield"), (Jvm.Cond.fieldLinkNest "Buddyfield" (189 : Nat) "Buddyfield$Directory" "leafCount" "I" "Buddyfield"), (Jvm.Cond.methodLinkNest "Buddyfield" (37 : Nat) ({ cls := "Buddyfield$Content", name := "<init>", desc := "(I)V" } : Jvm.MethodName) "Buddyfield"), (Jvm.Cond.fieldLinkNest "Buddyfield" (257 : Nat) "Buddyfield$Content" "file" "I" "Buddyfield"), (Jvm.Cond.fieldLinkNest "Buddyfield" (174 : Nat) "Buddyfield$Content" "blocks" "[I" "Buddyfield"), (Jvm.Cond.fieldLinkNest "Buddyfield" (145 : Nat) "Buddyfield$Content" "exists" "Z" "Buddyfield"), (Jvm.Cond.fieldLinkNest "Buddyfield" (75 : Nat) "Buddyfield$Content" "timesOpen" "I" "Buddyfield"), (Jvm.Cond.fieldLinkNest "Buddyfield" (157 : Nat) "Buddyfield$Content" "reservedPlaces" "I" "Buddyfield"), (Jvm.Cond.fieldLinkNest "Buddyfield" (212 : Nat) "Buddyfield$Content" "firstKept" "I" "Buddyfield"), (Jvm.Cond.fieldLinkNest "Buddyfield" (154 : Nat) "Buddyfield$Content" "keptBlocks" "I" "Buddyfield"), (Jvm.Cond.fieldLinkNest "Buddyfield" (94 : Nat) "Buddyfield$Content" "isListed" "Z" "Buddyfield"), (Jvm.Cond.fieldLinkNest "Buddyfield" (84 : Nat) "Buddyfield$Content" "isDoomed" "Z" "Buddyfield"), (Jvm.Cond.fieldLinkNest "Buddyfield" (142 : Nat) "Buddyfield$Content" "listedSize" "I" "Buddyfield"), (Jvm.Cond.methodLinkNest "Buddyfield" (151 : Nat) ({ cls := "Buddyfield$Content", name := "mappedPlaces", desc := "()I" } : Jvm.MethodName) "Buddyfield"), (Jvm.Cond.methodLinkNest "Buddyfield" (50 : Nat) ({ cls := "Buddyfield$Directory", name := "fileWith", desc := "(I)I" } : Jvm.MethodName) "Buddyfield"), (Jvm.Cond.methodLinkNest "Buddyfield$Directory" (24 : Nat) ({ cls := "Buddyfield", name := "hashOf", desc := "(I)I" } : Jvm.MethodName) "Buddyfield"), (Jvm.Cond.methodLinkNest "Buddyfield$Directory" (61 : Nat) ({ cls := "Buddyfield$Leaf", name := "continues", desc := "(I)Z" } : Jvm.MethodName) "Buddyfield"), (Jvm.Cond.methodLinkNest "Buddyfield$Directory" (68 : Nat) ({ cls := "Buddyfield$Leaf", name := "has", desc := "(I)Z" } : Jvm.MethodName) "Buddyfield"), (Jvm.Cond.methodLinkNest "Buddyfield$Directory" (49 : Nat) ({ cls := "Buddyfield$Leaf", name := "fileWith", desc := "(I)I" } : Jvm.MethodName) "Buddyfield"), (Jvm.Cond.methodLinkNest "Buddyfield" (54 : Nat) ({ cls := "Buddyfield$Directory", name := "isFull", desc := "()Z" } : Jvm.MethodName) "Buddyfield"), (Jvm.Cond.methodLinkNest "Buddyfield" (65 : Nat) ({ cls := "Buddyfield$Directory", name := "add", desc := "(II)V" } : Jvm.MethodName) "Buddyfield"), (Jvm.Cond.methodLinkNest "Buddyfield$Directory" (35 : Nat) ({ cls := "Buddyfield$Leaf", name := "split", desc := "()V" } : Jvm.MethodName) "Buddyfield"), (Jvm.Cond.methodLinkNest "Buddyfield$Leaf" (43 : Nat) ({ cls := "Buddyfield", name := "hashOf", desc := "(I)I" } : Jvm.MethodName) "Buddyfield"), (Jvm.Cond.methodLinkNest "Buddyfield$Directory" (38 : Nat) ({ cls := "Buddyfield$Leaf", name := "insert", desc := "(II)V" } : Jvm.MethodName) "Buddyfield"), (Jvm.Cond.methodLinkNest "Buddyfield" (69 : Nat) ({ cls := "Buddyfield$Content", name := "begin", desc := "()V" } : Jvm.MethodName) "Buddyfield"), (Jvm.Cond.methodLinkNest "Buddyfield" (260 : Nat) ({ cls := "Buddyfield$Content", name := "dropReserved", desc := "(I)V" } : Jvm.MethodName) "Buddyfield"), (Jvm.Cond.methodLinkNest "Buddyfield" (215 : Nat) ({ cls := "Buddyfield$Ground", name := "release", desc := "(II)V" } : Jvm.MethodName) "Buddyfield"), (Jvm.Cond.methodLinkNest "Buddyfield" (254 : Nat) ({ cls := "Buddyfield$Content", name := "isMapped", desc := "(I)Z" } : Jvm.MethodName) "Buddyfield"), (Jvm.Cond.methodLinkNest "Buddyfield" (270 : Nat) ({ cls := "Buddyfield$Content", name := "joinsAhead", desc := "(I)Z" } : Jvm.MethodName) "Buddyfield"), (Jvm.Cond.methodLinkNest "Buddyfield" (91 : Nat) ({ cls := "Buddyfield$Directory", name := "takeOut", desc := "(I)V" } : Jvm.MethodName) "Buddyfield"), (Jvm.Cond.methodLinkNest "Buddyfield$Directory" (45 : Nat) ({ cls := "Buddyfield$Leaf", name := "takeOut", desc := "(I)V" } : Jvm.MethodName) "Buddyfield"), (Jvm.Cond.methodLinkNest "Buddyfield" (101 : Nat) ({ cls := "Buddyfield$Content", name := "emptyPlaces", desc := "(II)I" } : Jvm.MethodName) "Buddyfield"), (Jvm.Cond.methodLinkNest "Buddyfield" (116 : Nat) ({ cls := "Buddyfield$Content", name := "reserve", desc := "(II)V" } : Jvm.MethodName) "Buddyfield"), (Jvm.Cond.methodLinkNest "Buddyfield" (119 : Nat) ({ cls := "Buddyfield$Content", name := "isReserved", desc := "(I)Z" } : Jvm.MethodName) "Buddyfield"), (Jvm.Cond.methodLinkNest "Buddyfield" (123 : Nat) ({ cls := "Buddyfield$Content", name := "endOfReserved", desc := "(I)I" } : Jvm.MethodName) "Buddyfield"), (Jvm.Cond.methodLinkNest "Buddyfield" (222 : Nat) ({ cls := "Buddyfield$Content", name := "isKeptFor", desc := "(I)Z" } : Jvm.MethodName) "Buddyfield"), (Jvm.Cond.methodLinkNest "Buddyfield" (225 : Nat) ({ cls := "Buddyfield$Content", name := "mapKept", desc := "(II)I" } : Jvm.MethodName) "Buddyfield"), (Jvm.Cond.methodLinkNest "Buddyfield" (237 : Nat) ({ cls := "Buddyfield$Ground", name := "find", desc := "(II)I" } : Jvm.MethodName) "Buddyfield"), (Jvm.Cond.methodLinkNest "Buddyfield" (245 : Nat) ({ cls := "Buddyfield$Ground", name := "take", desc := "(II)V" } : Jvm.MethodName) "Buddyfield"), (Jvm.Cond.methodLinkNest "Buddyfield" (248 : Nat) ({ cls := "Buddyfield$Content", name := "map", desc := "(III)V" } : Jvm.MethodName) "Buddyfield"), (Jvm.Cond.methodLinkNest "Buddyfield" (251 : Nat) ({ cls := "Buddyfield$Content", name := "keep", desc := "(III)V" } : Jvm.MethodName) "Buddyfield"), (Jvm.Cond.methodLinkNest "Buddyfield" (165 : Nat) ({ cls := "Buddyfield$Ground", name := "countPieces", desc := "(II)I" } : Jvm.MethodName) "Buddyfield"), (Jvm.Cond.methodLinkNest "Buddyfield" (170 : Nat) ({ cls := "Buddyfield$Ground", name := "areFree", desc := "(II)Z" } : Jvm.MethodName) "Buddyfield"), (Jvm.Cond.methodLinkNest "Buddyfield" (178 : Nat) ({ cls := "Buddyfield$Content", name := "countExtents", desc := "()I" } : Jvm.MethodName) "Buddyfield"), (Jvm.Cond.methodLinkNest "Buddyfield" (181 : Nat) ({ cls := "Buddyfield$Content", name := "beginOfExtent", desc := "(I)I" } : Jvm.MethodName) "Buddyfield"), (Jvm.Cond.methodLinkNest "Buddyfield" (186 : Nat) ({ cls := "Buddyfield$Content", name := "lengthOfExtent", desc := "(I)I" } : Jvm.MethodName) "Buddyfield"), (Jvm.Cond.methodLinkNest "Buddyfield" (192 : Nat) ({ cls := "Buddyfield$Directory", name := "countLooks", desc := "(I)I" } : Jvm.MethodName) "Buddyfield")]
def castWs : List Cond := [.castable "java/lang/IllegalArgumentException" "java/lang/IllegalArgumentException", .castable "java/lang/IllegalStateException" "java/lang/IllegalStateException", .castable "java/lang/IndexOutOfBoundsException" "java/lang/IndexOutOfBoundsException", .declares (Bundle.initS "java/lang/RuntimeException"), .declares (Bundle.initS "java/lang/Exception"), .declares (Bundle.initS "java/lang/Throwable")]
def strWs : List (Nat × String) := [(111, "less is left than that needs"), (137, "the volume is not down"), (162, "there is no such group"), (168, "there is no such block"), (184, "there is no such extent"), (197, "an argument is out of its range"), (200, "the volume is down"), (202, "there is no such file"), (204, "there is no such name"), (60, "there is such a name, or no room for one more file"), (82, "the file is not open")]
def SB (D : va_G) (ky : Nat → ClassId) (z : Nat) (U : State) : Prop := va_K D vwCl (tyG ky) U ∧ (∀ w ∈ nestWs, va_Nw w U) ∧ (∀ w ∈ castWs, va_Nw w U) ∧ (∀ q ∈ strWs, ∃ sa, vk_R RX4 q.1 q.2 sa U) ∧ vx_Zq Bundle.tN "UNASSIGNED_STACK" Bundle.steD (fun q => z ≤ q) U U.heap ∧ vx_Zq Bundle.tN "SUPPRESSED_SENTINEL" Bundle.listD (fun q => z ≤ q) U U.heap
def isNestW : Cond → Bool
  | .fieldLinkNest _ _ _ _ _ _ => true
  | .methodLinkNest _ _ _ _ => true
  | _ => false
theorem nestWs_ok : ∀ w ∈ nestWs, isNestW w = true := by decide +kernel
def isCastW : Cond → Bool
  | .castable _ _ => true
  | .declares _ => true
  | _ => false
theorem castWs_ok : ∀ w ∈ castWs, isCastW w = true := by decide +kernel
theorem nestW_warm {w : Cond} (hw : isNestW w = true) {s U : State} (hW : s.WarmedH U.vm) (h : va_Nw w s) : va_Nw w U := by
  cases w <;> simp [isNestW] at hw
  · exact va_Nw.warmM hW h
  · exact va_Nw.warmF hW h
theorem castW_warm {w : Cond} (hw : isCastW w = true) {s U : State} (hW : s.WarmedH U.vm) (h : va_Nw w s) : va_Nw w U := by
  cases w <;> simp [isCastW] at hw
  · first | exact va_Nw.warmC hW h | exact va_Nw.warmD hW h
  · first | exact va_Nw.warmC hW h | exact va_Nw.warmD hW h
theorem SB.warm {D : va_G} {ky : Nat → ClassId} {z : Nat} {s U : State} (h : SB D ky z s) (hW : s.WarmedH U.vm) (hz : z ≤ s.heap.size) (hk : ∀ q : Nat, q < s.heap.size → ¬ z ≤ q → U.heap[q]? = s.heap[q]?) : SB D ky z U := by
  obtain ⟨h1, h2, h3, h4, h5, h6⟩ := h
  exact ⟨h1.moved hW.alike, fun w hw => nestW_warm (nestWs_ok w hw) hW (h2 w hw), fun w hw => castW_warm (castWs_ok w hw) hW (h3 w hw), fun q hq => (h4 q hq).elim (fun sa h => ⟨sa, vk_R.warm hW h⟩), (h5.kept hk).moved hW.alike, (h6.kept hk).moved hW.alike⟩
theorem nestW_same {w : Cond} (hw : isNestW w = true) {s U : State} (hW : s.vm = U.vm) (h : va_Nw w s) : va_Nw w U := by
  cases w <;> simp [isNestW] at hw
  · exact va_Nw.same rfl hW h
  · exact va_Nw.same rfl hW h
theorem castW_same {w : Cond} (hw : isCastW w = true) {s U : State} (hW : s.vm = U.vm) (h : va_Nw w s) : va_Nw w U := by
  cases w <;> simp [isCastW] at hw
  · exact va_Nw.same rfl hW h
  · exact va_Nw.same rfl hW h
theorem SB.same {D : va_G} {ky : Nat → ClassId} {z : Nat} {s U : State} (h : SB D ky z s) (hv : s.vm = U.vm) (hh : U.heap = s.heap) : SB D ky z U := by
  obtain ⟨h1, h2, h3, h4, h5, h6⟩ := h
  have ha : s.vm.Alike U.vm := hv ▸ Vm.Alike.refl s.vm
  refine ⟨h1.moved ha, fun w hw => nestW_same (nestWs_ok w hw) hv (h2 w hw), fun w hw => castW_same (castWs_ok w hw) hv (h3 w hw), fun q hq => (h4 q hq).elim (fun sa h => ⟨sa, vk_R.same hv.symm h⟩), ?_, ?_⟩
  · rw [hh]; exact h5.moved ha
  · rw [hh]; exact h6.moved ha
section GD
variable {p : Program} {l : Launch} {e : Env} {R : Room} {s : State} {m : MethodId} {args : Array Value} {below : List Frame} {meth : Method} {c : Code} {D : va_G} {ky : Nat → ClassId} {z : Nat} {Q : State → Prop} {cells slots : Nat} {w : WT} {pc : Nat} {ls : List (Option Value)} {st : List Value} {cc : ByteArray} {own : String} {Ts : List Cond} {nL : Nat}
def Cx (p : Program) (l : Launch) (s : State) (m : MethodId) (args : Array Value) (meth : Method) (c : Code) (D : va_G) (ky : Nat → ClassId) (z : Nat) (cc : ByteArray) (nL : Nat) (Ts : List Cond) (own : String) : Prop :=
  CallFix p m c cc nL s args Ts own ∧ SB D ky z s ∧ meth.locks = false ∧ l.stackTraces = false ∧ z ≤ s.heap.size
def Gd (p : Program) (l : Launch) (e : Env) (R : Room) (s : State) (m : MethodId) (args : Array Value) (below : List Frame) (meth : Method) (c : Code) (D : va_G) (z : Nat) (Q : State → Prop) (cells slots : Nat) (w : WT) (pc : Nat) (ls : List (Option Value)) (st : List Value) : Prop :=
  ∀ (H : Heap) (locs : List Loc) (la : Array Slot), Wd D z w H → va_S (fun q => z ≤ q) s.heap H locs → lh la ls → W p l e R s m args below meth c H locs cells slots Q (F0 m pc la st)
theorem Gd.sub {ls' : List (Option Value)} (hs : Lsb ls ls') (kk : Gd p l e R s m args below meth c D z Q cells slots w pc ls' st) : Gd p l e R s m args below meth c D z Q cells slots w pc ls st := fun H locs la h1 h2 h3 => kk H locs la h1 h2 (h3.sub hs)
theorem Gd.weak {w' : WT} (hs : ∀ a x, w' a = some x → w a = some x) (kk : Gd p l e R s m args below meth c D z Q cells slots w' pc ls st) : Gd p l e R s m args below meth c D z Q cells slots w pc ls st := fun H locs la h1 h2 h3 => kk H locs la (h1.sub hs) h2 h3
theorem Gd.widen {k n : Nat} (h1 : cells ≤ k) (h2 : slots ≤ n) (kk : Gd p l e R s m args below meth c D z Q k n w pc ls st) : Gd p l e R s m args below meth c D z Q cells slots w pc ls st := fun H locs la a1 a2 a3 => W.widen h1 h2 (kk H locs la a1 a2 a3)
theorem gd_iload_n (C : Cx p l s m args meth c D ky z cc nL Ts own) {k : Fin 4} {x : Int32} (hdg : decode cc pc = .ok (.iload_n k, 1)) (hl : ls[(k : Nat)]? = some (some (.int x))) (kk : Gd p l e R s m args below meth c D z Q cells slots w (pc + 1) ls (.int x :: st)) : Gd p l e R s m args below meth c D z Q cells slots w pc ls st :=
  fun H locs la h1 h2 h3 => lv_iload_n C.1.1 C.1.2.1 hdg rfl (h3.2.2 _ _ hl).1 (kk H locs la h1 h2 h3)
theorem gd_iload (C : Cx p l s m args meth c D ky z cc nL Ts own) {k : Nat} {x : Int32} (hdg : decode cc pc = .ok (.iload k, 2)) (hl : ls[k]? = some (some (.int x))) (kk : Gd p l e R s m args below meth c D z Q cells slots w (pc + 2) ls (.int x :: st)) : Gd p l e R s m args below meth c D z Q cells slots w pc ls st :=
  fun H locs la h1 h2 h3 => lv_iload C.1.1 C.1.2.1 hdg (h3.2.2 _ _ hl).1 (kk H locs la h1 h2 h3)
theorem gd_aload_n (C : Cx p l s m args meth c D ky z cc nL Ts own) {k : Fin 4} {x : Nat} (hdg : decode cc pc = .ok (.aload_n k, 1)) (hl : ls[(k : Nat)]? = some (some (.ref x))) (kk : Gd p l e R s m args below meth c D z Q cells slots w (pc + 1) ls (.ref x :: st)) : Gd p l e R s m args below meth c D z Q cells slots w pc ls st :=
  fun H locs la h1 h2 h3 => lv_aload_n C.1.1 C.1.2.1 hdg rfl (h3.2.2 _ _ hl).1 (kk H locs la h1 h2 h3)
theorem gd_aload (C : Cx p l s m args meth c D ky z cc nL Ts own) {k : Nat} {x : Nat} (hdg : decode cc pc = .ok (.aload k, 2)) (hl : ls[k]? = some (some (.ref x))) (kk : Gd p l e R s m args below meth c D z Q cells slots w (pc + 2) ls (.ref x :: st)) : Gd p l e R s m args below meth c D z Q cells slots w pc ls st :=
  fun H locs la h1 h2 h3 => lv_aload C.1.1 C.1.2.1 hdg (h3.2.2 _ _ hl).1 (kk H locs la h1 h2 h3)
theorem gd_istore_n (C : Cx p l s m args meth c D ky z cc nL Ts own) {k : Fin 4} {x : Int32} (hdg : decode cc pc = .ok (.istore_n k, 1)) (hi : (k : Nat) < ls.length) (kk : Gd p l e R s m args below meth c D z Q cells slots w (pc + 1) (ls.set (k : Nat) (some (.int x))) st) : Gd p l e R s m args below meth c D z Q cells slots w pc ls (.int x :: st) :=
  fun H locs la h1 h2 h3 => lv_istore_n C.1.1 C.1.2.1 hdg rfl (lh_has h3) hi rfl (fun la' h' => kk H locs la' h1 h2 (lh_set h3 rfl h'))
theorem gd_istore (C : Cx p l s m args meth c D ky z cc nL Ts own) {k : Nat} {x : Int32} (hdg : decode cc pc = .ok (.istore k, 2)) (hi : k < ls.length) (kk : Gd p l e R s m args below meth c D z Q cells slots w (pc + 2) (ls.set k (some (.int x))) st) : Gd p l e R s m args below meth c D z Q cells slots w pc ls (.int x :: st) :=
  fun H locs la h1 h2 h3 => lv_istore C.1.1 C.1.2.1 hdg (lh_has h3) hi rfl (fun la' h' => kk H locs la' h1 h2 (lh_set h3 rfl h'))
theorem gd_astore_n (C : Cx p l s m args meth c D ky z cc nL Ts own) {k : Fin 4} {x : Nat} (hdg : decode cc pc = .ok (.astore_n k, 1)) (hi : (k : Nat) < ls.length) (kk : Gd p l e R s m args below meth c D z Q cells slots w (pc + 1) (ls.set (k : Nat) (some (.ref x))) st) : Gd p l e R s m args below meth c D z Q cells slots w pc ls (.ref x :: st) :=
  fun H locs la h1 h2 h3 => lv_astore_n C.1.1 C.1.2.1 hdg rfl (lh_has h3) hi rfl (fun la' h' => kk H locs la' h1 h2 (lh_set h3 rfl h'))
theorem gd_astore (C : Cx p l s m args meth c D ky z cc nL Ts own) {k : Nat} {x : Nat} (hdg : decode cc pc = .ok (.astore k, 2)) (hi : k < ls.length) (kk : Gd p l e R s m args below meth c D z Q cells slots w (pc + 2) (ls.set k (some (.ref x))) st) : Gd p l e R s m args below meth c D z Q cells slots w pc ls (.ref x :: st) :=
  fun H locs la h1 h2 h3 => lv_astore C.1.1 C.1.2.1 hdg (lh_has h3) hi rfl (fun la' h' => kk H locs la' h1 h2 (lh_set h3 rfl h'))
theorem gd_iinc (C : Cx p l s m args meth c D ky z cc nL Ts own) {i : Nat} {n a : Int} (hdg : decode cc pc = .ok (.iinc i n, 3)) (hl : ls[i]? = some (some (.int (iI a)))) (kk : Gd p l e R s m args below meth c D z Q cells slots w (pc + 3) (ls.set i (some (.int (iI (a + n))))) st) : Gd p l e R s m args below meth c D z Q cells slots w pc ls st := by
  intro H locs la h1 h2 h3
  have hm := mem_asc.mpr hl
  obtain ⟨k, hk⟩ := List.getElem?_of_mem hm
  exact lv_iinc C.1.1 C.1.2.1 hdg (lh_has h3) (k := k) (v := iI (a + n)) hk (iI_add a n) (List.getElem?_eq_some_iff.mp hl).1 rfl (fun la' h' => kk H locs la' h1 h2 (lh_set h3 rfl h'))
theorem gd_iconst (C : Cx p l s m args meth c D ky z cc nL Ts own) {n : Int} (hdg : decode cc pc = .ok (.iconst n, 1)) (kk : Gd p l e R s m args below meth c D z Q cells slots w (pc + 1) ls (.int (iI n) :: st)) : Gd p l e R s m args below meth c D z Q cells slots w pc ls st :=
  fun H locs la h1 h2 h3 => lv_iconst (v := iI n) C.1.1 C.1.2.1 hdg rfl (kk H locs la h1 h2 h3)
theorem gd_bipush (C : Cx p l s m args meth c D ky z cc nL Ts own) {n : Int} (hdg : decode cc pc = .ok (.bipush n, 2)) (hv : (Int8.ofInt n).toInt32 = Int32.ofInt n) (kk : Gd p l e R s m args below meth c D z Q cells slots w (pc + 2) ls (.int (iI n) :: st)) : Gd p l e R s m args below meth c D z Q cells slots w pc ls st :=
  fun H locs la h1 h2 h3 => lv_bipush (v := iI n) C.1.1 C.1.2.1 hdg hv (kk H locs la h1 h2 h3)
theorem gd_sipush (C : Cx p l s m args meth c D ky z cc nL Ts own) {n : Int} (hdg : decode cc pc = .ok (.sipush n, 3)) (hv : (Int16.ofInt n).toInt32 = Int32.ofInt n) (kk : Gd p l e R s m args below meth c D z Q cells slots w (pc + 3) ls (.int (iI n) :: st)) : Gd p l e R s m args below meth c D z Q cells slots w pc ls st :=
  fun H locs la h1 h2 h3 => lv_sipush (v := iI n) C.1.1 C.1.2.1 hdg hv (kk H locs la h1 h2 h3)
theorem gd_null (C : Cx p l s m args meth c D ky z cc nL Ts own) (hdg : decode cc pc = .ok (.aconst_null, 1)) (kk : Gd p l e R s m args below meth c D z Q cells slots w (pc + 1) ls (.null :: st)) : Gd p l e R s m args below meth c D z Q cells slots w pc ls st :=
  fun H locs la h1 h2 h3 => lv_null C.1.1 C.1.2.1 hdg (kk H locs la h1 h2 h3)
theorem gd_dup (C : Cx p l s m args meth c D ky z cc nL Ts own) {v : Value} (hdg : decode cc pc = .ok (.dup, 1)) (hv : v.category = 1) (kk : Gd p l e R s m args below meth c D z Q cells slots w (pc + 1) ls (v :: v :: st)) : Gd p l e R s m args below meth c D z Q cells slots w pc ls (v :: st) :=
  fun H locs la h1 h2 h3 => lv_dup C.1.1 C.1.2.1 hdg hv (kk H locs la h1 h2 h3)
theorem gd_pop (C : Cx p l s m args meth c D ky z cc nL Ts own) {v : Value} (hdg : decode cc pc = .ok (.pop, 1)) (hv : v.category = 1) (kk : Gd p l e R s m args below meth c D z Q cells slots w (pc + 1) ls st) : Gd p l e R s m args below meth c D z Q cells slots w pc ls (v :: st) :=
  fun H locs la h1 h2 h3 => lv_pop C.1.1 C.1.2.1 hdg hv (kk H locs la h1 h2 h3)
theorem gd_iadd (C : Cx p l s m args meth c D ky z cc nL Ts own) {a b : Int} (hdg : decode cc pc = .ok (.iadd, 1)) (kk : Gd p l e R s m args below meth c D z Q cells slots w (pc + 1) ls (.int (iI (a + b)) :: st)) : Gd p l e R s m args below meth c D z Q cells slots w pc ls (.int (iI b) :: .int (iI a) :: st) :=
  fun H locs la h1 h2 h3 => lv_iadd C.1.1 C.1.2.1 hdg (by rw [iI_add]; exact kk H locs la h1 h2 h3)
theorem gd_isub (C : Cx p l s m args meth c D ky z cc nL Ts own) {a b : Int} (hdg : decode cc pc = .ok (.isub, 1)) (kk : Gd p l e R s m args below meth c D z Q cells slots w (pc + 1) ls (.int (iI (a - b)) :: st)) : Gd p l e R s m args below meth c D z Q cells slots w pc ls (.int (iI b) :: .int (iI a) :: st) :=
  fun H locs la h1 h2 h3 => lv_isub C.1.1 C.1.2.1 hdg (by rw [iI_sub]; exact kk H locs la h1 h2 h3)
theorem gd_imul (C : Cx p l s m args meth c D ky z cc nL Ts own) {a b : Int} (hdg : decode cc pc = .ok (.imul, 1)) (kk : Gd p l e R s m args below meth c D z Q cells slots w (pc + 1) ls (.int (iI (a * b)) :: st)) : Gd p l e R s m args below meth c D z Q cells slots w pc ls (.int (iI b) :: .int (iI a) :: st) :=
  fun H locs la h1 h2 h3 => lv_imul C.1.1 C.1.2.1 hdg (by rw [iI_mul]; exact kk H locs la h1 h2 h3)
theorem iI_ne0 {b : Int} (h : 0 < b) (h2 : b ≤ 2147483647) : ¬ iI b = 0 := fun q => by
  have := (iI_eq (a := b) (b := 0) (by omega) (by omega)).mp (q.trans (by decide))
  omega
theorem gd_idiv (C : Cx p l s m args meth c D ky z cc nL Ts own) {a b : Int} (hdg : decode cc pc = .ok (.idiv, 1)) (h : (0 ≤ a ∧ a ≤ 2147483647) ∧ 0 < b ∧ b ≤ 2147483647) (kk : Gd p l e R s m args below meth c D z Q cells slots w (pc + 1) ls (.int (iI (a / b)) :: st)) : Gd p l e R s m args below meth c D z Q cells slots w pc ls (.int (iI b) :: .int (iI a) :: st) :=
  fun H locs la h1 h2 h3 => lv_idiv C.1.1 C.1.2.1 hdg (iI_ne0 h.2.1 h.2.2) (by rw [iI_div h.1.1 h.1.2 h.2.1 h.2.2]; exact kk H locs la h1 h2 h3)
theorem gd_irem (C : Cx p l s m args meth c D ky z cc nL Ts own) {a b : Int} (hdg : decode cc pc = .ok (.irem, 1)) (h : (0 ≤ a ∧ a ≤ 2147483647) ∧ 0 < b ∧ b ≤ 2147483647) (kk : Gd p l e R s m args below meth c D z Q cells slots w (pc + 1) ls (.int (iI (a % b)) :: st)) : Gd p l e R s m args below meth c D z Q cells slots w pc ls (.int (iI b) :: .int (iI a) :: st) :=
  fun H locs la h1 h2 h3 => lv_irem C.1.1 C.1.2.1 hdg (iI_ne0 h.2.1 h.2.2) (by rw [iI_rem h.1.1 h.1.2 h.2.1 h.2.2]; exact kk H locs la h1 h2 h3)
theorem gd_goto (C : Cx p l s m args meth c D ky z cc nL Ts own) {off : Int} {tgt : Nat} (hdg : decode cc pc = .ok (.goto off, 3)) (ht : (pc : Int) + off = (tgt : Int)) (kk : Gd p l e R s m args below meth c D z Q cells slots w tgt ls st) : Gd p l e R s m args below meth c D z Q cells slots w pc ls st :=
  fun H locs la h1 h2 h3 => lv_goto C.1.1 C.1.2.1 hdg ht (kk H locs la h1 h2 h3)
theorem gd_icmp_eq (C : Cx p l s m args meth c D ky z cc nL Ts own) {a b : Int} {off : Int} {tgt : Nat} (hdg : decode cc pc = .ok (.if_icmp .eq off, 3)) (ht : (pc : Int) + off = (tgt : Int)) (ha : InR a) (hb : InR b) (kt : a = b → Gd p l e R s m args below meth c D z Q cells slots w tgt ls st) (kf : ¬ a = b → Gd p l e R s m args below meth c D z Q cells slots w (pc + 3) ls st) : Gd p l e R s m args below meth c D z Q cells slots w pc ls (.int (iI b) :: .int (iI a) :: st) :=
  fun H locs la h1 h2 h3 => lv_icmp_eq C.1.1 C.1.2.1 hdg ht (fun q => kt ((iI_eq ha hb).mp q) H locs la h1 h2 h3) (fun q => kf (fun q' => q ((iI_eq ha hb).mpr q')) H locs la h1 h2 h3)
theorem gd_if_eq (C : Cx p l s m args meth c D ky z cc nL Ts own) {a : Int} {off : Int} {tgt : Nat} (hdg : decode cc pc = .ok (.ifCond .eq off, 3)) (ht : (pc : Int) + off = (tgt : Int)) (ha : InR a) (kt : a = 0 → Gd p l e R s m args below meth c D z Q cells slots w tgt ls st) (kf : ¬ a = 0 → Gd p l e R s m args below meth c D z Q cells slots w (pc + 3) ls st) : Gd p l e R s m args below meth c D z Q cells slots w pc ls (.int (iI a) :: st) := by
  intro H locs la h1 h2 h3
  have hb : InR 0 := by omega
  exact lv_if_eq C.1.1 C.1.2.1 hdg ht (fun q => kt ((iI_eq ha hb).mp q) H locs la h1 h2 h3) (fun q => kf (fun q' => q ((iI_eq ha hb).mpr q')) H locs la h1 h2 h3)
theorem gd_icmp_ne (C : Cx p l s m args meth c D ky z cc nL Ts own) {a b : Int} {off : Int} {tgt : Nat} (hdg : decode cc pc = .ok (.if_icmp .ne off, 3)) (ht : (pc : Int) + off = (tgt : Int)) (ha : InR a) (hb : InR b) (kt : ¬ a = b → Gd p l e R s m args below meth c D z Q cells slots w tgt ls st) (kf : a = b → Gd p l e R s m args below meth c D z Q cells slots w (pc + 3) ls st) : Gd p l e R s m args below meth c D z Q cells slots w pc ls (.int (iI b) :: .int (iI a) :: st) :=
  fun H locs la h1 h2 h3 => lv_icmp_ne C.1.1 C.1.2.1 hdg ht (fun q => kt (fun q' => q ((iI_eq ha hb).mpr q')) H locs la h1 h2 h3) (fun q => kf ((iI_eq ha hb).mp q) H locs la h1 h2 h3)
theorem gd_if_ne (C : Cx p l s m args meth c D ky z cc nL Ts own) {a : Int} {off : Int} {tgt : Nat} (hdg : decode cc pc = .ok (.ifCond .ne off, 3)) (ht : (pc : Int) + off = (tgt : Int)) (ha : InR a) (kt : ¬ a = 0 → Gd p l e R s m args below meth c D z Q cells slots w tgt ls st) (kf : a = 0 → Gd p l e R s m args below meth c D z Q cells slots w (pc + 3) ls st) : Gd p l e R s m args below meth c D z Q cells slots w pc ls (.int (iI a) :: st) := by
  intro H locs la h1 h2 h3
  have hb : InR 0 := by omega
  exact lv_if_ne C.1.1 C.1.2.1 hdg ht (fun q => kt (fun q' => q ((iI_eq ha hb).mpr q')) H locs la h1 h2 h3) (fun q => kf ((iI_eq ha hb).mp q) H locs la h1 h2 h3)
theorem gd_icmp_lt (C : Cx p l s m args meth c D ky z cc nL Ts own) {a b : Int} {off : Int} {tgt : Nat} (hdg : decode cc pc = .ok (.if_icmp .lt off, 3)) (ht : (pc : Int) + off = (tgt : Int)) (ha : InR a) (hb : InR b) (kt : a < b → Gd p l e R s m args below meth c D z Q cells slots w tgt ls st) (kf : ¬ a < b → Gd p l e R s m args below meth c D z Q cells slots w (pc + 3) ls st) : Gd p l e R s m args below meth c D z Q cells slots w pc ls (.int (iI b) :: .int (iI a) :: st) :=
  fun H locs la h1 h2 h3 => lv_icmp_lt C.1.1 C.1.2.1 hdg ht (fun q => kt ((iI_lt ha hb).mp q) H locs la h1 h2 h3) (fun q => kf (fun q' => q ((iI_lt ha hb).mpr q')) H locs la h1 h2 h3)
theorem gd_if_lt (C : Cx p l s m args meth c D ky z cc nL Ts own) {a : Int} {off : Int} {tgt : Nat} (hdg : decode cc pc = .ok (.ifCond .lt off, 3)) (ht : (pc : Int) + off = (tgt : Int)) (ha : InR a) (kt : a < 0 → Gd p l e R s m args below meth c D z Q cells slots w tgt ls st) (kf : ¬ a < 0 → Gd p l e R s m args below meth c D z Q cells slots w (pc + 3) ls st) : Gd p l e R s m args below meth c D z Q cells slots w pc ls (.int (iI a) :: st) := by
  intro H locs la h1 h2 h3
  have hb : InR 0 := by omega
  exact lv_if_lt C.1.1 C.1.2.1 hdg ht (fun q => kt ((iI_lt ha hb).mp q) H locs la h1 h2 h3) (fun q => kf (fun q' => q ((iI_lt ha hb).mpr q')) H locs la h1 h2 h3)
theorem gd_icmp_ge (C : Cx p l s m args meth c D ky z cc nL Ts own) {a b : Int} {off : Int} {tgt : Nat} (hdg : decode cc pc = .ok (.if_icmp .ge off, 3)) (ht : (pc : Int) + off = (tgt : Int)) (ha : InR a) (hb : InR b) (kt : b ≤ a → Gd p l e R s m args below meth c D z Q cells slots w tgt ls st) (kf : ¬ b ≤ a → Gd p l e R s m args below meth c D z Q cells slots w (pc + 3) ls st) : Gd p l e R s m args below meth c D z Q cells slots w pc ls (.int (iI b) :: .int (iI a) :: st) :=
  fun H locs la h1 h2 h3 => lv_icmp_ge C.1.1 C.1.2.1 hdg ht (fun q => kt ((iI_le hb ha).mp q) H locs la h1 h2 h3) (fun q => kf (fun q' => q ((iI_le hb ha).mpr q')) H locs la h1 h2 h3)
theorem gd_if_ge (C : Cx p l s m args meth c D ky z cc nL Ts own) {a : Int} {off : Int} {tgt : Nat} (hdg : decode cc pc = .ok (.ifCond .ge off, 3)) (ht : (pc : Int) + off = (tgt : Int)) (ha : InR a) (kt : 0 ≤ a → Gd p l e R s m args below meth c D z Q cells slots w tgt ls st) (kf : ¬ 0 ≤ a → Gd p l e R s m args below meth c D z Q cells slots w (pc + 3) ls st) : Gd p l e R s m args below meth c D z Q cells slots w pc ls (.int (iI a) :: st) := by
  intro H locs la h1 h2 h3
  have hb : InR 0 := by omega
  exact lv_if_ge C.1.1 C.1.2.1 hdg ht (fun q => kt ((iI_le hb ha).mp q) H locs la h1 h2 h3) (fun q => kf (fun q' => q ((iI_le hb ha).mpr q')) H locs la h1 h2 h3)
theorem gd_icmp_gt (C : Cx p l s m args meth c D ky z cc nL Ts own) {a b : Int} {off : Int} {tgt : Nat} (hdg : decode cc pc = .ok (.if_icmp .gt off, 3)) (ht : (pc : Int) + off = (tgt : Int)) (ha : InR a) (hb : InR b) (kt : b < a → Gd p l e R s m args below meth c D z Q cells slots w tgt ls st) (kf : ¬ b < a → Gd p l e R s m args below meth c D z Q cells slots w (pc + 3) ls st) : Gd p l e R s m args below meth c D z Q cells slots w pc ls (.int (iI b) :: .int (iI a) :: st) :=
  fun H locs la h1 h2 h3 => lv_icmp_gt C.1.1 C.1.2.1 hdg ht (fun q => kt ((iI_lt hb ha).mp q) H locs la h1 h2 h3) (fun q => kf (fun q' => q ((iI_lt hb ha).mpr q')) H locs la h1 h2 h3)
theorem gd_if_gt (C : Cx p l s m args meth c D ky z cc nL Ts own) {a : Int} {off : Int} {tgt : Nat} (hdg : decode cc pc = .ok (.ifCond .gt off, 3)) (ht : (pc : Int) + off = (tgt : Int)) (ha : InR a) (kt : 0 < a → Gd p l e R s m args below meth c D z Q cells slots w tgt ls st) (kf : ¬ 0 < a → Gd p l e R s m args below meth c D z Q cells slots w (pc + 3) ls st) : Gd p l e R s m args below meth c D z Q cells slots w pc ls (.int (iI a) :: st) := by
  intro H locs la h1 h2 h3
  have hb : InR 0 := by omega
  exact lv_if_gt C.1.1 C.1.2.1 hdg ht (fun q => kt ((iI_lt hb ha).mp q) H locs la h1 h2 h3) (fun q => kf (fun q' => q ((iI_lt hb ha).mpr q')) H locs la h1 h2 h3)
theorem gd_icmp_le (C : Cx p l s m args meth c D ky z cc nL Ts own) {a b : Int} {off : Int} {tgt : Nat} (hdg : decode cc pc = .ok (.if_icmp .le off, 3)) (ht : (pc : Int) + off = (tgt : Int)) (ha : InR a) (hb : InR b) (kt : a ≤ b → Gd p l e R s m args below meth c D z Q cells slots w tgt ls st) (kf : ¬ a ≤ b → Gd p l e R s m args below meth c D z Q cells slots w (pc + 3) ls st) : Gd p l e R s m args below meth c D z Q cells slots w pc ls (.int (iI b) :: .int (iI a) :: st) :=
  fun H locs la h1 h2 h3 => lv_icmp_le C.1.1 C.1.2.1 hdg ht (fun q => kt ((iI_le ha hb).mp q) H locs la h1 h2 h3) (fun q => kf (fun q' => q ((iI_le ha hb).mpr q')) H locs la h1 h2 h3)
theorem gd_if_le (C : Cx p l s m args meth c D ky z cc nL Ts own) {a : Int} {off : Int} {tgt : Nat} (hdg : decode cc pc = .ok (.ifCond .le off, 3)) (ht : (pc : Int) + off = (tgt : Int)) (ha : InR a) (kt : a ≤ 0 → Gd p l e R s m args below meth c D z Q cells slots w tgt ls st) (kf : ¬ a ≤ 0 → Gd p l e R s m args below meth c D z Q cells slots w (pc + 3) ls st) : Gd p l e R s m args below meth c D z Q cells slots w pc ls (.int (iI a) :: st) := by
  intro H locs la h1 h2 h3
  have hb : InR 0 := by omega
  exact lv_if_le C.1.1 C.1.2.1 hdg ht (fun q => kt ((iI_le ha hb).mp q) H locs la h1 h2 h3) (fun q => kf (fun q' => q ((iI_le ha hb).mpr q')) H locs la h1 h2 h3)
theorem gd_ifnull (C : Cx p l s m args meth c D ky z cc nL Ts own) {x : Nat} {off : Int} (hdg : decode cc pc = .ok (.ifnull off, 3)) (kk : Gd p l e R s m args below meth c D z Q cells slots w (pc + 3) ls st) : Gd p l e R s m args below meth c D z Q cells slots w pc ls (.ref x :: st) :=
  fun H locs la h1 h2 h3 => lv_ifnull C.1.1 C.1.2.1 hdg (kk H locs la h1 h2 h3)
theorem gd_ifnullN (C : Cx p l s m args meth c D ky z cc nL Ts own) {off : Int} {tgt : Nat} (hdg : decode cc pc = .ok (.ifnull off, 3)) (ht : (pc : Int) + off = (tgt : Int)) (kk : Gd p l e R s m args below meth c D z Q cells slots w tgt ls st) : Gd p l e R s m args below meth c D z Q cells slots w pc ls (.null :: st) :=
  fun H locs la h1 h2 h3 => lv_ifnullN C.1.1 C.1.2.1 hdg ht (kk H locs la h1 h2 h3)
theorem gd_acmpeq (C : Cx p l s m args meth c D ky z cc nL Ts own) {x y : Nat} {off : Int} {tgt : Nat} (hdg : decode cc pc = .ok (.if_acmp .eq off, 3)) (ht : (pc : Int) + off = (tgt : Int)) (kt : x = y → Gd p l e R s m args below meth c D z Q cells slots w tgt ls st) (kf : ¬ x = y → Gd p l e R s m args below meth c D z Q cells slots w (pc + 3) ls st) : Gd p l e R s m args below meth c D z Q cells slots w pc ls (.ref y :: .ref x :: st) :=
  fun H locs la h1 h2 h3 => lv_acmp_eq (rx := some x) (ry := some y) C.1.1 C.1.2.1 hdg ht (fun q => kt (Option.some.inj q) H locs la h1 h2 h3) (fun q => kf (fun q' => q (congrArg some q')) H locs la h1 h2 h3)
/-- a cell's fields -/
theorem Wd.one {H : Heap} {a : Nat} {x : va_E} (h : Wd D z w H) (he : w a = some x) : va_P D vwCl [(a, x)] H := fun k q hq => by
  have hz : k < 1 := (List.getElem?_eq_some_iff.mp hq).1
  rw [show k = 0 by omega] at hq
  cases hq
  exact (h.2 a x he).2
theorem gd_get (C : Cx p l s m args meth c D ky z cc nL Ts own) {ref Cn : String} {T : u_T} {N ci index a : Nat} {fs : List Value} {v : Value} (hc : vwCl[ci]? = some (Cn, T, N)) (hin : ∀ x ∈ u_ws Cn T N, x ∈ Ts) (k : Nat) (hk : k < N) (hlink : Cond.fieldLink own index ref (T k).2.1 (T k).2.2.1 ∈ Ts) (hr : (T k).1 = ref) (hdg : decode cc pc = .ok (.getfield index, 3)) (he : w a = some (oB ci fs)) (hv : fs[k]? = some v)
    (kk : Gd p l e R s m args below meth c D z Q cells slots w (pc + 3) ls (v :: st)) : Gd p l e R s m args below meth c D z Q cells slots w pc ls (.ref a :: st) :=
  fun H locs la h1 h2 h3 => va_get (D := D) (cl := vwCl) (tys := tyG ky) C.1.1 C.1.2.1 C.1.2.2.2.2 hin C.1.2.2.2.1 C.2.1.1 (h1.one he) 0 rfl hc k hk (C.1.2.2.2.2 _ hlink) (fun _ h9 => hr ▸ h9) hv hdg (kk H locs la h1 h2 h3)
theorem gd_getN (C : Cx p l s m args meth c D ky z cc nL Ts own) {ref Cn host : String} {T : u_T} {N ci index a : Nat} {fs : List Value} {v : Value} (hc : vwCl[ci]? = some (Cn, T, N)) (hin : ∀ x ∈ u_ws Cn T N, x ∈ Ts) (k : Nat) (hk : k < N) (hlink : Cond.fieldLinkNest own index ref (T k).2.1 (T k).2.2.1 host ∈ nestWs) (hr : (T k).1 = ref) (hdg : decode cc pc = .ok (.getfield index, 3)) (he : w a = some (oB ci fs)) (hv : fs[k]? = some v)
    (kk : Gd p l e R s m args below meth c D z Q cells slots w (pc + 3) ls (v :: st)) : Gd p l e R s m args below meth c D z Q cells slots w pc ls (.ref a :: st) :=
  fun H locs la h1 h2 h3 => va_getN (D := D) (cl := vwCl) (tys := tyG ky) C.1.1 C.1.2.1 C.1.2.2.2.2 hin C.1.2.2.2.1 C.2.1.1 (h1.one he) 0 rfl hc k hk (va_Nw.use rfl (C.2.1.2.1 _ hlink)) (fun _ h9 => hr ▸ h9) hv hdg (kk H locs la h1 h2 h3)
theorem va_S.putz {H0 H H1 : Heap} {locs : List Loc} {a i : Nat} (h : va_S (fun q => z ≤ q) H0 H locs) (e2 : H1.size = H.size) (e3 : ∀ q : Nat, q ≠ a → H1[q]? = H[q]?) (ha : z ≤ a) : va_S (fun q => z ≤ q) H0 H1 (locs ++ [⟨a, i⟩]) := by
  refine ⟨by rw [e2]; exact h.1, fun q h1 h2 => (e3 q (fun q' => h2 (by rw [q']; exact ha))).trans (h.2.1 q h1 h2), fun q hq => ?_⟩
  rcases List.mem_append.mp hq with h9 | h9
  · exact h.2.2 q h9
  · rw [List.mem_singleton.mp h9]
    exact ha
theorem gd_put (C : Cx p l s m args meth c D ky z cc nL Ts own) {ref Cn : String} {T : u_T} {N ci index a : Nat} {fs : List Value} {v : Value} (hc : vwCl[ci]? = some (Cn, T, N)) (hin : ∀ x ∈ u_ws Cn T N, x ∈ Ts) (ty0 : Nat → FieldType) (hty : ∀ k, k < N → parseFieldDescriptor (T k).2.2.1 = some (ty0 k)) (hnm : ∀ a, a < N → ∀ b, b < N → a ≠ b → (T a).2.1 ≠ (T b).2.1) (k : Nat) (hk : k < N) (hlink : Cond.fieldLink own index ref (T k).2.1 (T k).2.2.1 ∈ Ts) (hr : (T k).1 = ref) (hfin : (T k).2.2.2 = false) (hdg : decode cc pc = .ok (.putfield index, 3)) (he : w a = some (oB ci fs)) (hn : narrow (ty0 k) v = v) (hfit : fits (ty0 k) v = true) (hl : k < fs.length)
    (kk : Gd p l e R s m args below meth c D z Q cells slots (wU w a (oB ci (fs.set k v))) (pc + 3) ls st) : Gd p l e R s m args below meth c D z Q cells slots w pc ls (v :: .ref a :: st) := by
  intro H locs la h1 h2 h3
  obtain ⟨hz, r, g1, cell, q1, q2, q3, q4⟩ := h1.2 a _ he
  have hr9 : r = (Cn, T, N) := Option.some.inj (g1.symm.trans hc)
  subst hr9
  have hap := va_apart (own := own) C.1.2.2.2.2 hin ty0 hty hnm C.2.1.1 hc
  obtain ⟨hS, hfc, kC, hkC, hkind⟩ := C.2.1.1.1 ci _ hc
  obtain ⟨cf, kf, fi, f, hi, hsl⟩ := hS k hk
  have hlay := C.1.2.2.2.2 _ (hin _ (u_in_lay hk))
  unfold u_lay at hlay
  have hst := (u_facts hfc hkC (u_lays C.1.2.2.2.2 hin hk) hi).1
  rw [if_neg (by rw [hfin]; decide)] at hlay
  have h6 := u_store hfc hkC hkind hlay hi (hty k hk) hn hfit
  refine W.putK C.1.1 C.1.2.1 (f := f) ⟨C.1.2.2.2.1, C.1.2.2.2.2 _ hlink, ⟨_, _, _, hr ▸ hi⟩, hst⟩ (by rw [q2]; exact h6) q1 q3 (by rw [hsl]; exact k2_hasslot (q4 k hk)) rfl rfl hdg fun H' e1 e2 e3 => ?_
  rw [hsl] at e1 ⊢
  exact kk H' _ la (h1.put hz ⟨_, hc, t_OB.to (V := updV (vp_V fs) k v) ⟨_, e1, q2, q3, t_set q4 hap hk v⟩ (fun j _ => vp_updV_set hl v j)⟩ (Nat.le_of_eq e2.symm) (fun q _ hq => e3 q hq)) (h2.putz e2 e3 hz) h3
theorem gd_putN (C : Cx p l s m args meth c D ky z cc nL Ts own) {ref Cn host : String} {T : u_T} {N ci index a : Nat} {fs : List Value} {v : Value} (hc : vwCl[ci]? = some (Cn, T, N)) (hin : ∀ x ∈ u_ws Cn T N, x ∈ Ts) (ty0 : Nat → FieldType) (hty : ∀ k, k < N → parseFieldDescriptor (T k).2.2.1 = some (ty0 k)) (hnm : ∀ a, a < N → ∀ b, b < N → a ≠ b → (T a).2.1 ≠ (T b).2.1) (k : Nat) (hk : k < N) (hlink : Cond.fieldLinkNest own index ref (T k).2.1 (T k).2.2.1 host ∈ nestWs) (hr : (T k).1 = ref) (hfin : (T k).2.2.2 = false) (hdg : decode cc pc = .ok (.putfield index, 3)) (he : w a = some (oB ci fs)) (hn : narrow (ty0 k) v = v) (hfit : fits (ty0 k) v = true) (hl : k < fs.length)
    (kk : Gd p l e R s m args below meth c D z Q cells slots (wU w a (oB ci (fs.set k v))) (pc + 3) ls st) : Gd p l e R s m args below meth c D z Q cells slots w pc ls (v :: .ref a :: st) := by
  intro H locs la h1 h2 h3
  obtain ⟨hz, r, g1, cell, q1, q2, q3, q4⟩ := h1.2 a _ he
  have hr9 : r = (Cn, T, N) := Option.some.inj (g1.symm.trans hc)
  subst hr9
  have hap := va_apart (own := own) C.1.2.2.2.2 hin ty0 hty hnm C.2.1.1 hc
  obtain ⟨hS, hfc, kC, hkC, hkind⟩ := C.2.1.1.1 ci _ hc
  obtain ⟨cf, kf, fi, f, hi, hsl⟩ := hS k hk
  have hlay := C.1.2.2.2.2 _ (hin _ (u_in_lay hk))
  unfold u_lay at hlay
  have hst := (u_facts hfc hkC (u_lays C.1.2.2.2.2 hin hk) hi).1
  rw [if_neg (by rw [hfin]; decide)] at hlay
  have h6 := u_store hfc hkC hkind hlay hi (hty k hk) hn hfit
  refine va_WputK C.1.1 C.1.2.1 (f := f) C.1.2.2.2.1 (va_Nw.use rfl (C.2.1.2.1 _ hlink)) (hr ▸ hi) hst (by rw [q2]; exact h6) q1 q3 (by rw [hsl]; exact k2_hasslot (q4 k hk)) rfl rfl hdg fun H' e1 e2 e3 => ?_
  rw [hsl] at e1 ⊢
  exact kk H' _ la (h1.put hz ⟨_, hc, t_OB.to (V := updV (vp_V fs) k v) ⟨_, e1, q2, q3, t_set q4 hap hk v⟩ (fun j _ => vp_updV_set hl v j)⟩ (Nat.le_of_eq e2.symm) (fun q _ hq => e3 q hq)) (h2.putz e2 e3 hz) h3
theorem gd_iald (C : Cx p l s m args meth c D ky z cc nL Ts own) {a n : Nat} {f : Int → Int} {i : Int} (hdg : decode cc pc = .ok (.iaload, 1)) (he : w a = some (iA (ky 0) n f)) (hn : n < 2147483648) (hi : 0 ≤ i ∧ i < n) (kk : Gd p l e R s m args below meth c D z Q cells slots w (pc + 1) ls (.int (iI (f i)) :: st)) : Gd p l e R s m args below meth c D z Q cells slots w pc ls (.int (iI i) :: .ref a :: st) := by
  intro H locs la h1 h2 h3
  obtain ⟨c1, c2⟩ := iI_cl hi.1 hi.2 hn
  refine va_iald (D := D) (cl := vwCl) (tys := tyG ky) C.1.1 C.1.2.1 C.2.1.1 (h1.one he) 0 0 rfl rfl c1 hdg ?_
  have := kk H locs la h1 h2 h3
  rw [← c2] at this
  exact this
theorem gd_zald (C : Cx p l s m args meth c D ky z cc nL Ts own) {a n : Nat} {f : Int → Int} {i : Int} (hdg : decode cc pc = .ok (.baload, 1)) (he : w a = some (iA (ky 1) n f)) (hn : n < 2147483648) (hi : 0 ≤ i ∧ i < n) (kk : Gd p l e R s m args below meth c D z Q cells slots w (pc + 1) ls (.int (iI (f i)) :: st)) : Gd p l e R s m args below meth c D z Q cells slots w pc ls (.int (iI i) :: .ref a :: st) := by
  intro H locs la h1 h2 h3
  obtain ⟨c1, c2⟩ := iI_cl hi.1 hi.2 hn
  refine va_zald (D := D) (cl := vwCl) (tys := tyG ky) C.1.1 C.1.2.1 C.2.1.1 (h1.one he) 0 1 rfl rfl c1 hdg ?_
  have := kk H locs la h1 h2 h3
  rw [← c2] at this
  exact this
theorem gd_aald (C : Cx p l s m args meth c D ky z cc nL Ts own) {a n x : Nat} {f : Int → Option Nat} {i : Int} (hdg : decode cc pc = .ok (.aaload, 1)) (he : w a = some (rA (ky 2) n f)) (hn : n < 2147483648) (hi : 0 ≤ i ∧ i < n) (hx : f i = some x) (kk : Gd p l e R s m args below meth c D z Q cells slots w (pc + 1) ls (.ref x :: st)) : Gd p l e R s m args below meth c D z Q cells slots w pc ls (.int (iI i) :: .ref a :: st) := by
  intro H locs la h1 h2 h3
  obtain ⟨c1, c2⟩ := iI_cl hi.1 hi.2 hn
  refine va_aldq (D := D) (cl := vwCl) (tys := tyG ky) C.1.1 C.1.2.1 C.2.1.1 (h1.one he) 0 2 rfl rfl c1 hdg ?_
  have h9 := kk H locs la h1 h2 h3
  rw [← c2] at hx
  show W p l e R s m args below meth c H locs cells slots Q (F0 m (pc + 1) la (va_rf (f ((iI i).toNatClampNeg : Int)) :: st))
  rw [hx]
  exact h9
theorem arrI_store (k : ClassId) {n : Nat} {f : Int → Int} {i x : Int} (hi : 0 ≤ i ∧ i < n) (hn : n < 2147483648) : (arrV k n (fun j : Nat => .int (iI (f (j : Int))))).setSlot (iI i).toNatClampNeg (.int (iI x)) = arrV k n (fun j : Nat => .int (iI (fU f i x (j : Int)))) := by
  obtain ⟨c1, c2⟩ := iI_cl hi.1 hi.2 hn
  rw [arrV_store]
  congr 1
  funext q
  by_cases hq : q = (iI i).toNatClampNeg
  · subst hq
    rw [c2, fU_s]
    simp [updV]
  · rw [fU_n (by omega)]
    simp [updV, hq]
theorem gd_iast (C : Cx p l s m args meth c D ky z cc nL Ts own) {a n : Nat} {f : Int → Int} {i x : Int} (hdg : decode cc pc = .ok (.iastore, 1)) (he : w a = some (iA (ky 0) n f)) (hn : n < 2147483648) (hi : 0 ≤ i ∧ i < n) (kk : Gd p l e R s m args below meth c D z Q cells slots (wU w a (iA (ky 0) n (fU f i x))) (pc + 1) ls st) : Gd p l e R s m args below meth c D z Q cells slots w pc ls (.int (iI x) :: .int (iI i) :: .ref a :: st) := by
  intro H locs la h1 h2 h3
  obtain ⟨c1, c2⟩ := iI_cl hi.1 hi.2 hn
  obtain ⟨hz, hat⟩ := h1.2 a _ he
  refine W.iast C.1.1 C.1.2.1 hat ((C.2.1.1.2 0 _ rfl).1 n (fun j => .int (iI (f (j : Int))))) (fun q => by cases q) (by show ¬ (_ < 0 ∨ (arrV _ _ _).slots.size ≤ _); rw [arrV_size]; exact c1) rfl rfl hdg fun H1 e1 e2 e3 => ?_
  refine kk H1 _ la (h1.put hz ?_ (Nat.le_of_eq e2.symm) (fun q _ hq => e3 q hq)) (h2.putz e2 e3 hz) h3
  show H1[a]? = some (vp_cell _ _)
  rw [e1, vp_cell_i, vp_cell_i, arrI_store _ hi hn]
theorem nar_b {x : Int} (hx : x = 0 ∨ x = 1) : narrow .boolean (.int (iI x)) = .int (iI x) := by
  rcases hx with rfl | rfl <;> decide
theorem gd_zast (C : Cx p l s m args meth c D ky z cc nL Ts own) {a n : Nat} {f : Int → Int} {i x : Int} (hdg : decode cc pc = .ok (.bastore, 1)) (he : w a = some (iA (ky 1) n f)) (hn : n < 2147483648) (hi : 0 ≤ i ∧ i < n) (hx : x = 0 ∨ x = 1) (kk : Gd p l e R s m args below meth c D z Q cells slots (wU w a (iA (ky 1) n (fU f i x))) (pc + 1) ls st) : Gd p l e R s m args below meth c D z Q cells slots w pc ls (.int (iI x) :: .int (iI i) :: .ref a :: st) := by
  intro H locs la h1 h2 h3
  obtain ⟨c1, c2⟩ := iI_cl hi.1 hi.2 hn
  obtain ⟨hz, hat⟩ := h1.2 a _ he
  refine W.zast C.1.1 C.1.2.1 hat ((C.2.1.1.2 1 _ rfl).1 n (fun j => .int (iI (f (j : Int))))) (fun q => by cases q) (by show ¬ (_ < 0 ∨ (arrV _ _ _).slots.size ≤ _); rw [arrV_size]; exact c1) rfl rfl hdg fun H1 e1 e2 e3 => ?_
  refine kk H1 _ la (h1.put hz ?_ (Nat.le_of_eq e2.symm) (fun q _ hq => e3 q hq)) (h2.putz e2 e3 hz) h3
  show H1[a]? = some (vp_cell _ _)
  rw [e1, vp_cell_i, vp_cell_i, nar_b hx, arrI_store _ hi hn]
end GD
