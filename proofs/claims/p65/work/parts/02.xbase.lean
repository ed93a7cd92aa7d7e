/-! the base: names of classes, the logical heap, the judgement over it -/
def xr_Bits : String := "MessageCoder$Bits"
def xt_Bits : u_T := fun k => match k with
  | 0 => ("MessageCoder$Bits", "row", "[I", true)
  | _ => ("MessageCoder$Bits", "length", "I", false)
def xd_Bits : Nat → FieldType := fun k => match k with
  | 0 => .array .int
  | _ => .int
theorem xn_Bits : ∀ a, a < 2 → ∀ b, b < 2 → a ≠ b → (xt_Bits a).2.1 ≠ (xt_Bits b).2.1 := by decide +kernel
theorem xe_Bits : ∀ k, k < 2 → parseFieldDescriptor (xt_Bits k).2.2.1 = some (xd_Bits k) := by decide +kernel
def xr_Code : String := "MessageCoder$Code"
def xt_Code : u_T := fun k => match k with
  | 0 => ("MessageCoder$Code", "weights", "[I", true)
  | 1 => ("MessageCoder$Code", "lengths", "[I", true)
  | 2 => ("MessageCoder$Code", "values", "[I", true)
  | 3 => ("MessageCoder$Code", "order", "[I", true)
  | 4 => ("MessageCoder$Code", "groups", "[I", true)
  | 5 => ("MessageCoder$Code", "groupWeights", "[I", true)
  | _ => ("MessageCoder$Code", "joinedSum", "I", false)
def xd_Code : Nat → FieldType := fun k => match k with
  | 0 => .array .int
  | 1 => .array .int
  | 2 => .array .int
  | 3 => .array .int
  | 4 => .array .int
  | 5 => .array .int
  | _ => .int
theorem xn_Code : ∀ a, a < 7 → ∀ b, b < 7 → a ≠ b → (xt_Code a).2.1 ≠ (xt_Code b).2.1 := by decide +kernel
theorem xe_Code : ∀ k, k < 7 → parseFieldDescriptor (xt_Code k).2.2.1 = some (xd_Code k) := by decide +kernel
def xr_Frame : String := "MessageCoder$Frame"
def xt_Frame : u_T := fun k => match k with
  | 0 => ("MessageCoder$Frame", "blocks", "[I", true)
  | 1 => ("MessageCoder$Frame", "text", "LMessageCoder$Text;", true)
  | 2 => ("MessageCoder$Frame", "code", "LMessageCoder$Code;", true)
  | _ => ("MessageCoder$Frame", "count", "I", false)
def xd_Frame : Nat → FieldType := fun k => match k with
  | 0 => .array .int
  | 1 => .object "MessageCoder$Text"
  | 2 => .object "MessageCoder$Code"
  | _ => .int
theorem xn_Frame : ∀ a, a < 4 → ∀ b, b < 4 → a ≠ b → (xt_Frame a).2.1 ≠ (xt_Frame b).2.1 := by decide +kernel
theorem xe_Frame : ∀ k, k < 4 → parseFieldDescriptor (xt_Frame k).2.2.1 = some (xd_Frame k) := by decide +kernel
def xr_Message : String := "MessageCoder$Message"
def xt_Message : u_T := fun k => match k with
  | 0 => ("MessageCoder$Message", "text", "LMessageCoder$Text;", true)
  | 1 => ("MessageCoder$Message", "id", "I", false)
  | _ => ("MessageCoder$Message", "priority", "I", false)
def xd_Message : Nat → FieldType := fun k => match k with
  | 0 => .object "MessageCoder$Text"
  | 1 => .int
  | _ => .int
theorem xn_Message : ∀ a, a < 3 → ∀ b, b < 3 → a ≠ b → (xt_Message a).2.1 ≠ (xt_Message b).2.1 := by decide +kernel
theorem xe_Message : ∀ k, k < 3 → parseFieldDescriptor (xt_Message k).2.2.1 = some (xd_Message k) := by decide +kernel
def xr_Program : String := "MessageCoder$Program"
def xt_Program : u_T := fun k => match k with
  | 0 => ("MessageCoder$Program", "input", "LMessageCoder$Text;", true)
  | 1 => ("MessageCoder$Program", "commands", "[LMessageCoder$Command;", true)
  | 2 => ("MessageCoder$Program", "firsts", "[I", true)
  | 3 => ("MessageCoder$Program", "seconds", "[I", true)
  | 4 => ("MessageCoder$Program", "numbers", "[I", true)
  | 5 => ("MessageCoder$Program", "stepCount", "I", false)
  | 6 => ("MessageCoder$Program", "commandCount", "I", false)
  | 7 => ("MessageCoder$Program", "at", "I", false)
  | 8 => ("MessageCoder$Program", "first", "I", false)
  | 9 => ("MessageCoder$Program", "second", "I", false)
  | _ => ("MessageCoder$Program", "hasFirst", "Z", false)
def xd_Program : Nat → FieldType := fun k => match k with
  | 0 => .object "MessageCoder$Text"
  | 1 => .array (.object "MessageCoder$Command")
  | 2 => .array .int
  | 3 => .array .int
  | 4 => .array .int
  | 5 => .int
  | 6 => .int
  | 7 => .int
  | 8 => .int
  | 9 => .int
  | _ => .boolean
theorem xn_Program : ∀ a, a < 11 → ∀ b, b < 11 → a ≠ b → (xt_Program a).2.1 ≠ (xt_Program b).2.1 := by decide +kernel
theorem xe_Program : ∀ k, k < 11 → parseFieldDescriptor (xt_Program k).2.2.1 = some (xd_Program k) := by decide +kernel
def xr_Queue : String := "MessageCoder$Queue"
def xt_Queue : u_T := fun k => match k with
  | 0 => ("MessageCoder$Queue", "rows", "[LMessageCoder$Message;", true)
  | 1 => ("MessageCoder$Queue", "count", "I", false)
  | _ => ("MessageCoder$Queue", "nextId", "I", false)
def xd_Queue : Nat → FieldType := fun k => match k with
  | 0 => .array (.object "MessageCoder$Message")
  | 1 => .int
  | _ => .int
theorem xn_Queue : ∀ a, a < 3 → ∀ b, b < 3 → a ≠ b → (xt_Queue a).2.1 ≠ (xt_Queue b).2.1 := by decide +kernel
theorem xe_Queue : ∀ k, k < 3 → parseFieldDescriptor (xt_Queue k).2.2.1 = some (xd_Queue k) := by decide +kernel
def xr_Ranges : String := "MessageCoder$Ranges"
def xt_Ranges : u_T := fun k => match k with
  | 0 => ("MessageCoder$Ranges", "sorted", "[I", true)
  | _ => ("MessageCoder$Ranges", "least", "[[I", true)
def xd_Ranges : Nat → FieldType := fun k => match k with
  | 0 => .array .int
  | _ => .array (.array .int)
theorem xn_Ranges : ∀ a, a < 2 → ∀ b, b < 2 → a ≠ b → (xt_Ranges a).2.1 ≠ (xt_Ranges b).2.1 := by decide +kernel
theorem xe_Ranges : ∀ k, k < 2 → parseFieldDescriptor (xt_Ranges k).2.2.1 = some (xd_Ranges k) := by decide +kernel
def xr_State : String := "MessageCoder$State"
def xt_State : u_T := fun k => match k with
  | 0 => ("MessageCoder$State", "code", "LMessageCoder$Code;", true)
  | 1 => ("MessageCoder$State", "draft", "LMessageCoder$Text;", true)
  | 2 => ("MessageCoder$State", "queue", "LMessageCoder$Queue;", true)
  | 3 => ("MessageCoder$State", "frame", "LMessageCoder$Frame;", true)
  | 4 => ("MessageCoder$State", "received", "LMessageCoder$Text;", true)
  | 5 => ("MessageCoder$State", "sentCount", "I", false)
  | 6 => ("MessageCoder$State", "receivedCount", "I", false)
  | 7 => ("MessageCoder$State", "correctedCount", "I", false)
  | _ => ("MessageCoder$State", "failedCount", "I", false)
def xd_State : Nat → FieldType := fun k => match k with
  | 0 => .object "MessageCoder$Code"
  | 1 => .object "MessageCoder$Text"
  | 2 => .object "MessageCoder$Queue"
  | 3 => .object "MessageCoder$Frame"
  | 4 => .object "MessageCoder$Text"
  | 5 => .int
  | 6 => .int
  | 7 => .int
  | _ => .int
theorem xn_State : ∀ a, a < 9 → ∀ b, b < 9 → a ≠ b → (xt_State a).2.1 ≠ (xt_State b).2.1 := by decide +kernel
theorem xe_State : ∀ k, k < 9 → parseFieldDescriptor (xt_State k).2.2.1 = some (xd_State k) := by decide +kernel
def xr_Text : String := "MessageCoder$Text"
def xt_Text : u_T := fun k => match k with
  | 0 => ("MessageCoder$Text", "signs", "[C", true)
  | _ => ("MessageCoder$Text", "length", "I", false)
def xd_Text : Nat → FieldType := fun k => match k with
  | 0 => .array .char
  | _ => .int
theorem xn_Text : ∀ a, a < 2 → ∀ b, b < 2 → a ≠ b → (xt_Text a).2.1 ≠ (xt_Text b).2.1 := by decide +kernel
theorem xe_Text : ∀ k, k < 2 → parseFieldDescriptor (xt_Text k).2.2.1 = some (xd_Text k) := by decide +kernel
def xr_MessageCoder : String := "MessageCoder"
def xt_MessageCoder : u_T := fun k => match k with
  | 0 => ("MessageCoder", "state", "LMessageCoder$State;", true)
  | 1 => ("MessageCoder", "saved", "LMessageCoder$State;", true)
  | 2 => ("MessageCoder", "past", "[LMessageCoder$State;", true)
  | 3 => ("MessageCoder", "program", "LMessageCoder$Program;", true)
  | 4 => ("MessageCoder", "line", "LMessageCoder$Text;", true)
  | 5 => ("MessageCoder", "bits", "LMessageCoder$Bits;", true)
  | 6 => ("MessageCoder", "ranges", "LMessageCoder$Ranges;", true)
  | 7 => ("MessageCoder", "trial", "LMessageCoder$Text;", true)
  | 8 => ("MessageCoder", "commonRow", "[I", true)
  | 9 => ("MessageCoder", "isSaved", "Z", false)
  | 10 => ("MessageCoder", "pastPlace", "I", false)
  | 11 => ("MessageCoder", "undoable", "I", false)
  | 12 => ("MessageCoder", "errorPosition", "I", false)
  | _ => ("MessageCoder", "failedCommand", "I", false)
def xd_MessageCoder : Nat → FieldType := fun k => match k with
  | 0 => .object "MessageCoder$State"
  | 1 => .object "MessageCoder$State"
  | 2 => .array (.object "MessageCoder$State")
  | 3 => .object "MessageCoder$Program"
  | 4 => .object "MessageCoder$Text"
  | 5 => .object "MessageCoder$Bits"
  | 6 => .object "MessageCoder$Ranges"
  | 7 => .object "MessageCoder$Text"
  | 8 => .array .int
  | 9 => .boolean
  | 10 => .int
  | 11 => .int
  | 12 => .int
  | _ => .int
theorem xn_MessageCoder : ∀ a, a < 14 → ∀ b, b < 14 → a ≠ b → (xt_MessageCoder a).2.1 ≠ (xt_MessageCoder b).2.1 := by decide +kernel
theorem xe_MessageCoder : ∀ k, k < 14 → parseFieldDescriptor (xt_MessageCoder k).2.2.1 = some (xd_MessageCoder k) := by decide +kernel
def xr_StringBuilder : String := "java/lang/StringBuilder"
def xt_StringBuilder : u_T := fun k => match k with
  | 0 => ("java/lang/AbstractStringBuilder", "value", "[B", false)
  | 1 => ("java/lang/AbstractStringBuilder", "coder", "B", false)
  | 2 => ("java/lang/AbstractStringBuilder", "maybeLatin1", "Z", false)
  | _ => ("java/lang/AbstractStringBuilder", "count", "I", false)
def xd_StringBuilder : Nat → FieldType := fun k => match k with
  | 0 => .array .byte
  | 1 => .byte
  | 2 => .boolean
  | _ => .int
theorem xn_StringBuilder : ∀ a, a < 4 → ∀ b, b < 4 → a ≠ b → (xt_StringBuilder a).2.1 ≠ (xt_StringBuilder b).2.1 := by decide +kernel
theorem xe_StringBuilder : ∀ k, k < 4 → parseFieldDescriptor (xt_StringBuilder k).2.2.1 = some (xd_StringBuilder k) := by decide +kernel
def xr_String : String := "java/lang/String"
def xt_String : u_T := fun k => match k with
  | 0 => ("java/lang/String", "value", "[B", true)
  | 1 => ("java/lang/String", "coder", "B", true)
  | 2 => ("java/lang/String", "hash", "I", false)
  | _ => ("java/lang/String", "hashIsZero", "Z", false)
def xd_String : Nat → FieldType := fun k => match k with
  | 0 => .array .byte
  | 1 => .byte
  | 2 => .int
  | _ => .boolean
theorem xn_String : ∀ a, a < 4 → ∀ b, b < 4 → a ≠ b → (xt_String a).2.1 ≠ (xt_String b).2.1 := by decide +kernel
theorem xe_String : ∀ k, k < 4 → parseFieldDescriptor (xt_String k).2.2.1 = some (xd_String k) := by decide +kernel
abbrev xcl : List vw_C := [(xr_Bits, xt_Bits, 2), (xr_Code, xt_Code, 7), (xr_Frame, xt_Frame, 4), (xr_Message, xt_Message, 3), (xr_Program, xt_Program, 11), (xr_Queue, xt_Queue, 3), (xr_Ranges, xt_Ranges, 2), (xr_State, xt_State, 9), (xr_Text, xt_Text, 2), (xr_MessageCoder, xt_MessageCoder, 14), (xr_StringBuilder, xt_StringBuilder, 4), (xr_String, xt_String, 4)]
abbrev xty : Nat → FieldType := fun t => match t with
  | 0 => .int
  | 1 => .char
  | 2 => .byte
  | 3 => .object "java/lang/String"
  | 4 => .object "MessageCoder$State"
  | 5 => .object "MessageCoder$Message"
  | 6 => .object "MessageCoder$Command"
  | _ => .array .int
abbrev xE : Type := (Nat × List Value) ⊕ (Nat × Nat × (Nat → Value))
abbrev xF : Type := Nat → Option xE
abbrev xG : Type := (Nat → ClassId) × (Nat → Nat → Nat) × (Nat → ClassId)
/-- launch, ids, the old heap, its size, what is known of the start's tables -/
abbrev xP : Type := Launch × xG × Heap × Nat × (State → Prop)
/-- a method: name, bytes, locals, answer, depth -/
abbrev xY : Type := MethodName × ByteArray × Nat × Option FieldType × Nat
abbrev xT : Type := Program × Env × Room × State × MethodId × Array Value × List Frame × Method × Code × (State → Prop)
/-- private methods of AbstractStringBuilder, called over a StringBuilder -/
abbrev xt_prv : List MethodName := [⟨"java/lang/AbstractStringBuilder", "appendNull", "()Ljava/lang/AbstractStringBuilder;"⟩, ⟨"java/lang/AbstractStringBuilder", "ensureCapacityInternal", "(I)V"⟩, ⟨"java/lang/AbstractStringBuilder", "newCapacity", "(I)I"⟩, ⟨"java/lang/AbstractStringBuilder", "putStringAt", "(ILjava/lang/String;)V"⟩, ⟨"java/lang/AbstractStringBuilder", "inflateIfNeededFor", "(Ljava/lang/String;)V"⟩, ⟨"java/lang/AbstractStringBuilder", "inflate", "()V"⟩]
def xt_sels : List Cond := xt_prv.map fun y => Cond.selects "java/lang/StringBuilder" y y
abbrev x_tbl : List Cond := (xt_sels ++ lw_tbl).filter goodWord
theorem x_in {w : Cond} (h : w ∈ lw_tbl) (g : goodWord w = true) : w ∈ x_tbl := List.mem_filter.mpr ⟨List.mem_append_right _ h, g⟩
theorem x_inS {w : Cond} (h : w ∈ xt_sels) (g : goodWord w = true) : w ∈ x_tbl := List.mem_filter.mpr ⟨List.mem_append_left _ h, g⟩
theorem x_of {w : Cond} (h : w ∈ tables_1) : w ∈ lw_tbl := List.mem_append_right _ h
theorem xtb_1 {w : Cond} (h : w ∈ tables_1_1) : w ∈ tables_1 := by
  show w ∈ tables_1_1 ++ (tables_1_2 ++ (tables_1_3 ++ (tables_1_4 ++ (tables_1_5 ++ (tables_1_6 ++ tables_1_7)))))
  exact List.mem_append_left _ h
theorem xtb_2 {w : Cond} (h : w ∈ tables_1_2) : w ∈ tables_1 := by
  show w ∈ tables_1_1 ++ (tables_1_2 ++ (tables_1_3 ++ (tables_1_4 ++ (tables_1_5 ++ (tables_1_6 ++ tables_1_7)))))
  exact List.mem_append_right _ (List.mem_append_left _ h)
theorem xtb_3 {w : Cond} (h : w ∈ tables_1_3) : w ∈ tables_1 := by
  show w ∈ tables_1_1 ++ (tables_1_2 ++ (tables_1_3 ++ (tables_1_4 ++ (tables_1_5 ++ (tables_1_6 ++ tables_1_7)))))
  exact List.mem_append_right _ (List.mem_append_right _ (List.mem_append_left _ h))
theorem xtb_4 {w : Cond} (h : w ∈ tables_1_4) : w ∈ tables_1 := by
  show w ∈ tables_1_1 ++ (tables_1_2 ++ (tables_1_3 ++ (tables_1_4 ++ (tables_1_5 ++ (tables_1_6 ++ tables_1_7)))))
  exact List.mem_append_right _ (List.mem_append_right _ (List.mem_append_right _ (List.mem_append_left _ h)))
theorem xtb_5 {w : Cond} (h : w ∈ tables_1_5) : w ∈ tables_1 := by
  show w ∈ tables_1_1 ++ (tables_1_2 ++ (tables_1_3 ++ (tables_1_4 ++ (tables_1_5 ++ (tables_1_6 ++ tables_1_7)))))
  exact List.mem_append_right _ (List.mem_append_right _ (List.mem_append_right _ (List.mem_append_right _ (List.mem_append_left _ h))))
theorem xtb_6 {w : Cond} (h : w ∈ tables_1_6) : w ∈ tables_1 := by
  show w ∈ tables_1_1 ++ (tables_1_2 ++ (tables_1_3 ++ (tables_1_4 ++ (tables_1_5 ++ (tables_1_6 ++ tables_1_7)))))
  exact List.mem_append_right _ (List.mem_append_right _ (List.mem_append_right _ (List.mem_append_right _ (List.mem_append_right _ (List.mem_append_left _ h)))))
theorem xtb_7 {w : Cond} (h : w ∈ tables_1_7) : w ∈ tables_1 := by
  show w ∈ tables_1_1 ++ (tables_1_2 ++ (tables_1_3 ++ (tables_1_4 ++ (tables_1_5 ++ (tables_1_6 ++ tables_1_7)))))
  exact List.mem_append_right _ (List.mem_append_right _ (List.mem_append_right _ (List.mem_append_right _ (List.mem_append_right _ (List.mem_append_right _ (h))))))
def xat (G : xG) (a : Nat) (e : xE) (H : Heap) : Prop := match e with
  | .inl o => va_at (G.1, G.2.1) xcl (a, .inr o) H
  | .inr r => H[a]? = some (arrV (G.2.2 r.1) r.2.1 r.2.2)
theorem xat_kept {G : xG} {a : Nat} {e : xE} {H H1 : Heap} (h : xat G a e H) (hq : H1[a]? = H[a]?) : xat G a e H1 := by
  cases e with
  | inl o => exact va_at.kept (q := (a, .inr o)) h hq
  | inr r => exact hq.trans h
theorem xat_lt {G : xG} {a : Nat} {e : xE} {H : Heap} (h : xat G a e H) : a < H.size := by
  cases e with
  | inl o => exact va_at.lt (q := (a, .inr o)) h
  | inr r => exact (Array.getElem?_eq_some_iff.mp h).1
/-- the heap: of size z, below its old size as it was, above as F tells -/
def xW (P : xP) (F : xF) (z : Nat) (H : Heap) : Prop := H.size = z ∧ P.2.2.1.size = P.2.2.2.1 ∧ P.2.2.2.1 ≤ z ∧ (∀ q, q < P.2.2.2.1 → H[q]? = P.2.2.1[q]?) ∧ ∀ a e, F a = some e → P.2.2.2.1 ≤ a ∧ xat P.2.1 a e H
/-- words that a call's tables keep, though not by sight -/
def xnst (w : Cond) : Bool := match w with
  | .fieldLinkNest .. => true
  | .methodLinkNest .. => true
  | .castable .. => true
  | .declares .. => true
  | .arrayOver (.object _) => true
  | .arrayOver (.array _) => true
  | .stringRef .. => true
  | _ => false
abbrev x_nst : List Cond := tables_1.filter xnst
theorem x_inN {w : Cond} (h : w ∈ tables_1) (g : xnst w = true) : w ∈ x_nst := List.mem_filter.mpr ⟨h, g⟩
theorem xnst_warm {w : Cond} (hw : xnst w = true) {s U : State} (hW : s.WarmedH U.vm) (h : va_Nw w s) : va_Nw w U := by
  unfold xnst at hw
  split at hw
  · exact va_Nw.warmF hW h
  · exact va_Nw.warmM hW h
  · exact va_Nw.warmC hW h
  · exact va_Nw.warmD hW h
  · exact va_AO.moved hW.alike h
  · exact over_moved hW.alike h
  · have h9 := Cond.stringRef_warmed hW h
    unfold va_Nw
    simp only [Cond.before, Cond.holds, Cond.value, State.names, State.poolOf?, State.resolvedAt?] at h9 ⊢
    exact h9
  · cases hw
theorem xnst_same {w : Cond} (hw : xnst w = true) {s U : State} (hv : s.vm = U.vm) (h : va_Nw w s) : va_Nw w U := by
  unfold xnst at hw
  split at hw
  · exact va_Nw.same rfl hv h
  · exact va_Nw.same rfl hv h
  · exact va_Nw.same rfl hv h
  · exact va_Nw.same rfl hv h
  · exact va_AO.moved (by rw [hv]; exact Vm.Alike.refl _) h
  · exact over_moved (by rw [hv]; exact Vm.Alike.refl _) h
  · first
      | exact va_Nw.same rfl hv h
      | (unfold va_Nw at h ⊢; simp only [Cond.before, Cond.holds, Cond.value, State.names, State.poolOf?, State.resolvedAt?, hv] at h ⊢; exact h)
  · cases hw
def xK (P : xP) (U : State) : Prop := (∀ (c : Nat) (q : vw_C), xcl[c]? = some q → u_Kn U q.1 q.2.1 q.2.2 (P.2.1.1 c) (P.2.1.2.1 c)) ∧ (∀ t, t < 8 → ArrOfT U (P.2.1.2.2 t) (xty t) ∧ va_RA U (P.2.1.2.2 t) (xty t)) ∧ (∀ w ∈ x_nst, va_Nw w U) ∧ ∃ U0 : State, U0.vm.Alike U.vm ∧ P.2.2.2.2 U0
theorem xK_moved {P : xP} {u U : State} (hW : u.WarmedH U.vm) (h : xK P u) : xK P U := by
  have hvm := hW.alike
  refine ⟨fun c q hq => u_Kn_moved hvm (h.1 c q hq), fun t ht => ⟨arrOfT_moved hvm (h.2.1 t ht).1, (h.2.1 t ht).2.moved hvm⟩, fun w hw => xnst_warm (List.mem_filter.mp hw).2 hW (h.2.2.1 w hw), ?_⟩
  obtain ⟨U0, h1, h2⟩ := h.2.2.2
  exact ⟨U0, h1.trans hvm, h2⟩
theorem xK_same {P : xP} {u U : State} (hv : u.vm = U.vm) (h : xK P u) : xK P U := by
  have hvm : u.vm.Alike U.vm := by rw [hv]; exact Vm.Alike.refl _
  refine ⟨fun c q hq => u_Kn_moved hvm (h.1 c q hq), fun t ht => ⟨arrOfT_moved hvm (h.2.1 t ht).1, (h.2.1 t ht).2.moved hvm⟩, fun w hw => xnst_same (List.mem_filter.mp hw).2 hv (h.2.2.1 w hw), ?_⟩
  obtain ⟨U0, h1, h2⟩ := h.2.2.2
  exact ⟨U0, h1.trans hvm, h2⟩
def xup (F : xF) (a : Nat) (e : xE) : xF := fun b => if b = a then some e else F b
theorem xup_eq {F : xF} {a : Nat} {e : xE} : xup F a e a = some e := if_pos rfl
theorem xup_ne {F : xF} {a b : Nat} {e : xE} (h : b ≠ a) : xup F a e b = F b := if_neg h
theorem xW_up {P : xP} {F : xF} {z a : Nat} {e e0 : xE} {H H1 : Heap} (h : xW P F z H) (ha : F a = some e0) (z1 : H1.size = H.size) (oq : ∀ q : Nat, q ≠ a → H1[q]? = H[q]?) (he : xat P.2.1 a e H1) : xW P (xup F a e) z H1 := by
  obtain ⟨h1, h2, h3, h4, h5⟩ := h
  refine ⟨z1.trans h1, h2, h3, fun q hq => (oq q ?_).trans (h4 q hq), fun b e1 hb => ?_⟩
  · have := (h5 a e0 ha).1
    omega
  · by_cases hba : b = a
    · subst hba
      rw [xup_eq] at hb
      cases hb
      exact ⟨(h5 b e0 ha).1, he⟩
    · rw [xup_ne hba] at hb
      exact ⟨(h5 b e1 hb).1, xat_kept (h5 b e1 hb).2 (oq b hba)⟩
theorem xW_new {P : xP} {F : xF} {z : Nat} {e : xE} {H H1 : Heap} (h : xW P F z H) (z1 : H1.size = z + 1) (oq : ∀ q : Nat, q < z → H1[q]? = H[q]?) (he : xat P.2.1 z e H1) : xW P (xup F z e) (z + 1) H1 := by
  obtain ⟨h1, h2, h3, h4, h5⟩ := h
  refine ⟨z1, h2, by omega, fun q hq => (oq q (by omega)).trans (h4 q hq), fun b e1 hb => ?_⟩
  by_cases hba : b = z
  · subst hba
    rw [xup_eq] at hb
    cases hb
    exact ⟨h3, he⟩
  · rw [xup_ne hba] at hb
    have hl := xat_lt (h5 b e1 hb).2
    exact ⟨(h5 b e1 hb).1, xat_kept (h5 b e1 hb).2 (oq b (by omega))⟩
theorem xW_lt {P : xP} {F : xF} {z a : Nat} {e : xE} {H : Heap} (h : xW P F z H) (ha : F a = some e) : a < z := by
  have := xat_lt (h.2.2.2.2 a e ha).2
  rw [h.1] at this
  exact this
/-! locals -/
def xl (ls : Array Slot) (L : List (Option Value)) : Prop := ls.size = L.length ∧ lv_wf ls ∧ ∀ (i : Nat) (v : Value), L[i]? = some (some v) → ls[i]? = some (Slot.val v)
def xkill (L : List (Option Value)) (i : Nat) : List (Option Value) := match i with
  | 0 => L
  | j + 1 => match L[j]? with
    | some (some w) => if w.category = 2 then L.set j none else L
    | _ => L
def xset (L : List (Option Value)) (i : Nat) (v : Value) : List (Option Value) := (xkill L i).set i (some v)
def xset2 (L : List (Option Value)) (i : Nat) (v : Value) : List (Option Value) := ((xkill L i).set i (some v)).set (i + 1) none
theorem xkill_len (L : List (Option Value)) (i : Nat) : (xkill L i).length = L.length := by
  unfold xkill
  split
  · rfl
  · split
    · split <;> simp
    · rfl
theorem xkill_at {L : List (Option Value)} {i j : Nat} {v : Value} (h : (xkill L i)[j]? = some (some v)) : L[j]? = some (some v) ∧ ¬ (j + 1 = i ∧ v.category = 2) := by
  unfold xkill at h
  split at h
  · exact ⟨h, by omega⟩
  · rename_i k
    split at h
    · rename_i w hw
      split at h
      · rename_i hc
        by_cases hjk : j = k
        · subst hjk
          rw [List.getElem?_set] at h
          simp at h
        · rw [List.getElem?_set_ne (Ne.symm hjk)] at h
          exact ⟨h, by omega⟩
      · rename_i hc
        refine ⟨h, fun ⟨e1, e2⟩ => ?_⟩
        have : j = k := by omega
        subst this
        rw [hw] at h
        cases h
        exact hc e2
    · rename_i hno
      refine ⟨h, fun ⟨e1, e2⟩ => ?_⟩
      have : j = k := by omega
      subst this
      exact hno _ h
theorem xl_store {ls : Array Slot} {L : List (Option Value)} {i : Nat} {v : Value} (h : xl ls L) (hi : i < L.length) (hc : v.category = 1) : ∃ ls', storeLocals ls i v = some ls' ∧ xl ls' (xset L i v) := by
  have h0 : lv_has ls L.length [] := ⟨h.1, h.2.1, fun q hq => by cases hq⟩
  obtain ⟨ls', e, h'⟩ := lv_store1 h0 hi hc
  refine ⟨ls', e, by rw [h'.1]; simp [xset, xkill_len], h'.2.1, fun j w hj => ?_⟩
  unfold xset at hj
  by_cases hji : j = i
  · subst hji
    rw [List.getElem?_set_self (by rw [xkill_len]; exact hi)] at hj
    cases hj
    exact h'.2.2 (j, v) List.mem_cons_self
  · rw [List.getElem?_set_ne (Ne.symm hji)] at hj
    obtain ⟨hj1, hj2⟩ := xkill_at hj
    have h1 : lv_has ls L.length [(j, w)] := ⟨h.1, h.2.1, fun q hq => by rw [List.mem_singleton.mp hq]; exact h.2.2 j w hj1⟩
    obtain ⟨ls'', e', h''⟩ := lv_store1 h1 hi hc
    rw [e] at e'
    cases e'
    refine h''.2.2 (j, w) (List.mem_cons_of_mem _ (List.mem_filter.mpr ⟨List.mem_singleton.mpr rfl, ?_⟩))
    simp only [Bool.and_eq_true, Bool.not_eq_true', beq_eq_false_iff_ne, ne_eq, Bool.and_eq_false_iff]
    refine ⟨hji, ?_⟩
    by_cases e1 : j + 1 = i
    · exact Or.inr (fun e2 => hj2 ⟨e1, e2⟩)
    · exact Or.inl e1
theorem xl_store2 {ls : Array Slot} {L : List (Option Value)} {i : Nat} {v : Value} (h : xl ls L) (hi : i + 1 < L.length) (hc : v.category = 2) : ∃ ls', storeLocals ls i v = some ls' ∧ xl ls' (xset2 L i v) := by
  have h0 : lv_has ls L.length [] := ⟨h.1, h.2.1, fun q hq => by cases hq⟩
  obtain ⟨ls', e, h'⟩ := lv_store2 h0 hi hc
  refine ⟨ls', e, by rw [h'.1]; simp [xset2, xkill_len], h'.2.1, fun j w hj => ?_⟩
  unfold xset2 at hj
  by_cases hji1 : j = i + 1
  · subst hji1
    rw [List.getElem?_set] at hj
    simp at hj
  rw [List.getElem?_set_ne (Ne.symm hji1)] at hj
  by_cases hji : j = i
  · subst hji
    rw [List.getElem?_set_self (by rw [xkill_len]; omega)] at hj
    cases hj
    exact h'.2.2 (j, v) List.mem_cons_self
  · rw [List.getElem?_set_ne (Ne.symm hji)] at hj
    obtain ⟨hj1, hj2⟩ := xkill_at hj
    have h1 : lv_has ls L.length [(j, w)] := ⟨h.1, h.2.1, fun q hq => by rw [List.mem_singleton.mp hq]; exact h.2.2 j w hj1⟩
    obtain ⟨ls'', e', h''⟩ := lv_store2 h1 hi hc
    rw [e] at e'
    cases e'
    refine h''.2.2 (j, w) (List.mem_cons_of_mem _ (List.mem_filter.mpr ⟨List.mem_singleton.mpr rfl, ?_⟩))
    simp only [Bool.and_eq_true, Bool.not_eq_true', beq_eq_false_iff_ne, ne_eq, Bool.and_eq_false_iff]
    refine ⟨hji, hji1, ?_⟩
    by_cases e1 : j + 1 = i
    · exact Or.inr (fun e2 => hj2 ⟨e1, e2⟩)
    · exact Or.inl e1
/-! the judgement -/
def xX (P : xP) (Θ : xT) (pc : Nat) (L : List (Option Value)) (st : List Value) (F : xF) (z k n : Nat) : Prop :=
  ∀ (H : Heap) (locs : List Loc) (ls : Array Slot), xW P F z H → (∀ q ∈ locs, P.2.2.2.1 ≤ q.base) → xl ls L →
    W Θ.1 P.1 Θ.2.1 Θ.2.2.1 Θ.2.2.2.1 Θ.2.2.2.2.1 Θ.2.2.2.2.2.1 Θ.2.2.2.2.2.2.1 Θ.2.2.2.2.2.2.2.1 Θ.2.2.2.2.2.2.2.2.1 H locs k n Θ.2.2.2.2.2.2.2.2.2 (F0 Θ.2.2.2.2.1 pc ls st)
def xC (P : xP) (Θ : xT) (cc : ByteArray) (own : String) (nL d mc ms : Nat) : Prop :=
  Θ.1.tables.exec = Jvm.exec ∧ Θ.2.2.2.2.2.2.2.2.1.code = cc ∧ Θ.2.2.2.2.2.2.2.2.1.maxLocals = nL ∧ Θ.2.2.2.1.vm.findClass own = some Θ.2.2.2.2.1.cls ∧ (∀ w ∈ x_tbl, w.before Θ.2.2.2.2.2.1 Θ.2.2.2.1 = true) ∧ xK P Θ.2.2.2.1 ∧ Θ.2.2.1 = ({ frames := d, cells := mc, slots := ms, locals := 60 * d } : Room) ∧ Θ.2.2.2.2.2.2.2.1.locks = false
/-- a method's contract -/
def xM (P : xP) (Y : xY) (av : List Value) (F : xF) (z mc ms : Nat) (post : Option Value → xF → Nat → Prop) : Prop :=
  Met P.1 Y.1 (.code Y.1 Y.2.1 Y.2.2.1 Y.2.2.2.1 :: x_tbl) ({ frames := Y.2.2.2.2, cells := mc, slots := ms, locals := 60 * Y.2.2.2.2 } : Room)
    (va_Pc av (fun U => xW P F z U.heap ∧ xK P U)) (fun _ _ oc t => ∃ (r : Option Value) (F1 : xF) (z1 : Nat), oc = .returned r ∧ post r F1 z1 ∧ xW P F1 z1 t.heap) mc ms (fun q => P.2.2.2.1 ≤ q)
theorem xM_post {P : xP} {Y : xY} {av : List Value} {F : xF} {z mc ms : Nat} {post post' : Option Value → xF → Nat → Prop} (h : xM P Y av F z mc ms post) (hp : ∀ r F1 z1, post r F1 z1 → post' r F1 z1) : xM P Y av F z mc ms post' := by
  intro p e ha hc hk s m args below hf happ hP hT
  obtain ⟨k, o, g1, g2, g3, ⟨r, F1, z1, q1, q2, q3⟩, g5⟩ := h p e ha hc hk s m args below hf happ hP hT
  exact ⟨k, o, g1, g2, g3, ⟨r, F1, z1, q1, hp r F1 z1 q2, q3⟩, g5⟩
/-! how a body ends -/
def xRi (P : xP) (Θ : xT) (cc : ByteArray) (ty : FieldType) (mc ms : Nat) (post : Option Value → xF → Nat → Prop) : Prop :=
  ∀ (pc : Nat) (L : List (Option Value)) (F : xF) (z k n : Nat) (x : Int32), decode cc pc = .ok (.ireturn, 1) → k ≤ mc → n ≤ ms → narrow ty (.int x) = .int x → post (some (.int x)) F z → xX P Θ pc L [.int x] F z k n
def xRv (P : xP) (Θ : xT) (cc : ByteArray) (mc ms : Nat) (post : Option Value → xF → Nat → Prop) : Prop :=
  ∀ (pc : Nat) (L : List (Option Value)) (F : xF) (z k n : Nat), decode cc pc = .ok (.return_, 1) → k ≤ mc → n ≤ ms → post none F z → xX P Θ pc L [] F z k n
def xRa (P : xP) (Θ : xT) (cc : ByteArray) (mc ms : Nat) (post : Option Value → xF → Nat → Prop) : Prop :=
  ∀ (pc : Nat) (L : List (Option Value)) (F : xF) (z k n : Nat) (v : Value), decode cc pc = .ok (.areturn, 1) → k ≤ mc → n ≤ ms → (v = .null ∨ ∃ a, v = .ref a) → post (some v) F z → xX P Θ pc L [v] F z k n
def xso (s : Slot) : Option Value := match s with
  | .val v => some v
  | _ => none
def xL0 (av : List Value) (n : Nat) : List (Option Value) := (lg_sl av).map xso ++ List.replicate (n - (lg_sl av).length) none
theorem xl_entry (av : List Value) {n : Nat} (h : (lg_sl av).length ≤ n) : xl ((lg_sl av ++ List.replicate (n - (lg_sl av).length) Slot.unset).toArray) (xL0 av n) := by
  have h0 := lv_entry av h
  refine ⟨?_, h0.2.1, fun i v hi => ?_⟩
  · simp [xL0]
  · unfold xL0 at hi
    by_cases hl : i < (lg_sl av).length
    · rw [List.getElem?_append_left (by simpa using hl), List.getElem?_map] at hi
      rw [List.getElem?_toArray, List.getElem?_append_left hl]
      cases hs : (lg_sl av)[i]? with
      | none => rw [hs] at hi; cases hi
      | some s =>
        rw [hs] at hi
        cases s with
        | val w => cases hi; rfl
        | _ => cases hi
    · rw [List.getElem?_append_right (by simpa using hl)] at hi
      have := List.eq_of_mem_replicate (List.mem_of_getElem? hi)
      cases this
theorem xM_body {P : xP} {Y : xY} {av : List Value} {F : xF} {z mc ms : Nat} {post : Option Value → xF → Nat → Prop} (hy : plainFor Y.1 = true) (hlen : (lg_sl av).length ≤ Y.2.2.1) {L0 : List (Option Value)} (hL : xL0 av Y.2.2.1 = L0)
    (body : ∀ Θ : xT, xC P Θ Y.2.1 Y.1.cls Y.2.2.1 Y.2.2.2.2 mc ms → Θ.2.2.2.2.2.2.2.1.name = Y.1.name → Θ.2.2.2.2.2.2.2.1.sig.returnType = Y.2.2.2.1 →
      Θ.2.2.2.2.2.2.2.2.2 = MQ Θ.2.2.2.2.2.2.1 (fun _ _ oc t => ∃ (r : Option Value) (F1 : xF) (z1 : Nat), oc = .returned r ∧ post r F1 z1 ∧ xW P F1 z1 t.heap) Θ.2.2.2.2.2.1 Θ.2.2.2.1 mc ms (fun q => P.2.2.2.1 ≤ q) → xX P Θ 0 L0 [] F z 0 0) : xM P Y av F z mc ms post := by
  unfold xM
  refine va_MetF (cc := Y.2.1) (maxL := Y.2.2.1) (ret := Y.2.2.2.1) hy rfl ?_
  intro p e s m args below meth c s₁ B hml hv
  obtain ⟨rfl, hW, hK⟩ := hv
  have hts := atoms_spec (ws := .code Y.1 Y.2.1 Y.2.2.1 Y.2.2.2.1 :: x_tbl) B.pre
  have key := body (p, e, _, s, m, av.toArray, below, meth, c, MQ below (fun _ _ oc t => ∃ (r : Option Value) (F1 : xF) (z1 : Nat), oc = .returned r ∧ post r F1 z1 ∧ xW P F1 z1 t.heap) av.toArray s mc ms (fun q => P.2.2.2.1 ≤ q)) ⟨B.exec, B.bytes, hml, findClass_of_methodNamed B.named, fun w hw => hts w (List.mem_cons_of_mem _ hw), hK, rfl, B.notSynchronized⟩ (name_of_methodNamed B.named B.method).1 B.returns rfl
  rw [lg_entry_eq]
  have hx := xl_entry av hlen
  rw [hL] at hx
  exact key s.heap [] _ hW (fun q hq => by cases hq) hx
theorem xM_i {P : xP} {Y : xY} {av : List Value} {F : xF} {z mc ms : Nat} {post : Option Value → xF → Nat → Prop} (ty : FieldType) (hy : plainFor Y.1 = true) (hlen : (lg_sl av).length ≤ Y.2.2.1) {L0 : List (Option Value)} (hL : xL0 av Y.2.2.1 = L0) (hr : Y.2.2.2.1 = some ty)
    (body : ∀ Θ : xT, xC P Θ Y.2.1 Y.1.cls Y.2.2.1 Y.2.2.2.2 mc ms → xRi P Θ Y.2.1 ty mc ms post → xX P Θ 0 L0 [] F z 0 0) : xM P Y av F z mc ms post := by
  refine xM_body hy hlen hL fun Θ hC hnm hrt hQ => body Θ hC ?_
  obtain ⟨p, e, R, s, m, args, below, meth, c, Q⟩ := Θ
  intro pc L F1 z1 k n x hd hk hn hnar hp H locs ls hW hl hx
  dsimp only at hQ hrt ⊢
  subst hQ
  refine W.widen hk hn ?_
  exact W.zret hC.1 hC.2.1 (hrt.trans hr) hnar (fun t ht hWm => ⟨some (.int x), F1, z1, rfl, hp, by rw [ht]; exact hW⟩) hl hd hC.2.2.2.2.2.2.2
theorem xM_v {P : xP} {Y : xY} {av : List Value} {F : xF} {z mc ms : Nat} {post : Option Value → xF → Nat → Prop} (hy : plainFor Y.1 = true) (hlen : (lg_sl av).length ≤ Y.2.2.1) {L0 : List (Option Value)} (hL : xL0 av Y.2.2.1 = L0) (hr : Y.2.2.2.1 = none)
    (body : ∀ Θ : xT, xC P Θ Y.2.1 Y.1.cls Y.2.2.1 Y.2.2.2.2 mc ms → Θ.2.2.2.2.2.2.2.1.name = Y.1.name → xRv P Θ Y.2.1 mc ms post → xX P Θ 0 L0 [] F z 0 0) : xM P Y av F z mc ms post := by
  refine xM_body hy hlen hL fun Θ hC hnm hrt hQ => body Θ hC hnm ?_
  obtain ⟨p, e, R, s, m, args, below, meth, c, Q⟩ := Θ
  intro pc L F1 z1 k n hd hk hn hp H locs ls hW hl hx
  dsimp only at hQ hrt ⊢
  subst hQ
  refine W.widen hk hn ?_
  exact W.vret hC.1 hC.2.1 (hrt.trans hr) (fun t ht hWm => ⟨none, F1, z1, rfl, hp, by rw [ht]; exact hW⟩) hl hd hC.2.2.2.2.2.2.2
theorem xM_a {P : xP} {Y : xY} {av : List Value} {F : xF} {z mc ms : Nat} {post : Option Value → xF → Nat → Prop} {rt : FieldType} (hy : plainFor Y.1 = true) (hlen : (lg_sl av).length ≤ Y.2.2.1) {L0 : List (Option Value)} (hL : xL0 av Y.2.2.1 = L0) (hr : Y.2.2.2.1 = some rt) (hra : (∃ n, rt = .object n) ∨ ∃ t, rt = .array t)
    (body : ∀ Θ : xT, xC P Θ Y.2.1 Y.1.cls Y.2.2.1 Y.2.2.2.2 mc ms → xRa P Θ Y.2.1 mc ms post → xX P Θ 0 L0 [] F z 0 0) : xM P Y av F z mc ms post := by
  refine xM_body hy hlen hL fun Θ hC hnm hrt hQ => body Θ hC ?_
  obtain ⟨p, e, R, s, m, args, below, meth, c, Q⟩ := Θ
  intro pc L F1 z1 k n v hd hk hn hv hp H locs ls hW hl hx
  dsimp only at hQ hrt ⊢
  subst hQ
  refine W.widen hk hn ?_
  exact W.aret hC.1 hC.2.1 (hrt.trans hr) hra hv (fun t ht hWm => ⟨some v, F1, z1, rfl, hp, by rw [ht]; exact hW⟩) hl hd hC.2.2.2.2.2.2.2

