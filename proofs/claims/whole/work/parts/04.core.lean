/-! the memory of the whole system: cells 1 .. n, each of a kind and a length; numbers, longs and references by cell and place -/
abbrev hz_M : Type := (Nat → Nat → Int32) × (Nat → Nat → Int64) × (Nat → Nat → Nat)
abbrev hz_T : Type := Nat → Nat × Nat
abbrev hz_D : Type := va_G × (Nat → ClassId) × (Nat → Nat) × Nat
def hz_up {α : Type} (f : Nat → Nat → α) (a k : Nat) (x : α) : Nat → Nat → α := fun b => if b = a then va_up (f b) k x else f b
def hz_op (ad : Nat → Nat) (p : Nat) : Option Nat := if p = 0 then none else some (ad p)
def hz_rf (ad : Nat → Nat) (p : Nat) : Value := va_rf (hz_op ad p)
def hz_tr (ad : Nat → Nat) : Value → Value
  | .ref p => .ref (ad p)
  | v => v
def hz_ty (c k : Nat) : FieldType := match c with
  | 2 => tyX2 k
  | 3 => tyX3 k
  | 7 => tyX7 k
  | 8 => tyX8 k
  | 10 => tyX10 k
  | 11 => tyX11 k
  | _ => .int
/-- what a field holds: by its type -/
def hz_fv (ad : Nat → Nat) (M : hz_M) (ty : FieldType) (a k : Nat) : Value := match ty with
  | .long => .long (M.2.1 a k)
  | .object _ => hz_rf ad (M.2.2 a k)
  | .array _ => hz_rf ad (M.2.2 a k)
  | _ => .int (M.1 a k)
def hz_nf (c : Nat) : Nat := match vwCl[c]? with
  | some r => r.2.2
  | none => 0
def hz_fs (ad : Nat → Nat) (M : hz_M) (c a : Nat) : List Value := (List.range (hz_nf c)).map (fun k => hz_fv ad M (hz_ty c k) a k)
def hz_E (D : hz_D) (T : hz_T) (M : hz_M) (a : Nat) : va_E :=
  if (T a).1 < 12 then .inr ((T a).1, hz_fs D.2.2.1 M (T a).1 a)
  else if (T a).1 < 15 then .inl (D.2.1 (T a).1, (T a).2, .inl (M.1 a))
  else .inl (D.2.1 (T a).1, (T a).2, .inr (.inr (.inr (.inr (fun j => hz_op D.2.2.1 (M.2.2 a j))))))
def hz_W (D : hz_D) (T : hz_T) (n : Nat) (M : hz_M) : va_W := (List.range n).map fun i => (D.2.2.1 (i + 1), hz_E D T M (i + 1))
/-- the system's own cells: from the base on -/
def hz_A (D : hz_D) : Nat → Prop := fun q => D.2.2.2 ≤ q
def hz_tys (D : hz_D) : List (ClassId × FieldType) := [(D.2.1 12, .char), (D.2.1 13, .int), (D.2.1 14, .boolean), (D.2.1 15, .object RX2), (D.2.1 16, .object RX3), (D.2.1 17, .object RX6)]
def hz_tbl : List Cond := lw_tbl.filter goodWord
def hz_isN : Cond → Bool
  | .methodLinkNest .. => true
  | .fieldLinkNest .. => true
  | .castable .. => true
  | .arrayOver (.object _) => true
  | _ => false
def hz_nst : List Cond := lw_tbl.filter hz_isN
/-- the world as a state has it: the cells, their kinds, how many -/
def hz_R (D : hz_D) (T : hz_T) (n : Nat) (M : hz_M) (H : Heap) : Prop := va_P D.1 vwCl (hz_W D T n M) H ∧ va_D (hz_A D) (hz_W D T n M) ∧ H.size = D.2.2.2 + n
/-- what lies outside: the table of seconds; the words' texts -/
def hz_tell : Nat → Value := fun j => if j = 0 then .int 0 else if j = 1 then .int 7 else .int 20
def hz_wl : List Nat := [5, 4, 5, 4]
def hz_wb : List (List Int32) := [[104, 111, 117, 115, 101], [100, 111, 111, 114], [97, 108, 97, 114, 109], [100, 111, 119, 110]]
/-- the four words' texts: 1001 .. 1004, their bytes 1005 .. 1008 -/
def hz_str (D : hz_D) (U : State) (H : Heap) : Prop := vk_S 4 hz_wl hz_wb (fun i => D.2.2.1 (1001 + i)) (fun i => D.2.2.1 (1005 + i)) (hz_A D) U H ∧ va_Z "java/lang/String" "COMPACT_STRINGS" "Z" (.int 1) (hz_A D) U H ∧ (va_Z "jdk/internal/util/Preconditions" "SIOOBE_FORMATTER" "Ljava/util/function/BiFunction;" .null (hz_A D) U H ∨ va_Z "jdk/internal/util/Preconditions" "SIOOBE_FORMATTER" "Ljava/util/function/BiFunction;" (.ref (D.2.2.1 1009)) (hz_A D) U H) ∧ vk_R RX8 35 "house" (D.2.2.1 1001) U ∧ vk_R RX8 45 "door" (D.2.2.1 1002) U ∧ vk_R RX8 50 "alarm" (D.2.2.1 1003) U ∧ vk_R RX8 60 "down" (D.2.2.1 1004) U
def hz_ext (D : hz_D) (U : State) (H : Heap) : Prop := va_Z RX10 "TELLING_SECONDS" "[I" (.ref (D.2.2.1 1000)) (hz_A D) U H ∧ va_T .int (D.2.2.1 1000) 3 hz_tell (hz_A D) U H ∧ hz_str D U H
def hz_K (D : hz_D) (U : State) : Prop := va_K D.1 vwCl (hz_tys D) U ∧ ∀ w ∈ hz_nst, va_Nw w U
/-- locals: places with a value, or none that is known -/
def hz_L (ad : Nat → Nat) (ls : List (Option Value)) (lsA : Array Slot) : Prop := lsA.size = ls.length ∧ lv_wf lsA ∧ ∀ (i : Nat) (v : Value), ls[i]? = some (some v) → lsA[i]? = some (.val (hz_tr ad v))
abbrev hz_X : Type := Program × Launch × Env × Room × State × MethodId × Array Value × List Frame × Method × Code × hz_D × (State → Prop)
/-- THE JUDGEMENT: from this place of the method, with these locals, this stack and this memory, the machine comes to its goal -/
def hz_G (X : hz_X) (T : hz_T) (n : Nat) (M : hz_M) (kc ks pc : Nat) (ls : List (Option Value)) (st : List Value) : Prop := match X with
  | (p, l, e, R, s, m, args, below, meth, c, D, Q) => ∀ (H : Heap) (locs : List Loc), hz_R D T n M H → va_S (hz_A D) s.heap H locs → ∀ lsA : Array Slot, hz_L D.2.2.1 ls lsA → W p l e R s m args below meth c H locs kc ks Q (F0 m pc lsA (st.map (hz_tr D.2.2.1)))
/-- a method: its name, code, locals, answer's type, and how many frames it opens below it -/
abbrev hz_Y : Type := MethodName × ByteArray × Nat × Option FieldType × Nat
def hz_rm (d mc ms : Nat) : Room := { frames := d, cells := mc, slots := ms, locals := 38 * d }
def hz_ws (y : hz_Y) : List Cond := .code y.1 y.2.1 y.2.2.1 y.2.2.2.1 :: hz_tbl
/-- what holds all through a method's body -/
def hz_C (X : hz_X) (y : hz_Y) : Prop := match X with
  | (p, _, _, R, s, m, args, _, meth, c, D, _) => p.tables.exec = Jvm.exec ∧ c.code = y.2.1 ∧ c.maxLocals = y.2.2.1 ∧ s.vm.findClass y.1.cls = some m.cls ∧ (∀ w ∈ hz_tbl, w.before args s = true) ∧ hz_K D s ∧ hz_ext D s s.heap ∧ y.2.2.2.2 ≤ R.frames ∧ 38 * y.2.2.2.2 ≤ R.locals ∧ meth.sig.returnType = y.2.2.2.1 ∧ meth.locks = false ∧ (y.1.name = "<init>" → meth.name = "<init>") ∧ D.2.2.2 ≤ s.heap.size
def hz_Pc (D : hz_D) (T : hz_T) (n : Nat) (M : hz_M) (as : List Value) : Array Value → State → Prop := va_Pc (as.map (hz_tr D.2.2.1)) (fun U => hz_R D T n M U.heap ∧ hz_K D U ∧ hz_ext D U U.heap)
def hz_Qc (D : hz_D) (T : hz_T) (n : Nat) (M : hz_M) (r : Option Value) : Array Value → State → Outcome → State → Prop := fun _ st o t => o = .returned (r.map (hz_tr D.2.2.1)) ∧ hz_R D T n M t.heap ∧ va_F (hz_A D) st t
/-- a CONTRACT: called with these arguments over this memory the method answers r and leaves that memory, having made mc cells of ms places -/
def hz_Ev (y : hz_Y) (T : hz_T) (n : Nat) (M : hz_M) (as : List Value) (mc ms : Nat) (r : Option Value) (T' : hz_T) (n' : Nat) (M' : hz_M) : Prop := ∀ (l : Launch) (D : hz_D), (∀ a, n < a → a ≤ n' → D.2.2.1 a + 1 = D.2.2.2 + a) → Met l y.1 (hz_ws y) (hz_rm y.2.2.2.2 mc ms) (hz_Pc D T n M as) (hz_Qc D T' n' M' r) mc ms (hz_A D)
/-- where a body must come to -/
def hz_Z (X : hz_X) (mc ms : Nat) (r : Option Value) (T : hz_T) (n : Nat) (M : hz_M) : Prop := match X with
  | (_, _, _, R, s, _, args, below, _, _, D, Q) => Q = MQ below (hz_Qc D T n M r) args s mc ms (hz_A D) ∧ R.cells = mc ∧ R.slots = ms
def hz_en (as : List Value) (nL : Nat) : List (Option Value) := (as.flatMap fun v => if v.category = 2 then [some v, none] else [some v]) ++ List.replicate (nL - (as.flatMap fun v => if v.category = 2 then [some v, none] else [some v]).length) none
