/-! THE WORLD of a launch: classes, array classes, where the system's cells begin, the script, the texts -/
abbrev zG : Type := va_G × (Nat → ClassId) × Nat × Nat × Nat × (Nat → Int32) × (Nat → Nat) × (Nat → Nat)
def zgD (G : zG) : va_G := G.1
def zgC (G : zG) : Nat → ClassId := G.2.1
def zgb (G : zG) : Nat := G.2.2.1
def zgs (G : zG) : Nat := G.2.2.2.1
def zgL (G : zG) : Nat := G.2.2.2.2.1
def zgx (G : zG) : Nat → Int32 := G.2.2.2.2.2.1
def zga (G : zG) : Nat → Nat := G.2.2.2.2.2.2.1
def zgv (G : zG) : Nat → Nat := G.2.2.2.2.2.2.2
def zgA (G : zG) : Nat → Prop := fun q => zgb G ≤ q
def ztyp (ci : Nat) : Nat → FieldType := match ci with
  | 0 => tyX0
  | 1 => tyX1
  | 2 => tyX2
  | 3 => tyX3
  | 4 => tyX5
  | 5 => tyX6
  | 6 => tyX7
  | 7 => tyX8
  | 8 => tyX9
  | 9 => tyX10
  | _ => tyX11
def znf (ci : Nat) : Nat := match ci with
  | 0 => 9
  | 1 => 6
  | 2 => 5
  | 3 => 3
  | 4 => 5
  | 5 => 14
  | 6 => 11
  | 7 => 7
  | 8 => 9
  | 9 => 8
  | _ => 60
/-- the own class' number of the class c of vwCl -/
def zco (ci : Nat) : Nat := match ci with
  | 0 => 0
  | 1 => 1
  | 2 => 2
  | 3 => 3
  | 4 => 5
  | 5 => 6
  | 6 => 7
  | 7 => 8
  | 8 => 9
  | 9 => 10
  | _ => 11
def ztg : FieldType → Nat
  | .long => 1
  | .object _ => 2
  | .array _ => 2
  | _ => 0
def zfv (h : zH) (a t f : Nat) : Value := match t with
  | 1 => .long (zL h a f)
  | 2 => va_rf (zP h a f)
  | _ => .int (zI h a f)
theorem zfv_0 (h : zH) (a f : Nat) : zfv h a 0 f = .int (zI h a f) := id rfl
theorem zfv_1 (h : zH) (a f : Nat) : zfv h a 1 f = .long (zL h a f) := id rfl
theorem zfv_2 (h : zH) (a f : Nat) : zfv h a 2 f = va_rf (zP h a f) := id rfl
theorem zfv_3 (h : zH) (a f : Nat) : zfv h a 3 f = .int (zI h a f) := id rfl
def zV (h : zH) (a ci k : Nat) : Value := zfv h a (ztg (ztyp ci k)) (100 * ci + k)
def zaty (k : Nat) : FieldType := match k with
  | 100 => .int
  | 101 => .boolean
  | 102 => .byte
  | 103 => .long
  | 104 => .array .int
  | 105 => .object RX9
  | 106 => .object RX6
  | _ => .object RX3
def ztys (G : zG) : List (ClassId × FieldType) := (List.range 8).map fun i => (zgC G (100 + i), zaty (100 + i))
def zel (G : zG) (h : zH) (a : Nat) : va_E :=
  if zK h a < 100 then .inr (zK h a - 1, (List.range (znf (zK h a - 1))).map (zV h a (zK h a - 1)))
  else .inl (zgC G (zK h a), zN h a, if zK h a < 103 then .inl (zA h a) else if zK h a = 103 then .inr (.inl (zB h a)) else .inr (.inr (.inr (.inr (zR h a)))))
def zstr (t : Nat) : String := ["m", "out", "while", "if", "else"].getD t ""
def zbyt : List (List Int32) := [[109], [111, 117, 116], [119, 104, 105, 108, 101], [105, 102], [101, 108, 115, 101]]
def zlen : List Nat := [1, 3, 5, 2, 4]
/-- a text's length, its chars -/
def ztl (t : Nat) : Nat := zlen.getD t 0
def ztc (t i : Nat) : Int32 := (zbyt.getD t []).getD i 0
def zat (G : zG) (h : zH) (H : Heap) (a : Nat) : Prop :=
  (0 < zK h a → zK h a < 200 → zgb G ≤ a ∧ va_at (zgD G) vwCl (a, zel G h a) H) ∧
  (zK h a = 200 → a = zgs G ∧ zN h a = zgL G ∧ ∀ j, zA h a j = zgx G j) ∧
  (300 ≤ zK h a → ∃ t, t < 5 ∧ a = zga G t ∧ zK h a = 300 + t)
def znest (w : Cond) : Bool := match w with
  | .methodLinkNest .. => true
  | .fieldLinkNest .. => true
  | _ => false
def zok (w : Cond) : Bool := w.onTables && (w.keeps || w.keepsFace || znest w)
def zWt (G : zG) (U : State) : Prop := va_K (zgD G) vwCl (ztys G) U ∧ (∀ w ∈ lw_tbl, zok w = true → va_Nw w U) ∧
  (∀ ty ∈ ([.int, .boolean, .byte, .long] : List FieldType), (Cond.arrayClass ty).before #[] U = true) ∧ va_AO RX9 U ∧ va_AO RX6 U ∧ va_AO RX3 U ∧ va_AOA .int U
def zTx (G : zG) (U : State) (H : Heap) : Prop := (∀ o n t : Nat, zls o n = some t → vk_R (zRn o) n (zstr t) (zga G t) U) ∧ vk_S 5 zlen zbyt (zga G) (zgv G) (zgA G) U H ∧ va_Z "java/lang/String" "COMPACT_STRINGS" "Z" (.int 1) (zgA G) U H ∧ va_Zq "jdk/internal/util/Preconditions" "SIOOBE_FORMATTER" "Ljava/util/function/BiFunction;" (zgA G) U H
def zWh (G : zG) (U : State) (H : Heap) : Prop := zgb G ≤ H.size ∧ zTx G U H ∧ vx_Zq Bundle.tN "UNASSIGNED_STACK" Bundle.steD (zgA G) U H ∧ vx_Zq Bundle.tN "SUPPRESSED_SENTINEL" Bundle.listD (zgA G) U H ∧ zgs G < zgb G ∧ va_X (zgs G) (zgL G) (zgx G) U H
abbrev zRq (G : zG) (h : zH) (H : Heap) : Prop := (∀ a, zat G h H a) ∧ (∀ n, zS h = some n → H.size = n) ∧ (∀ t, t < 5 → zK h (zga G t) = 300 + t)
def zRp (G : zG) (h : zH) (U : State) (H : Heap) : Prop := zWt G U ∧ zWh G U H ∧ zRq G h H
def zPc (G : zG) (as : List Value) (h : zH) : Array Value → State → Prop := va_Pc as (fun U => zRp G h U U.heap)
def zQc (G : zG) (Q : zO → zH → Prop) : Array Value → State → Outcome → State → Prop := fun _ st oc t => (∃ (v : Option Value) (h' : zH), oc = .returned v ∧ Q (.inl v) h' ∧ zRq G h' t.heap) ∧ va_F (zgA G) st t
def zXC (G : zG) (Q : zO → zH → Prop) : String → State → State → Prop := fun E st t => (∃ h' : zH, Q (.inr E) h' ∧ zRq G h' t.heap) ∧ va_F (zgA G) st t
def zRm (d mc ms : Nat) : Room := { frames := d, cells := mc, slots := ms, locals := 31 * d }
def zWs (y : zM) : List Cond := [.code y.1 y.2.1 y.2.2.1 y.2.2.2.1]
/-- a call of y with these arguments over this heap, at most d frames deep, comes to an end, and Q holds there -/
def zCall (l : Launch) (G : zG) (y : zM) (d : Nat) (as : List Value) (h : zH) (Q : zO → zH → Prop) : Prop :=
  l.stackTraces = false → ∃ d', d' ≤ d ∧ vx_Met l y.1 (zWs y) (zRm d' y.2.2.2.2.1 y.2.2.2.2.2) (zPc G as h) (zQc G Q) (zXC G Q) y.2.2.2.2.1 y.2.2.2.2.2 (zgA G)
