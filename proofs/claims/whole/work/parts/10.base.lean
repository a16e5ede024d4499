def s_nm : Nat → String := fun k => match k with
  | 0 => "DISTANCES_256"
  | 1 => "DISTANCES_512"
  | 2 => "START_256"
  | 3 => "START_224"
  | 4 => "START_512"
  | 5 => "START_384"
  | 6 => "START_512_224"
  | 7 => "START_512_256"
  | 8 => "CUBE_ROOTS"
  | 9 => "ROUND_CONSTANTS"
  | 10 => "LANE_TURNS"
  | _ => "LANE_TARGETS"
def s_ds : Nat → String := fun k => match k with
  | 0 => "[I"
  | 1 => "[I"
  | 2 => "[J"
  | 3 => "[J"
  | 4 => "[J"
  | 5 => "[J"
  | 6 => "[J"
  | 7 => "[J"
  | 8 => "[J"
  | 9 => "[J"
  | 10 => "[I"
  | _ => "[I"
def s_ty : Nat → FieldType := fun k => match k with
  | 0 => .int
  | 1 => .int
  | 2 => .long
  | 3 => .long
  | 4 => .long
  | 5 => .long
  | 6 => .long
  | 7 => .long
  | 8 => .long
  | 9 => .long
  | 10 => .int
  | _ => .int
def s_N : Nat → Nat := fun k => match k with
  | 0 => 12
  | 1 => 12
  | 2 => 8
  | 3 => 8
  | 4 => 8
  | 5 => 8
  | 6 => 8
  | 7 => 8
  | 8 => 80
  | 9 => 24
  | 10 => 25
  | _ => 25
def sv_0 : List Int32 := [2, 13, 22, 6, 11, 25, 7, 18, 3, 17, 19, 10]
def sv_1 : List Int32 := [28, 34, 39, 14, 18, 41, 1, 8, 7, 19, 61, 6]
def sv_2 : List Int64 := [1779033703, 3144134277, 1013904242, 2773480762, 1359893119, 2600822924, 528734635, 1541459225]
def sv_3 : List Int64 := [3238371032, 914150663, 812702999, 4144912697, 4290775857, 1750603025, 1694076839, 3204075428]
def sv_4 : List Int64 := [7640891576956012808, (-4942790177534073029), 4354685564936845355, (-6534734903238641935), 5840696475078001361, (-7276294671716946913), 2270897969802886507, 6620516959819538809]
def sv_5 : List Int64 := [(-3766243637369397544), 7105036623409894663, (-7973340178411365097), 1526699215303891257, 7436329637833083697, (-8163818279084223215), (-2662702644619276377), 5167115440072839076]
def sv_6 : List Int64 := [(-8341449602262348382), 8350123849800275158, 2160240930085379202, 7466358040605728719, 1111592415079452072, 8638871050018654530, 4583966954114332360, 1230299281376055969]
def sv_7 : List Int64 := [2463787394917988140, (-6965556091613846334), 2563595384472711505, (-7622211418569250115), (-7626776825740460061), (-4729309413028513390), 3098927326965381290, 1060366662362279074]
def sv_8 : List Int64 := [4794697086780616226, 8158064640168781261, (-5349999486874862801), (-1606136188198331460), 4131703408338449720, 6480981068601479193, (-7908458776815382629), (-6116909921290321640), (-2880145864133508542), 1334009975649890238, 2608012711638119052, 6128411473006802146, 8268148722764581231, (-9160688886553864527), (-7215885187991268811), (-4495734319001033068), (-1973867731355612462), (-1171420211273849373), 1135362057144423861, 2597628984639134821, 3308224258029322869, 5365058923640841347, 6679025012923562964, 8573033837759648693, (-7476448914759557205), (-6327057829258317296), (-5763719355590565569), (-4658551843659510044), (-4116276920077217854), (-3051310485924567259), 489312712824947311, 1452737877330783856, 2861767655752347644, 3322285676063803686, 5560940570517711597, 5996557281743188959, 7280758554555802590, 8532644243296465576, (-9096487096722542874), (-7894198246740708037), (-6719396339535248540), (-6333637450476146687), (-4446306890439682159), (-4076793802049405392), (-3345356375505022440), (-2983346525034927856), (-860691631967231958), 1182934255886127544, 1847814050463011016, 2177327727835720531, 2830643537854262169, 3796741975233480872, 4115178125766777443, 5681478168544905931, 6601373596472566643, 7507060721942968483, 8399075790359081724, 8693463985226723168, (-8878714635349349518), (-8302665154208450068), (-8016688836872298968), (-6606660893046293015), (-4685533653050689259), (-4147400797238176981), (-3880063495543823972), (-3348786107499101689), (-1523767162380948706), (-757361751448694408), 500013540394364858, 748580250866718886, 1242879168328830382, 1977374033974150939, 2944078676154940804, 3659926193048069267, 4368137639120453308, 4836135668995329356, 5532061633213252278, 6448918945643986474, 6902733635092675308, 7801388544844847127]
def sv_9 : List Int64 := [1, 32898, (-9223372036854742902), (-9223372034707259392), 32907, 2147483649, (-9223372034707259263), (-9223372036854743031), 138, 136, 2147516425, 2147483658, 2147516555, (-9223372036854775669), (-9223372036854742903), (-9223372036854743037), (-9223372036854743038), (-9223372036854775680), 32778, (-9223372034707292150), (-9223372034707259263), (-9223372036854742912), 2147483649, (-9223372034707259384)]
def sv_10 : List Int32 := [0, 1, 62, 28, 27, 36, 44, 6, 55, 20, 3, 10, 43, 25, 39, 41, 45, 15, 21, 8, 18, 2, 61, 56, 14]
def sv_11 : List Int32 := [0, 10, 20, 5, 15, 16, 1, 11, 21, 6, 7, 17, 2, 12, 22, 23, 8, 18, 3, 13, 14, 24, 9, 19, 4]
def s_l : Nat → Nat → Int64 := fun k => match k with
  | 0 => fun _ => 0
  | 1 => fun _ => 0
  | 2 => fun j => sv_2.getD j 0
  | 3 => fun j => sv_3.getD j 0
  | 4 => fun j => sv_4.getD j 0
  | 5 => fun j => sv_5.getD j 0
  | 6 => fun j => sv_6.getD j 0
  | 7 => fun j => sv_7.getD j 0
  | 8 => fun j => sv_8.getD j 0
  | 9 => fun j => sv_9.getD j 0
  | 10 => fun _ => 0
  | _ => fun _ => 0
def s_i : Nat → Nat → Int32 := fun k => match k with
  | 0 => fun j => sv_0.getD j 0
  | 1 => fun j => sv_1.getD j 0
  | 2 => fun _ => 0
  | 3 => fun _ => 0
  | 4 => fun _ => 0
  | 5 => fun _ => 0
  | 6 => fun _ => 0
  | 7 => fun _ => 0
  | 8 => fun _ => 0
  | 9 => fun _ => 0
  | 10 => fun j => sv_10.getD j 0
  | _ => fun j => sv_11.getD j 0
def s_f (k : Nat) : Nat → Value := fun j => match s_ty k with
  | .int => .int (s_i k j)
  | _ => .long (s_l k j)
theorem s_fi {k : Nat} (h : s_ty k = .int) (j : Nat) : s_f k j = .int (s_i k j) := by unfold s_f; rw [h]
theorem s_fl {k : Nat} (h : s_ty k = .long) (j : Nat) : s_f k j = .long (s_l k j) := by unfold s_f; rw [h]
theorem s_N_lt : ∀ k, k < 12 → s_N k < 2 ^ 31 := by decide +kernel
def isNest (w : Cond) : Bool := match w with
  | .fieldLinkNest .. => true
  | .methodLinkNest .. => true
  | _ => false
theorem nest_all : nestWords.all isNest = true := by decide +kernel
theorem nest_is {w : Cond} (h : w ∈ nestWords) : isNest w = true := List.all_eq_true.mp nest_all w h
theorem nest_on {w : Cond} (h : w ∈ nestWords) : w.onTables = true := by
  have h1 := nest_is h
  cases w <;> first | rfl | exact absurd h1 (by simp [isNest])
theorem nest_warm {w : Cond} {s U : State} (h : w ∈ nestWords) (hW : s.WarmedH U.vm) (hZ : va_Nw w s) : va_Nw w U := by
  have h1 := nest_is h
  cases w <;> first | exact va_Nw.warmF hW hZ | exact va_Nw.warmM hW hZ | exact absurd h1 (by simp [isNest])
theorem by_fits (x : Int8) : fits .byte (.int x.toInt32) = true := by
  have h : x.toInt32.toInt8.toInt32 = x.toInt32 := by rw [Int8.toInt8_toInt32]
  rw [← h]
  exact pk_fb _
theorem cpy_bt (f g : Nat → Int8) (sp dp k : Nat) : va_cpy (fun j => (f j).toInt32) (fun j => (g j).toInt32) sp dp k = fun j => (va_cpy f g sp dp k j).toInt32 := by
  funext j
  unfold va_cpy
  by_cases h : dp ≤ j ∧ j < dp + k
  · rw [if_pos h, if_pos h]
  · rw [if_neg h, if_neg h]
section GB
abbrev Bx : Type := va_G × (Nat → ClassId) × Nat × (Nat → Nat) × (Nat → Nat)
abbrev b_z (B : Bx) : Nat := B.2.2.1
abbrev b_t (B : Bx) : Nat → Nat := B.2.2.2.1
abbrev b_s (B : Bx) : Nat → Nat := B.2.2.2.2
abbrev b_c (B : Bx) : Nat → ClassId := B.2.1
abbrev b_y (B : Bx) : List (ClassId × FieldType) := [(b_c B 0, .byte), (b_c B 1, .long), (b_c B 2, .int), (b_c B 3, .object "SpongeDigests$Bytes"), (b_c B 4, .array .byte)]
abbrev Mx : Type := Program × Launch × Env × Room × State × MethodId × Array Value × List Frame × Method × Code × (Nat → Prop)
abbrev m_p (M : Mx) : Program := M.1
abbrev m_l (M : Mx) : Launch := M.2.1
abbrev m_e (M : Mx) : Env := M.2.2.1
abbrev m_R (M : Mx) : Room := M.2.2.2.1
abbrev m_s (M : Mx) : State := M.2.2.2.2.1
abbrev m_m (M : Mx) : MethodId := M.2.2.2.2.2.1
abbrev m_a (M : Mx) : Array Value := M.2.2.2.2.2.2.1
abbrev m_b (M : Mx) : List Frame := M.2.2.2.2.2.2.2.1
abbrev m_h (M : Mx) : Method := M.2.2.2.2.2.2.2.2.1
abbrev m_c (M : Mx) : Code := M.2.2.2.2.2.2.2.2.2.1
abbrev m_A (M : Mx) : Nat → Prop := M.2.2.2.2.2.2.2.2.2.2
abbrev cb (B : Bx) (a n : Nat) (g : Nat → Int8) : Nat × va_E := (a, .inl (b_c B 0, n, .inl (fun j => (g j).toInt32)))
abbrev cj (B : Bx) (a n : Nat) (f : Nat → Int64) : Nat × va_E := (a, .inl (b_c B 1, n, .inr (.inl f)))
abbrev cn (B : Bx) (a n : Nat) (f : Nat → Int32) : Nat × va_E := (a, .inl (b_c B 2, n, .inl f))
abbrev cr (B : Bx) (a n : Nat) (f : Nat → Option Nat) : Nat × va_E := (a, .inl (b_c B 3, n, .inr (.inr (.inr (.inr f)))))
abbrev cq (B : Bx) (a n : Nat) (f : Nat → Option Nat) : Nat × va_E := (a, .inl (b_c B 4, n, .inr (.inr (.inr (.inr f)))))
abbrev co (a k : Nat) (fs : List Value) : Nat × va_E := (a, .inr (k, fs))
abbrev nIAE : String := "java/lang/IllegalArgumentException"
abbrev nIOO : String := "java/lang/IndexOutOfBoundsException"
def st_k : Nat → Nat := fun i => match i with | 0 => 71 | 1 => 88 | 2 => 146 | _ => 149
def st_t : Nat → String := fun i => match i with | 0 => "the tape is full" | 1 => "the tape has fewer bytes" | 2 => "a number is out of range" | _ => "the slot has no such byte"
def exWords : List Cond := [.castable nIAE nIAE, .castable nIOO nIOO, .declares ⟨"java/lang/RuntimeException", "<init>", "(Ljava/lang/String;)V"⟩, .declares ⟨"java/lang/Exception", "<init>", "(Ljava/lang/String;)V"⟩, .declares ⟨"java/lang/Throwable", "<init>", "(Ljava/lang/String;)V"⟩]
def isEx (w : Cond) : Bool := match w with
  | .castable .. => true
  | .declares .. => true
  | _ => false
theorem ex_is {w : Cond} (h : w ∈ exWords) : isEx w = true := List.all_eq_true.mp (show exWords.all isEx = true by decide +kernel) w h
theorem ex_on {w : Cond} (h : w ∈ exWords) : w.onTables = true := by
  have h1 := ex_is h
  cases w <;> first | rfl | exact absurd h1 (by simp [isEx])
theorem ex_warm {w : Cond} {s U : State} (h : w ∈ exWords) (hW : s.WarmedH U.vm) (hZ : va_Nw w s) : va_Nw w U := by
  have h1 := ex_is h
  cases w <;> first | exact va_Nw.warmC hW hZ | exact va_Nw.warmD hW hZ | exact absurd h1 (by simp [isEx])
def AB (B : Bx) (U : State) : Prop := ∃ kA : Class, U.vm.classes[b_c B 4]? = some kA ∧ kA.kind = .array (b_c B 0) (.array .byte)
theorem AB.moved {B : Bx} {u U : State} (hvm : u.vm.Alike U.vm) (h : AB B u) : AB B U := by
  obtain ⟨k, h1, h2⟩ := h
  obtain ⟨k', hk', he⟩ := hvm.2.2 _ _ h1
  exact ⟨k', hk', by rw [he]; exact h2⟩
def EX (B : Bx) (U : State) : Prop := vx_Zq Bundle.tN "UNASSIGNED_STACK" Bundle.steD (fun q => b_z B ≤ q) U U.heap ∧ vx_Zq Bundle.tN "SUPPRESSED_SENTINEL" Bundle.listD (fun q => b_z B ≤ q) U U.heap ∧ (∀ i, i < 4 → vk_R "SpongeDigests" (st_k i) (st_t i) (b_s B i) U) ∧ (∀ w ∈ exWords, va_Nw w U) ∧ va_Nc nIOO nIAE U ∧ va_AO "SpongeDigests$Bytes" U ∧ AB B U
def KX (B : Bx) (U : State) : Prop := b_z B ≤ U.heap.size ∧ (∀ w ∈ nestWords, va_Nw w U) ∧ (∀ k, k < 12 → va_Z "SpongeDigests" (s_nm k) (s_ds k) (.ref (b_t B k)) (fun q => b_z B ≤ q) U U.heap ∧ va_T (s_ty k) (b_t B k) (s_N k) (s_f k) (fun q => b_z B ≤ q) U U.heap) ∧ EX B U
def CX (B : Bx) (M : Mx) (cc : ByteArray) (nL : Nat) (own : String) : Prop :=
  (m_p M).tables.exec = Jvm.exec ∧ (m_c M).code = cc ∧ (m_c M).maxLocals = nL ∧ (m_s M).vm.findClass own = some (m_m M).cls ∧ (∀ w ∈ W0, w.before (m_a M) (m_s M) = true) ∧ va_K B.1 classes (b_y B) (m_s M) ∧ (∀ q, (m_s M).heap.size ≤ q → m_A M q) ∧ (∀ q, m_A M q → b_z B ≤ q) ∧ KX B (m_s M)
theorem CX.x {B : Bx} {M : Mx} {cc : ByteArray} {nL : Nat} {own : String} (X : CX B M cc nL own) : (m_p M).tables.exec = Jvm.exec := X.1
theorem CX.b {B : Bx} {M : Mx} {cc : ByteArray} {nL : Nat} {own : String} (X : CX B M cc nL own) : (m_c M).code = cc := X.2.1
theorem CX.n {B : Bx} {M : Mx} {cc : ByteArray} {nL : Nat} {own : String} (X : CX B M cc nL own) : (m_c M).maxLocals = nL := X.2.2.1
theorem CX.o {B : Bx} {M : Mx} {cc : ByteArray} {nL : Nat} {own : String} (X : CX B M cc nL own) : (m_s M).vm.findClass own = some (m_m M).cls := X.2.2.2.1
theorem CX.t {B : Bx} {M : Mx} {cc : ByteArray} {nL : Nat} {own : String} (X : CX B M cc nL own) : ∀ w ∈ W0, w.before (m_a M) (m_s M) = true := X.2.2.2.2.1
theorem CX.k {B : Bx} {M : Mx} {cc : ByteArray} {nL : Nat} {own : String} (X : CX B M cc nL own) : va_K B.1 classes (b_y B) (m_s M) := X.2.2.2.2.2.1
theorem CX.A {B : Bx} {M : Mx} {cc : ByteArray} {nL : Nat} {own : String} (X : CX B M cc nL own) : ∀ q, (m_s M).heap.size ≤ q → m_A M q := X.2.2.2.2.2.2.1
theorem CX.z {B : Bx} {M : Mx} {cc : ByteArray} {nL : Nat} {own : String} (X : CX B M cc nL own) : ∀ q, m_A M q → b_z B ≤ q := X.2.2.2.2.2.2.2.1
theorem CX.s {B : Bx} {M : Mx} {cc : ByteArray} {nL : Nat} {own : String} (X : CX B M cc nL own) : KX B (m_s M) := X.2.2.2.2.2.2.2.2
def G (B : Bx) (M : Mx) (nL n1 n2 : Nat) (Q : State → Prop) (ws : va_W) (lv : List (Nat × Value)) (pc : Nat) (st : List Value) : Prop :=
  ∀ (H : Heap) (locs : List Loc) (ls : Array Slot), va_P B.1 classes ws H → va_D (m_A M) ws → va_S (m_A M) (m_s M).heap H locs → lv_has ls nL lv →
    W (m_p M) (m_l M) (m_e M) (m_R M) (m_s M) (m_m M) (m_a M) (m_b M) (m_h M) (m_c M) H locs n1 n2 Q (F0 (m_m M) pc ls st)
def lvq (lv : List (Nat × Value)) (i : Nat) : Option Value := (lv.find? (fun q => q.1 == i)).map (fun q => q.2)
theorem lvq_mem {lv : List (Nat × Value)} {i : Nat} {v : Value} (h : lvq lv i = some v) : (i, v) ∈ lv := by
  unfold lvq at h
  cases hf : lv.find? (fun q => q.1 == i) with
  | none => rw [hf] at h; cases h
  | some q =>
    rw [hf] at h
    have h1 := List.find?_some hf
    have h2 := List.mem_of_find?_eq_some hf
    have h3 : q.1 = i := by simpa using h1
    have h4 : q.2 = v := by simpa using h
    obtain ⟨q1, q2⟩ := q
    subst h3
    subst h4
    exact h2
theorem lvq_at {ls : Array Slot} {nL : Nat} {lv : List (Nat × Value)} (h : lv_has ls nL lv) {i : Nat} {v : Value} (hq : lvq lv i = some v) : ls[i]? = some (.val v) := h.2.2 (i, v) (lvq_mem hq)
variable {B : Bx} {M : Mx} {cc : ByteArray} {nL n1 n2 : Nat} {own : String} {Q : State → Prop} {ws : va_W} {lv : List (Nat × Value)} {pc : Nat} {st rest : List Value}
theorem g_lv (lv' : List (Nat × Value)) (h : lv'.map (fun q => lvq lv q.1) = lv'.map (fun q => some q.2)) (k : G B M nL n1 n2 Q ws lv' pc st) : G B M nL n1 n2 Q ws lv pc st := by
  intro H locs ls hP hD hS hl
  refine k H locs ls hP hD hS ⟨hl.1, hl.2.1, fun q hq => ?_⟩
  obtain ⟨i, hi⟩ := List.getElem?_of_mem hq
  have h1 : (lv'.map (fun q => lvq lv q.1))[i]? = (lv'.map (fun q => some q.2))[i]? := by rw [h]
  rw [List.getElem?_map, List.getElem?_map, hi] at h1
  exact lvq_at hl (Option.some.inj h1)
theorem g_ws (ws' : va_W) (is : List Nat) (hn : va_nd is = true) (h : is.map (fun i => ws[i]?) = ws'.map some) (k : G B M nL n1 n2 Q ws' lv pc st) : G B M nL n1 n2 Q ws lv pc st := by
  intro H locs ls hP hD hS hl
  refine k H locs ls (fun i q hq => ?_) (hD.sub is hn h) hS hl
  have h1 : (is.map (fun i => ws[i]?))[i]? = (ws'.map some)[i]? := by rw [h]
  rw [List.getElem?_map, List.getElem?_map, hq] at h1
  cases hi : is[i]? with
  | none => rw [hi] at h1; cases h1
  | some j => rw [hi] at h1; exact hP j q (Option.some.inj h1)
theorem g_widen (k n : Nat) (h1 : n1 ≤ k) (h2 : n2 ≤ n) (kk : G B M nL k n Q ws lv pc st) : G B M nL n1 n2 Q ws lv pc st := fun H locs ls hP hD hS hl => W.widen h1 h2 (kk H locs ls hP hD hS hl)
theorem g_topi {x : Int32} (k : ∀ y : Int32, y = x → G B M nL n1 n2 Q ws lv pc (.int y :: rest)) : G B M nL n1 n2 Q ws lv pc (.int x :: rest) := k x rfl
theorem g_topl {x : Int64} (k : ∀ y : Int64, y = x → G B M nL n1 n2 Q ws lv pc (.long y :: rest)) : G B M nL n1 n2 Q ws lv pc (.long x :: rest) := k x rfl
theorem g_seti {x : Int32} (y : Int32) (h : x = y) (k : G B M nL n1 n2 Q ws lv pc (.int y :: rest)) : G B M nL n1 n2 Q ws lv pc (.int x :: rest) := h ▸ k
theorem g_setl {x : Int64} (y : Int64) (h : x = y) (k : G B M nL n1 n2 Q ws lv pc (.long y :: rest)) : G B M nL n1 n2 Q ws lv pc (.long x :: rest) := h ▸ k
theorem g_iconst (X : CX B M cc nL own) {n : Int} {v : Int32} (hdg : decode cc pc = .ok (.iconst n, 1)) (hv : Int32.ofInt n = v) (k : G B M nL n1 n2 Q ws lv (pc + 1) (.int v :: rest)) : G B M nL n1 n2 Q ws lv pc (rest) :=
  fun H locs ls hP hD hS hl0 => lv_iconst X.x X.b hdg hv (k H locs ls hP hD hS hl0)
theorem g_bipush (X : CX B M cc nL own) {n : Int} {v : Int32} (hdg : decode cc pc = .ok (.bipush n, 2)) (hv : (Int8.ofInt n).toInt32 = v) (k : G B M nL n1 n2 Q ws lv (pc + 2) (.int v :: rest)) : G B M nL n1 n2 Q ws lv pc (rest) :=
  fun H locs ls hP hD hS hl0 => lv_bipush X.x X.b hdg hv (k H locs ls hP hD hS hl0)
theorem g_sipush (X : CX B M cc nL own) {n : Int} {v : Int32} (hdg : decode cc pc = .ok (.sipush n, 3)) (hv : (Int16.ofInt n).toInt32 = v) (k : G B M nL n1 n2 Q ws lv (pc + 3) (.int v :: rest)) : G B M nL n1 n2 Q ws lv pc (rest) :=
  fun H locs ls hP hD hS hl0 => lv_sipush X.x X.b hdg hv (k H locs ls hP hD hS hl0)
theorem g_lconst (X : CX B M cc nL own) {n : Fin 2} {v : Int64} (hdg : decode cc pc = .ok (.lconst n, 1)) (hv : Int64.ofNat (n : Nat) = v) (k : G B M nL n1 n2 Q ws lv (pc + 1) (.long v :: rest)) : G B M nL n1 n2 Q ws lv pc (rest) :=
  fun H locs ls hP hD hS hl0 => lv_lconst X.x X.b hdg hv (k H locs ls hP hD hS hl0)
theorem g_iload_n (X : CX B M cc nL own) {k : Fin 4} {i : Nat} {x : Int32} (hdg : decode cc pc = .ok (.iload_n k, 1)) (hi : (k : Nat) = i) (hl : lvq lv i = some (.int x)) (k : G B M nL n1 n2 Q ws lv (pc + 1) (.int x :: rest)) : G B M nL n1 n2 Q ws lv pc (rest) :=
  fun H locs ls hP hD hS hl0 => lv_iload_n X.x X.b hdg hi (lvq_at hl0 hl) (k H locs ls hP hD hS hl0)
theorem g_iload (X : CX B M cc nL own) {i : Nat} {x : Int32} (hdg : decode cc pc = .ok (.iload i, 2)) (hl : lvq lv i = some (.int x)) (k : G B M nL n1 n2 Q ws lv (pc + 2) (.int x :: rest)) : G B M nL n1 n2 Q ws lv pc (rest) :=
  fun H locs ls hP hD hS hl0 => lv_iload X.x X.b hdg (lvq_at hl0 hl) (k H locs ls hP hD hS hl0)
theorem g_lload_n (X : CX B M cc nL own) {k : Fin 4} {i : Nat} {x : Int64} (hdg : decode cc pc = .ok (.lload_n k, 1)) (hi : (k : Nat) = i) (hl : lvq lv i = some (.long x)) (k : G B M nL n1 n2 Q ws lv (pc + 1) (.long x :: rest)) : G B M nL n1 n2 Q ws lv pc (rest) :=
  fun H locs ls hP hD hS hl0 => lv_lload_n X.x X.b hdg hi (lvq_at hl0 hl) (k H locs ls hP hD hS hl0)
theorem g_lload (X : CX B M cc nL own) {i : Nat} {x : Int64} (hdg : decode cc pc = .ok (.lload i, 2)) (hl : lvq lv i = some (.long x)) (k : G B M nL n1 n2 Q ws lv (pc + 2) (.long x :: rest)) : G B M nL n1 n2 Q ws lv pc (rest) :=
  fun H locs ls hP hD hS hl0 => lv_lload X.x X.b hdg (lvq_at hl0 hl) (k H locs ls hP hD hS hl0)
theorem g_aload_n (X : CX B M cc nL own) {k : Fin 4} {i : Nat} {x : Nat} (hdg : decode cc pc = .ok (.aload_n k, 1)) (hi : (k : Nat) = i) (hl : lvq lv i = some (.ref x)) (k : G B M nL n1 n2 Q ws lv (pc + 1) (.ref x :: rest)) : G B M nL n1 n2 Q ws lv pc (rest) :=
  fun H locs ls hP hD hS hl0 => lv_aload_n X.x X.b hdg hi (lvq_at hl0 hl) (k H locs ls hP hD hS hl0)
theorem g_aload (X : CX B M cc nL own) {i : Nat} {x : Nat} (hdg : decode cc pc = .ok (.aload i, 2)) (hl : lvq lv i = some (.ref x)) (k : G B M nL n1 n2 Q ws lv (pc + 2) (.ref x :: rest)) : G B M nL n1 n2 Q ws lv pc (rest) :=
  fun H locs ls hP hD hS hl0 => lv_aload X.x X.b hdg (lvq_at hl0 hl) (k H locs ls hP hD hS hl0)
theorem g_istore_n (X : CX B M cc nL own) {k : Fin 4} {i : Nat} {x : Int32} (hdg : decode cc pc = .ok (.istore_n k, 1)) (hi : (k : Nat) = i) (hn : i < nL) (kk : G B M nL n1 n2 Q ws ((i, Value.int x) :: lv.filter (fun q => !(q.1 == i) && !(q.1 + 1 == i && q.2.category == 2))) (pc + 1) rest) : G B M nL n1 n2 Q ws lv pc (.int x :: rest) :=
  fun H locs ls hP hD hS hl0 => lv_istore_n X.x X.b hdg hi hl0 hn rfl (fun ls' hl' => kk H locs ls' hP hD hS hl')
theorem g_istore (X : CX B M cc nL own) {i : Nat} {x : Int32} (hdg : decode cc pc = .ok (.istore i, 2)) (hn : i < nL) (kk : G B M nL n1 n2 Q ws ((i, Value.int x) :: lv.filter (fun q => !(q.1 == i) && !(q.1 + 1 == i && q.2.category == 2))) (pc + 2) rest) : G B M nL n1 n2 Q ws lv pc (.int x :: rest) :=
  fun H locs ls hP hD hS hl0 => lv_istore X.x X.b hdg hl0 hn rfl (fun ls' hl' => kk H locs ls' hP hD hS hl')
theorem g_lstore_n (X : CX B M cc nL own) {k : Fin 4} {i : Nat} {x : Int64} (hdg : decode cc pc = .ok (.lstore_n k, 1)) (hi : (k : Nat) = i) (hn : i + 1 < nL) (kk : G B M nL n1 n2 Q ws ((i, Value.long x) :: lv.filter (fun q => !(q.1 == i) && (!(q.1 == i + 1) && !(q.1 + 1 == i && q.2.category == 2)))) (pc + 1) rest) : G B M nL n1 n2 Q ws lv pc (.long x :: rest) :=
  fun H locs ls hP hD hS hl0 => lv_lstore_n X.x X.b hdg hi hl0 hn rfl (fun ls' hl' => kk H locs ls' hP hD hS hl')
theorem g_lstore (X : CX B M cc nL own) {i : Nat} {x : Int64} (hdg : decode cc pc = .ok (.lstore i, 2)) (hn : i + 1 < nL) (kk : G B M nL n1 n2 Q ws ((i, Value.long x) :: lv.filter (fun q => !(q.1 == i) && (!(q.1 == i + 1) && !(q.1 + 1 == i && q.2.category == 2)))) (pc + 2) rest) : G B M nL n1 n2 Q ws lv pc (.long x :: rest) :=
  fun H locs ls hP hD hS hl0 => lv_lstore X.x X.b hdg hl0 hn rfl (fun ls' hl' => kk H locs ls' hP hD hS hl')
theorem g_astore_n (X : CX B M cc nL own) {k : Fin 4} {i : Nat} {x : Nat} (hdg : decode cc pc = .ok (.astore_n k, 1)) (hi : (k : Nat) = i) (hn : i < nL) (kk : G B M nL n1 n2 Q ws ((i, Value.ref x) :: lv.filter (fun q => !(q.1 == i) && !(q.1 + 1 == i && q.2.category == 2))) (pc + 1) rest) : G B M nL n1 n2 Q ws lv pc (.ref x :: rest) :=
  fun H locs ls hP hD hS hl0 => lv_astore_n X.x X.b hdg hi hl0 hn rfl (fun ls' hl' => kk H locs ls' hP hD hS hl')
theorem g_astore (X : CX B M cc nL own) {i : Nat} {x : Nat} (hdg : decode cc pc = .ok (.astore i, 2)) (hn : i < nL) (kk : G B M nL n1 n2 Q ws ((i, Value.ref x) :: lv.filter (fun q => !(q.1 == i) && !(q.1 + 1 == i && q.2.category == 2))) (pc + 2) rest) : G B M nL n1 n2 Q ws lv pc (.ref x :: rest) :=
  fun H locs ls hP hD hS hl0 => lv_astore X.x X.b hdg hl0 hn rfl (fun ls' hl' => kk H locs ls' hP hD hS hl')
theorem g_iadd (X : CX B M cc nL own) {x y : Int32} (hdg : decode cc pc = .ok (.iadd, 1)) (k : G B M nL n1 n2 Q ws lv (pc + 1) (.int (x + y) :: rest)) : G B M nL n1 n2 Q ws lv pc (.int y :: .int x :: rest) :=
  fun H locs ls hP hD hS hl0 => lv_iadd X.x X.b hdg (k H locs ls hP hD hS hl0)
theorem g_isub (X : CX B M cc nL own) {x y : Int32} (hdg : decode cc pc = .ok (.isub, 1)) (k : G B M nL n1 n2 Q ws lv (pc + 1) (.int (x - y) :: rest)) : G B M nL n1 n2 Q ws lv pc (.int y :: .int x :: rest) :=
  fun H locs ls hP hD hS hl0 => lv_isub X.x X.b hdg (k H locs ls hP hD hS hl0)
theorem g_imul (X : CX B M cc nL own) {x y : Int32} (hdg : decode cc pc = .ok (.imul, 1)) (k : G B M nL n1 n2 Q ws lv (pc + 1) (.int (x * y) :: rest)) : G B M nL n1 n2 Q ws lv pc (.int y :: .int x :: rest) :=
  fun H locs ls hP hD hS hl0 => lv_imul X.x X.b hdg (k H locs ls hP hD hS hl0)
theorem g_iand (X : CX B M cc nL own) {x y : Int32} (hdg : decode cc pc = .ok (.iand, 1)) (k : G B M nL n1 n2 Q ws lv (pc + 1) (.int (x &&& y) :: rest)) : G B M nL n1 n2 Q ws lv pc (.int y :: .int x :: rest) :=
  fun H locs ls hP hD hS hl0 => lv_iand X.x X.b hdg (k H locs ls hP hD hS hl0)
theorem g_ior (X : CX B M cc nL own) {x y : Int32} (hdg : decode cc pc = .ok (.ior, 1)) (k : G B M nL n1 n2 Q ws lv (pc + 1) (.int (x ||| y) :: rest)) : G B M nL n1 n2 Q ws lv pc (.int y :: .int x :: rest) :=
  fun H locs ls hP hD hS hl0 => lv_ior X.x X.b hdg (k H locs ls hP hD hS hl0)
theorem g_ixor (X : CX B M cc nL own) {x y : Int32} (hdg : decode cc pc = .ok (.ixor, 1)) (k : G B M nL n1 n2 Q ws lv (pc + 1) (.int (x ^^^ y) :: rest)) : G B M nL n1 n2 Q ws lv pc (.int y :: .int x :: rest) :=
  fun H locs ls hP hD hS hl0 => lv_ixor X.x X.b hdg (k H locs ls hP hD hS hl0)
theorem g_idiv (X : CX B M cc nL own) {x y : Int32} (hdg : decode cc pc = .ok (.idiv, 1)) (hne : ¬ y = 0) (k : G B M nL n1 n2 Q ws lv (pc + 1) (.int (x / y) :: rest)) : G B M nL n1 n2 Q ws lv pc (.int y :: .int x :: rest) :=
  fun H locs ls hP hD hS hl0 => lv_idiv X.x X.b hdg hne (k H locs ls hP hD hS hl0)
theorem g_irem (X : CX B M cc nL own) {x y : Int32} (hdg : decode cc pc = .ok (.irem, 1)) (hne : ¬ y = 0) (k : G B M nL n1 n2 Q ws lv (pc + 1) (.int (x - x / y * y) :: rest)) : G B M nL n1 n2 Q ws lv pc (.int y :: .int x :: rest) :=
  fun H locs ls hP hD hS hl0 => lv_irem X.x X.b hdg hne (k H locs ls hP hD hS hl0)
theorem g_ineg (X : CX B M cc nL own) {x : Int32} (hdg : decode cc pc = .ok (.ineg, 1)) (k : G B M nL n1 n2 Q ws lv (pc + 1) (.int (-x) :: rest)) : G B M nL n1 n2 Q ws lv pc (.int x :: rest) :=
  fun H locs ls hP hD hS hl0 => lv_ineg X.x X.b hdg (k H locs ls hP hD hS hl0)
theorem g_ladd (X : CX B M cc nL own) {x y : Int64} (hdg : decode cc pc = .ok (.ladd, 1)) (k : G B M nL n1 n2 Q ws lv (pc + 1) (.long (x + y) :: rest)) : G B M nL n1 n2 Q ws lv pc (.long y :: .long x :: rest) :=
  fun H locs ls hP hD hS hl0 => lv_ladd X.x X.b hdg (k H locs ls hP hD hS hl0)
theorem g_lsub (X : CX B M cc nL own) {x y : Int64} (hdg : decode cc pc = .ok (.lsub, 1)) (k : G B M nL n1 n2 Q ws lv (pc + 1) (.long (x - y) :: rest)) : G B M nL n1 n2 Q ws lv pc (.long y :: .long x :: rest) :=
  fun H locs ls hP hD hS hl0 => lv_lsub X.x X.b hdg (k H locs ls hP hD hS hl0)
theorem g_lmul (X : CX B M cc nL own) {x y : Int64} (hdg : decode cc pc = .ok (.lmul, 1)) (k : G B M nL n1 n2 Q ws lv (pc + 1) (.long (x * y) :: rest)) : G B M nL n1 n2 Q ws lv pc (.long y :: .long x :: rest) :=
  fun H locs ls hP hD hS hl0 => lv_lmul X.x X.b hdg (k H locs ls hP hD hS hl0)
theorem g_land (X : CX B M cc nL own) {x y : Int64} (hdg : decode cc pc = .ok (.land, 1)) (k : G B M nL n1 n2 Q ws lv (pc + 1) (.long (x &&& y) :: rest)) : G B M nL n1 n2 Q ws lv pc (.long y :: .long x :: rest) :=
  fun H locs ls hP hD hS hl0 => lv_land X.x X.b hdg (k H locs ls hP hD hS hl0)
theorem g_lor (X : CX B M cc nL own) {x y : Int64} (hdg : decode cc pc = .ok (.lor, 1)) (k : G B M nL n1 n2 Q ws lv (pc + 1) (.long (x ||| y) :: rest)) : G B M nL n1 n2 Q ws lv pc (.long y :: .long x :: rest) :=
  fun H locs ls hP hD hS hl0 => lv_lor X.x X.b hdg (k H locs ls hP hD hS hl0)
theorem g_lxor (X : CX B M cc nL own) {x y : Int64} (hdg : decode cc pc = .ok (.lxor, 1)) (k : G B M nL n1 n2 Q ws lv (pc + 1) (.long (x ^^^ y) :: rest)) : G B M nL n1 n2 Q ws lv pc (.long y :: .long x :: rest) :=
  fun H locs ls hP hD hS hl0 => lv_lxor X.x X.b hdg (k H locs ls hP hD hS hl0)
theorem g_ldiv (X : CX B M cc nL own) {x y : Int64} (hdg : decode cc pc = .ok (.ldiv, 1)) (hne : ¬ y = 0) (k : G B M nL n1 n2 Q ws lv (pc + 1) (.long (x / y) :: rest)) : G B M nL n1 n2 Q ws lv pc (.long y :: .long x :: rest) :=
  fun H locs ls hP hD hS hl0 => lv_ldiv X.x X.b hdg hne (k H locs ls hP hD hS hl0)
theorem g_lrem (X : CX B M cc nL own) {x y : Int64} (hdg : decode cc pc = .ok (.lrem, 1)) (hne : ¬ y = 0) (k : G B M nL n1 n2 Q ws lv (pc + 1) (.long (x - x / y * y) :: rest)) : G B M nL n1 n2 Q ws lv pc (.long y :: .long x :: rest) :=
  fun H locs ls hP hD hS hl0 => lv_lrem X.x X.b hdg hne (k H locs ls hP hD hS hl0)
theorem g_lneg (X : CX B M cc nL own) {x : Int64} (hdg : decode cc pc = .ok (.lneg, 1)) (k : G B M nL n1 n2 Q ws lv (pc + 1) (.long (-x) :: rest)) : G B M nL n1 n2 Q ws lv pc (.long x :: rest) :=
  fun H locs ls hP hD hS hl0 => lv_lneg X.x X.b hdg (k H locs ls hP hD hS hl0)
theorem g_ishl (X : CX B M cc nL own) {x y : Int32} (hdg : decode cc pc = .ok (.ishl, 1)) (k : G B M nL n1 n2 Q ws lv (pc + 1) (.int (x <<< (y &&& 31)) :: rest)) : G B M nL n1 n2 Q ws lv pc (.int y :: .int x :: rest) :=
  fun H locs ls hP hD hS hl0 => lv_ishl X.x X.b hdg (k H locs ls hP hD hS hl0)
theorem g_ishr (X : CX B M cc nL own) {x y : Int32} (hdg : decode cc pc = .ok (.ishr, 1)) (k : G B M nL n1 n2 Q ws lv (pc + 1) (.int (x >>> (y &&& 31)) :: rest)) : G B M nL n1 n2 Q ws lv pc (.int y :: .int x :: rest) :=
  fun H locs ls hP hD hS hl0 => lv_ishr X.x X.b hdg (k H locs ls hP hD hS hl0)
theorem g_i2l (X : CX B M cc nL own) {x : Int32} {v : Int64} (hdg : decode cc pc = .ok (.i2l, 1)) (hv : x.toInt64 = v) (k : G B M nL n1 n2 Q ws lv (pc + 1) (.long v :: rest)) : G B M nL n1 n2 Q ws lv pc (.int x :: rest) :=
  fun H locs ls hP hD hS hl0 => lv_i2l X.x X.b hdg hv (k H locs ls hP hD hS hl0)
theorem g_l2i (X : CX B M cc nL own) {x : Int64} {v : Int32} (hdg : decode cc pc = .ok (.l2i, 1)) (hv : x.toInt32 = v) (k : G B M nL n1 n2 Q ws lv (pc + 1) (.int v :: rest)) : G B M nL n1 n2 Q ws lv pc (.long x :: rest) :=
  fun H locs ls hP hD hS hl0 => lv_l2i X.x X.b hdg hv (k H locs ls hP hD hS hl0)
theorem g_i2b (X : CX B M cc nL own) {x : Int32} {v : Int32} (hdg : decode cc pc = .ok (.i2b, 1)) (hv : x.toInt8.toInt32 = v) (k : G B M nL n1 n2 Q ws lv (pc + 1) (.int v :: rest)) : G B M nL n1 n2 Q ws lv pc (.int x :: rest) :=
  fun H locs ls hP hD hS hl0 => lv_i2b X.x X.b hdg hv (k H locs ls hP hD hS hl0)
theorem g_iushr (X : CX B M cc nL own) {x y v : Int32} (hdg : decode cc pc = .ok (.iushr, 1)) (hv : (x.toUInt32 >>> (y.toUInt32 &&& Int32.toUInt32 31)).toInt32 = v) (k : G B M nL n1 n2 Q ws lv (pc + 1) (.int v :: rest)) : G B M nL n1 n2 Q ws lv pc (.int y :: .int x :: rest) :=
  fun H locs ls hP hD hS hl0 => lv_iushr X.x X.b hdg hv (k H locs ls hP hD hS hl0)
theorem g_lushr (X : CX B M cc nL own) {x v : Int64} {y : Int32} (hdg : decode cc pc = .ok (.lushr, 1)) (hv : (x.toUInt64 >>> (y.toInt64.toUInt64 &&& Int64.toUInt64 63)).toInt64 = v) (k : G B M nL n1 n2 Q ws lv (pc + 1) (.long v :: rest)) : G B M nL n1 n2 Q ws lv pc (.int y :: .long x :: rest) :=
  fun H locs ls hP hD hS hl0 => lv_lushr X.x X.b hdg hv (k H locs ls hP hD hS hl0)
theorem g_lshl (X : CX B M cc nL own) {x v : Int64} {y : Int32} (hdg : decode cc pc = .ok (.lshl, 1)) (hv : x <<< (y.toInt64 &&& 63) = v) (k : G B M nL n1 n2 Q ws lv (pc + 1) (.long v :: rest)) : G B M nL n1 n2 Q ws lv pc (.int y :: .long x :: rest) :=
  fun H locs ls hP hD hS hl0 => lv_lshl X.x X.b hdg hv (k H locs ls hP hD hS hl0)
theorem g_lshr (X : CX B M cc nL own) {x v : Int64} {y : Int32} (hdg : decode cc pc = .ok (.lshr, 1)) (hv : x >>> (y.toInt64 &&& 63) = v) (k : G B M nL n1 n2 Q ws lv (pc + 1) (.long v :: rest)) : G B M nL n1 n2 Q ws lv pc (.int y :: .long x :: rest) :=
  fun H locs ls hP hD hS hl0 => lv_lshr X.x X.b hdg hv (k H locs ls hP hD hS hl0)
theorem g_dup (X : CX B M cc nL own) {va : Value} (hdg : decode cc pc = .ok (.dup, 1)) (hva : va.category = 1) (k : G B M nL n1 n2 Q ws lv (pc + 1) (va :: va :: rest)) : G B M nL n1 n2 Q ws lv pc (va :: rest) :=
  fun H locs ls hP hD hS hl0 => lv_dup X.x X.b hdg hva (k H locs ls hP hD hS hl0)
theorem g_pop (X : CX B M cc nL own) {va : Value} (hdg : decode cc pc = .ok (.pop, 1)) (hva : va.category = 1) (k : G B M nL n1 n2 Q ws lv (pc + 1) (rest)) : G B M nL n1 n2 Q ws lv pc (va :: rest) :=
  fun H locs ls hP hD hS hl0 => lv_pop X.x X.b hdg hva (k H locs ls hP hD hS hl0)
theorem g_dup_x1 (X : CX B M cc nL own) {va vb : Value} (hdg : decode cc pc = .ok (.dup_x1, 1)) (hva : va.category = 1) (hvb : vb.category = 1) (k : G B M nL n1 n2 Q ws lv (pc + 1) (va :: vb :: va :: rest)) : G B M nL n1 n2 Q ws lv pc (va :: vb :: rest) :=
  fun H locs ls hP hD hS hl0 => lv_dup_x1 X.x X.b hdg hva hvb (k H locs ls hP hD hS hl0)
theorem g_dup_x2 (X : CX B M cc nL own) {va vb vd : Value} (hdg : decode cc pc = .ok (.dup_x2, 1)) (hva : va.category = 1) (hvb : vb.category = 1) (hvd : vd.category = 1) (k : G B M nL n1 n2 Q ws lv (pc + 1) (va :: vb :: vd :: va :: rest)) : G B M nL n1 n2 Q ws lv pc (va :: vb :: vd :: rest) :=
  fun H locs ls hP hD hS hl0 => lv_dup_x2 X.x X.b hdg hva hvb hvd (k H locs ls hP hD hS hl0)
theorem g_dup2_11 (X : CX B M cc nL own) {va vb : Value} (hdg : decode cc pc = .ok (.dup2, 1)) (hva : va.category = 1) (hvb : vb.category = 1) (k : G B M nL n1 n2 Q ws lv (pc + 1) (va :: vb :: va :: vb :: rest)) : G B M nL n1 n2 Q ws lv pc (va :: vb :: rest) :=
  fun H locs ls hP hD hS hl0 => lv_dup2_11 X.x X.b hdg hva hvb (k H locs ls hP hD hS hl0)
theorem g_dup2_2 (X : CX B M cc nL own) {va : Value} (hdg : decode cc pc = .ok (.dup2, 1)) (hva : va.category = 2) (k : G B M nL n1 n2 Q ws lv (pc + 1) (va :: va :: rest)) : G B M nL n1 n2 Q ws lv pc (va :: rest) :=
  fun H locs ls hP hD hS hl0 => lv_dup2_2 X.x X.b hdg hva (k H locs ls hP hD hS hl0)
theorem g_pop2_2 (X : CX B M cc nL own) {va : Value} (hdg : decode cc pc = .ok (.pop2, 1)) (hva : va.category = 2) (k : G B M nL n1 n2 Q ws lv (pc + 1) (rest)) : G B M nL n1 n2 Q ws lv pc (va :: rest) :=
  fun H locs ls hP hD hS hl0 => lv_pop2_2 X.x X.b hdg hva (k H locs ls hP hD hS hl0)
theorem g_dup2_x1_2 (X : CX B M cc nL own) {va vb : Value} (hdg : decode cc pc = .ok (.dup2_x1, 1)) (hva : va.category = 2) (hvb : vb.category = 1) (k : G B M nL n1 n2 Q ws lv (pc + 1) (va :: vb :: va :: rest)) : G B M nL n1 n2 Q ws lv pc (va :: vb :: rest) :=
  fun H locs ls hP hD hS hl0 => lv_dup2_x1_2 X.x X.b hdg hva hvb (k H locs ls hP hD hS hl0)
theorem g_dup2_x2_2 (X : CX B M cc nL own) {va vb vd : Value} (hdg : decode cc pc = .ok (.dup2_x2, 1)) (hva : va.category = 2) (hvb : vb.category = 1) (hvd : vd.category = 1) (k : G B M nL n1 n2 Q ws lv (pc + 1) (va :: vb :: vd :: va :: rest)) : G B M nL n1 n2 Q ws lv pc (va :: vb :: vd :: rest) :=
  fun H locs ls hP hD hS hl0 => lv_dup2_x2_2 X.x X.b hdg hva hvb hvd (k H locs ls hP hD hS hl0)
theorem g_if_eq (X : CX B M cc nL own) {x : Int32} {off : Int} {tgt : Nat} (hdg : decode cc pc = .ok (.ifCond .eq off, 3)) (ht : (pc : Int) + off = (tgt : Int)) (kt : x = 0 → G B M nL n1 n2 Q ws lv tgt rest) (kf : ¬ x = 0 → G B M nL n1 n2 Q ws lv (pc + 3) rest) : G B M nL n1 n2 Q ws lv pc (.int x :: rest) :=
  fun H locs ls hP hD hS hl0 => lv_if_eq X.x X.b hdg ht (fun hc => kt hc H locs ls hP hD hS hl0) (fun hc => kf hc H locs ls hP hD hS hl0)
theorem g_if_ne (X : CX B M cc nL own) {x : Int32} {off : Int} {tgt : Nat} (hdg : decode cc pc = .ok (.ifCond .ne off, 3)) (ht : (pc : Int) + off = (tgt : Int)) (kt : ¬ x = 0 → G B M nL n1 n2 Q ws lv tgt rest) (kf : x = 0 → G B M nL n1 n2 Q ws lv (pc + 3) rest) : G B M nL n1 n2 Q ws lv pc (.int x :: rest) :=
  fun H locs ls hP hD hS hl0 => lv_if_ne X.x X.b hdg ht (fun hc => kt hc H locs ls hP hD hS hl0) (fun hc => kf hc H locs ls hP hD hS hl0)
theorem g_if_lt (X : CX B M cc nL own) {x : Int32} {off : Int} {tgt : Nat} (hdg : decode cc pc = .ok (.ifCond .lt off, 3)) (ht : (pc : Int) + off = (tgt : Int)) (kt : x < 0 → G B M nL n1 n2 Q ws lv tgt rest) (kf : ¬ x < 0 → G B M nL n1 n2 Q ws lv (pc + 3) rest) : G B M nL n1 n2 Q ws lv pc (.int x :: rest) :=
  fun H locs ls hP hD hS hl0 => lv_if_lt X.x X.b hdg ht (fun hc => kt hc H locs ls hP hD hS hl0) (fun hc => kf hc H locs ls hP hD hS hl0)
theorem g_if_ge (X : CX B M cc nL own) {x : Int32} {off : Int} {tgt : Nat} (hdg : decode cc pc = .ok (.ifCond .ge off, 3)) (ht : (pc : Int) + off = (tgt : Int)) (kt : 0 ≤ x → G B M nL n1 n2 Q ws lv tgt rest) (kf : ¬ 0 ≤ x → G B M nL n1 n2 Q ws lv (pc + 3) rest) : G B M nL n1 n2 Q ws lv pc (.int x :: rest) :=
  fun H locs ls hP hD hS hl0 => lv_if_ge X.x X.b hdg ht (fun hc => kt hc H locs ls hP hD hS hl0) (fun hc => kf hc H locs ls hP hD hS hl0)
theorem g_if_gt (X : CX B M cc nL own) {x : Int32} {off : Int} {tgt : Nat} (hdg : decode cc pc = .ok (.ifCond .gt off, 3)) (ht : (pc : Int) + off = (tgt : Int)) (kt : 0 < x → G B M nL n1 n2 Q ws lv tgt rest) (kf : ¬ 0 < x → G B M nL n1 n2 Q ws lv (pc + 3) rest) : G B M nL n1 n2 Q ws lv pc (.int x :: rest) :=
  fun H locs ls hP hD hS hl0 => lv_if_gt X.x X.b hdg ht (fun hc => kt hc H locs ls hP hD hS hl0) (fun hc => kf hc H locs ls hP hD hS hl0)
theorem g_if_le (X : CX B M cc nL own) {x : Int32} {off : Int} {tgt : Nat} (hdg : decode cc pc = .ok (.ifCond .le off, 3)) (ht : (pc : Int) + off = (tgt : Int)) (kt : x ≤ 0 → G B M nL n1 n2 Q ws lv tgt rest) (kf : ¬ x ≤ 0 → G B M nL n1 n2 Q ws lv (pc + 3) rest) : G B M nL n1 n2 Q ws lv pc (.int x :: rest) :=
  fun H locs ls hP hD hS hl0 => lv_if_le X.x X.b hdg ht (fun hc => kt hc H locs ls hP hD hS hl0) (fun hc => kf hc H locs ls hP hD hS hl0)
theorem g_icmp_eq (X : CX B M cc nL own) {x y : Int32} {off : Int} {tgt : Nat} (hdg : decode cc pc = .ok (.if_icmp .eq off, 3)) (ht : (pc : Int) + off = (tgt : Int)) (kt : x = y → G B M nL n1 n2 Q ws lv tgt rest) (kf : ¬ x = y → G B M nL n1 n2 Q ws lv (pc + 3) rest) : G B M nL n1 n2 Q ws lv pc (.int y :: .int x :: rest) :=
  fun H locs ls hP hD hS hl0 => lv_icmp_eq X.x X.b hdg ht (fun hc => kt hc H locs ls hP hD hS hl0) (fun hc => kf hc H locs ls hP hD hS hl0)
theorem g_icmp_ne (X : CX B M cc nL own) {x y : Int32} {off : Int} {tgt : Nat} (hdg : decode cc pc = .ok (.if_icmp .ne off, 3)) (ht : (pc : Int) + off = (tgt : Int)) (kt : ¬ x = y → G B M nL n1 n2 Q ws lv tgt rest) (kf : x = y → G B M nL n1 n2 Q ws lv (pc + 3) rest) : G B M nL n1 n2 Q ws lv pc (.int y :: .int x :: rest) :=
  fun H locs ls hP hD hS hl0 => lv_icmp_ne X.x X.b hdg ht (fun hc => kt hc H locs ls hP hD hS hl0) (fun hc => kf hc H locs ls hP hD hS hl0)
theorem g_icmp_lt (X : CX B M cc nL own) {x y : Int32} {off : Int} {tgt : Nat} (hdg : decode cc pc = .ok (.if_icmp .lt off, 3)) (ht : (pc : Int) + off = (tgt : Int)) (kt : x < y → G B M nL n1 n2 Q ws lv tgt rest) (kf : ¬ x < y → G B M nL n1 n2 Q ws lv (pc + 3) rest) : G B M nL n1 n2 Q ws lv pc (.int y :: .int x :: rest) :=
  fun H locs ls hP hD hS hl0 => lv_icmp_lt X.x X.b hdg ht (fun hc => kt hc H locs ls hP hD hS hl0) (fun hc => kf hc H locs ls hP hD hS hl0)
theorem g_icmp_ge (X : CX B M cc nL own) {x y : Int32} {off : Int} {tgt : Nat} (hdg : decode cc pc = .ok (.if_icmp .ge off, 3)) (ht : (pc : Int) + off = (tgt : Int)) (kt : y ≤ x → G B M nL n1 n2 Q ws lv tgt rest) (kf : ¬ y ≤ x → G B M nL n1 n2 Q ws lv (pc + 3) rest) : G B M nL n1 n2 Q ws lv pc (.int y :: .int x :: rest) :=
  fun H locs ls hP hD hS hl0 => lv_icmp_ge X.x X.b hdg ht (fun hc => kt hc H locs ls hP hD hS hl0) (fun hc => kf hc H locs ls hP hD hS hl0)
theorem g_icmp_gt (X : CX B M cc nL own) {x y : Int32} {off : Int} {tgt : Nat} (hdg : decode cc pc = .ok (.if_icmp .gt off, 3)) (ht : (pc : Int) + off = (tgt : Int)) (kt : y < x → G B M nL n1 n2 Q ws lv tgt rest) (kf : ¬ y < x → G B M nL n1 n2 Q ws lv (pc + 3) rest) : G B M nL n1 n2 Q ws lv pc (.int y :: .int x :: rest) :=
  fun H locs ls hP hD hS hl0 => lv_icmp_gt X.x X.b hdg ht (fun hc => kt hc H locs ls hP hD hS hl0) (fun hc => kf hc H locs ls hP hD hS hl0)
theorem g_icmp_le (X : CX B M cc nL own) {x y : Int32} {off : Int} {tgt : Nat} (hdg : decode cc pc = .ok (.if_icmp .le off, 3)) (ht : (pc : Int) + off = (tgt : Int)) (kt : x ≤ y → G B M nL n1 n2 Q ws lv tgt rest) (kf : ¬ x ≤ y → G B M nL n1 n2 Q ws lv (pc + 3) rest) : G B M nL n1 n2 Q ws lv pc (.int y :: .int x :: rest) :=
  fun H locs ls hP hD hS hl0 => lv_icmp_le X.x X.b hdg ht (fun hc => kt hc H locs ls hP hD hS hl0) (fun hc => kf hc H locs ls hP hD hS hl0)
theorem g_goto (X : CX B M cc nL own) {off : Int} {tgt : Nat} (hdg : decode cc pc = .ok (.goto off, 3)) (ht : (pc : Int) + off = (tgt : Int)) (k : G B M nL n1 n2 Q ws lv tgt rest) : G B M nL n1 n2 Q ws lv pc rest :=
  fun H locs ls hP hD hS hl0 => lv_goto X.x X.b hdg ht (k H locs ls hP hD hS hl0)
theorem g_ldc (X : CX B M cc nL own) {index : Nat} {v : Int32} (hconst : Cond.constant own index v ∈ W0) (hdg : decode cc pc = .ok (.ldc index, 2)) (k : G B M nL n1 n2 Q ws lv (pc + 2) (.int v :: rest)) : G B M nL n1 n2 Q ws lv pc rest :=
  fun H locs ls hP hD hS hl0 => lv_ldc X.x X.b X.o (X.t _ hconst) hdg (k H locs ls hP hD hS hl0)
theorem g_ldc2 (X : CX B M cc nL own) {index : Nat} {v : Int64} (hconst : Cond.constantLong own index v ∈ W0) (hdg : decode cc pc = .ok (.ldc2_w index, 3)) (k : G B M nL n1 n2 Q ws lv (pc + 3) (.long v :: rest)) : G B M nL n1 n2 Q ws lv pc rest :=
  fun H locs ls hP hD hS hl0 => lv_ldc2 X.x X.b X.o (X.t _ hconst) hdg (k H locs ls hP hD hS hl0)
theorem g_tableIn (X : CX B M cc nL own) {dflt lo hi : Int} {offs : Array Int} {len : Nat} {x : Int32} {off : Int} {tgt : Nat} (hdg : decode cc pc = .ok (.tableswitch dflt lo hi offs, len)) (h1 : ¬ x.toInt < lo) (h2 : ¬ hi < x.toInt) (ho : offs[(x.toInt - lo).toNat]? = some off) (ht : (pc : Int) + off = (tgt : Int)) (k : G B M nL n1 n2 Q ws lv tgt rest) : G B M nL n1 n2 Q ws lv pc (.int x :: rest) :=
  fun H locs ls hP hD hS hl0 => lv_tableIn X.x X.b hdg h1 h2 ho ht (k H locs ls hP hD hS hl0)
theorem g_tableOut (X : CX B M cc nL own) {dflt lo hi : Int} {offs : Array Int} {len : Nat} {x : Int32} {tgt : Nat} (hdg : decode cc pc = .ok (.tableswitch dflt lo hi offs, len)) (h : x.toInt < lo ∨ hi < x.toInt) (ht : (pc : Int) + dflt = (tgt : Int)) (k : G B M nL n1 n2 Q ws lv tgt rest) : G B M nL n1 n2 Q ws lv pc (.int x :: rest) :=
  fun H locs ls hP hD hS hl0 => lv_tableOut X.x X.b hdg h ht (k H locs ls hP hD hS hl0)
theorem g_lookup (X : CX B M cc nL own) {dflt : Int} {ps : Array (Int × Int)} {len : Nat} {x : Int32} {off : Int} {tgt : Nat} (hdg : decode cc pc = .ok (.lookupswitch dflt ps, len)) (hp : (ps.toList.zip (ps.toList.drop 1)).all (fun (a, next) => a.1 < next.1) = true) (ho : Op.lookupswitch.offset ps.toList dflt x.toInt = off) (ht : (pc : Int) + off = (tgt : Int)) (k : G B M nL n1 n2 Q ws lv tgt rest) : G B M nL n1 n2 Q ws lv pc (.int x :: rest) :=
  fun H locs ls hP hD hS hl0 => lv_lookup X.x X.b hdg hp ho ht (k H locs ls hP hD hS hl0)
theorem g_get (X : CX B M cc nL own) {C : String} {T : u_T} {N ci index a : Nat} (hin : ∀ w ∈ u_ws C T N, w ∈ W0) (q0 : Nat) {fs : List Value} (he : ws[q0]? = some (a, .inr (ci, fs))) (hc : classes[ci]? = some (C, T, N)) (k : Nat) (hk : k < N) (hlink : Cond.fieldLink own index (T k).1 (T k).2.1 (T k).2.2.1 ∈ W0) {v : Value} (hv : fs[k]? = some v) (hdg : decode cc pc = .ok (.getfield index, 3))
    (kk : G B M nL n1 n2 Q ws lv (pc + 3) (v :: rest)) : G B M nL n1 n2 Q ws lv pc (.ref a :: rest) :=
  fun H locs ls hP hD hS hl => va_get X.x X.b X.t hin X.o X.k hP q0 he hc k hk (X.t _ hlink) (fun _ h => h) hv hdg (kk H locs ls hP hD hS hl)
theorem g_getN (X : CX B M cc nL own) {C host : String} {T : u_T} {N ci index a : Nat} (hin : ∀ w ∈ u_ws C T N, w ∈ W0) (q0 : Nat) {fs : List Value} (he : ws[q0]? = some (a, .inr (ci, fs))) (hc : classes[ci]? = some (C, T, N)) (k : Nat) (hk : k < N) (hlink : Cond.fieldLinkNest own index (T k).1 (T k).2.1 (T k).2.2.1 host ∈ nestWords) {v : Value} (hv : fs[k]? = some v) (hdg : decode cc pc = .ok (.getfield index, 3))
    (kk : G B M nL n1 n2 Q ws lv (pc + 3) (v :: rest)) : G B M nL n1 n2 Q ws lv pc (.ref a :: rest) :=
  fun H locs ls hP hD hS hl => va_getN X.x X.b X.t hin X.o X.k hP q0 he hc k hk (va_Nw.use rfl (X.s.2.1 _ hlink)) (fun _ h => h) hv hdg (kk H locs ls hP hD hS hl)
theorem g_put (X : CX B M cc nL own) {C : String} {T : u_T} {N ci index a : Nat} (hin : ∀ w ∈ u_ws C T N, w ∈ W0) (ty0 : Nat → FieldType) (hty : ∀ k, k < N → parseFieldDescriptor (T k).2.2.1 = some (ty0 k)) (hnm : ∀ a, a < N → ∀ b, b < N → a ≠ b → (T a).2.1 ≠ (T b).2.1) (q0 : Nat) {fs : List Value} (he : ws[q0]? = some (a, .inr (ci, fs))) (hc : classes[ci]? = some (C, T, N)) (k : Nat) (hk : k < N) (hlink : Cond.fieldLink own index (T k).1 (T k).2.1 (T k).2.2.1 ∈ W0) (hfin : (T k).2.2.2 = false) {v : Value} (hn : narrow (ty0 k) v = v) (hfit : fits (ty0 k) v = true) (hl9 : k < fs.length) (hdg : decode cc pc = .ok (.putfield index, 3))
    (kk : G B M nL n1 n2 Q (ws.set q0 (a, .inr (ci, fs.set k v))) lv (pc + 3) rest) : G B M nL n1 n2 Q ws lv pc (v :: .ref a :: rest) :=
  fun H locs ls hP hD hS hl => va_put X.x X.b X.t hin ty0 hty hnm X.o X.k hP hD hS q0 he hc k hk (X.t _ hlink) (fun _ h => h) hfin (hty k hk) hn hfit hl9 hdg (fun H1 locs1 hP1 hD1 hS1 => kk H1 locs1 ls hP1 hD1 hS1 hl)
theorem g_putN (X : CX B M cc nL own) {C host : String} {T : u_T} {N ci index a : Nat} (hin : ∀ w ∈ u_ws C T N, w ∈ W0) (ty0 : Nat → FieldType) (hty : ∀ k, k < N → parseFieldDescriptor (T k).2.2.1 = some (ty0 k)) (hnm : ∀ a, a < N → ∀ b, b < N → a ≠ b → (T a).2.1 ≠ (T b).2.1) (q0 : Nat) {fs : List Value} (he : ws[q0]? = some (a, .inr (ci, fs))) (hc : classes[ci]? = some (C, T, N)) (k : Nat) (hk : k < N) (hlink : Cond.fieldLinkNest own index (T k).1 (T k).2.1 (T k).2.2.1 host ∈ nestWords) (hfin : (T k).2.2.2 = false) {v : Value} (hn : narrow (ty0 k) v = v) (hfit : fits (ty0 k) v = true) (hl9 : k < fs.length) (hdg : decode cc pc = .ok (.putfield index, 3))
    (kk : G B M nL n1 n2 Q (ws.set q0 (a, .inr (ci, fs.set k v))) lv (pc + 3) rest) : G B M nL n1 n2 Q ws lv pc (v :: .ref a :: rest) :=
  fun H locs ls hP hD hS hl => va_putN X.x X.b X.t hin ty0 hty hnm X.o X.k hP hD hS q0 he hc k hk (va_Nw.use rfl (X.s.2.1 _ hlink)) (fun _ h => h) hfin (hty k hk) hn hfit hl9 hdg (fun H1 locs1 hP1 hD1 hS1 => kk H1 locs1 ls hP1 hD1 hS1 hl)
theorem g_putF (X : CX B M cc nL own) (hini : (m_h M).name = "<init>") {C : String} {T : u_T} {N ci index a : Nat} (hin : ∀ w ∈ u_ws C T N, w ∈ W0) (ty0 : Nat → FieldType) (hty : ∀ k, k < N → parseFieldDescriptor (T k).2.2.1 = some (ty0 k)) (hnm : ∀ a, a < N → ∀ b, b < N → a ≠ b → (T a).2.1 ≠ (T b).2.1) (q0 : Nat) {fs : List Value} (he : ws[q0]? = some (a, .inr (ci, fs))) (hc : classes[ci]? = some (C, T, N)) (k : Nat) (hk : k < N) (hlink : Cond.fieldLink own index (T k).1 (T k).2.1 (T k).2.2.1 ∈ W0) (hfin : (T k).2.2.2 = true) (hdecl : (T k).1 = own) {v : Value} (hn : narrow (ty0 k) v = v) (hfit : fits (ty0 k) v = true) (hl9 : k < fs.length) (hdg : decode cc pc = .ok (.putfield index, 3))
    (kk : G B M nL n1 n2 Q (ws.set q0 (a, .inr (ci, fs.set k v))) lv (pc + 3) rest) : G B M nL n1 n2 Q ws lv pc (v :: .ref a :: rest) :=
  fun H locs ls hP hD hS hl => va_putF X.x X.b X.t hin ty0 hty hnm X.o X.k hP hD hS q0 he hc k hk (X.t _ hlink) (fun _ h => h) hfin hini hdecl (hty k hk) hn hfit hl9 hdg (fun H1 locs1 hP1 hD1 hS1 => kk H1 locs1 ls hP1 hD1 hS1 hl)
theorem bt_up (g : Nat → Int8) (k : Nat) (x : Int32) : upd (fun j => (g j).toInt32) k (vp_nar .byte x) = fun j => (va_up g k x.toInt8 j).toInt32 := by
  funext j
  rw [vp_nar_byte]
  by_cases h : j = k
  · subst h; simp [upd, va_up]
  · simp [upd, va_up, h]
theorem g_bald (X : CX B M cc nL own) {a n : Nat} {g : Nat → Int8} (q0 : Nat) (he : ws[q0]? = some (cb B a n g)) (k : Nat) {i : Int32} (hi : i = nI k) (hk : k < n) (hn : n < 2 ^ 31) (hdg : decode cc pc = .ok (.baload, 1))
    (kk : G B M nL n1 n2 Q ws lv (pc + 1) (.int (g k).toInt32 :: rest)) : G B M nL n1 n2 Q ws lv pc (.int i :: .ref a :: rest) := by
  intro H locs ls hP hD hS hl
  subst hi
  refine va_bald X.x X.b X.k hP q0 0 he rfl (vp_in_nI hk hn) hdg ?_
  rw [nI_clamp (Nat.lt_trans hk hn)]
  exact kk H locs ls hP hD hS hl
theorem g_bast (X : CX B M cc nL own) {a n : Nat} {g : Nat → Int8} (q0 : Nat) (he : ws[q0]? = some (cb B a n g)) (k : Nat) {i x : Int32} (hi : i = nI k) (hk : k < n) (hn : n < 2 ^ 31) (hdg : decode cc pc = .ok (.bastore, 1))
    (kk : G B M nL n1 n2 Q (ws.set q0 (cb B a n (va_up g k x.toInt8))) lv (pc + 1) rest) : G B M nL n1 n2 Q ws lv pc (.int x :: .int i :: .ref a :: rest) := by
  intro H locs ls hP hD hS hl
  subst hi
  refine va_bast X.x X.b X.k hP hD hS q0 0 he rfl (vp_in_nI hk hn) hdg (fun H1 locs1 hP1 hD1 hS1 => ?_)
  rw [nI_clamp (Nat.lt_trans hk hn), bt_up] at hP1 hD1
  exact kk H1 locs1 ls hP1 hD1 hS1 hl
theorem g_lald (X : CX B M cc nL own) {a n : Nat} {f : Nat → Int64} (q0 : Nat) (he : ws[q0]? = some (cj B a n f)) (k : Nat) {i : Int32} (hi : i = nI k) (hk : k < n) (hn : n < 2 ^ 31) (hdg : decode cc pc = .ok (.laload, 1))
    (kk : G B M nL n1 n2 Q ws lv (pc + 1) (.long (f k) :: rest)) : G B M nL n1 n2 Q ws lv pc (.int i :: .ref a :: rest) := by
  intro H locs ls hP hD hS hl
  subst hi
  refine va_lald X.x X.b X.k hP q0 1 he rfl (vp_in_nI hk hn) hdg ?_
  rw [nI_clamp (Nat.lt_trans hk hn)]
  exact kk H locs ls hP hD hS hl
theorem g_last (X : CX B M cc nL own) {a n : Nat} {f : Nat → Int64} (q0 : Nat) (he : ws[q0]? = some (cj B a n f)) (k : Nat) {i : Int32} {x : Int64} (hi : i = nI k) (hk : k < n) (hn : n < 2 ^ 31) (hdg : decode cc pc = .ok (.lastore, 1))
    (kk : G B M nL n1 n2 Q (ws.set q0 (cj B a n (va_up f k x))) lv (pc + 1) rest) : G B M nL n1 n2 Q ws lv pc (.long x :: .int i :: .ref a :: rest) := by
  intro H locs ls hP hD hS hl
  subst hi
  refine va_last X.x X.b X.k hP hD hS q0 1 he rfl (vp_in_nI hk hn) hdg (fun H1 locs1 hP1 hD1 hS1 => ?_)
  rw [nI_clamp (Nat.lt_trans hk hn)] at hP1 hD1
  exact kk H1 locs1 ls hP1 hD1 hS1 hl
theorem g_iald (X : CX B M cc nL own) {a n : Nat} {f : Nat → Int32} (q0 : Nat) (he : ws[q0]? = some (cn B a n f)) (k : Nat) {i : Int32} (hi : i = nI k) (hk : k < n) (hn : n < 2 ^ 31) (hdg : decode cc pc = .ok (.iaload, 1))
    (kk : G B M nL n1 n2 Q ws lv (pc + 1) (.int (f k) :: rest)) : G B M nL n1 n2 Q ws lv pc (.int i :: .ref a :: rest) := by
  intro H locs ls hP hD hS hl
  subst hi
  refine va_iald X.x X.b X.k hP q0 2 he rfl (vp_in_nI hk hn) hdg ?_
  rw [nI_clamp (Nat.lt_trans hk hn)]
  exact kk H locs ls hP hD hS hl
theorem g_iast (X : CX B M cc nL own) {a n : Nat} {f : Nat → Int32} (q0 : Nat) (he : ws[q0]? = some (cn B a n f)) (k : Nat) {i x : Int32} (hi : i = nI k) (hk : k < n) (hn : n < 2 ^ 31) (hdg : decode cc pc = .ok (.iastore, 1))
    (kk : G B M nL n1 n2 Q (ws.set q0 (cn B a n (va_up f k x))) lv (pc + 1) rest) : G B M nL n1 n2 Q ws lv pc (.int x :: .int i :: .ref a :: rest) := by
  intro H locs ls hP hD hS hl
  subst hi
  refine va_iast X.x X.b X.k hP hD hS q0 2 he rfl (vp_in_nI hk hn) hdg (fun H1 locs1 hP1 hD1 hS1 => ?_)
  rw [nI_clamp (Nat.lt_trans hk hn)] at hP1 hD1
  exact kk H1 locs1 ls hP1 hD1 hS1 hl
theorem g_rald (X : CX B M cc nL own) {a n : Nat} {f : Nat → Option Nat} (q0 : Nat) (he : ws[q0]? = some (cr B a n f)) (k : Nat) {i : Int32} (hi : i = nI k) (hk : k < n) (hn : n < 2 ^ 31) {r : Nat} (hr : f k = some r) (hdg : decode cc pc = .ok (.aaload, 1))
    (kk : G B M nL n1 n2 Q ws lv (pc + 1) (.ref r :: rest)) : G B M nL n1 n2 Q ws lv pc (.int i :: .ref a :: rest) := by
  intro H locs ls hP hD hS hl
  subst hi
  refine va_aldq X.x X.b X.k hP q0 3 he rfl (vp_in_nI hk hn) hdg ?_
  rw [nI_clamp (Nat.lt_trans hk hn), hr]
  exact kk H locs ls hP hD hS hl
theorem g_qald (X : CX B M cc nL own) {a n : Nat} {f : Nat → Option Nat} (q0 : Nat) (he : ws[q0]? = some (cq B a n f)) (k : Nat) {i : Int32} (hi : i = nI k) (hk : k < n) (hn : n < 2 ^ 31) {r : Nat} (hr : f k = some r) (hdg : decode cc pc = .ok (.aaload, 1))
    (kk : G B M nL n1 n2 Q ws lv (pc + 1) (.ref r :: rest)) : G B M nL n1 n2 Q ws lv pc (.int i :: .ref a :: rest) := by
  intro H locs ls hP hD hS hl
  subst hi
  have hin : vp_in (nI k) n := vp_in_nI hk hn
  have ec : (nI k).toNatClampNeg = k := nI_clamp (Nat.lt_trans hk hn)
  exact W.aald (v := .ref r) (ty := .array .byte) X.x X.b (hP q0 _ he) ((X.k.2 4 _ rfl).1 n (fun j => va_rf (f j))) rfl (fun q => by cases q) (by show ¬ (nI k < 0 ∨ (arrV _ _ _).slots.size ≤ _); rw [arrV_size]; exact hin) (by show (arrV _ _ _).slots[_]? = _; rw [ec, arrV_read _ _ hk, hr]; rfl) rfl rfl hdg (kk H locs ls hP hD hS hl)
theorem g_alen (X : CX B M cc nL own) {a : Nat} {cA : ClassId} {x : vp_A} (q0 t0 : Nat) (he : ws[q0]? = some (a, .inl (cA, x))) {ty : FieldType} (ht : (b_y B)[t0]? = some (cA, ty)) {v : Int32} (hv : nI x.1 = v) (hdg : decode cc pc = .ok (.arraylength, 1))
    (kk : G B M nL n1 n2 Q ws lv (pc + 1) (.int v :: rest)) : G B M nL n1 n2 Q ws lv pc (.ref a :: rest) :=
  fun H locs ls hP hD hS hl => va_alen X.x X.b X.k hP q0 t0 he ht hv hdg (kk H locs ls hP hD hS hl)
theorem CX.Z (X : CX B M cc nL own) (k : Nat) (hk : k < 12) : va_Z "SpongeDigests" (s_nm k) (s_ds k) (.ref (b_t B k)) (m_A M) (m_s M) (m_s M).heap := (X.s.2.2.1 k hk).1.narrow X.z
theorem CX.T (X : CX B M cc nL own) (k : Nat) (hk : k < 12) : va_T (s_ty k) (b_t B k) (s_N k) (s_f k) (m_A M) (m_s M) (m_s M).heap := (X.s.2.2.1 k hk).2.narrow X.z
theorem g_gets (X : CX B M cc nL own) {index : Nat} (k : Nat) (hk : k < 12) (hlink : Cond.fieldLink own index "SpongeDigests" (s_nm k) (s_ds k) ∈ W0) (hdg : decode cc pc = .ok (.getstatic index, 3))
    (kk : G B M nL n1 n2 Q ws lv (pc + 3) (.ref (b_t B k) :: rest)) : G B M nL n1 n2 Q ws lv pc rest :=
  fun H locs ls hP hD hS hl => va_gets X.x X.b (X.Z k hk) hS X.o (X.t _ hlink) (fun _ h => h) hdg (kk H locs ls hP hD hS hl)
theorem g_getsN (X : CX B M cc nL own) {index : Nat} {host : String} (k : Nat) (hk : k < 12) (hlink : Cond.fieldLinkNest own index "SpongeDigests" (s_nm k) (s_ds k) host ∈ nestWords) (hdg : decode cc pc = .ok (.getstatic index, 3))
    (kk : G B M nL n1 n2 Q ws lv (pc + 3) (.ref (b_t B k) :: rest)) : G B M nL n1 n2 Q ws lv pc rest :=
  fun H locs ls hP hD hS hl => va_getsN X.x X.b (X.Z k hk) hS X.o (va_Nw.use rfl (X.s.2.1 _ hlink)) (fun _ h => h) hdg (kk H locs ls hP hD hS hl)
theorem g_ti (X : CX B M cc nL own) (k : Nat) (hk : k < 12) (hty : s_ty k = .int) (j : Nat) {i : Int32} (hi : i = nI j) (hj : j < s_N k) (hdg : decode cc pc = .ok (.iaload, 1))
    (kk : G B M nL n1 n2 Q ws lv (pc + 1) (.int (s_i k j) :: rest)) : G B M nL n1 n2 Q ws lv pc (.int i :: .ref (b_t B k) :: rest) := by
  intro H locs ls hP hD hS hl
  subst hi
  have hn := s_N_lt k hk
  have hT := X.T k hk
  rw [hty] at hT
  exact va_ti X.x X.b hT hS (vp_in_nI hj hn) (by rw [nI_clamp (Nat.lt_trans hj hn)]; exact s_fi hty j) hdg (kk H locs ls hP hD hS hl)
theorem g_tl (X : CX B M cc nL own) (k : Nat) (hk : k < 12) (hty : s_ty k = .long) (j : Nat) {i : Int32} (hi : i = nI j) (hj : j < s_N k) (hdg : decode cc pc = .ok (.laload, 1))
    (kk : G B M nL n1 n2 Q ws lv (pc + 1) (.long (s_l k j) :: rest)) : G B M nL n1 n2 Q ws lv pc (.int i :: .ref (b_t B k) :: rest) := by
  intro H locs ls hP hD hS hl
  subst hi
  have hn := s_N_lt k hk
  have hT := X.T k hk
  rw [hty] at hT
  exact va_tl X.x X.b hT hS (vp_in_nI hj hn) (by rw [nI_clamp (Nat.lt_trans hj hn)]; exact s_fl hty j) hdg (kk H locs ls hP hD hS hl)
def PreW (B : Bx) (ws : va_W) (sz : Nat) (U : State) : Prop := U.heap.size = sz ∧ KX B U ∧ va_P B.1 classes ws U.heap ∧ va_K B.1 classes (b_y B) U ∧ va_D (fun q => b_z B ≤ q) ws
def PostW (B : Bx) (A : Nat → Prop) (ws1 : va_W) (t : State) : Prop := va_P B.1 classes ws1 t.heap ∧ va_K B.1 classes (b_y B) t ∧ va_D A ws1
def Cv {S : Type} (l : Launch) (B : Bx) (y : MethodName) (b : ByteArray) (n : Nat) (rm : Room) (av : List Value) (ws : va_W) (ok : S → Prop) (ws1 : S → va_W) : Prop :=
  ∀ sz : Nat, Met l y (Cond.code y b n none :: W0) rm (va_Pc av (PreW B ws sz)) (va_Qv ok (fun u t => PostW B (va_A ws sz) (ws1 u) t) (va_A ws sz)) rm.cells rm.slots (va_A ws sz)
def Ci {S : Type} (l : Launch) (B : Bx) (y : MethodName) (b : ByteArray) (n : Nat) (rt : FieldType) (rm : Room) (av : List Value) (ws : va_W) (ok : Int32 → S → Prop) (ws1 : S → va_W) : Prop :=
  ∀ sz : Nat, Met l y (Cond.code y b n (some rt) :: W0) rm (va_Pc av (PreW B ws sz)) (va_Qi ok (fun u t => PostW B (va_A ws sz) (ws1 u) t) (va_A ws sz)) rm.cells rm.slots (va_A ws sz)
def Cl {S : Type} (l : Launch) (B : Bx) (y : MethodName) (b : ByteArray) (n : Nat) (rm : Room) (av : List Value) (ws : va_W) (ok : Int64 → S → Prop) (ws1 : S → va_W) : Prop :=
  ∀ sz : Nat, Met l y (Cond.code y b n (some .long) :: W0) rm (va_Pc av (PreW B ws sz)) (va_Ql ok (fun u t => PostW B (va_A ws sz) (ws1 u) t) (va_A ws sz)) rm.cells rm.slots (va_A ws sz)
def Cr {S : Type} (l : Launch) (B : Bx) (y : MethodName) (b : ByteArray) (n : Nat) (rt : FieldType) (rm : Room) (av : List Value) (ws : va_W) (ok : S → Prop) (ra : S → Nat) (ws1 : S → va_W) : Prop :=
  ∀ sz : Nat, Met l y (Cond.code y b n (some rt) :: W0) rm (va_Pc av (PreW B ws sz)) (va_Qr ok (fun u a t => a = ra u ∧ PostW B (va_A ws sz) (ws1 u) t) (va_A ws sz)) rm.cells rm.slots (va_A ws sz)
theorem KX.go {s U : State} {H : Heap} {A : Nat → Prop} {locs : List Loc} (h : KX B s) (hA : ∀ q, A q → b_z B ≤ q) (hS : va_S A s.heap H locs) (hU : U.heap = H) (hW : s.WarmedH U.vm) : KX B U := by
  obtain ⟨h1, h2, h3, e1, e2, e3, e4, e6, e7, e8⟩ := h
  have hq : ∀ a : Nat, a < s.heap.size → ¬ (b_z B ≤ a) → U.heap[a]? = s.heap[a]? := fun a h4 h5 => by rw [hU]; exact hS.2.1 a h4 (fun h6 => h5 (hA a h6))
  refine ⟨by rw [hU]; exact Nat.le_trans h1 hS.1, fun w hw => nest_warm hw hW (h2 w hw), fun k hk => ?_, vx_Zq.moved hW.alike (e1.kept hq), vx_Zq.moved hW.alike (e2.kept hq), fun i hi => (e3 i hi).warm hW, fun w hw => ex_warm hw hW (e4 w hw), va_Nc.moved hW.alike e6, va_AO.moved hW.alike e7, AB.moved hW.alike e8⟩
  obtain ⟨z, t⟩ := h3 k hk
  exact ⟨va_Z.moved hW.alike (z.kept hq), va_T.moved hW.alike (t.kept hq)⟩
theorem KX.same {u U : State} (h : KX B u) (hv : u.vm = U.vm) (hh : U.heap = u.heap) : KX B U := by
  obtain ⟨h1, h2, h3, e1, e2, e3, e4, e6, e7, e8⟩ := h
  have hal : u.vm.Alike U.vm := by rw [hv]; exact Vm.Alike.refl _
  refine ⟨by rw [hh]; exact h1, fun w hw => va_Nw.same (nest_on hw) hv (h2 w hw), fun k hk => ?_, ?_, ?_, fun i hi => (e3 i hi).same hv.symm, fun w hw => va_Nw.same (ex_on hw) hv (e4 w hw), va_Nc.moved hal e6, va_AO.moved hal e7, AB.moved hal e8⟩
  · rw [hh]
    exact ⟨va_Z.moved hal (h3 k hk).1, va_T.moved hal (h3 k hk).2⟩
  · rw [hh]; exact vx_Zq.moved hal e1
  · rw [hh]; exact vx_Zq.moved hal e2
theorem PreW.blind (av : List Value) (ws : va_W) (sz : Nat) : FrameBlind (va_Pc av (PreW B ws sz)) := fun a U g mk q => by
  obtain ⟨q0, q1, q2, q3, q4, q5⟩ := q
  exact ⟨q0, q1, KX.same q2 rfl rfl, q3, va_K.moved (u := U) (U := U.calling g mk a) (Vm.Alike.refl U.vm) q4, q5⟩
theorem PreW.at (X : CX B M cc nL own) {H : Heap} {locs : List Loc} (av : List Value) {wc : va_W} {isC : List Nat} (hP : va_P B.1 classes ws H) (hD : va_D (m_A M) ws) (hS : va_S (m_A M) (m_s M).heap H locs) (hnC : va_nd isC = true) (hC : isC.map (fun i => ws[i]?) = wc.map some) : ∀ U : State, U.heap = H → (m_s M).WarmedH U.vm → va_Pc av (PreW B wc H.size) av.toArray U := by
  intro U hU hW
  refine ⟨rfl, by rw [hU], X.s.go X.z hS hU hW, ?_, va_K.moved hW.alike X.k, (hD.sub isC hnC hC).weaken (fun _ q _ h => X.z q.1 h)⟩
  rw [hU]
  intro i q hq
  have h1 : (isC.map (fun i => ws[i]?))[i]? = (wc.map some)[i]? := by rw [hC]
  rw [List.getElem?_map, List.getElem?_map, hq] at h1
  cases hi : isC[i]? with
  | none => rw [hi] at h1; cases h1
  | some j => rw [hi] at h1; exact hP j q (Option.some.inj h1)
theorem W0_good {y' : MethodName} {b' : ByteArray} {n' : Nat} {r' : Option FieldType} (h : Cond.code y' b' n' r' ∈ W0) : GoodIn W0 (Cond.code y' b' n' r' :: W0) := by
  intro w hw
  have hm : w ∈ W0 := by
    rcases List.mem_cons.mp hw with rfl | h1
    · exact h
    · exact h1
  exact ⟨hm, good_of_word (List.mem_filter.mp hm).2⟩
end GB
